-- the reference's row of all that is told
abbrev aL (al : Nat → Int32) (p : Nat) : Int32 := al (5 + 3 * p)
abbrev aV (al : Nat → Int32) (p : Nat) : Int32 := al (6 + 3 * p)
abbrev aR (al : Nat → Int32) (p : Nat) : Int32 := al (7 + 3 * p)
def mT (T : Cd) (al : Nat → Int32) : Prop := isN T (al 0) ∧ isL T (aL al) ∧ isV T (aV al) ∧ isR T (aR al)
def mG (G : Lg) (l : Nat) (al : Nat → Int32) : Prop := isG G (al (26 + 37 * l)) (fun j => al (20 + 37 * l + j)) (fun j => al (27 + 37 * l + 3 * j)) (fun j => al (28 + 37 * l + 3 * j)) (fun j => al (29 + 37 * l + 3 * j))
set_option maxRecDepth 20000 in
theorem ggX9_isPart_X9_in : GoodIn wsX9_isPart wsX9_in := goodIn_r _ [5] (by decide +kernel) (by decide +kernel)
set_option maxRecDepth 20000 in
theorem gX9_isPart_X9_in : GoodIn wsX9_isPart (va_wsS RX9 63 yX9_in wsX9_in) := goodIn_app (goodIn_of _ (by decide +kernel)) ggX9_isPart_X9_in
theorem dX9_isPart_0 : decode cX9_isPart 0 = .ok (.iload_n 1, 1) := by decide +kernel
theorem dX9_isPart_1 : decode cX9_isPart 1 = .ok (.iconst 0, 1) := by decide +kernel
theorem dX9_isPart_2 : decode cX9_isPart 2 = .ok (.aload_n 0, 1) := by decide +kernel
theorem dX9_isPart_3 : decode cX9_isPart 3 = .ok (.getfield 7, 3) := by decide +kernel
theorem dX9_isPart_6 : decode cX9_isPart 6 = .ok (.iconst 0, 1) := by decide +kernel
theorem dX9_isPart_7 : decode cX9_isPart 7 = .ok (.iaload, 1) := by decide +kernel
theorem dX9_isPart_8 : decode cX9_isPart 8 = .ok (.iconst 1, 1) := by decide +kernel
theorem dX9_isPart_9 : decode cX9_isPart 9 = .ok (.isub, 1) := by decide +kernel
theorem dX9_isPart_10 : decode cX9_isPart 10 = .ok (.invokestatic 63, 3) := by decide +kernel
theorem dX9_isPart_13 : decode cX9_isPart 13 = .ok (.ireturn, 1) := by decide +kernel
abbrev rmX9_isPart : Room := { frames := 1, cells := 0, slots := 0, locals := 22 }
theorem inX9_isPart_9 : ∀ w ∈ wsX90, w ∈ wsX9_isPart := by decide +kernel
def vX9_isPart (F : Nat → Int32) (J : Nat → Int64) (al : Nat → Int32) (p1 : Int32) (Q : Int32 → Prop) : Prop := (preX9_in p1 (0 : Int32) ((al 0) - (1 : Int32)) ∧ (∀ r_10 : Int32, postX9_in p1 (0 : Int32) ((al 0) - (1 : Int32)) r_10 → (narrow .boolean (.int r_10) = .int r_10 ∧ Q r_10)))
set_option maxHeartbeats 4000000 in
set_option maxRecDepth 100000 in
theorem wX9_isPart (l : Launch) (g : GP) (qM : Nat) (q1 : Nat) (q2 : Nat) (q3 : Nat) (q4 : Nat) (q5 : Nat) (q6 : Nat) (q7 : Nat) (q8 : Nat) (q9 : Nat) (q10 : Nat) (q11 : Nat) (F : Nat → Int32) (J : Nat → Int64) (al : Nat → Int32) (p1 : Int32) {Q : Int32 → Prop} (hv : vX9_isPart F J al p1 Q) : Met l yX9_isPart wsX9_isPart rmX9_isPart (va_Pc [.ref qM, .int p1] (fun U => va_P g.1 vwCl [(qM, .inr (9, [.int (F 0), .ref q1, .ref q2, .ref q3, .int (F 4), .int (F 5), .int (F 6), .int (F 7), .int (F 8), .int (F 9), .long (J 10), .int (F 11), .int (F 12), .int (F 13), .ref q4, .int (F 15), .ref q5, .ref q6, .ref q7, .int (F 19), .ref q8, .int (F 21), .int (F 22), .int (F 23), .int (F 24), .ref q9, .ref q10, .ref q11, .long (J 28)])), (q1, .inl (g.2 0, 376, .inl al))] U.heap ∧ GK g U)) (vp_Si Q) 0 0 (fun _ => False) := by
  refine Met.ofW (cc := cX9_isPart) (maxL := 2) (ret := (some .boolean)) (by decide) rfl ?_
  intro p e s m args below meth c s₁ B hml hv'
  obtain ⟨rfl, hP, hG⟩ := hv'
  have S : CallFix p m c cX9_isPart 2 s _ wsX9_isPart RX9 := ⟨B.exec, B.bytes, hml, findClass_of_methodNamed B.named, atoms_spec (ws := wsX9_isPart) B.pre⟩
  obtain ⟨hx, hb, hml, hown, hts⟩ := id S
  have hK := hG.1
  have hr := B.returns
  have hlocks := B.notSynchronized
  have hl := lv_entry ([.ref qM, .int p1]) (n := 2) (Nat.le_of_ble_eq_true rfl)
  rw [lg_entry_eq]
  generalize (lg_sl ([.ref qM, .int p1]) ++ List.replicate (2 - (lg_sl ([.ref qM, .int p1])).length) Slot.unset).toArray = ls at hl ⊢
  have hl : lv_has ls 2 [(0, .ref qM), (1, .int p1)] := hl
  unfold vX9_isPart at hv
  refine lv_iload_n hx hb dX9_isPart_0 rfl (lv_at hl 1 rfl) ?_
  refine lv_iconst (v := (0 : Int32)) hx hb dX9_isPart_1 (by decide) ?_
  refine lv_aload_n hx hb dX9_isPart_2 rfl (lv_at hl 0 rfl) ?_
  refine va_get (D := g.1) (ci := 9) (v := .ref q1) (C := RX9) (T := TX9) (N := 29) hx hb hts inX9_isPart_9 hown hK hP 0 rfl rfl 1 (by decide) (hts (.fieldLink RX9 7 "RangeCodesModel" "all" "[I") (List.mem_of_getElem? (i := 1) rfl)) (fun _ h9 => h9) rfl dX9_isPart_3 ?_
  refine lv_iconst (v := (0 : Int32)) hx hb dX9_isPart_6 (by decide) ?_
  refine va_iald hx hb hK hP 1 0 rfl rfl (by unfold vp_in; decide) dX9_isPart_7 ?_
  refine lv_iconst (v := (1 : Int32)) hx hb dX9_isPart_8 (by decide) ?_
  refine lv_isub hx hb dX9_isPart_9 ?_
  obtain ⟨ho_1, hv⟩ := hv
  refine vp_callSi (W.runS (As := [.int p1, .int (0 : Int32), .int ((al 0) - (1 : Int32))]) (rest := []) S (wX9_in l g p1 (0 : Int32) ((al 0) - (1 : Int32)) (sX9_in p1 (0 : Int32) ((al 0) - (1 : Int32)) ho_1)) (va_cwS 3 hts gX9_isPart_X9_in rfl rfl rfl (by decide +kernel) ⟨Nat.le_of_ble_eq_true rfl, Nat.le_of_ble_eq_true rfl⟩) ⟨blindRO, fun U hU hW => ⟨rfl, by rw [hU]; exact hP.sub (ws' := []) [] rfl, hG.warm hW⟩⟩ rfl rfl hl.1 rfl (lv_room (Nat.le_of_ble_eq_true rfl)) dX9_isPart_10 ⟨Nat.le_of_ble_eq_true rfl, Nat.le_of_ble_eq_true rfl⟩) (fun r_10 hr_10 => ?_)
  have hv := hv r_10 hr_10
  obtain ⟨hn, hv⟩ := hv
  exact W.zret (v := r_10) (ty := .boolean) hx hb hr hn (fun t ht hW => ⟨_, rfl, hv, ht⟩) (fun _ h => by cases h) dX9_isPart_13
abbrev preX9_isPart (n : Nat) (_ : Nat → Int32) (_ : Nat → Int64) (al : Nat → Int32) (_ : Int32) : Prop := (al 0).toInt = (n : Int)
abbrev postX9_isPart (n : Nat) (_ : Nat → Int32) (_ : Nat → Int64) (_ : Nat → Int32) (p1 r : Int32) : Prop := r = if 0 ≤ p1.toInt ∧ p1.toInt < (n : Int) then 1 else 0
theorem sX9_isPart (n : Nat) (F : Nat → Int32) (J : Nat → Int64) (al : Nat → Int32) (p1 : Int32) (h : preX9_isPart n F J al p1) : vX9_isPart F J al p1 (postX9_isPart n F J al p1) := by
  refine ⟨trivial, fun r hr => ?_⟩
  have h5 := fb_rng (al 0)
  have e : ((al 0) - (1 : Int32)).toInt = (n : Int) - 1 := q_sub h z1 (by omega) (by omega)
  have hr : r = if 0 ≤ p1.toInt ∧ p1.toInt < (n : Int) then 1 else 0 := by
    rw [hr]
    have q : ((0 : Int32).toInt ≤ p1.toInt ∧ p1.toInt ≤ ((al 0) - (1 : Int32)).toInt) ↔ (0 ≤ p1.toInt ∧ p1.toInt < (n : Int)) := by
      rw [e, z0]; omega
    simp only [q]
  rw [hr]
  exact ⟨q_nar _, rfl⟩
theorem dX9_of_0 : decode cX9_of 0 = .ok (.aload_n 0, 1) := by decide +kernel
theorem dX9_of_1 : decode cX9_of 1 = .ok (.getfield 7, 3) := by decide +kernel
theorem dX9_of_4 : decode cX9_of 4 = .ok (.iconst 5, 1) := by decide +kernel
theorem dX9_of_5 : decode cX9_of 5 = .ok (.iconst 3, 1) := by decide +kernel
theorem dX9_of_6 : decode cX9_of 6 = .ok (.iload_n 1, 1) := by decide +kernel
theorem dX9_of_7 : decode cX9_of 7 = .ok (.imul, 1) := by decide +kernel
theorem dX9_of_8 : decode cX9_of 8 = .ok (.iadd, 1) := by decide +kernel
theorem dX9_of_9 : decode cX9_of 9 = .ok (.iload_n 2, 1) := by decide +kernel
theorem dX9_of_10 : decode cX9_of 10 = .ok (.iadd, 1) := by decide +kernel
theorem dX9_of_11 : decode cX9_of 11 = .ok (.iaload, 1) := by decide +kernel
theorem dX9_of_12 : decode cX9_of 12 = .ok (.ireturn, 1) := by decide +kernel
abbrev rmX9_of : Room := { frames := 0, cells := 0, slots := 0, locals := 0 }
theorem inX9_of_9 : ∀ w ∈ wsX90, w ∈ wsX9_of := by decide +kernel
def vX9_of (F : Nat → Int32) (J : Nat → Int64) (al : Nat → Int32) (p1 : Int32) (p2 : Int32) (Q : Int32 → Prop) : Prop := (vp_in (((5 : Int32) + ((3 : Int32) * p1)) + p2) 376 ∧ (Q (al (((5 : Int32) + ((3 : Int32) * p1)) + p2).toNatClampNeg)))
set_option maxHeartbeats 4000000 in
set_option maxRecDepth 100000 in
theorem wX9_of (l : Launch) (g : GP) (qM : Nat) (q1 : Nat) (q2 : Nat) (q3 : Nat) (q4 : Nat) (q5 : Nat) (q6 : Nat) (q7 : Nat) (q8 : Nat) (q9 : Nat) (q10 : Nat) (q11 : Nat) (F : Nat → Int32) (J : Nat → Int64) (al : Nat → Int32) (p1 : Int32) (p2 : Int32) {Q : Int32 → Prop} (hv : vX9_of F J al p1 p2 Q) : Met l yX9_of wsX9_of rmX9_of (va_Pc [.ref qM, .int p1, .int p2] (fun U => va_P g.1 vwCl [(qM, .inr (9, [.int (F 0), .ref q1, .ref q2, .ref q3, .int (F 4), .int (F 5), .int (F 6), .int (F 7), .int (F 8), .int (F 9), .long (J 10), .int (F 11), .int (F 12), .int (F 13), .ref q4, .int (F 15), .ref q5, .ref q6, .ref q7, .int (F 19), .ref q8, .int (F 21), .int (F 22), .int (F 23), .int (F 24), .ref q9, .ref q10, .ref q11, .long (J 28)])), (q1, .inl (g.2 0, 376, .inl al))] U.heap ∧ GK g U)) (vp_Si Q) 0 0 (fun _ => False) := by
  refine Met.ofW (cc := cX9_of) (maxL := 3) (ret := (some .int)) (by decide) rfl ?_
  intro p e s m args below meth c s₁ B hml hv'
  obtain ⟨rfl, hP, hG⟩ := hv'
  have S : CallFix p m c cX9_of 3 s _ wsX9_of RX9 := ⟨B.exec, B.bytes, hml, findClass_of_methodNamed B.named, atoms_spec (ws := wsX9_of) B.pre⟩
  obtain ⟨hx, hb, hml, hown, hts⟩ := id S
  have hK := hG.1
  have hr := B.returns
  have hlocks := B.notSynchronized
  have hl := lv_entry ([.ref qM, .int p1, .int p2]) (n := 3) (Nat.le_of_ble_eq_true rfl)
  rw [lg_entry_eq]
  generalize (lg_sl ([.ref qM, .int p1, .int p2]) ++ List.replicate (3 - (lg_sl ([.ref qM, .int p1, .int p2])).length) Slot.unset).toArray = ls at hl ⊢
  have hl : lv_has ls 3 [(0, .ref qM), (1, .int p1), (2, .int p2)] := hl
  unfold vX9_of at hv
  refine lv_aload_n hx hb dX9_of_0 rfl (lv_at hl 0 rfl) ?_
  refine va_get (D := g.1) (ci := 9) (v := .ref q1) (C := RX9) (T := TX9) (N := 29) hx hb hts inX9_of_9 hown hK hP 0 rfl rfl 1 (by decide) (hts (.fieldLink RX9 7 "RangeCodesModel" "all" "[I") (List.mem_of_getElem? (i := 1) rfl)) (fun _ h9 => h9) rfl dX9_of_1 ?_
  refine lv_iconst (v := (5 : Int32)) hx hb dX9_of_4 (by decide) ?_
  refine lv_iconst (v := (3 : Int32)) hx hb dX9_of_5 (by decide) ?_
  refine lv_iload_n hx hb dX9_of_6 rfl (lv_at hl 1 rfl) ?_
  refine lv_imul hx hb dX9_of_7 ?_
  refine lv_iadd hx hb dX9_of_8 ?_
  refine lv_iload_n hx hb dX9_of_9 rfl (lv_at hl 2 rfl) ?_
  refine lv_iadd hx hb dX9_of_10 ?_
  obtain ⟨ho_1, hv⟩ := hv
  refine va_iald hx hb hK hP 1 0 rfl rfl ho_1 dX9_of_11 ?_
  exact W.iret (v := (al (((5 : Int32) + ((3 : Int32) * p1)) + p2).toNatClampNeg)) hx hb hr (fun t ht hW => ⟨_, rfl, hv, ht⟩) (fun _ h => by cases h) dX9_of_12
theorem ix_of {p1 p2 : Int32} {p w : Nat} (h1 : p1.toInt = (p : Int)) (h2 : p2.toInt = (w : Int)) (h : 5 + 3 * p + w < 376) : (((5 : Int32) + ((3 : Int32) * p1)) + p2).toInt = ((5 + 3 * p + w : Nat) : Int) := by
  have e1 : ((3 : Int32) * p1).toInt = ((3 * p : Nat) : Int) := q_mulN (a := 3) rfl h1 (by omega)
  have e2 : ((5 : Int32) + ((3 : Int32) * p1)).toInt = ((5 + 3 * p : Nat) : Int) := q_addN (a := 5) rfl e1 (by omega)
  exact q_addN e2 h2 (by omega)
abbrev preX9_of (p w : Nat) (_ : Nat → Int32) (_ : Nat → Int64) (_ : Nat → Int32) (p1 p2 : Int32) : Prop := p1.toInt = (p : Int) ∧ p2.toInt = (w : Int) ∧ 5 + 3 * p + w < 376
abbrev postX9_of (p w : Nat) (_ : Nat → Int32) (_ : Nat → Int64) (al : Nat → Int32) (_ _ r : Int32) : Prop := r = al (5 + 3 * p + w)
theorem sX9_of (p w : Nat) (F : Nat → Int32) (J : Nat → Int64) (al : Nat → Int32) (p1 p2 : Int32) (h : preX9_of p w F J al p1 p2) : vX9_of F J al p1 p2 (postX9_of p w F J al p1 p2) := by
  have e := ix_of h.1 h.2.1 h.2.2
  refine ⟨q_in e h.2.2, ?_⟩
  rw [q_cl e]
theorem dX9_ofLeg_0 : decode cX9_ofLeg 0 = .ok (.aload_n 0, 1) := by decide +kernel
theorem dX9_ofLeg_1 : decode cX9_ofLeg 1 = .ok (.getfield 7, 3) := by decide +kernel
theorem dX9_ofLeg_4 : decode cX9_ofLeg 4 = .ok (.bipush 20, 2) := by decide +kernel
theorem dX9_ofLeg_6 : decode cX9_ofLeg 6 = .ok (.bipush 37, 2) := by decide +kernel
theorem dX9_ofLeg_8 : decode cX9_ofLeg 8 = .ok (.iload_n 1, 1) := by decide +kernel
theorem dX9_ofLeg_9 : decode cX9_ofLeg 9 = .ok (.imul, 1) := by decide +kernel
theorem dX9_ofLeg_10 : decode cX9_ofLeg 10 = .ok (.iadd, 1) := by decide +kernel
theorem dX9_ofLeg_11 : decode cX9_ofLeg 11 = .ok (.iload_n 2, 1) := by decide +kernel
theorem dX9_ofLeg_12 : decode cX9_ofLeg 12 = .ok (.iadd, 1) := by decide +kernel
theorem dX9_ofLeg_13 : decode cX9_ofLeg 13 = .ok (.iaload, 1) := by decide +kernel
theorem dX9_ofLeg_14 : decode cX9_ofLeg 14 = .ok (.ireturn, 1) := by decide +kernel
abbrev rmX9_ofLeg : Room := { frames := 0, cells := 0, slots := 0, locals := 0 }
theorem inX9_ofLeg_9 : ∀ w ∈ wsX90, w ∈ wsX9_ofLeg := by decide +kernel
def vX9_ofLeg (F : Nat → Int32) (J : Nat → Int64) (al : Nat → Int32) (p1 : Int32) (p2 : Int32) (Q : Int32 → Prop) : Prop := (vp_in (((20 : Int32) + ((37 : Int32) * p1)) + p2) 376 ∧ (Q (al (((20 : Int32) + ((37 : Int32) * p1)) + p2).toNatClampNeg)))
set_option maxHeartbeats 4000000 in
set_option maxRecDepth 100000 in
theorem wX9_ofLeg (l : Launch) (g : GP) (qM : Nat) (q1 : Nat) (q2 : Nat) (q3 : Nat) (q4 : Nat) (q5 : Nat) (q6 : Nat) (q7 : Nat) (q8 : Nat) (q9 : Nat) (q10 : Nat) (q11 : Nat) (F : Nat → Int32) (J : Nat → Int64) (al : Nat → Int32) (p1 : Int32) (p2 : Int32) {Q : Int32 → Prop} (hv : vX9_ofLeg F J al p1 p2 Q) : Met l yX9_ofLeg wsX9_ofLeg rmX9_ofLeg (va_Pc [.ref qM, .int p1, .int p2] (fun U => va_P g.1 vwCl [(qM, .inr (9, [.int (F 0), .ref q1, .ref q2, .ref q3, .int (F 4), .int (F 5), .int (F 6), .int (F 7), .int (F 8), .int (F 9), .long (J 10), .int (F 11), .int (F 12), .int (F 13), .ref q4, .int (F 15), .ref q5, .ref q6, .ref q7, .int (F 19), .ref q8, .int (F 21), .int (F 22), .int (F 23), .int (F 24), .ref q9, .ref q10, .ref q11, .long (J 28)])), (q1, .inl (g.2 0, 376, .inl al))] U.heap ∧ GK g U)) (vp_Si Q) 0 0 (fun _ => False) := by
  refine Met.ofW (cc := cX9_ofLeg) (maxL := 3) (ret := (some .int)) (by decide) rfl ?_
  intro p e s m args below meth c s₁ B hml hv'
  obtain ⟨rfl, hP, hG⟩ := hv'
  have S : CallFix p m c cX9_ofLeg 3 s _ wsX9_ofLeg RX9 := ⟨B.exec, B.bytes, hml, findClass_of_methodNamed B.named, atoms_spec (ws := wsX9_ofLeg) B.pre⟩
  obtain ⟨hx, hb, hml, hown, hts⟩ := id S
  have hK := hG.1
  have hr := B.returns
  have hlocks := B.notSynchronized
  have hl := lv_entry ([.ref qM, .int p1, .int p2]) (n := 3) (Nat.le_of_ble_eq_true rfl)
  rw [lg_entry_eq]
  generalize (lg_sl ([.ref qM, .int p1, .int p2]) ++ List.replicate (3 - (lg_sl ([.ref qM, .int p1, .int p2])).length) Slot.unset).toArray = ls at hl ⊢
  have hl : lv_has ls 3 [(0, .ref qM), (1, .int p1), (2, .int p2)] := hl
  unfold vX9_ofLeg at hv
  refine lv_aload_n hx hb dX9_ofLeg_0 rfl (lv_at hl 0 rfl) ?_
  refine va_get (D := g.1) (ci := 9) (v := .ref q1) (C := RX9) (T := TX9) (N := 29) hx hb hts inX9_ofLeg_9 hown hK hP 0 rfl rfl 1 (by decide) (hts (.fieldLink RX9 7 "RangeCodesModel" "all" "[I") (List.mem_of_getElem? (i := 1) rfl)) (fun _ h9 => h9) rfl dX9_ofLeg_1 ?_
  refine lv_bipush (v := (20 : Int32)) hx hb dX9_ofLeg_4 (by decide) ?_
  refine lv_bipush (v := (37 : Int32)) hx hb dX9_ofLeg_6 (by decide) ?_
  refine lv_iload_n hx hb dX9_ofLeg_8 rfl (lv_at hl 1 rfl) ?_
  refine lv_imul hx hb dX9_ofLeg_9 ?_
  refine lv_iadd hx hb dX9_ofLeg_10 ?_
  refine lv_iload_n hx hb dX9_ofLeg_11 rfl (lv_at hl 2 rfl) ?_
  refine lv_iadd hx hb dX9_ofLeg_12 ?_
  obtain ⟨ho_1, hv⟩ := hv
  refine va_iald hx hb hK hP 1 0 rfl rfl ho_1 dX9_ofLeg_13 ?_
  exact W.iret (v := (al (((20 : Int32) + ((37 : Int32) * p1)) + p2).toNatClampNeg)) hx hb hr (fun t ht hW => ⟨_, rfl, hv, ht⟩) (fun _ h => by cases h) dX9_ofLeg_14
theorem ix_ofLeg {p1 p2 : Int32} {p w : Nat} (h1 : p1.toInt = (p : Int)) (h2 : p2.toInt = (w : Int)) (h : 20 + 37 * p + w < 376) : (((20 : Int32) + ((37 : Int32) * p1)) + p2).toInt = ((20 + 37 * p + w : Nat) : Int) := by
  have e1 : ((37 : Int32) * p1).toInt = ((37 * p : Nat) : Int) := q_mulN (a := 37) rfl h1 (by omega)
  have e2 : ((20 : Int32) + ((37 : Int32) * p1)).toInt = ((20 + 37 * p : Nat) : Int) := q_addN (a := 20) rfl e1 (by omega)
  exact q_addN e2 h2 (by omega)
abbrev preX9_ofLeg (p w : Nat) (_ : Nat → Int32) (_ : Nat → Int64) (_ : Nat → Int32) (p1 p2 : Int32) : Prop := p1.toInt = (p : Int) ∧ p2.toInt = (w : Int) ∧ 20 + 37 * p + w < 376
abbrev postX9_ofLeg (p w : Nat) (_ : Nat → Int32) (_ : Nat → Int64) (al : Nat → Int32) (_ _ r : Int32) : Prop := r = al (20 + 37 * p + w)
theorem sX9_ofLeg (p w : Nat) (F : Nat → Int32) (J : Nat → Int64) (al : Nat → Int32) (p1 p2 : Int32) (h : preX9_ofLeg p w F J al p1 p2) : vX9_ofLeg F J al p1 p2 (postX9_ofLeg p w F J al p1 p2) := by
  have e := ix_ofLeg h.1 h.2.1 h.2.2
  refine ⟨q_in e h.2.2, ?_⟩
  rw [q_cl e]
theorem dX9_lays_0 : decode cX9_lays 0 = .ok (.aload_n 0, 1) := by decide +kernel
theorem dX9_lays_1 : decode cX9_lays 1 = .ok (.getfield 7, 3) := by decide +kernel
theorem dX9_lays_4 : decode cX9_lays 4 = .ok (.iconst 5, 1) := by decide +kernel
theorem dX9_lays_5 : decode cX9_lays 5 = .ok (.iconst 3, 1) := by decide +kernel
theorem dX9_lays_6 : decode cX9_lays 6 = .ok (.iload_n 1, 1) := by decide +kernel
theorem dX9_lays_7 : decode cX9_lays 7 = .ok (.imul, 1) := by decide +kernel
theorem dX9_lays_8 : decode cX9_lays 8 = .ok (.iadd, 1) := by decide +kernel
theorem dX9_lays_9 : decode cX9_lays 9 = .ok (.iload_n 2, 1) := by decide +kernel
theorem dX9_lays_10 : decode cX9_lays 10 = .ok (.iadd, 1) := by decide +kernel
theorem dX9_lays_11 : decode cX9_lays 11 = .ok (.iload_n 3, 1) := by decide +kernel
theorem dX9_lays_12 : decode cX9_lays 12 = .ok (.iastore, 1) := by decide +kernel
theorem dX9_lays_13 : decode cX9_lays 13 = .ok (.return_, 1) := by decide +kernel
abbrev rmX9_lays : Room := { frames := 0, cells := 0, slots := 0, locals := 0 }
theorem inX9_lays_9 : ∀ w ∈ wsX90, w ∈ wsX9_lays := by decide +kernel
def vX9_lays (F : Nat → Int32) (J : Nat → Int64) (al : Nat → Int32) (p1 : Int32) (p2 : Int32) (p3 : Int32) (Q : (Nat → Int32) → Prop) : Prop := (vp_in (((5 : Int32) + ((3 : Int32) * p1)) + p2) 376 ∧ (Q (upd al (((5 : Int32) + ((3 : Int32) * p1)) + p2).toNatClampNeg p3)))
set_option maxHeartbeats 4000000 in
set_option maxRecDepth 100000 in
theorem wX9_lays (l : Launch) (g : GP) (qM : Nat) (q1 : Nat) (q2 : Nat) (q3 : Nat) (q4 : Nat) (q5 : Nat) (q6 : Nat) (q7 : Nat) (q8 : Nat) (q9 : Nat) (q10 : Nat) (q11 : Nat) (sz : Nat) (F : Nat → Int32) (J : Nat → Int64) (al : Nat → Int32) (p1 : Int32) (p2 : Int32) (p3 : Int32) {Q : (Nat → Int32) → Prop} (hv : vX9_lays F J al p1 p2 p3 Q) : Met l yX9_lays wsX9_lays rmX9_lays (va_Pc [.ref qM, .int p1, .int p2, .int p3] (fun U => U.heap.size = sz ∧ va_P g.1 vwCl [(qM, .inr (9, [.int (F 0), .ref q1, .ref q2, .ref q3, .int (F 4), .int (F 5), .int (F 6), .int (F 7), .int (F 8), .int (F 9), .long (J 10), .int (F 11), .int (F 12), .int (F 13), .ref q4, .int (F 15), .ref q5, .ref q6, .ref q7, .int (F 19), .ref q8, .int (F 21), .int (F 22), .int (F 23), .int (F 24), .ref q9, .ref q10, .ref q11, .long (J 28)])), (q1, .inl (g.2 0, 376, .inl al))] U.heap ∧ GK g U ∧ va_D (fun _ => True) [(qM, .inr (9, [.int (F 0), .ref q1, .ref q2, .ref q3, .int (F 4), .int (F 5), .int (F 6), .int (F 7), .int (F 8), .int (F 9), .long (J 10), .int (F 11), .int (F 12), .int (F 13), .ref q4, .int (F 15), .ref q5, .ref q6, .ref q7, .int (F 19), .ref q8, .int (F 21), .int (F 22), .int (F 23), .int (F 24), .ref q9, .ref q10, .ref q11, .long (J 28)])), (q1, .inl (g.2 0, 376, .inl al))])) (va_Qv (fun (u : (Nat → Int32)) => Q u) (fun (u : (Nat → Int32)) t => va_P g.1 vwCl [(qM, .inr (9, [.int (F 0), .ref q1, .ref q2, .ref q3, .int (F 4), .int (F 5), .int (F 6), .int (F 7), .int (F 8), .int (F 9), .long (J 10), .int (F 11), .int (F 12), .int (F 13), .ref q4, .int (F 15), .ref q5, .ref q6, .ref q7, .int (F 19), .ref q8, .int (F 21), .int (F 22), .int (F 23), .int (F 24), .ref q9, .ref q10, .ref q11, .long (J 28)])), (q1, .inl (g.2 0, 376, .inl u))] t.heap ∧ va_D (va_A [(qM, .inr (9, [.int (F 0), .ref q1, .ref q2, .ref q3, .int (F 4), .int (F 5), .int (F 6), .int (F 7), .int (F 8), .int (F 9), .long (J 10), .int (F 11), .int (F 12), .int (F 13), .ref q4, .int (F 15), .ref q5, .ref q6, .ref q7, .int (F 19), .ref q8, .int (F 21), .int (F 22), .int (F 23), .int (F 24), .ref q9, .ref q10, .ref q11, .long (J 28)])), (q1, .inl (g.2 0, 376, .inl al))] sz) [(qM, .inr (9, [.int (F 0), .ref q1, .ref q2, .ref q3, .int (F 4), .int (F 5), .int (F 6), .int (F 7), .int (F 8), .int (F 9), .long (J 10), .int (F 11), .int (F 12), .int (F 13), .ref q4, .int (F 15), .ref q5, .ref q6, .ref q7, .int (F 19), .ref q8, .int (F 21), .int (F 22), .int (F 23), .int (F 24), .ref q9, .ref q10, .ref q11, .long (J 28)])), (q1, .inl (g.2 0, 376, .inl u))]) (va_A [(qM, .inr (9, [.int (F 0), .ref q1, .ref q2, .ref q3, .int (F 4), .int (F 5), .int (F 6), .int (F 7), .int (F 8), .int (F 9), .long (J 10), .int (F 11), .int (F 12), .int (F 13), .ref q4, .int (F 15), .ref q5, .ref q6, .ref q7, .int (F 19), .ref q8, .int (F 21), .int (F 22), .int (F 23), .int (F 24), .ref q9, .ref q10, .ref q11, .long (J 28)])), (q1, .inl (g.2 0, 376, .inl al))] sz)) 0 0 (va_A [(qM, .inr (9, [.int (F 0), .ref q1, .ref q2, .ref q3, .int (F 4), .int (F 5), .int (F 6), .int (F 7), .int (F 8), .int (F 9), .long (J 10), .int (F 11), .int (F 12), .int (F 13), .ref q4, .int (F 15), .ref q5, .ref q6, .ref q7, .int (F 19), .ref q8, .int (F 21), .int (F 22), .int (F 23), .int (F 24), .ref q9, .ref q10, .ref q11, .long (J 28)])), (q1, .inl (g.2 0, 376, .inl al))] sz) := by
  refine Met.ofW (cc := cX9_lays) (maxL := 4) (ret := none) (by decide) rfl ?_
  intro p e s m args below meth c s₁ B hml hv'
  obtain ⟨rfl, hsz, hP, hG, hD0⟩ := hv'
  have S : CallFix p m c cX9_lays 4 s _ wsX9_lays RX9 := ⟨B.exec, B.bytes, hml, findClass_of_methodNamed B.named, atoms_spec (ws := wsX9_lays) B.pre⟩
  obtain ⟨hx, hb, hml, hown, hts⟩ := id S
  have hK := hG.1
  have hr := B.returns
  have hlocks := B.notSynchronized
  subst hsz
  have hD := hD0.self (sz := s.heap.size)
  generalize hAe : va_A [(qM, .inr (9, [.int (F 0), .ref q1, .ref q2, .ref q3, .int (F 4), .int (F 5), .int (F 6), .int (F 7), .int (F 8), .int (F 9), .long (J 10), .int (F 11), .int (F 12), .int (F 13), .ref q4, .int (F 15), .ref q5, .ref q6, .ref q7, .int (F 19), .ref q8, .int (F 21), .int (F 22), .int (F 23), .int (F 24), .ref q9, .ref q10, .ref q11, .long (J 28)])), (q1, .inl (g.2 0, 376, .inl al))] s.heap.size = A at hD ⊢
  have hA : ∀ q : Nat, s.heap.size ≤ q → A q := fun q h => by rw [← hAe]; exact Or.inr h
  have hS : va_S A s.heap s.heap [] := va_S.rf
  clear hD0 hAe
  have hl := lv_entry ([.ref qM, .int p1, .int p2, .int p3]) (n := 4) (Nat.le_of_ble_eq_true rfl)
  rw [lg_entry_eq]
  generalize (lg_sl ([.ref qM, .int p1, .int p2, .int p3]) ++ List.replicate (4 - (lg_sl ([.ref qM, .int p1, .int p2, .int p3])).length) Slot.unset).toArray = ls at hl ⊢
  have hl : lv_has ls 4 [(0, .ref qM), (1, .int p1), (2, .int p2), (3, .int p3)] := hl
  unfold vX9_lays at hv
  refine lv_aload_n hx hb dX9_lays_0 rfl (lv_at hl 0 rfl) ?_
  refine va_get (D := g.1) (ci := 9) (v := .ref q1) (C := RX9) (T := TX9) (N := 29) hx hb hts inX9_lays_9 hown hK hP 0 rfl rfl 1 (by decide) (hts (.fieldLink RX9 7 "RangeCodesModel" "all" "[I") (List.mem_of_getElem? (i := 1) rfl)) (fun _ h9 => h9) rfl dX9_lays_1 ?_
  refine lv_iconst (v := (5 : Int32)) hx hb dX9_lays_4 (by decide) ?_
  refine lv_iconst (v := (3 : Int32)) hx hb dX9_lays_5 (by decide) ?_
  refine lv_iload_n hx hb dX9_lays_6 rfl (lv_at hl 1 rfl) ?_
  refine lv_imul hx hb dX9_lays_7 ?_
  refine lv_iadd hx hb dX9_lays_8 ?_
  refine lv_iload_n hx hb dX9_lays_9 rfl (lv_at hl 2 rfl) ?_
  refine lv_iadd hx hb dX9_lays_10 ?_
  refine lv_iload_n hx hb dX9_lays_11 rfl (lv_at hl 3 rfl) ?_
  obtain ⟨ho_1, hv⟩ := hv
  refine va_iast hx hb hK hP hD hS 1 0 rfl rfl ho_1 dX9_lays_12 (fun H locs hP hD hS => ?_)
  have hP : va_P g.1 vwCl [(qM, .inr (9, [.int (F 0), .ref q1, .ref q2, .ref q3, .int (F 4), .int (F 5), .int (F 6), .int (F 7), .int (F 8), .int (F 9), .long (J 10), .int (F 11), .int (F 12), .int (F 13), .ref q4, .int (F 15), .ref q5, .ref q6, .ref q7, .int (F 19), .ref q8, .int (F 21), .int (F 22), .int (F 23), .int (F 24), .ref q9, .ref q10, .ref q11, .long (J 28)])), (q1, .inl (g.2 0, 376, .inl (upd al (((5 : Int32) + ((3 : Int32) * p1)) + p2).toNatClampNeg p3)))] H := hP
  have hD : va_D A [(qM, .inr (9, [.int (F 0), .ref q1, .ref q2, .ref q3, .int (F 4), .int (F 5), .int (F 6), .int (F 7), .int (F 8), .int (F 9), .long (J 10), .int (F 11), .int (F 12), .int (F 13), .ref q4, .int (F 15), .ref q5, .ref q6, .ref q7, .int (F 19), .ref q8, .int (F 21), .int (F 22), .int (F 23), .int (F 24), .ref q9, .ref q10, .ref q11, .long (J 28)])), (q1, .inl (g.2 0, 376, .inl (upd al (((5 : Int32) + ((3 : Int32) * p1)) + p2).toNatClampNeg p3)))] := hD
  have hP9 := hP.sub (ws' := [(qM, .inr (9, [.int (F 0), .ref q1, .ref q2, .ref q3, .int (F 4), .int (F 5), .int (F 6), .int (F 7), .int (F 8), .int (F 9), .long (J 10), .int (F 11), .int (F 12), .int (F 13), .ref q4, .int (F 15), .ref q5, .ref q6, .ref q7, .int (F 19), .ref q8, .int (F 21), .int (F 22), .int (F 23), .int (F 24), .ref q9, .ref q10, .ref q11, .long (J 28)])), (q1, .inl (g.2 0, 376, .inl (upd al (((5 : Int32) + ((3 : Int32) * p1)) + p2).toNatClampNeg p3)))]) [0, 1] rfl
  have hD9 := hD.sub (ws' := [(qM, .inr (9, [.int (F 0), .ref q1, .ref q2, .ref q3, .int (F 4), .int (F 5), .int (F 6), .int (F 7), .int (F 8), .int (F 9), .long (J 10), .int (F 11), .int (F 12), .int (F 13), .ref q4, .int (F 15), .ref q5, .ref q6, .ref q7, .int (F 19), .ref q8, .int (F 21), .int (F 22), .int (F 23), .int (F 24), .ref q9, .ref q10, .ref q11, .long (J 28)])), (q1, .inl (g.2 0, 376, .inl (upd al (((5 : Int32) + ((3 : Int32) * p1)) + p2).toNatClampNeg p3)))]) [0, 1] (by decide) rfl
  exact W.vret hx hb hr (fun t ht hW => ⟨⟨((upd al (((5 : Int32) + ((3 : Int32) * p1)) + p2).toNatClampNeg p3)), rfl, hv, by rw [ht]; exact hP9, hD9⟩, hS.F ht⟩) hS.2.2 dX9_lays_13
abbrev preX9_lays (p w : Nat) (_ : Nat → Int32) (_ : Nat → Int64) (_ : Nat → Int32) (p1 p2 _ : Int32) : Prop := p1.toInt = (p : Int) ∧ p2.toInt = (w : Int) ∧ 5 + 3 * p + w < 376
abbrev postX9_lays (p w : Nat) (_ : Nat → Int32) (_ : Nat → Int64) (al : Nat → Int32) (_ _ p3 : Int32) (al' : Nat → Int32) : Prop := al' = upd al (5 + 3 * p + w) p3
theorem sX9_lays (p w : Nat) (F : Nat → Int32) (J : Nat → Int64) (al : Nat → Int32) (p1 p2 p3 : Int32) (h : preX9_lays p w F J al p1 p2 p3) : vX9_lays F J al p1 p2 p3 (postX9_lays p w F J al p1 p2 p3) := by
  have e := ix_of h.1 h.2.1 h.2.2
  refine ⟨q_in e h.2.2, ?_⟩
  rw [q_cl e]
theorem dX9_layLeg_0 : decode cX9_layLeg 0 = .ok (.aload_n 0, 1) := by decide +kernel
theorem dX9_layLeg_1 : decode cX9_layLeg 1 = .ok (.getfield 7, 3) := by decide +kernel
theorem dX9_layLeg_4 : decode cX9_layLeg 4 = .ok (.bipush 20, 2) := by decide +kernel
theorem dX9_layLeg_6 : decode cX9_layLeg 6 = .ok (.bipush 37, 2) := by decide +kernel
theorem dX9_layLeg_8 : decode cX9_layLeg 8 = .ok (.iload_n 1, 1) := by decide +kernel
theorem dX9_layLeg_9 : decode cX9_layLeg 9 = .ok (.imul, 1) := by decide +kernel
theorem dX9_layLeg_10 : decode cX9_layLeg 10 = .ok (.iadd, 1) := by decide +kernel
theorem dX9_layLeg_11 : decode cX9_layLeg 11 = .ok (.iload_n 2, 1) := by decide +kernel
theorem dX9_layLeg_12 : decode cX9_layLeg 12 = .ok (.iadd, 1) := by decide +kernel
theorem dX9_layLeg_13 : decode cX9_layLeg 13 = .ok (.iload_n 3, 1) := by decide +kernel
theorem dX9_layLeg_14 : decode cX9_layLeg 14 = .ok (.iastore, 1) := by decide +kernel
theorem dX9_layLeg_15 : decode cX9_layLeg 15 = .ok (.return_, 1) := by decide +kernel
abbrev rmX9_layLeg : Room := { frames := 0, cells := 0, slots := 0, locals := 0 }
theorem inX9_layLeg_9 : ∀ w ∈ wsX90, w ∈ wsX9_layLeg := by decide +kernel
def vX9_layLeg (F : Nat → Int32) (J : Nat → Int64) (al : Nat → Int32) (p1 : Int32) (p2 : Int32) (p3 : Int32) (Q : (Nat → Int32) → Prop) : Prop := (vp_in (((20 : Int32) + ((37 : Int32) * p1)) + p2) 376 ∧ (Q (upd al (((20 : Int32) + ((37 : Int32) * p1)) + p2).toNatClampNeg p3)))
set_option maxHeartbeats 4000000 in
set_option maxRecDepth 100000 in
theorem wX9_layLeg (l : Launch) (g : GP) (qM : Nat) (q1 : Nat) (q2 : Nat) (q3 : Nat) (q4 : Nat) (q5 : Nat) (q6 : Nat) (q7 : Nat) (q8 : Nat) (q9 : Nat) (q10 : Nat) (q11 : Nat) (sz : Nat) (F : Nat → Int32) (J : Nat → Int64) (al : Nat → Int32) (p1 : Int32) (p2 : Int32) (p3 : Int32) {Q : (Nat → Int32) → Prop} (hv : vX9_layLeg F J al p1 p2 p3 Q) : Met l yX9_layLeg wsX9_layLeg rmX9_layLeg (va_Pc [.ref qM, .int p1, .int p2, .int p3] (fun U => U.heap.size = sz ∧ va_P g.1 vwCl [(qM, .inr (9, [.int (F 0), .ref q1, .ref q2, .ref q3, .int (F 4), .int (F 5), .int (F 6), .int (F 7), .int (F 8), .int (F 9), .long (J 10), .int (F 11), .int (F 12), .int (F 13), .ref q4, .int (F 15), .ref q5, .ref q6, .ref q7, .int (F 19), .ref q8, .int (F 21), .int (F 22), .int (F 23), .int (F 24), .ref q9, .ref q10, .ref q11, .long (J 28)])), (q1, .inl (g.2 0, 376, .inl al))] U.heap ∧ GK g U ∧ va_D (fun _ => True) [(qM, .inr (9, [.int (F 0), .ref q1, .ref q2, .ref q3, .int (F 4), .int (F 5), .int (F 6), .int (F 7), .int (F 8), .int (F 9), .long (J 10), .int (F 11), .int (F 12), .int (F 13), .ref q4, .int (F 15), .ref q5, .ref q6, .ref q7, .int (F 19), .ref q8, .int (F 21), .int (F 22), .int (F 23), .int (F 24), .ref q9, .ref q10, .ref q11, .long (J 28)])), (q1, .inl (g.2 0, 376, .inl al))])) (va_Qv (fun (u : (Nat → Int32)) => Q u) (fun (u : (Nat → Int32)) t => va_P g.1 vwCl [(qM, .inr (9, [.int (F 0), .ref q1, .ref q2, .ref q3, .int (F 4), .int (F 5), .int (F 6), .int (F 7), .int (F 8), .int (F 9), .long (J 10), .int (F 11), .int (F 12), .int (F 13), .ref q4, .int (F 15), .ref q5, .ref q6, .ref q7, .int (F 19), .ref q8, .int (F 21), .int (F 22), .int (F 23), .int (F 24), .ref q9, .ref q10, .ref q11, .long (J 28)])), (q1, .inl (g.2 0, 376, .inl u))] t.heap ∧ va_D (va_A [(qM, .inr (9, [.int (F 0), .ref q1, .ref q2, .ref q3, .int (F 4), .int (F 5), .int (F 6), .int (F 7), .int (F 8), .int (F 9), .long (J 10), .int (F 11), .int (F 12), .int (F 13), .ref q4, .int (F 15), .ref q5, .ref q6, .ref q7, .int (F 19), .ref q8, .int (F 21), .int (F 22), .int (F 23), .int (F 24), .ref q9, .ref q10, .ref q11, .long (J 28)])), (q1, .inl (g.2 0, 376, .inl al))] sz) [(qM, .inr (9, [.int (F 0), .ref q1, .ref q2, .ref q3, .int (F 4), .int (F 5), .int (F 6), .int (F 7), .int (F 8), .int (F 9), .long (J 10), .int (F 11), .int (F 12), .int (F 13), .ref q4, .int (F 15), .ref q5, .ref q6, .ref q7, .int (F 19), .ref q8, .int (F 21), .int (F 22), .int (F 23), .int (F 24), .ref q9, .ref q10, .ref q11, .long (J 28)])), (q1, .inl (g.2 0, 376, .inl u))]) (va_A [(qM, .inr (9, [.int (F 0), .ref q1, .ref q2, .ref q3, .int (F 4), .int (F 5), .int (F 6), .int (F 7), .int (F 8), .int (F 9), .long (J 10), .int (F 11), .int (F 12), .int (F 13), .ref q4, .int (F 15), .ref q5, .ref q6, .ref q7, .int (F 19), .ref q8, .int (F 21), .int (F 22), .int (F 23), .int (F 24), .ref q9, .ref q10, .ref q11, .long (J 28)])), (q1, .inl (g.2 0, 376, .inl al))] sz)) 0 0 (va_A [(qM, .inr (9, [.int (F 0), .ref q1, .ref q2, .ref q3, .int (F 4), .int (F 5), .int (F 6), .int (F 7), .int (F 8), .int (F 9), .long (J 10), .int (F 11), .int (F 12), .int (F 13), .ref q4, .int (F 15), .ref q5, .ref q6, .ref q7, .int (F 19), .ref q8, .int (F 21), .int (F 22), .int (F 23), .int (F 24), .ref q9, .ref q10, .ref q11, .long (J 28)])), (q1, .inl (g.2 0, 376, .inl al))] sz) := by
  refine Met.ofW (cc := cX9_layLeg) (maxL := 4) (ret := none) (by decide) rfl ?_
  intro p e s m args below meth c s₁ B hml hv'
  obtain ⟨rfl, hsz, hP, hG, hD0⟩ := hv'
  have S : CallFix p m c cX9_layLeg 4 s _ wsX9_layLeg RX9 := ⟨B.exec, B.bytes, hml, findClass_of_methodNamed B.named, atoms_spec (ws := wsX9_layLeg) B.pre⟩
  obtain ⟨hx, hb, hml, hown, hts⟩ := id S
  have hK := hG.1
  have hr := B.returns
  have hlocks := B.notSynchronized
  subst hsz
  have hD := hD0.self (sz := s.heap.size)
  generalize hAe : va_A [(qM, .inr (9, [.int (F 0), .ref q1, .ref q2, .ref q3, .int (F 4), .int (F 5), .int (F 6), .int (F 7), .int (F 8), .int (F 9), .long (J 10), .int (F 11), .int (F 12), .int (F 13), .ref q4, .int (F 15), .ref q5, .ref q6, .ref q7, .int (F 19), .ref q8, .int (F 21), .int (F 22), .int (F 23), .int (F 24), .ref q9, .ref q10, .ref q11, .long (J 28)])), (q1, .inl (g.2 0, 376, .inl al))] s.heap.size = A at hD ⊢
  have hA : ∀ q : Nat, s.heap.size ≤ q → A q := fun q h => by rw [← hAe]; exact Or.inr h
  have hS : va_S A s.heap s.heap [] := va_S.rf
  clear hD0 hAe
  have hl := lv_entry ([.ref qM, .int p1, .int p2, .int p3]) (n := 4) (Nat.le_of_ble_eq_true rfl)
  rw [lg_entry_eq]
  generalize (lg_sl ([.ref qM, .int p1, .int p2, .int p3]) ++ List.replicate (4 - (lg_sl ([.ref qM, .int p1, .int p2, .int p3])).length) Slot.unset).toArray = ls at hl ⊢
  have hl : lv_has ls 4 [(0, .ref qM), (1, .int p1), (2, .int p2), (3, .int p3)] := hl
  unfold vX9_layLeg at hv
  refine lv_aload_n hx hb dX9_layLeg_0 rfl (lv_at hl 0 rfl) ?_
  refine va_get (D := g.1) (ci := 9) (v := .ref q1) (C := RX9) (T := TX9) (N := 29) hx hb hts inX9_layLeg_9 hown hK hP 0 rfl rfl 1 (by decide) (hts (.fieldLink RX9 7 "RangeCodesModel" "all" "[I") (List.mem_of_getElem? (i := 1) rfl)) (fun _ h9 => h9) rfl dX9_layLeg_1 ?_
  refine lv_bipush (v := (20 : Int32)) hx hb dX9_layLeg_4 (by decide) ?_
  refine lv_bipush (v := (37 : Int32)) hx hb dX9_layLeg_6 (by decide) ?_
  refine lv_iload_n hx hb dX9_layLeg_8 rfl (lv_at hl 1 rfl) ?_
  refine lv_imul hx hb dX9_layLeg_9 ?_
  refine lv_iadd hx hb dX9_layLeg_10 ?_
  refine lv_iload_n hx hb dX9_layLeg_11 rfl (lv_at hl 2 rfl) ?_
  refine lv_iadd hx hb dX9_layLeg_12 ?_
  refine lv_iload_n hx hb dX9_layLeg_13 rfl (lv_at hl 3 rfl) ?_
  obtain ⟨ho_1, hv⟩ := hv
  refine va_iast hx hb hK hP hD hS 1 0 rfl rfl ho_1 dX9_layLeg_14 (fun H locs hP hD hS => ?_)
  have hP : va_P g.1 vwCl [(qM, .inr (9, [.int (F 0), .ref q1, .ref q2, .ref q3, .int (F 4), .int (F 5), .int (F 6), .int (F 7), .int (F 8), .int (F 9), .long (J 10), .int (F 11), .int (F 12), .int (F 13), .ref q4, .int (F 15), .ref q5, .ref q6, .ref q7, .int (F 19), .ref q8, .int (F 21), .int (F 22), .int (F 23), .int (F 24), .ref q9, .ref q10, .ref q11, .long (J 28)])), (q1, .inl (g.2 0, 376, .inl (upd al (((20 : Int32) + ((37 : Int32) * p1)) + p2).toNatClampNeg p3)))] H := hP
  have hD : va_D A [(qM, .inr (9, [.int (F 0), .ref q1, .ref q2, .ref q3, .int (F 4), .int (F 5), .int (F 6), .int (F 7), .int (F 8), .int (F 9), .long (J 10), .int (F 11), .int (F 12), .int (F 13), .ref q4, .int (F 15), .ref q5, .ref q6, .ref q7, .int (F 19), .ref q8, .int (F 21), .int (F 22), .int (F 23), .int (F 24), .ref q9, .ref q10, .ref q11, .long (J 28)])), (q1, .inl (g.2 0, 376, .inl (upd al (((20 : Int32) + ((37 : Int32) * p1)) + p2).toNatClampNeg p3)))] := hD
  have hP9 := hP.sub (ws' := [(qM, .inr (9, [.int (F 0), .ref q1, .ref q2, .ref q3, .int (F 4), .int (F 5), .int (F 6), .int (F 7), .int (F 8), .int (F 9), .long (J 10), .int (F 11), .int (F 12), .int (F 13), .ref q4, .int (F 15), .ref q5, .ref q6, .ref q7, .int (F 19), .ref q8, .int (F 21), .int (F 22), .int (F 23), .int (F 24), .ref q9, .ref q10, .ref q11, .long (J 28)])), (q1, .inl (g.2 0, 376, .inl (upd al (((20 : Int32) + ((37 : Int32) * p1)) + p2).toNatClampNeg p3)))]) [0, 1] rfl
  have hD9 := hD.sub (ws' := [(qM, .inr (9, [.int (F 0), .ref q1, .ref q2, .ref q3, .int (F 4), .int (F 5), .int (F 6), .int (F 7), .int (F 8), .int (F 9), .long (J 10), .int (F 11), .int (F 12), .int (F 13), .ref q4, .int (F 15), .ref q5, .ref q6, .ref q7, .int (F 19), .ref q8, .int (F 21), .int (F 22), .int (F 23), .int (F 24), .ref q9, .ref q10, .ref q11, .long (J 28)])), (q1, .inl (g.2 0, 376, .inl (upd al (((20 : Int32) + ((37 : Int32) * p1)) + p2).toNatClampNeg p3)))]) [0, 1] (by decide) rfl
  exact W.vret hx hb hr (fun t ht hW => ⟨⟨((upd al (((20 : Int32) + ((37 : Int32) * p1)) + p2).toNatClampNeg p3)), rfl, hv, by rw [ht]; exact hP9, hD9⟩, hS.F ht⟩) hS.2.2 dX9_layLeg_15
abbrev preX9_layLeg (p w : Nat) (_ : Nat → Int32) (_ : Nat → Int64) (_ : Nat → Int32) (p1 p2 _ : Int32) : Prop := p1.toInt = (p : Int) ∧ p2.toInt = (w : Int) ∧ 20 + 37 * p + w < 376
abbrev postX9_layLeg (p w : Nat) (_ : Nat → Int32) (_ : Nat → Int64) (al : Nat → Int32) (_ _ p3 : Int32) (al' : Nat → Int32) : Prop := al' = upd al (20 + 37 * p + w) p3
theorem sX9_layLeg (p w : Nat) (F : Nat → Int32) (J : Nat → Int64) (al : Nat → Int32) (p1 p2 p3 : Int32) (h : preX9_layLeg p w F J al p1 p2 p3) : vX9_layLeg F J al p1 p2 p3 (postX9_layLeg p w F J al p1 p2 p3) := by
  have e := ix_ofLeg h.1 h.2.1 h.2.2
  refine ⟨q_in e h.2.2, ?_⟩
  rw [q_cl e]
theorem dX9_everyPart_0 : decode cX9_everyPart 0 = .ok (.iconst 1, 1) := by decide +kernel
theorem dX9_everyPart_1 : decode cX9_everyPart 1 = .ok (.aload_n 0, 1) := by decide +kernel
theorem dX9_everyPart_2 : decode cX9_everyPart 2 = .ok (.getfield 7, 3) := by decide +kernel
theorem dX9_everyPart_5 : decode cX9_everyPart 5 = .ok (.iconst 0, 1) := by decide +kernel
theorem dX9_everyPart_6 : decode cX9_everyPart 6 = .ok (.iaload, 1) := by decide +kernel
theorem dX9_everyPart_7 : decode cX9_everyPart 7 = .ok (.ishl, 1) := by decide +kernel
theorem dX9_everyPart_8 : decode cX9_everyPart 8 = .ok (.iconst 1, 1) := by decide +kernel
theorem dX9_everyPart_9 : decode cX9_everyPart 9 = .ok (.isub, 1) := by decide +kernel
theorem dX9_everyPart_10 : decode cX9_everyPart 10 = .ok (.ireturn, 1) := by decide +kernel
abbrev rmX9_everyPart : Room := { frames := 0, cells := 0, slots := 0, locals := 0 }
theorem inX9_everyPart_9 : ∀ w ∈ wsX90, w ∈ wsX9_everyPart := by decide +kernel
def vX9_everyPart (F : Nat → Int32) (J : Nat → Int64) (al : Nat → Int32) (Q : Int32 → Prop) : Prop := (Q (((1 : Int32) <<< ((al 0) &&& 31)) - (1 : Int32)))
set_option maxHeartbeats 4000000 in
set_option maxRecDepth 100000 in
theorem wX9_everyPart (l : Launch) (g : GP) (qM : Nat) (q1 : Nat) (q2 : Nat) (q3 : Nat) (q4 : Nat) (q5 : Nat) (q6 : Nat) (q7 : Nat) (q8 : Nat) (q9 : Nat) (q10 : Nat) (q11 : Nat) (F : Nat → Int32) (J : Nat → Int64) (al : Nat → Int32) {Q : Int32 → Prop} (hv : vX9_everyPart F J al Q) : Met l yX9_everyPart wsX9_everyPart rmX9_everyPart (va_Pc [.ref qM] (fun U => va_P g.1 vwCl [(qM, .inr (9, [.int (F 0), .ref q1, .ref q2, .ref q3, .int (F 4), .int (F 5), .int (F 6), .int (F 7), .int (F 8), .int (F 9), .long (J 10), .int (F 11), .int (F 12), .int (F 13), .ref q4, .int (F 15), .ref q5, .ref q6, .ref q7, .int (F 19), .ref q8, .int (F 21), .int (F 22), .int (F 23), .int (F 24), .ref q9, .ref q10, .ref q11, .long (J 28)])), (q1, .inl (g.2 0, 376, .inl al))] U.heap ∧ GK g U)) (vp_Si Q) 0 0 (fun _ => False) := by
  refine Met.ofW (cc := cX9_everyPart) (maxL := 1) (ret := (some .int)) (by decide) rfl ?_
  intro p e s m args below meth c s₁ B hml hv'
  obtain ⟨rfl, hP, hG⟩ := hv'
  have S : CallFix p m c cX9_everyPart 1 s _ wsX9_everyPart RX9 := ⟨B.exec, B.bytes, hml, findClass_of_methodNamed B.named, atoms_spec (ws := wsX9_everyPart) B.pre⟩
  obtain ⟨hx, hb, hml, hown, hts⟩ := id S
  have hK := hG.1
  have hr := B.returns
  have hlocks := B.notSynchronized
  have hl := lv_entry ([.ref qM]) (n := 1) (Nat.le_of_ble_eq_true rfl)
  rw [lg_entry_eq]
  generalize (lg_sl ([.ref qM]) ++ List.replicate (1 - (lg_sl ([.ref qM])).length) Slot.unset).toArray = ls at hl ⊢
  have hl : lv_has ls 1 [(0, .ref qM)] := hl
  unfold vX9_everyPart at hv
  refine lv_iconst (v := (1 : Int32)) hx hb dX9_everyPart_0 (by decide) ?_
  refine lv_aload_n hx hb dX9_everyPart_1 rfl (lv_at hl 0 rfl) ?_
  refine va_get (D := g.1) (ci := 9) (v := .ref q1) (C := RX9) (T := TX9) (N := 29) hx hb hts inX9_everyPart_9 hown hK hP 0 rfl rfl 1 (by decide) (hts (.fieldLink RX9 7 "RangeCodesModel" "all" "[I") (List.mem_of_getElem? (i := 1) rfl)) (fun _ h9 => h9) rfl dX9_everyPart_2 ?_
  refine lv_iconst (v := (0 : Int32)) hx hb dX9_everyPart_5 (by decide) ?_
  refine va_iald hx hb hK hP 1 0 rfl rfl (by unfold vp_in; decide) dX9_everyPart_6 ?_
  refine lv_ishl hx hb dX9_everyPart_7 ?_
  refine lv_iconst (v := (1 : Int32)) hx hb dX9_everyPart_8 (by decide) ?_
  refine lv_isub hx hb dX9_everyPart_9 ?_
  exact W.iret (v := (((1 : Int32) <<< ((al 0) &&& 31)) - (1 : Int32))) hx hb hr (fun t ht hW => ⟨_, rfl, hv, ht⟩) (fun _ h => by cases h) dX9_everyPart_10
abbrev preX9_everyPart (T : Cd) (_ : Nat → Int32) (_ : Nat → Int64) (al : Nat → Int32) : Prop := isN T (al 0)
abbrev postX9_everyPart (T : Cd) (_ : Nat → Int32) (_ : Nat → Int64) (_ : Nat → Int32) (r : Int32) : Prop := r.toInt = ((2 ^ cn T - 1 : Nat) : Int)
theorem sX9_everyPart (T : Cd) (F : Nat → Int32) (J : Nat → Int64) (al : Nat → Int32) (h : preX9_everyPart T F J al) : vX9_everyPart F J al (postX9_everyPart T F J al) := by
  have h1 := q_shl1 (cn T) (by have := h.2; omega)
  have h2 := Nat.two_pow_pos (cn T)
  have h3 := p32_le h.2
  show (((1 : Int32) <<< ((al 0) &&& 31)) - (1 : Int32)).toInt = _
  rw [q_eqN h.1]
  exact q_subN (b := 1) h1 (by decide) (by omega) (by omega)
set_option maxRecDepth 20000 in
theorem ggX9_commonOf_X9_has : GoodIn wsX9_commonOf wsX9_has := goodIn_r _ [5] (by decide +kernel) (by decide +kernel)
set_option maxRecDepth 20000 in
theorem gX9_commonOf_X9_has : GoodIn wsX9_commonOf (va_wsS RX9 201 yX9_has wsX9_has) := goodIn_app (goodIn_of _ (by decide +kernel)) ggX9_commonOf_X9_has
set_option maxRecDepth 20000 in
theorem ggX9_commonOf_X9_of : GoodIn wsX9_commonOf wsX9_of := goodIn_r _ [9, 1, 16, 17, 18, 19, 20, 21, 22, 23, 24, 25, 26, 27, 28, 29, 30, 31, 32, 33, 34, 35, 36, 37, 38, 39, 40, 41, 42, 43, 44] (by decide +kernel) (by decide +kernel)
set_option maxRecDepth 20000 in
theorem gX9_commonOf_X9_of : GoodIn wsX9_commonOf (wsV RX9 195 RX9 yX9_of wsX9_of) := goodIn_app (goodIn_of _ (by decide +kernel)) ggX9_commonOf_X9_of
set_option maxRecDepth 20000 in
theorem ggX9_commonOf_X9_common : GoodIn wsX9_commonOf wsX9_common := goodIn_r _ [12, 13, 14, 4, 15] (by decide +kernel) (by decide +kernel)
set_option maxRecDepth 20000 in
theorem gX9_commonOf_X9_common : GoodIn wsX9_commonOf (va_wsS RX9 204 yX9_common wsX9_common) := goodIn_app (goodIn_of _ (by decide +kernel)) ggX9_commonOf_X9_common
theorem dX9_commonOf_0 : decode cX9_commonOf 0 = .ok (.iconst 1, 1) := by decide +kernel
theorem dX9_commonOf_1 : decode cX9_commonOf 1 = .ok (.istore_n 2, 1) := by decide +kernel
theorem dX9_commonOf_2 : decode cX9_commonOf 2 = .ok (.iconst 0, 1) := by decide +kernel
theorem dX9_commonOf_3 : decode cX9_commonOf 3 = .ok (.istore_n 3, 1) := by decide +kernel
theorem dX9_commonOf_4 : decode cX9_commonOf 4 = .ok (.iload_n 3, 1) := by decide +kernel
theorem dX9_commonOf_5 : decode cX9_commonOf 5 = .ok (.aload_n 0, 1) := by decide +kernel
theorem dX9_commonOf_6 : decode cX9_commonOf 6 = .ok (.getfield 7, 3) := by decide +kernel
theorem dX9_commonOf_9 : decode cX9_commonOf 9 = .ok (.iconst 0, 1) := by decide +kernel
theorem dX9_commonOf_10 : decode cX9_commonOf 10 = .ok (.iaload, 1) := by decide +kernel
theorem dX9_commonOf_11 : decode cX9_commonOf 11 = .ok (.if_icmp .ge 32, 3) := by decide +kernel
theorem dX9_commonOf_14 : decode cX9_commonOf 14 = .ok (.iload_n 1, 1) := by decide +kernel
theorem dX9_commonOf_15 : decode cX9_commonOf 15 = .ok (.iload_n 3, 1) := by decide +kernel
theorem dX9_commonOf_16 : decode cX9_commonOf 16 = .ok (.invokestatic 201, 3) := by decide +kernel
theorem dX9_commonOf_19 : decode cX9_commonOf 19 = .ok (.ifCond .eq 16, 3) := by decide +kernel
theorem dX9_commonOf_22 : decode cX9_commonOf 22 = .ok (.iload_n 2, 1) := by decide +kernel
theorem dX9_commonOf_23 : decode cX9_commonOf 23 = .ok (.aload_n 0, 1) := by decide +kernel
theorem dX9_commonOf_24 : decode cX9_commonOf 24 = .ok (.iload_n 3, 1) := by decide +kernel
theorem dX9_commonOf_25 : decode cX9_commonOf 25 = .ok (.iconst 0, 1) := by decide +kernel
theorem dX9_commonOf_26 : decode cX9_commonOf 26 = .ok (.invokevirtual 195, 3) := by decide +kernel
theorem dX9_commonOf_29 : decode cX9_commonOf 29 = .ok (.invokestatic 204, 3) := by decide +kernel
theorem dX9_commonOf_32 : decode cX9_commonOf 32 = .ok (.goto 4, 3) := by decide +kernel
theorem dX9_commonOf_35 : decode cX9_commonOf 35 = .ok (.iload_n 2, 1) := by decide +kernel
theorem dX9_commonOf_36 : decode cX9_commonOf 36 = .ok (.istore_n 2, 1) := by decide +kernel
theorem dX9_commonOf_37 : decode cX9_commonOf 37 = .ok (.iinc 3 1, 3) := by decide +kernel
theorem dX9_commonOf_40 : decode cX9_commonOf 40 = .ok (.goto (-36), 3) := by decide +kernel
theorem dX9_commonOf_43 : decode cX9_commonOf 43 = .ok (.iload_n 2, 1) := by decide +kernel
theorem dX9_commonOf_44 : decode cX9_commonOf 44 = .ok (.ireturn, 1) := by decide +kernel
abbrev rmX9_commonOf : Room := { frames := 2, cells := 0, slots := 0, locals := 50 }
theorem inX9_commonOf_9 : ∀ w ∈ wsX90, w ∈ wsX9_commonOf := by decide +kernel
def vX9_commonOf_c4 (F : Nat → Int32) (J : Nat → Int64) (al : Nat → Int32) (p1 : Int32) (Q : Int32 → Prop) : Nat → Int32 → Int32 → Prop
  | 0, _, _ => False
  | n + 1, x2, x3 => (((al 0) ≤ x3 → (Q x2)) ∧ (¬ (al 0) ≤ x3 → (∃ (s_16 : Nat) (k_16 : Nat), preX9_has s_16 k_16 p1 x3 ∧ (∀ r_16 : Int32, postX9_has s_16 k_16 p1 x3 r_16 → ((r_16 = 0 → (vX9_commonOf_c4 F J al p1 Q n x2 (x3 + (1 : Int32)))) ∧ (¬ r_16 = 0 → (∃ (p_26 : Nat) (w_26 : Nat), preX9_of p_26 w_26 F J al x3 (0 : Int32) ∧ (∀ r_26 : Int32, postX9_of p_26 w_26 F J al x3 (0 : Int32) r_26 → (∃ (a_29 : Nat) (b_29 : Nat), preX9_common a_29 b_29 x2 r_26 ∧ (∀ r_29 : Int32, postX9_common a_29 b_29 x2 r_26 r_29 → (vX9_commonOf_c4 F J al p1 Q n r_29 (x3 + (1 : Int32)))))))))))))
set_option maxHeartbeats 4000000 in
set_option maxRecDepth 100000 in
theorem kX9_commonOf_c4 {p : Program} {l : Launch} {e : Env} {s : State} {m : MethodId} {args : Array Value} {below : List Frame} {meth : Method} {c : Code} {g : GP} {qM q1 q2 q3 q4 q5 q6 q7 q8 q9 q10 q11 : Nat} {F : Nat → Int32} {J : Nat → Int64} {al : Nat → Int32} {p1 : Int32} {Q : Int32 → Prop} (S : CallFix p m c cX9_commonOf 4 s args wsX9_commonOf RX9) (hr : meth.sig.returnType = (some .int)) (hlocks : meth.locks = false) (hG : GK g s) (hP : va_P g.1 vwCl [(qM, .inr (9, [.int (F 0), .ref q1, .ref q2, .ref q3, .int (F 4), .int (F 5), .int (F 6), .int (F 7), .int (F 8), .int (F 9), .long (J 10), .int (F 11), .int (F 12), .int (F 13), .ref q4, .int (F 15), .ref q5, .ref q6, .ref q7, .int (F 19), .ref q8, .int (F 21), .int (F 22), .int (F 23), .int (F 24), .ref q9, .ref q10, .ref q11, .long (J 28)])), (q1, .inl (g.2 0, 376, .inl al))] s.heap) : ∀ (n : Nat), ∀ (x2 : Int32) (x3 : Int32), vX9_commonOf_c4 F J al p1 Q n x2 x3 → ∀ (ls : Array Slot), lv_has ls 4 [(0, .ref qM), (1, .int p1), (2, .int x2), (3, .int x3)] → W p l e (headSpec wsX9_commonOf rmX9_commonOf).room s m args below meth c s.heap [] 0 0 (MQ below (vp_Si Q) args s 0 0 (fun _ => False)) (F0 m 4 ls []) := by
  obtain ⟨hx, hb, hml, hown, hts⟩ := id S
  have hK := hG.1
  intro n
  induction n with
  | zero => intro x2 x3 hv; exact hv.elim
  | succ n ih =>
    intro x2 x3 hv ls hl
    refine lv_iload_n hx hb dX9_commonOf_4 rfl (lv_at hl 3 rfl) ?_
    refine lv_aload_n hx hb dX9_commonOf_5 rfl (lv_at hl 0 rfl) ?_
    refine va_get (D := g.1) (ci := 9) (v := .ref q1) (C := RX9) (T := TX9) (N := 29) hx hb hts inX9_commonOf_9 hown hK hP 0 rfl rfl 1 (by decide) (hts (.fieldLink RX9 7 "RangeCodesModel" "all" "[I") (List.mem_of_getElem? (i := 1) rfl)) (fun _ h9 => h9) rfl dX9_commonOf_6 ?_
    refine lv_iconst (v := (0 : Int32)) hx hb dX9_commonOf_9 (by decide) ?_
    refine va_iald hx hb hK hP 1 0 rfl rfl (by unfold vp_in; decide) dX9_commonOf_10 ?_
    obtain ⟨hvt, hvf⟩ := hv
    refine lv_icmp_ge (tgt := 43) hx hb dX9_commonOf_11 (by decide) (fun hc => ?_) (fun hc => ?_)
    · have hv := hvt hc
      refine lv_iload_n hx hb dX9_commonOf_43 rfl (lv_at hl 2 rfl) ?_
      exact W.iret (v := x2) hx hb hr (fun t ht hW => ⟨_, rfl, hv, ht⟩) (fun _ h => by cases h) dX9_commonOf_44
    · have hv := hvf hc
      refine lv_iload_n hx hb dX9_commonOf_14 rfl (lv_at hl 1 rfl) ?_
      refine lv_iload_n hx hb dX9_commonOf_15 rfl (lv_at hl 3 rfl) ?_
      obtain ⟨s_16, k_16, ho_1, hv⟩ := hv
      refine vp_callSi (W.runS (As := [.int p1, .int x3]) (rest := []) S (wX9_has l g p1 x3 (sX9_has s_16 k_16 p1 x3 ho_1)) (va_cwS 2 hts gX9_commonOf_X9_has rfl rfl rfl (by decide +kernel) ⟨Nat.le_of_ble_eq_true rfl, Nat.le_of_ble_eq_true rfl⟩) ⟨blindRO, fun U hU hW => ⟨rfl, by rw [hU]; exact hP.sub (ws' := []) [] rfl, hG.warm hW⟩⟩ rfl rfl hl.1 rfl (lv_room (Nat.le_of_ble_eq_true rfl)) dX9_commonOf_16 ⟨Nat.le_of_ble_eq_true rfl, Nat.le_of_ble_eq_true rfl⟩) (fun r_16 hr_16 => ?_)
      have hv := hv r_16 hr_16
      obtain ⟨hvt, hvf⟩ := hv
      refine lv_if_eq (tgt := 35) hx hb dX9_commonOf_19 (by decide) (fun hc => ?_) (fun hc => ?_)
      · have hv := hvt hc
        refine lv_iload_n hx hb dX9_commonOf_35 rfl (lv_at hl 2 rfl) ?_
        refine lv_istore_n (lv' := [(2, .int x2), (0, .ref qM), (1, .int p1), (3, .int x3)]) hx hb dX9_commonOf_36 rfl hl (by decide) rfl (fun ls hl => ?_)
        refine lv_iinc (v := (x3 + (1 : Int32))) (lv' := [(3, .int (x3 + (1 : Int32))), (2, .int x2), (0, .ref qM), (1, .int p1)]) hx hb dX9_commonOf_37 hl (k := 3) rfl rfl (by decide) rfl (fun ls hl => ?_)
        refine lv_goto (tgt := 4) hx hb dX9_commonOf_40 (by decide) ?_
        exact ih _ _ hv ls (lv_sub hl [2, 3, 1, 0] rfl)
      · have hv := hvf hc
        refine lv_iload_n hx hb dX9_commonOf_22 rfl (lv_at hl 2 rfl) ?_
        refine lv_aload_n hx hb dX9_commonOf_23 rfl (lv_at hl 0 rfl) ?_
        refine lv_iload_n hx hb dX9_commonOf_24 rfl (lv_at hl 3 rfl) ?_
        refine lv_iconst (v := (0 : Int32)) hx hb dX9_commonOf_25 (by decide) ?_
        obtain ⟨p_26, w_26, ho_2, hv⟩ := hv
        refine vp_callSi (W.runV (As := [.int x3, .int (0 : Int32)]) (rest := [.int x2]) S (wX9_of l g qM q1 q2 q3 q4 q5 q6 q7 q8 q9 q10 q11 F J al x3 (0 : Int32) (sX9_of p_26 w_26 F J al x3 (0 : Int32) ho_2)) (cwV 2 hts gX9_commonOf_X9_of rfl rfl rfl (by decide +kernel) ⟨Nat.le_of_ble_eq_true rfl, Nat.le_of_ble_eq_true rfl⟩) ⟨blindRO, va_recv hK hP (ci := 9) (q0 := 0) rfl rfl, fun U hU hW => ⟨rfl, by rw [hU]; exact hP.sub (ws' := [(qM, .inr (9, [.int (F 0), .ref q1, .ref q2, .ref q3, .int (F 4), .int (F 5), .int (F 6), .int (F 7), .int (F 8), .int (F 9), .long (J 10), .int (F 11), .int (F 12), .int (F 13), .ref q4, .int (F 15), .ref q5, .ref q6, .ref q7, .int (F 19), .ref q8, .int (F 21), .int (F 22), .int (F 23), .int (F 24), .ref q9, .ref q10, .ref q11, .long (J 28)])), (q1, .inl (g.2 0, 376, .inl al))]) [0, 1] rfl, hG.warm hW⟩⟩ rfl rfl hl.1 rfl (lv_room (Nat.le_of_ble_eq_true rfl)) dX9_commonOf_26 ⟨Nat.le_of_ble_eq_true rfl, Nat.le_of_ble_eq_true rfl⟩) (fun r_26 hr_26 => ?_)
        have hv := hv r_26 hr_26
        obtain ⟨a_29, b_29, ho_3, hv⟩ := hv
        refine vp_callSi (W.runS (As := [.int x2, .int r_26]) (rest := []) S (wX9_common l g x2 r_26 (sX9_common a_29 b_29 x2 r_26 ho_3)) (va_cwS 2 hts gX9_commonOf_X9_common rfl rfl rfl (by decide +kernel) ⟨Nat.le_of_ble_eq_true rfl, Nat.le_of_ble_eq_true rfl⟩) ⟨blindRO, fun U hU hW => ⟨rfl, by rw [hU]; exact hP.sub (ws' := []) [] rfl, hG.warm hW⟩⟩ rfl rfl hl.1 rfl (lv_room (Nat.le_of_ble_eq_true rfl)) dX9_commonOf_29 ⟨Nat.le_of_ble_eq_true rfl, Nat.le_of_ble_eq_true rfl⟩) (fun r_29 hr_29 => ?_)
        have hv := hv r_29 hr_29
        refine lv_goto (tgt := 36) hx hb dX9_commonOf_32 (by decide) ?_
        refine lv_istore_n (lv' := [(2, .int r_29), (0, .ref qM), (1, .int p1), (3, .int x3)]) hx hb dX9_commonOf_36 rfl hl (by decide) rfl (fun ls hl => ?_)
        refine lv_iinc (v := (x3 + (1 : Int32))) (lv' := [(3, .int (x3 + (1 : Int32))), (2, .int r_29), (0, .ref qM), (1, .int p1)]) hx hb dX9_commonOf_37 hl (k := 3) rfl rfl (by decide) rfl (fun ls hl => ?_)
        refine lv_goto (tgt := 4) hx hb dX9_commonOf_40 (by decide) ?_
        exact ih _ _ hv ls (lv_sub hl [2, 3, 1, 0] rfl)
def vX9_commonOf (F : Nat → Int32) (J : Nat → Int64) (al : Nat → Int32) (p1 : Int32) (Q : Int32 → Prop) : Prop := (∃ nn, vX9_commonOf_c4 F J al p1 Q nn (1 : Int32) (0 : Int32))
set_option maxHeartbeats 4000000 in
set_option maxRecDepth 100000 in
theorem wX9_commonOf (l : Launch) (g : GP) (qM : Nat) (q1 : Nat) (q2 : Nat) (q3 : Nat) (q4 : Nat) (q5 : Nat) (q6 : Nat) (q7 : Nat) (q8 : Nat) (q9 : Nat) (q10 : Nat) (q11 : Nat) (F : Nat → Int32) (J : Nat → Int64) (al : Nat → Int32) (p1 : Int32) {Q : Int32 → Prop} (hv : vX9_commonOf F J al p1 Q) : Met l yX9_commonOf wsX9_commonOf rmX9_commonOf (va_Pc [.ref qM, .int p1] (fun U => va_P g.1 vwCl [(qM, .inr (9, [.int (F 0), .ref q1, .ref q2, .ref q3, .int (F 4), .int (F 5), .int (F 6), .int (F 7), .int (F 8), .int (F 9), .long (J 10), .int (F 11), .int (F 12), .int (F 13), .ref q4, .int (F 15), .ref q5, .ref q6, .ref q7, .int (F 19), .ref q8, .int (F 21), .int (F 22), .int (F 23), .int (F 24), .ref q9, .ref q10, .ref q11, .long (J 28)])), (q1, .inl (g.2 0, 376, .inl al))] U.heap ∧ GK g U)) (vp_Si Q) 0 0 (fun _ => False) := by
  refine Met.ofW (cc := cX9_commonOf) (maxL := 4) (ret := (some .int)) (by decide) rfl ?_
  intro p e s m args below meth c s₁ B hml hv'
  obtain ⟨rfl, hP, hG⟩ := hv'
  have S : CallFix p m c cX9_commonOf 4 s _ wsX9_commonOf RX9 := ⟨B.exec, B.bytes, hml, findClass_of_methodNamed B.named, atoms_spec (ws := wsX9_commonOf) B.pre⟩
  obtain ⟨hx, hb, hml, hown, hts⟩ := id S
  have hK := hG.1
  have hr := B.returns
  have hlocks := B.notSynchronized
  have hl := lv_entry ([.ref qM, .int p1]) (n := 4) (Nat.le_of_ble_eq_true rfl)
  rw [lg_entry_eq]
  generalize (lg_sl ([.ref qM, .int p1]) ++ List.replicate (4 - (lg_sl ([.ref qM, .int p1])).length) Slot.unset).toArray = ls at hl ⊢
  have hl : lv_has ls 4 [(0, .ref qM), (1, .int p1)] := hl
  unfold vX9_commonOf at hv
  refine lv_iconst (v := (1 : Int32)) hx hb dX9_commonOf_0 (by decide) ?_
  refine lv_istore_n (lv' := [(2, .int (1 : Int32)), (0, .ref qM), (1, .int p1)]) hx hb dX9_commonOf_1 rfl hl (by decide) rfl (fun ls hl => ?_)
  refine lv_iconst (v := (0 : Int32)) hx hb dX9_commonOf_2 (by decide) ?_
  refine lv_istore_n (lv' := [(3, .int (0 : Int32)), (2, .int (1 : Int32)), (0, .ref qM), (1, .int p1)]) hx hb dX9_commonOf_3 rfl hl (by decide) rfl (fun ls hl => ?_)
  obtain ⟨nn, hv⟩ := hv
  exact kX9_commonOf_c4 S hr hlocks hG hP nn _ _ hv ls (lv_sub hl [2, 3, 1, 0] rfl)
abbrev preX9_commonOf (T : Cd) (s : Nat) (_ : Nat → Int32) (_ : Nat → Int64) (al : Nat → Int32) (p1 : Int32) : Prop := isN T (al 0) ∧ isL T (aL al) ∧ p1.toInt = (s : Int)
abbrev postX9_commonOf (T : Cd) (s : Nat) (_ : Nat → Int32) (_ : Nat → Int64) (_ : Nat → Int32) (_ r : Int32) : Prop := r.toInt = ((lcS T s (cn T) : Nat) : Int)
theorem q_ifB (b : Bool) : ((if b then (1 : Int32) else 0) = 0) = (b = false) := by cases b <;> simp
theorem sX9_commonOf_1 (T : Cd) (s : Nat) (F : Nat → Int32) (J : Nat → Int64) (al : Nat → Int32) (p1 : Int32) (h : preX9_commonOf T s F J al p1) : ∀ (n i : Nat) (x2 x3 : Int32), x2.toInt = ((lcS T s i : Nat) : Int) → x3.toInt = (i : Int) → i ≤ cn T → cn T + 1 ≤ i + n → vX9_commonOf_c4 F J al p1 (postX9_commonOf T s F J al p1) n x2 x3
  | 0, i, x2, x3, _, _, hi, hn => absurd hn (by omega)
  | n + 1, i, x2, x3, h2, h3, hi, hn => by
    obtain ⟨hN, hL, h1⟩ := id h
    have hN5 := hN.2
    rw [vX9_commonOf_c4]
    rw [q_le hN.1 h3]
    refine ⟨fun hc => ?_, fun hc => ?_⟩
    · have : i = cn T := by omega
      subst this
      exact h2
    · have hi2 : i < cn T := by omega
      have h3s := q_1 h3 (by omega)
      refine ⟨s, i, ⟨h1, h3, by omega⟩, fun r hr => ?_⟩
      have hr : r = if s.testBit i then 1 else 0 := hr
      rw [hr, q_ifB]
      refine ⟨fun hb => ?_, fun hb => ⟨i, 0, ⟨h3, rfl, by omega⟩, fun r2 hr2 => ?_⟩⟩
      · refine sX9_commonOf_1 T s F J al p1 h n (i + 1) _ _ ?_ h3s hi2 (by omega)
        rw [lcS, if_neg (by rw [hb]; simp)]
        exact h2
      · have hl := hL i hi2
        have hp := lcS_pos (fun p hp => (hL p hp).2.1) s i hi
        have hq := lcS_le (fun p hp => (hL p hp).2.2) s i hi
        have hq2 := p5_le (k := i) (by omega)
        have hm : lcS T s i * cL T i ≤ 371293 * 13 := Nat.mul_le_mul (by omega) hl.2.2
        have hr2 : r2 = aL al i := hr2
        refine ⟨lcS T s i, cL T i, ⟨h2, by rw [hr2]; exact hl.1, hp, by omega, by omega⟩, fun r3 hr3 => ?_⟩
        refine sX9_commonOf_1 T s F J al p1 h n (i + 1) _ _ ?_ h3s hi2 (by omega)
        rw [lcS, if_pos (by simpa using hb)]
        exact hr3
theorem sX9_commonOf (T : Cd) (s : Nat) (F : Nat → Int32) (J : Nat → Int64) (al : Nat → Int32) (p1 : Int32) (h : preX9_commonOf T s F J al p1) : vX9_commonOf F J al p1 (postX9_commonOf T s F J al p1) :=
  ⟨cn T + 1, sX9_commonOf_1 T s F J al p1 h (cn T + 1) 0 1 0 rfl rfl (by omega) (by omega)⟩
set_option maxRecDepth 20000 in
theorem ggX9_chipOf_X9_of : GoodIn wsX9_chipOf wsX9_of := goodIn_r _ [5, 6, 13, 14, 15, 16, 17, 18, 19, 20, 21, 22, 23, 24, 25, 26, 27, 28, 29, 30, 31, 32, 33, 34, 35, 36, 37, 38, 39, 40, 41] (by decide +kernel) (by decide +kernel)
set_option maxRecDepth 20000 in
theorem gX9_chipOf_X9_of : GoodIn wsX9_chipOf (wsV RX9 195 RX9 yX9_of wsX9_of) := goodIn_app (goodIn_of _ (by decide +kernel)) ggX9_chipOf_X9_of
set_option maxRecDepth 20000 in
theorem ggX9_chipOf_X9_rest : GoodIn wsX9_chipOf wsX9_rest := goodIn_r _ [9] (by decide +kernel) (by decide +kernel)
set_option maxRecDepth 20000 in
theorem gX9_chipOf_X9_rest : GoodIn wsX9_chipOf (va_wsS RX9 55 yX9_rest wsX9_rest) := goodIn_app (goodIn_of _ (by decide +kernel)) ggX9_chipOf_X9_rest
set_option maxRecDepth 20000 in
theorem ggX9_chipOf_X9_has : GoodIn wsX9_chipOf wsX9_has := goodIn_r _ [12] (by decide +kernel) (by decide +kernel)
set_option maxRecDepth 20000 in
theorem gX9_chipOf_X9_has : GoodIn wsX9_chipOf (va_wsS RX9 201 yX9_has wsX9_has) := goodIn_app (goodIn_of _ (by decide +kernel)) ggX9_chipOf_X9_has
theorem dX9_chipOf_0 : decode cX9_chipOf 0 = .ok (.aload_n 0, 1) := by decide +kernel
theorem dX9_chipOf_1 : decode cX9_chipOf 1 = .ok (.iload_n 1, 1) := by decide +kernel
theorem dX9_chipOf_2 : decode cX9_chipOf 2 = .ok (.iconst 2, 1) := by decide +kernel
theorem dX9_chipOf_3 : decode cX9_chipOf 3 = .ok (.invokevirtual 195, 3) := by decide +kernel
theorem dX9_chipOf_6 : decode cX9_chipOf 6 = .ok (.iload_n 2, 1) := by decide +kernel
theorem dX9_chipOf_7 : decode cX9_chipOf 7 = .ok (.aload_n 0, 1) := by decide +kernel
theorem dX9_chipOf_8 : decode cX9_chipOf 8 = .ok (.iload_n 1, 1) := by decide +kernel
theorem dX9_chipOf_9 : decode cX9_chipOf 9 = .ok (.iconst 0, 1) := by decide +kernel
theorem dX9_chipOf_10 : decode cX9_chipOf 10 = .ok (.invokevirtual 195, 3) := by decide +kernel
theorem dX9_chipOf_13 : decode cX9_chipOf 13 = .ok (.invokestatic 55, 3) := by decide +kernel
theorem dX9_chipOf_16 : decode cX9_chipOf 16 = .ok (.invokestatic 201, 3) := by decide +kernel
theorem dX9_chipOf_19 : decode cX9_chipOf 19 = .ok (.ireturn, 1) := by decide +kernel
abbrev rmX9_chipOf : Room := { frames := 1, cells := 0, slots := 0, locals := 22 }
def vX9_chipOf (F : Nat → Int32) (J : Nat → Int64) (al : Nat → Int32) (p1 : Int32) (p2 : Int32) (Q : Int32 → Prop) : Prop := (∃ (p_3 : Nat) (w_3 : Nat), preX9_of p_3 w_3 F J al p1 (2 : Int32) ∧ (∀ r_3 : Int32, postX9_of p_3 w_3 F J al p1 (2 : Int32) r_3 → (∃ (p_10 : Nat) (w_10 : Nat), preX9_of p_10 w_10 F J al p1 (0 : Int32) ∧ (∀ r_10 : Int32, postX9_of p_10 w_10 F J al p1 (0 : Int32) r_10 → (preX9_rest p2 r_10 ∧ (∀ r_13 : Int32, postX9_rest p2 r_10 r_13 → (∃ (s_16 : Nat) (k_16 : Nat), preX9_has s_16 k_16 r_3 r_13 ∧ (∀ r_16 : Int32, postX9_has s_16 k_16 r_3 r_13 r_16 → (narrow .boolean (.int r_16) = .int r_16 ∧ Q r_16)))))))))
set_option maxHeartbeats 4000000 in
set_option maxRecDepth 100000 in
theorem wX9_chipOf (l : Launch) (g : GP) (qM : Nat) (q1 : Nat) (q2 : Nat) (q3 : Nat) (q4 : Nat) (q5 : Nat) (q6 : Nat) (q7 : Nat) (q8 : Nat) (q9 : Nat) (q10 : Nat) (q11 : Nat) (F : Nat → Int32) (J : Nat → Int64) (al : Nat → Int32) (p1 : Int32) (p2 : Int32) {Q : Int32 → Prop} (hv : vX9_chipOf F J al p1 p2 Q) : Met l yX9_chipOf wsX9_chipOf rmX9_chipOf (va_Pc [.ref qM, .int p1, .int p2] (fun U => va_P g.1 vwCl [(qM, .inr (9, [.int (F 0), .ref q1, .ref q2, .ref q3, .int (F 4), .int (F 5), .int (F 6), .int (F 7), .int (F 8), .int (F 9), .long (J 10), .int (F 11), .int (F 12), .int (F 13), .ref q4, .int (F 15), .ref q5, .ref q6, .ref q7, .int (F 19), .ref q8, .int (F 21), .int (F 22), .int (F 23), .int (F 24), .ref q9, .ref q10, .ref q11, .long (J 28)])), (q1, .inl (g.2 0, 376, .inl al))] U.heap ∧ GK g U)) (vp_Si Q) 0 0 (fun _ => False) := by
  refine Met.ofW (cc := cX9_chipOf) (maxL := 3) (ret := (some .boolean)) (by decide) rfl ?_
  intro p e s m args below meth c s₁ B hml hv'
  obtain ⟨rfl, hP, hG⟩ := hv'
  have S : CallFix p m c cX9_chipOf 3 s _ wsX9_chipOf RX9 := ⟨B.exec, B.bytes, hml, findClass_of_methodNamed B.named, atoms_spec (ws := wsX9_chipOf) B.pre⟩
  obtain ⟨hx, hb, hml, hown, hts⟩ := id S
  have hK := hG.1
  have hr := B.returns
  have hlocks := B.notSynchronized
  have hl := lv_entry ([.ref qM, .int p1, .int p2]) (n := 3) (Nat.le_of_ble_eq_true rfl)
  rw [lg_entry_eq]
  generalize (lg_sl ([.ref qM, .int p1, .int p2]) ++ List.replicate (3 - (lg_sl ([.ref qM, .int p1, .int p2])).length) Slot.unset).toArray = ls at hl ⊢
  have hl : lv_has ls 3 [(0, .ref qM), (1, .int p1), (2, .int p2)] := hl
  unfold vX9_chipOf at hv
  refine lv_aload_n hx hb dX9_chipOf_0 rfl (lv_at hl 0 rfl) ?_
  refine lv_iload_n hx hb dX9_chipOf_1 rfl (lv_at hl 1 rfl) ?_
  refine lv_iconst (v := (2 : Int32)) hx hb dX9_chipOf_2 (by decide) ?_
  obtain ⟨p_3, w_3, ho_1, hv⟩ := hv
  refine vp_callSi (W.runV (As := [.int p1, .int (2 : Int32)]) (rest := []) S (wX9_of l g qM q1 q2 q3 q4 q5 q6 q7 q8 q9 q10 q11 F J al p1 (2 : Int32) (sX9_of p_3 w_3 F J al p1 (2 : Int32) ho_1)) (cwV 2 hts gX9_chipOf_X9_of rfl rfl rfl (by decide +kernel) ⟨Nat.le_of_ble_eq_true rfl, Nat.le_of_ble_eq_true rfl⟩) ⟨blindRO, va_recv hK hP (ci := 9) (q0 := 0) rfl rfl, fun U hU hW => ⟨rfl, by rw [hU]; exact hP.sub (ws' := [(qM, .inr (9, [.int (F 0), .ref q1, .ref q2, .ref q3, .int (F 4), .int (F 5), .int (F 6), .int (F 7), .int (F 8), .int (F 9), .long (J 10), .int (F 11), .int (F 12), .int (F 13), .ref q4, .int (F 15), .ref q5, .ref q6, .ref q7, .int (F 19), .ref q8, .int (F 21), .int (F 22), .int (F 23), .int (F 24), .ref q9, .ref q10, .ref q11, .long (J 28)])), (q1, .inl (g.2 0, 376, .inl al))]) [0, 1] rfl, hG.warm hW⟩⟩ rfl rfl hl.1 rfl (lv_room (Nat.le_of_ble_eq_true rfl)) dX9_chipOf_3 ⟨Nat.le_of_ble_eq_true rfl, Nat.le_of_ble_eq_true rfl⟩) (fun r_3 hr_3 => ?_)
  have hv := hv r_3 hr_3
  refine lv_iload_n hx hb dX9_chipOf_6 rfl (lv_at hl 2 rfl) ?_
  refine lv_aload_n hx hb dX9_chipOf_7 rfl (lv_at hl 0 rfl) ?_
  refine lv_iload_n hx hb dX9_chipOf_8 rfl (lv_at hl 1 rfl) ?_
  refine lv_iconst (v := (0 : Int32)) hx hb dX9_chipOf_9 (by decide) ?_
  obtain ⟨p_10, w_10, ho_2, hv⟩ := hv
  refine vp_callSi (W.runV (As := [.int p1, .int (0 : Int32)]) (rest := [.int p2, .int r_3]) S (wX9_of l g qM q1 q2 q3 q4 q5 q6 q7 q8 q9 q10 q11 F J al p1 (0 : Int32) (sX9_of p_10 w_10 F J al p1 (0 : Int32) ho_2)) (cwV 2 hts gX9_chipOf_X9_of rfl rfl rfl (by decide +kernel) ⟨Nat.le_of_ble_eq_true rfl, Nat.le_of_ble_eq_true rfl⟩) ⟨blindRO, va_recv hK hP (ci := 9) (q0 := 0) rfl rfl, fun U hU hW => ⟨rfl, by rw [hU]; exact hP.sub (ws' := [(qM, .inr (9, [.int (F 0), .ref q1, .ref q2, .ref q3, .int (F 4), .int (F 5), .int (F 6), .int (F 7), .int (F 8), .int (F 9), .long (J 10), .int (F 11), .int (F 12), .int (F 13), .ref q4, .int (F 15), .ref q5, .ref q6, .ref q7, .int (F 19), .ref q8, .int (F 21), .int (F 22), .int (F 23), .int (F 24), .ref q9, .ref q10, .ref q11, .long (J 28)])), (q1, .inl (g.2 0, 376, .inl al))]) [0, 1] rfl, hG.warm hW⟩⟩ rfl rfl hl.1 rfl (lv_room (Nat.le_of_ble_eq_true rfl)) dX9_chipOf_10 ⟨Nat.le_of_ble_eq_true rfl, Nat.le_of_ble_eq_true rfl⟩) (fun r_10 hr_10 => ?_)
  have hv := hv r_10 hr_10
  obtain ⟨ho_3, hv⟩ := hv
  refine vp_callSi (W.runS (As := [.int p2, .int r_10]) (rest := [.int r_3]) S (wX9_rest l g p2 r_10 (sX9_rest p2 r_10 ho_3)) (va_cwS 2 hts gX9_chipOf_X9_rest rfl rfl rfl (by decide +kernel) ⟨Nat.le_of_ble_eq_true rfl, Nat.le_of_ble_eq_true rfl⟩) ⟨blindRO, fun U hU hW => ⟨rfl, by rw [hU]; exact hP.sub (ws' := []) [] rfl, hG.warm hW⟩⟩ rfl rfl hl.1 rfl (lv_room (Nat.le_of_ble_eq_true rfl)) dX9_chipOf_13 ⟨Nat.le_of_ble_eq_true rfl, Nat.le_of_ble_eq_true rfl⟩) (fun r_13 hr_13 => ?_)
  have hv := hv r_13 hr_13
  obtain ⟨s_16, k_16, ho_4, hv⟩ := hv
  refine vp_callSi (W.runS (As := [.int r_3, .int r_13]) (rest := []) S (wX9_has l g r_3 r_13 (sX9_has s_16 k_16 r_3 r_13 ho_4)) (va_cwS 2 hts gX9_chipOf_X9_has rfl rfl rfl (by decide +kernel) ⟨Nat.le_of_ble_eq_true rfl, Nat.le_of_ble_eq_true rfl⟩) ⟨blindRO, fun U hU hW => ⟨rfl, by rw [hU]; exact hP.sub (ws' := []) [] rfl, hG.warm hW⟩⟩ rfl rfl hl.1 rfl (lv_room (Nat.le_of_ble_eq_true rfl)) dX9_chipOf_16 ⟨Nat.le_of_ble_eq_true rfl, Nat.le_of_ble_eq_true rfl⟩) (fun r_16 hr_16 => ?_)
  have hv := hv r_16 hr_16
  obtain ⟨hn, hv⟩ := hv
  exact W.zret (v := r_16) (ty := .boolean) hx hb hr hn (fun t ht hW => ⟨_, rfl, hv, ht⟩) (fun _ h => by cases h) dX9_chipOf_19
abbrev preX9_chipOf (T : Cd) (p : Nat) (_ : Nat → Int32) (_ : Nat → Int64) (al : Nat → Int32) (p1 _ : Int32) : Prop := cn T ≤ 5 ∧ isL T (aL al) ∧ isR T (aR al) ∧ p1.toInt = (p : Int) ∧ p < cn T
abbrev postX9_chipOf (T : Cd) (p : Nat) (_ : Nat → Int32) (_ : Nat → Int64) (_ : Nat → Int32) (_ p2 r : Int32) : Prop := r = if chB T p p2.toInt then 1 else 0
theorem q_narB (b : Bool) : narrow .boolean (.int (if b then (1 : Int32) else 0)) = .int (if b then (1 : Int32) else 0) := by cases b <;> rfl
theorem sX9_chipOf (T : Cd) (p : Nat) (F : Nat → Int32) (J : Nat → Int64) (al : Nat → Int32) (p1 p2 : Int32) (h : preX9_chipOf T p F J al p1 p2) : vX9_chipOf F J al p1 p2 (postX9_chipOf T p F J al p1 p2) := by
  obtain ⟨hn, hL, hR, h1, hp⟩ := h
  have hl := hL p hp
  have hr := hR p hp
  refine ⟨p, 2, ⟨h1, rfl, by omega⟩, fun r2 hr2 => ⟨p, 0, ⟨h1, rfl, by omega⟩, fun r3 hr3 => ?_⟩⟩
  have hr2 : r2 = aR al p := by rw [hr2]; show al (5 + 3 * p + 2) = al (7 + 3 * p); congr 1; omega
  have hr3 : r3 = aL al p := hr3
  refine ⟨by show 0 < r3.toInt; rw [hr3]; omega, fun r hq => ?_⟩
  have hq : r.toInt = p2.toInt % r3.toInt := hq
  rw [hr3, hl.1] at hq
  have e := emN (t := p2.toInt) (L := cL T p) (by omega)
  rw [← e.1] at hq
  refine ⟨cR T p, _, ⟨by rw [hr2]; exact hr.1, hq, by omega⟩, fun r4 hr4 => ?_⟩
  rw [hr4]
  exact ⟨q_narB _, rfl⟩
set_option maxRecDepth 20000 in
theorem ggX9_chipAt_X9_chipOf : GoodIn wsX9_chipAt wsX9_chipOf := goodIn_r _ [6, 7, 8, 9, 5, 10, 1, 11, 12, 13, 14, 15, 16, 17, 18, 19, 20, 21, 22, 23, 24, 25, 26, 27, 28, 29, 30, 31, 32, 33, 34, 35, 36, 37, 38, 39, 40, 41, 42, 43, 44, 45] (by decide +kernel) (by decide +kernel)
set_option maxRecDepth 20000 in
theorem gX9_chipAt_X9_chipOf : GoodIn wsX9_chipAt (wsV RX9 207 RX9 yX9_chipOf wsX9_chipOf) := goodIn_app (goodIn_of _ (by decide +kernel)) ggX9_chipAt_X9_chipOf
set_option maxRecDepth 20000 in
theorem ggX9_chipAt_X9_of : GoodIn wsX9_chipAt wsX9_of := goodIn_r _ [10, 1, 17, 18, 19, 20, 21, 22, 23, 24, 25, 26, 27, 28, 29, 30, 31, 32, 33, 34, 35, 36, 37, 38, 39, 40, 41, 42, 43, 44, 45] (by decide +kernel) (by decide +kernel)
set_option maxRecDepth 20000 in
theorem gX9_chipAt_X9_of : GoodIn wsX9_chipAt (wsV RX9 195 RX9 yX9_of wsX9_of) := goodIn_app (goodIn_of _ (by decide +kernel)) ggX9_chipAt_X9_of
theorem dX9_chipAt_0 : decode cX9_chipAt 0 = .ok (.iconst 0, 1) := by decide +kernel
theorem dX9_chipAt_1 : decode cX9_chipAt 1 = .ok (.istore_n 2, 1) := by decide +kernel
theorem dX9_chipAt_2 : decode cX9_chipAt 2 = .ok (.iconst 0, 1) := by decide +kernel
theorem dX9_chipAt_3 : decode cX9_chipAt 3 = .ok (.istore_n 3, 1) := by decide +kernel
theorem dX9_chipAt_4 : decode cX9_chipAt 4 = .ok (.iload_n 3, 1) := by decide +kernel
theorem dX9_chipAt_5 : decode cX9_chipAt 5 = .ok (.aload_n 0, 1) := by decide +kernel
theorem dX9_chipAt_6 : decode cX9_chipAt 6 = .ok (.getfield 7, 3) := by decide +kernel
theorem dX9_chipAt_9 : decode cX9_chipAt 9 = .ok (.iconst 0, 1) := by decide +kernel
theorem dX9_chipAt_10 : decode cX9_chipAt 10 = .ok (.iaload, 1) := by decide +kernel
theorem dX9_chipAt_11 : decode cX9_chipAt 11 = .ok (.if_icmp .ge 37, 3) := by decide +kernel
theorem dX9_chipAt_14 : decode cX9_chipAt 14 = .ok (.iload_n 2, 1) := by decide +kernel
theorem dX9_chipAt_15 : decode cX9_chipAt 15 = .ok (.aload_n 0, 1) := by decide +kernel
theorem dX9_chipAt_16 : decode cX9_chipAt 16 = .ok (.iload_n 3, 1) := by decide +kernel
theorem dX9_chipAt_17 : decode cX9_chipAt 17 = .ok (.iload_n 1, 1) := by decide +kernel
theorem dX9_chipAt_18 : decode cX9_chipAt 18 = .ok (.invokevirtual 207, 3) := by decide +kernel
theorem dX9_chipAt_21 : decode cX9_chipAt 21 = .ok (.ifCond .eq 12, 3) := by decide +kernel
theorem dX9_chipAt_24 : decode cX9_chipAt 24 = .ok (.aload_n 0, 1) := by decide +kernel
theorem dX9_chipAt_25 : decode cX9_chipAt 25 = .ok (.iload_n 3, 1) := by decide +kernel
theorem dX9_chipAt_26 : decode cX9_chipAt 26 = .ok (.iconst 1, 1) := by decide +kernel
theorem dX9_chipAt_27 : decode cX9_chipAt 27 = .ok (.invokevirtual 195, 3) := by decide +kernel
theorem dX9_chipAt_30 : decode cX9_chipAt 30 = .ok (.goto 10, 3) := by decide +kernel
theorem dX9_chipAt_33 : decode cX9_chipAt 33 = .ok (.aload_n 0, 1) := by decide +kernel
theorem dX9_chipAt_34 : decode cX9_chipAt 34 = .ok (.iload_n 3, 1) := by decide +kernel
theorem dX9_chipAt_35 : decode cX9_chipAt 35 = .ok (.iconst 1, 1) := by decide +kernel
theorem dX9_chipAt_36 : decode cX9_chipAt 36 = .ok (.invokevirtual 195, 3) := by decide +kernel
theorem dX9_chipAt_39 : decode cX9_chipAt 39 = .ok (.ineg, 1) := by decide +kernel
theorem dX9_chipAt_40 : decode cX9_chipAt 40 = .ok (.iadd, 1) := by decide +kernel
theorem dX9_chipAt_41 : decode cX9_chipAt 41 = .ok (.istore_n 2, 1) := by decide +kernel
theorem dX9_chipAt_42 : decode cX9_chipAt 42 = .ok (.iinc 3 1, 3) := by decide +kernel
theorem dX9_chipAt_45 : decode cX9_chipAt 45 = .ok (.goto (-41), 3) := by decide +kernel
theorem dX9_chipAt_48 : decode cX9_chipAt 48 = .ok (.iload_n 2, 1) := by decide +kernel
theorem dX9_chipAt_49 : decode cX9_chipAt 49 = .ok (.ifCond .eq 15, 3) := by decide +kernel
theorem dX9_chipAt_52 : decode cX9_chipAt 52 = .ok (.iload_n 2, 1) := by decide +kernel
theorem dX9_chipAt_53 : decode cX9_chipAt 53 = .ok (.ifCond .le 7, 3) := by decide +kernel
theorem dX9_chipAt_56 : decode cX9_chipAt 56 = .ok (.iconst 1, 1) := by decide +kernel
theorem dX9_chipAt_57 : decode cX9_chipAt 57 = .ok (.goto 30, 3) := by decide +kernel
theorem dX9_chipAt_60 : decode cX9_chipAt 60 = .ok (.iconst 0, 1) := by decide +kernel
theorem dX9_chipAt_61 : decode cX9_chipAt 61 = .ok (.goto 26, 3) := by decide +kernel
theorem dX9_chipAt_64 : decode cX9_chipAt 64 = .ok (.aload_n 0, 1) := by decide +kernel
theorem dX9_chipAt_65 : decode cX9_chipAt 65 = .ok (.getfield 7, 3) := by decide +kernel
theorem dX9_chipAt_68 : decode cX9_chipAt 68 = .ok (.iconst 0, 1) := by decide +kernel
theorem dX9_chipAt_69 : decode cX9_chipAt 69 = .ok (.iaload, 1) := by decide +kernel
theorem dX9_chipAt_70 : decode cX9_chipAt 70 = .ok (.ifCond .le 16, 3) := by decide +kernel
theorem dX9_chipAt_73 : decode cX9_chipAt 73 = .ok (.aload_n 0, 1) := by decide +kernel
theorem dX9_chipAt_74 : decode cX9_chipAt 74 = .ok (.iconst 0, 1) := by decide +kernel
theorem dX9_chipAt_75 : decode cX9_chipAt 75 = .ok (.iload_n 1, 1) := by decide +kernel
theorem dX9_chipAt_76 : decode cX9_chipAt 76 = .ok (.invokevirtual 207, 3) := by decide +kernel
theorem dX9_chipAt_79 : decode cX9_chipAt 79 = .ok (.ifCond .eq 7, 3) := by decide +kernel
theorem dX9_chipAt_82 : decode cX9_chipAt 82 = .ok (.iconst 1, 1) := by decide +kernel
theorem dX9_chipAt_83 : decode cX9_chipAt 83 = .ok (.goto 4, 3) := by decide +kernel
theorem dX9_chipAt_86 : decode cX9_chipAt 86 = .ok (.iconst 0, 1) := by decide +kernel
theorem dX9_chipAt_87 : decode cX9_chipAt 87 = .ok (.ireturn, 1) := by decide +kernel
abbrev rmX9_chipAt : Room := { frames := 2, cells := 0, slots := 0, locals := 44 }
theorem inX9_chipAt_9 : ∀ w ∈ wsX90, w ∈ wsX9_chipAt := by decide +kernel
def vX9_chipAt_c4 (F : Nat → Int32) (J : Nat → Int64) (al : Nat → Int32) (p1 : Int32) (Q : Int32 → Prop) : Nat → Int32 → Int32 → Prop
  | 0, _, _ => False
  | n + 1, x2, x3 => (((al 0) ≤ x3 → ((x2 = 0 → (((al 0) ≤ 0 → (Q (0 : Int32))) ∧ (¬ (al 0) ≤ 0 → (∃ (T_76 : Cd) (p_76 : Nat), preX9_chipOf T_76 p_76 F J al (0 : Int32) p1 ∧ (∀ r_76 : Int32, postX9_chipOf T_76 p_76 F J al (0 : Int32) p1 r_76 → ((r_76 = 0 → (Q (0 : Int32))) ∧ (¬ r_76 = 0 → (Q (1 : Int32))))))))) ∧ (¬ x2 = 0 → ((x2 ≤ 0 → (Q (0 : Int32))) ∧ (¬ x2 ≤ 0 → (Q (1 : Int32))))))) ∧ (¬ (al 0) ≤ x3 → (∃ (T_18 : Cd) (p_18 : Nat), preX9_chipOf T_18 p_18 F J al x3 p1 ∧ (∀ r_18 : Int32, postX9_chipOf T_18 p_18 F J al x3 p1 r_18 → ((r_18 = 0 → (∃ (p_36 : Nat) (w_36 : Nat), preX9_of p_36 w_36 F J al x3 (1 : Int32) ∧ (∀ r_36 : Int32, postX9_of p_36 w_36 F J al x3 (1 : Int32) r_36 → (vX9_chipAt_c4 F J al p1 Q n (x2 + (-r_36)) (x3 + (1 : Int32)))))) ∧ (¬ r_18 = 0 → (∃ (p_27 : Nat) (w_27 : Nat), preX9_of p_27 w_27 F J al x3 (1 : Int32) ∧ (∀ r_27 : Int32, postX9_of p_27 w_27 F J al x3 (1 : Int32) r_27 → (vX9_chipAt_c4 F J al p1 Q n (x2 + r_27) (x3 + (1 : Int32)))))))))))
set_option maxHeartbeats 4000000 in
set_option maxRecDepth 100000 in
theorem kX9_chipAt_c4 {p : Program} {l : Launch} {e : Env} {s : State} {m : MethodId} {args : Array Value} {below : List Frame} {meth : Method} {c : Code} {g : GP} {qM q1 q2 q3 q4 q5 q6 q7 q8 q9 q10 q11 : Nat} {F : Nat → Int32} {J : Nat → Int64} {al : Nat → Int32} {p1 : Int32} {Q : Int32 → Prop} (S : CallFix p m c cX9_chipAt 4 s args wsX9_chipAt RX9) (hr : meth.sig.returnType = (some .boolean)) (hlocks : meth.locks = false) (hG : GK g s) (hP : va_P g.1 vwCl [(qM, .inr (9, [.int (F 0), .ref q1, .ref q2, .ref q3, .int (F 4), .int (F 5), .int (F 6), .int (F 7), .int (F 8), .int (F 9), .long (J 10), .int (F 11), .int (F 12), .int (F 13), .ref q4, .int (F 15), .ref q5, .ref q6, .ref q7, .int (F 19), .ref q8, .int (F 21), .int (F 22), .int (F 23), .int (F 24), .ref q9, .ref q10, .ref q11, .long (J 28)])), (q1, .inl (g.2 0, 376, .inl al))] s.heap) : ∀ (n : Nat), ∀ (x2 : Int32) (x3 : Int32), vX9_chipAt_c4 F J al p1 Q n x2 x3 → ∀ (ls : Array Slot), lv_has ls 4 [(0, .ref qM), (1, .int p1), (2, .int x2), (3, .int x3)] → W p l e (headSpec wsX9_chipAt rmX9_chipAt).room s m args below meth c s.heap [] 0 0 (MQ below (vp_Si Q) args s 0 0 (fun _ => False)) (F0 m 4 ls []) := by
  obtain ⟨hx, hb, hml, hown, hts⟩ := id S
  have hK := hG.1
  intro n
  induction n with
  | zero => intro x2 x3 hv; exact hv.elim
  | succ n ih =>
    intro x2 x3 hv ls hl
    refine lv_iload_n hx hb dX9_chipAt_4 rfl (lv_at hl 3 rfl) ?_
    refine lv_aload_n hx hb dX9_chipAt_5 rfl (lv_at hl 0 rfl) ?_
    refine va_get (D := g.1) (ci := 9) (v := .ref q1) (C := RX9) (T := TX9) (N := 29) hx hb hts inX9_chipAt_9 hown hK hP 0 rfl rfl 1 (by decide) (hts (.fieldLink RX9 7 "RangeCodesModel" "all" "[I") (List.mem_of_getElem? (i := 1) rfl)) (fun _ h9 => h9) rfl dX9_chipAt_6 ?_
    refine lv_iconst (v := (0 : Int32)) hx hb dX9_chipAt_9 (by decide) ?_
    refine va_iald hx hb hK hP 1 0 rfl rfl (by unfold vp_in; decide) dX9_chipAt_10 ?_
    obtain ⟨hvt, hvf⟩ := hv
    refine lv_icmp_ge (tgt := 48) hx hb dX9_chipAt_11 (by decide) (fun hc => ?_) (fun hc => ?_)
    · have hv := hvt hc
      refine lv_iload_n hx hb dX9_chipAt_48 rfl (lv_at hl 2 rfl) ?_
      obtain ⟨hvt, hvf⟩ := hv
      refine lv_if_eq (tgt := 64) hx hb dX9_chipAt_49 (by decide) (fun hc => ?_) (fun hc => ?_)
      · have hv := hvt hc
        refine lv_aload_n hx hb dX9_chipAt_64 rfl (lv_at hl 0 rfl) ?_
        refine va_get (D := g.1) (ci := 9) (v := .ref q1) (C := RX9) (T := TX9) (N := 29) hx hb hts inX9_chipAt_9 hown hK hP 0 rfl rfl 1 (by decide) (hts (.fieldLink RX9 7 "RangeCodesModel" "all" "[I") (List.mem_of_getElem? (i := 1) rfl)) (fun _ h9 => h9) rfl dX9_chipAt_65 ?_
        refine lv_iconst (v := (0 : Int32)) hx hb dX9_chipAt_68 (by decide) ?_
        refine va_iald hx hb hK hP 1 0 rfl rfl (by unfold vp_in; decide) dX9_chipAt_69 ?_
        obtain ⟨hvt, hvf⟩ := hv
        refine lv_if_le (tgt := 86) hx hb dX9_chipAt_70 (by decide) (fun hc => ?_) (fun hc => ?_)
        · have hv := hvt hc
          refine lv_iconst (v := (0 : Int32)) hx hb dX9_chipAt_86 (by decide) ?_
          exact W.zret (v := (0 : Int32)) (ty := .boolean) hx hb hr rfl (fun t ht hW => ⟨_, rfl, hv, ht⟩) (fun _ h => by cases h) dX9_chipAt_87
        · have hv := hvf hc
          refine lv_aload_n hx hb dX9_chipAt_73 rfl (lv_at hl 0 rfl) ?_
          refine lv_iconst (v := (0 : Int32)) hx hb dX9_chipAt_74 (by decide) ?_
          refine lv_iload_n hx hb dX9_chipAt_75 rfl (lv_at hl 1 rfl) ?_
          obtain ⟨T_76, p_76, ho_1, hv⟩ := hv
          refine vp_callSi (W.runV (As := [.int (0 : Int32), .int p1]) (rest := []) S (wX9_chipOf l g qM q1 q2 q3 q4 q5 q6 q7 q8 q9 q10 q11 F J al (0 : Int32) p1 (sX9_chipOf T_76 p_76 F J al (0 : Int32) p1 ho_1)) (cwV 2 hts gX9_chipAt_X9_chipOf rfl rfl rfl (by decide +kernel) ⟨Nat.le_of_ble_eq_true rfl, Nat.le_of_ble_eq_true rfl⟩) ⟨blindRO, va_recv hK hP (ci := 9) (q0 := 0) rfl rfl, fun U hU hW => ⟨rfl, by rw [hU]; exact hP.sub (ws' := [(qM, .inr (9, [.int (F 0), .ref q1, .ref q2, .ref q3, .int (F 4), .int (F 5), .int (F 6), .int (F 7), .int (F 8), .int (F 9), .long (J 10), .int (F 11), .int (F 12), .int (F 13), .ref q4, .int (F 15), .ref q5, .ref q6, .ref q7, .int (F 19), .ref q8, .int (F 21), .int (F 22), .int (F 23), .int (F 24), .ref q9, .ref q10, .ref q11, .long (J 28)])), (q1, .inl (g.2 0, 376, .inl al))]) [0, 1] rfl, hG.warm hW⟩⟩ rfl rfl hl.1 rfl (lv_room (Nat.le_of_ble_eq_true rfl)) dX9_chipAt_76 ⟨Nat.le_of_ble_eq_true rfl, Nat.le_of_ble_eq_true rfl⟩) (fun r_76 hr_76 => ?_)
          have hv := hv r_76 hr_76
          obtain ⟨hvt, hvf⟩ := hv
          refine lv_if_eq (tgt := 86) hx hb dX9_chipAt_79 (by decide) (fun hc => ?_) (fun hc => ?_)
          · have hv := hvt hc
            refine lv_iconst (v := (0 : Int32)) hx hb dX9_chipAt_86 (by decide) ?_
            exact W.zret (v := (0 : Int32)) (ty := .boolean) hx hb hr rfl (fun t ht hW => ⟨_, rfl, hv, ht⟩) (fun _ h => by cases h) dX9_chipAt_87
          · have hv := hvf hc
            refine lv_iconst (v := (1 : Int32)) hx hb dX9_chipAt_82 (by decide) ?_
            refine lv_goto (tgt := 87) hx hb dX9_chipAt_83 (by decide) ?_
            exact W.zret (v := (1 : Int32)) (ty := .boolean) hx hb hr rfl (fun t ht hW => ⟨_, rfl, hv, ht⟩) (fun _ h => by cases h) dX9_chipAt_87
      · have hv := hvf hc
        refine lv_iload_n hx hb dX9_chipAt_52 rfl (lv_at hl 2 rfl) ?_
        obtain ⟨hvt, hvf⟩ := hv
        refine lv_if_le (tgt := 60) hx hb dX9_chipAt_53 (by decide) (fun hc => ?_) (fun hc => ?_)
        · have hv := hvt hc
          refine lv_iconst (v := (0 : Int32)) hx hb dX9_chipAt_60 (by decide) ?_
          refine lv_goto (tgt := 87) hx hb dX9_chipAt_61 (by decide) ?_
          exact W.zret (v := (0 : Int32)) (ty := .boolean) hx hb hr rfl (fun t ht hW => ⟨_, rfl, hv, ht⟩) (fun _ h => by cases h) dX9_chipAt_87
        · have hv := hvf hc
          refine lv_iconst (v := (1 : Int32)) hx hb dX9_chipAt_56 (by decide) ?_
          refine lv_goto (tgt := 87) hx hb dX9_chipAt_57 (by decide) ?_
          exact W.zret (v := (1 : Int32)) (ty := .boolean) hx hb hr rfl (fun t ht hW => ⟨_, rfl, hv, ht⟩) (fun _ h => by cases h) dX9_chipAt_87
    · have hv := hvf hc
      refine lv_iload_n hx hb dX9_chipAt_14 rfl (lv_at hl 2 rfl) ?_
      refine lv_aload_n hx hb dX9_chipAt_15 rfl (lv_at hl 0 rfl) ?_
      refine lv_iload_n hx hb dX9_chipAt_16 rfl (lv_at hl 3 rfl) ?_
      refine lv_iload_n hx hb dX9_chipAt_17 rfl (lv_at hl 1 rfl) ?_
      obtain ⟨T_18, p_18, ho_2, hv⟩ := hv
      refine vp_callSi (W.runV (As := [.int x3, .int p1]) (rest := [.int x2]) S (wX9_chipOf l g qM q1 q2 q3 q4 q5 q6 q7 q8 q9 q10 q11 F J al x3 p1 (sX9_chipOf T_18 p_18 F J al x3 p1 ho_2)) (cwV 2 hts gX9_chipAt_X9_chipOf rfl rfl rfl (by decide +kernel) ⟨Nat.le_of_ble_eq_true rfl, Nat.le_of_ble_eq_true rfl⟩) ⟨blindRO, va_recv hK hP (ci := 9) (q0 := 0) rfl rfl, fun U hU hW => ⟨rfl, by rw [hU]; exact hP.sub (ws' := [(qM, .inr (9, [.int (F 0), .ref q1, .ref q2, .ref q3, .int (F 4), .int (F 5), .int (F 6), .int (F 7), .int (F 8), .int (F 9), .long (J 10), .int (F 11), .int (F 12), .int (F 13), .ref q4, .int (F 15), .ref q5, .ref q6, .ref q7, .int (F 19), .ref q8, .int (F 21), .int (F 22), .int (F 23), .int (F 24), .ref q9, .ref q10, .ref q11, .long (J 28)])), (q1, .inl (g.2 0, 376, .inl al))]) [0, 1] rfl, hG.warm hW⟩⟩ rfl rfl hl.1 rfl (lv_room (Nat.le_of_ble_eq_true rfl)) dX9_chipAt_18 ⟨Nat.le_of_ble_eq_true rfl, Nat.le_of_ble_eq_true rfl⟩) (fun r_18 hr_18 => ?_)
      have hv := hv r_18 hr_18
      obtain ⟨hvt, hvf⟩ := hv
      refine lv_if_eq (tgt := 33) hx hb dX9_chipAt_21 (by decide) (fun hc => ?_) (fun hc => ?_)
      · have hv := hvt hc
        refine lv_aload_n hx hb dX9_chipAt_33 rfl (lv_at hl 0 rfl) ?_
        refine lv_iload_n hx hb dX9_chipAt_34 rfl (lv_at hl 3 rfl) ?_
        refine lv_iconst (v := (1 : Int32)) hx hb dX9_chipAt_35 (by decide) ?_
        obtain ⟨p_36, w_36, ho_3, hv⟩ := hv
        refine vp_callSi (W.runV (As := [.int x3, .int (1 : Int32)]) (rest := [.int x2]) S (wX9_of l g qM q1 q2 q3 q4 q5 q6 q7 q8 q9 q10 q11 F J al x3 (1 : Int32) (sX9_of p_36 w_36 F J al x3 (1 : Int32) ho_3)) (cwV 2 hts gX9_chipAt_X9_of rfl rfl rfl (by decide +kernel) ⟨Nat.le_of_ble_eq_true rfl, Nat.le_of_ble_eq_true rfl⟩) ⟨blindRO, va_recv hK hP (ci := 9) (q0 := 0) rfl rfl, fun U hU hW => ⟨rfl, by rw [hU]; exact hP.sub (ws' := [(qM, .inr (9, [.int (F 0), .ref q1, .ref q2, .ref q3, .int (F 4), .int (F 5), .int (F 6), .int (F 7), .int (F 8), .int (F 9), .long (J 10), .int (F 11), .int (F 12), .int (F 13), .ref q4, .int (F 15), .ref q5, .ref q6, .ref q7, .int (F 19), .ref q8, .int (F 21), .int (F 22), .int (F 23), .int (F 24), .ref q9, .ref q10, .ref q11, .long (J 28)])), (q1, .inl (g.2 0, 376, .inl al))]) [0, 1] rfl, hG.warm hW⟩⟩ rfl rfl hl.1 rfl (lv_room (Nat.le_of_ble_eq_true rfl)) dX9_chipAt_36 ⟨Nat.le_of_ble_eq_true rfl, Nat.le_of_ble_eq_true rfl⟩) (fun r_36 hr_36 => ?_)
        have hv := hv r_36 hr_36
        refine lv_ineg hx hb dX9_chipAt_39 ?_
        refine lv_iadd hx hb dX9_chipAt_40 ?_
        refine lv_istore_n (lv' := [(2, .int (x2 + (-r_36))), (0, .ref qM), (1, .int p1), (3, .int x3)]) hx hb dX9_chipAt_41 rfl hl (by decide) rfl (fun ls hl => ?_)
        refine lv_iinc (v := (x3 + (1 : Int32))) (lv' := [(3, .int (x3 + (1 : Int32))), (2, .int (x2 + (-r_36))), (0, .ref qM), (1, .int p1)]) hx hb dX9_chipAt_42 hl (k := 3) rfl rfl (by decide) rfl (fun ls hl => ?_)
        refine lv_goto (tgt := 4) hx hb dX9_chipAt_45 (by decide) ?_
        exact ih _ _ hv ls (lv_sub hl [2, 3, 1, 0] rfl)
      · have hv := hvf hc
        refine lv_aload_n hx hb dX9_chipAt_24 rfl (lv_at hl 0 rfl) ?_
        refine lv_iload_n hx hb dX9_chipAt_25 rfl (lv_at hl 3 rfl) ?_
        refine lv_iconst (v := (1 : Int32)) hx hb dX9_chipAt_26 (by decide) ?_
        obtain ⟨p_27, w_27, ho_4, hv⟩ := hv
        refine vp_callSi (W.runV (As := [.int x3, .int (1 : Int32)]) (rest := [.int x2]) S (wX9_of l g qM q1 q2 q3 q4 q5 q6 q7 q8 q9 q10 q11 F J al x3 (1 : Int32) (sX9_of p_27 w_27 F J al x3 (1 : Int32) ho_4)) (cwV 2 hts gX9_chipAt_X9_of rfl rfl rfl (by decide +kernel) ⟨Nat.le_of_ble_eq_true rfl, Nat.le_of_ble_eq_true rfl⟩) ⟨blindRO, va_recv hK hP (ci := 9) (q0 := 0) rfl rfl, fun U hU hW => ⟨rfl, by rw [hU]; exact hP.sub (ws' := [(qM, .inr (9, [.int (F 0), .ref q1, .ref q2, .ref q3, .int (F 4), .int (F 5), .int (F 6), .int (F 7), .int (F 8), .int (F 9), .long (J 10), .int (F 11), .int (F 12), .int (F 13), .ref q4, .int (F 15), .ref q5, .ref q6, .ref q7, .int (F 19), .ref q8, .int (F 21), .int (F 22), .int (F 23), .int (F 24), .ref q9, .ref q10, .ref q11, .long (J 28)])), (q1, .inl (g.2 0, 376, .inl al))]) [0, 1] rfl, hG.warm hW⟩⟩ rfl rfl hl.1 rfl (lv_room (Nat.le_of_ble_eq_true rfl)) dX9_chipAt_27 ⟨Nat.le_of_ble_eq_true rfl, Nat.le_of_ble_eq_true rfl⟩) (fun r_27 hr_27 => ?_)
        have hv := hv r_27 hr_27
        refine lv_goto (tgt := 40) hx hb dX9_chipAt_30 (by decide) ?_
        refine lv_iadd hx hb dX9_chipAt_40 ?_
        refine lv_istore_n (lv' := [(2, .int (x2 + r_27)), (0, .ref qM), (1, .int p1), (3, .int x3)]) hx hb dX9_chipAt_41 rfl hl (by decide) rfl (fun ls hl => ?_)
        refine lv_iinc (v := (x3 + (1 : Int32))) (lv' := [(3, .int (x3 + (1 : Int32))), (2, .int (x2 + r_27)), (0, .ref qM), (1, .int p1)]) hx hb dX9_chipAt_42 hl (k := 3) rfl rfl (by decide) rfl (fun ls hl => ?_)
        refine lv_goto (tgt := 4) hx hb dX9_chipAt_45 (by decide) ?_
        exact ih _ _ hv ls (lv_sub hl [2, 3, 1, 0] rfl)
def vX9_chipAt (F : Nat → Int32) (J : Nat → Int64) (al : Nat → Int32) (p1 : Int32) (Q : Int32 → Prop) : Prop := (∃ nn, vX9_chipAt_c4 F J al p1 Q nn (0 : Int32) (0 : Int32))
set_option maxHeartbeats 4000000 in
set_option maxRecDepth 100000 in
theorem wX9_chipAt (l : Launch) (g : GP) (qM : Nat) (q1 : Nat) (q2 : Nat) (q3 : Nat) (q4 : Nat) (q5 : Nat) (q6 : Nat) (q7 : Nat) (q8 : Nat) (q9 : Nat) (q10 : Nat) (q11 : Nat) (F : Nat → Int32) (J : Nat → Int64) (al : Nat → Int32) (p1 : Int32) {Q : Int32 → Prop} (hv : vX9_chipAt F J al p1 Q) : Met l yX9_chipAt wsX9_chipAt rmX9_chipAt (va_Pc [.ref qM, .int p1] (fun U => va_P g.1 vwCl [(qM, .inr (9, [.int (F 0), .ref q1, .ref q2, .ref q3, .int (F 4), .int (F 5), .int (F 6), .int (F 7), .int (F 8), .int (F 9), .long (J 10), .int (F 11), .int (F 12), .int (F 13), .ref q4, .int (F 15), .ref q5, .ref q6, .ref q7, .int (F 19), .ref q8, .int (F 21), .int (F 22), .int (F 23), .int (F 24), .ref q9, .ref q10, .ref q11, .long (J 28)])), (q1, .inl (g.2 0, 376, .inl al))] U.heap ∧ GK g U)) (vp_Si Q) 0 0 (fun _ => False) := by
  refine Met.ofW (cc := cX9_chipAt) (maxL := 4) (ret := (some .boolean)) (by decide) rfl ?_
  intro p e s m args below meth c s₁ B hml hv'
  obtain ⟨rfl, hP, hG⟩ := hv'
  have S : CallFix p m c cX9_chipAt 4 s _ wsX9_chipAt RX9 := ⟨B.exec, B.bytes, hml, findClass_of_methodNamed B.named, atoms_spec (ws := wsX9_chipAt) B.pre⟩
  obtain ⟨hx, hb, hml, hown, hts⟩ := id S
  have hK := hG.1
  have hr := B.returns
  have hlocks := B.notSynchronized
  have hl := lv_entry ([.ref qM, .int p1]) (n := 4) (Nat.le_of_ble_eq_true rfl)
  rw [lg_entry_eq]
  generalize (lg_sl ([.ref qM, .int p1]) ++ List.replicate (4 - (lg_sl ([.ref qM, .int p1])).length) Slot.unset).toArray = ls at hl ⊢
  have hl : lv_has ls 4 [(0, .ref qM), (1, .int p1)] := hl
  unfold vX9_chipAt at hv
  refine lv_iconst (v := (0 : Int32)) hx hb dX9_chipAt_0 (by decide) ?_
  refine lv_istore_n (lv' := [(2, .int (0 : Int32)), (0, .ref qM), (1, .int p1)]) hx hb dX9_chipAt_1 rfl hl (by decide) rfl (fun ls hl => ?_)
  refine lv_iconst (v := (0 : Int32)) hx hb dX9_chipAt_2 (by decide) ?_
  refine lv_istore_n (lv' := [(3, .int (0 : Int32)), (2, .int (0 : Int32)), (0, .ref qM), (1, .int p1)]) hx hb dX9_chipAt_3 rfl hl (by decide) rfl (fun ls hl => ?_)
  obtain ⟨nn, hv⟩ := hv
  exact kX9_chipAt_c4 S hr hlocks hG hP nn _ _ hv ls (lv_sub hl [2, 3, 1, 0] rfl)
/-- all votes for yes, less those for no, of the first parts -/
def byZ (T : Cd) (t : Int) : Nat → Int
  | 0 => 0
  | k + 1 => byZ T t k + if chB T k t then (cV T k : Int) else -(cV T k : Int)
theorem byZ_vo (T : Cd) (t : Int) {n : Nat} : ∀ k, k ≤ n → byZ T t k = 2 * (voS T (chS T t n) k : Int) - (voS T (2 ^ n - 1) k : Int)
  | 0, _ => by simp [byZ, voS]
  | k + 1, hk => by
    have ih := byZ_vo T t (n := n) k (by omega)
    have h1 : (chS T t n).testBit k = chB T k t := by rw [chS_bit]; simp [show k < n by omega]
    have h2 : (2 ^ n - 1).testBit k = true := voS_all T (Nat.le_refl n) k (by omega)
    rw [byZ, voS, voS, h1, h2, ih]
    cases chB T k t <;> simp <;> omega
theorem coB_by (T : Cd) (t : Int) : coB T t = if byZ T t (cn T) = 0 then (decide (0 < cn T) && chB T 0 t) else decide (0 < byZ T t (cn T)) := by
  have h := byZ_vo T t (n := cn T) (cn T) (Nat.le_refl _)
  unfold coB elB
  by_cases hz : byZ T t (cn T) = 0
  · rw [if_pos hz, if_pos (by omega), chS_bit]
  · rw [if_neg hz, if_neg (by omega)]
    congr 1
    exact propext (by omega)
theorem byZ_le {T : Cd} (h : ∀ p, p < cn T → cV T p ≤ 9) (t : Int) : ∀ k : Nat, k ≤ cn T → -(9 * (k : Int)) ≤ byZ T t k ∧ byZ T t k ≤ 9 * k
  | 0, _ => by simp [byZ]
  | k + 1, hk => by
    have := byZ_le h t k (by omega)
    have := h k (by omega)
    rw [byZ]; split <;> omega
abbrev preX9_chipAt (T : Cd) (_ : Nat → Int32) (_ : Nat → Int64) (al : Nat → Int32) (_ : Int32) : Prop := mT T al
abbrev postX9_chipAt (T : Cd) (_ : Nat → Int32) (_ : Nat → Int64) (_ : Nat → Int32) (p1 r : Int32) : Prop := r = if coB T p1.toInt then 1 else 0
theorem sX9_chipAt_1 (T : Cd) (F : Nat → Int32) (J : Nat → Int64) (al : Nat → Int32) (p1 : Int32) (h : mT T al) : ∀ (n i : Nat) (x2 x3 : Int32), x2.toInt = byZ T p1.toInt i → x3.toInt = (i : Int) → i ≤ cn T → cn T + 1 ≤ i + n → vX9_chipAt_c4 F J al p1 (postX9_chipAt T F J al p1) n x2 x3
  | 0, i, x2, x3, _, _, hi, hn => absurd hn (by omega)
  | n + 1, i, x2, x3, h2, h3, hi, hn => by
    obtain ⟨hN, hL, hV, hR⟩ := id h
    have hN5 := hN.2
    rw [vX9_chipAt_c4]
    rw [q_le hN.1 h3]
    refine ⟨fun hc => ?_, fun hc => ?_⟩
    · have : i = cn T := by omega
      subst this
      have hco := coB_by T p1.toInt
      rw [fa_eq x2, z0, h2]
      refine ⟨fun hz => ?_, fun hz => ?_⟩
      · rw [if_pos hz] at hco
        rw [q_le hN.1 z0]
        refine ⟨fun hk => ?_, fun hk => ⟨T, 0, ⟨hN5, hL, hR, rfl, by omega⟩, fun r hr => ?_⟩⟩
        · have e0 : cn T = 0 := by omega
          show _ = _
          rw [hco, e0]; rfl
        · have hr : r = if chB T 0 p1.toInt then 1 else 0 := hr
          have e1 : coB T p1.toInt = chB T 0 p1.toInt := by rw [hco]; simp [show 0 < cn T by omega]
          rw [hr, q_ifB]
          refine ⟨fun hb => ?_, fun hb => ?_⟩
          · show _ = _
            rw [e1, hb]; rfl
          · show _ = _
            rw [e1, show chB T 0 p1.toInt = true by simpa using hb]; rfl
      · rw [if_neg hz] at hco
        rw [fa_le, z0, h2]
        refine ⟨fun hk => ?_, fun hk => ?_⟩
        · show _ = _
          rw [hco, decide_eq_false (by omega)]; rfl
        · show _ = _
          rw [hco, decide_eq_true (by omega)]; rfl
    · have hi2 : i < cn T := by omega
      have h3s := q_1 h3 (by omega)
      have hv := hV i hi2
      have hb := byZ_le (fun p hp => (hV p hp).2) p1.toInt i hi
      have hof : al (5 + 3 * i + 1) = aV al i := by show al (5 + 3 * i + 1) = al (6 + 3 * i); congr 1; omega
      refine ⟨T, i, ⟨hN5, hL, hR, h3, hi2⟩, fun r hr => ?_⟩
      have hr : r = if chB T i p1.toInt then 1 else 0 := hr
      rw [hr, q_ifB]
      refine ⟨fun hq => ⟨i, 1, ⟨h3, rfl, by omega⟩, fun r2 hr2 => ?_⟩, fun hq => ⟨i, 1, ⟨h3, rfl, by omega⟩, fun r2 hr2 => ?_⟩⟩
      · refine sX9_chipAt_1 T F J al p1 h n (i + 1) _ _ ?_ h3s hi2 (by omega)
        have hr2 : r2.toInt = (cV T i : Int) := by rw [hr2, hof]; exact hv.1
        have e : (-r2).toInt = -(cV T i : Int) := by rw [fb_negI (by omega), hr2]
        rw [q_add h2 e (by omega) (by omega), byZ, hq]
        simp
      · refine sX9_chipAt_1 T F J al p1 h n (i + 1) _ _ ?_ h3s hi2 (by omega)
        have hr2 : r2.toInt = (cV T i : Int) := by rw [hr2, hof]; exact hv.1
        rw [q_add h2 hr2 (by omega) (by omega), byZ, show chB T i p1.toInt = true by simpa using hq]
        simp
theorem sX9_chipAt (T : Cd) (F : Nat → Int32) (J : Nat → Int64) (al : Nat → Int32) (p1 : Int32) (h : preX9_chipAt T F J al p1) : vX9_chipAt F J al p1 (postX9_chipAt T F J al p1) :=
  ⟨cn T + 1, sX9_chipAt_1 T F J al p1 h (cn T + 1) 0 0 0 rfl rfl (by omega) (by omega)⟩
theorem dX9_thrown_0 : decode cX9_thrown 0 = .ok (.aload_n 0, 1) := by decide +kernel
theorem dX9_thrown_1 : decode cX9_thrown 1 = .ok (.getfield 51, 3) := by decide +kernel
theorem dX9_thrown_4 : decode cX9_thrown 4 = .ok (.ireturn, 1) := by decide +kernel
abbrev rmX9_thrown : Room := { frames := 0, cells := 0, slots := 0, locals := 0 }
theorem inX9_thrown_9 : ∀ w ∈ wsX90, w ∈ wsX9_thrown := by decide +kernel
def vX9_thrown (F : Nat → Int32) (J : Nat → Int64) (Q : Int32 → Prop) : Prop := (Q (F 0))
set_option maxHeartbeats 4000000 in
set_option maxRecDepth 100000 in
theorem wX9_thrown (l : Launch) (g : GP) (qM : Nat) (q1 : Nat) (q2 : Nat) (q3 : Nat) (q4 : Nat) (q5 : Nat) (q6 : Nat) (q7 : Nat) (q8 : Nat) (q9 : Nat) (q10 : Nat) (q11 : Nat) (F : Nat → Int32) (J : Nat → Int64) {Q : Int32 → Prop} (hv : vX9_thrown F J Q) : Met l yX9_thrown wsX9_thrown rmX9_thrown (va_Pc [.ref qM] (fun U => va_P g.1 vwCl [(qM, .inr (9, [.int (F 0), .ref q1, .ref q2, .ref q3, .int (F 4), .int (F 5), .int (F 6), .int (F 7), .int (F 8), .int (F 9), .long (J 10), .int (F 11), .int (F 12), .int (F 13), .ref q4, .int (F 15), .ref q5, .ref q6, .ref q7, .int (F 19), .ref q8, .int (F 21), .int (F 22), .int (F 23), .int (F 24), .ref q9, .ref q10, .ref q11, .long (J 28)]))] U.heap ∧ GK g U)) (vp_Si Q) 0 0 (fun _ => False) := by
  refine Met.ofW (cc := cX9_thrown) (maxL := 1) (ret := (some .int)) (by decide) rfl ?_
  intro p e s m args below meth c s₁ B hml hv'
  obtain ⟨rfl, hP, hG⟩ := hv'
  have S : CallFix p m c cX9_thrown 1 s _ wsX9_thrown RX9 := ⟨B.exec, B.bytes, hml, findClass_of_methodNamed B.named, atoms_spec (ws := wsX9_thrown) B.pre⟩
  obtain ⟨hx, hb, hml, hown, hts⟩ := id S
  have hK := hG.1
  have hr := B.returns
  have hlocks := B.notSynchronized
  have hl := lv_entry ([.ref qM]) (n := 1) (Nat.le_of_ble_eq_true rfl)
  rw [lg_entry_eq]
  generalize (lg_sl ([.ref qM]) ++ List.replicate (1 - (lg_sl ([.ref qM])).length) Slot.unset).toArray = ls at hl ⊢
  have hl : lv_has ls 1 [(0, .ref qM)] := hl
  unfold vX9_thrown at hv
  refine lv_aload_n hx hb dX9_thrown_0 rfl (lv_at hl 0 rfl) ?_
  refine va_get (D := g.1) (ci := 9) (v := .int (F 0)) (C := RX9) (T := TX9) (N := 29) hx hb hts inX9_thrown_9 hown hK hP 0 rfl rfl 0 (by decide) (hts (.fieldLink RX9 51 "RangeCodesModel" "raised" "I") (List.mem_of_getElem? (i := 1) rfl)) (fun _ h9 => h9) rfl dX9_thrown_1 ?_
  exact W.iret (v := (F 0)) hx hb hr (fun t ht hW => ⟨_, rfl, hv, ht⟩) (fun _ h => by cases h) dX9_thrown_4
abbrev preX9_thrown (_ : Nat → Int32) (_ : Nat → Int64) : Prop := True
abbrev postX9_thrown (F : Nat → Int32) (_ : Nat → Int64) (r : Int32) : Prop := r = F 0
theorem sX9_thrown (F : Nat → Int32) (J : Nat → Int64) (_ : preX9_thrown F J) : vX9_thrown F J (postX9_thrown F J) := rfl
