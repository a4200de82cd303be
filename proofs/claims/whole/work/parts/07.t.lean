theorem dX7_hasPart_0 : decode cX7_hasPart 0 = .ok (.iload_n 1, 1) := by decide +kernel
theorem dX7_hasPart_1 : decode cX7_hasPart 1 = .ok (.ifCond .lt 15, 3) := by decide +kernel
theorem dX7_hasPart_4 : decode cX7_hasPart 4 = .ok (.iload_n 1, 1) := by decide +kernel
theorem dX7_hasPart_5 : decode cX7_hasPart 5 = .ok (.aload_n 0, 1) := by decide +kernel
theorem dX7_hasPart_6 : decode cX7_hasPart 6 = .ok (.getfield 32, 3) := by decide +kernel
theorem dX7_hasPart_9 : decode cX7_hasPart 9 = .ok (.if_icmp .ge 7, 3) := by decide +kernel
theorem dX7_hasPart_12 : decode cX7_hasPart 12 = .ok (.iconst 1, 1) := by decide +kernel
theorem dX7_hasPart_13 : decode cX7_hasPart 13 = .ok (.goto 4, 3) := by decide +kernel
theorem dX7_hasPart_16 : decode cX7_hasPart 16 = .ok (.iconst 0, 1) := by decide +kernel
theorem dX7_hasPart_17 : decode cX7_hasPart 17 = .ok (.ireturn, 1) := by decide +kernel
abbrev rmX7_hasPart : Room := { frames := 0, cells := 0, slots := 0, locals := 0 }
theorem inX7_hasPart_7 : ∀ w ∈ wsX70, w ∈ wsX7_hasPart := by decide +kernel
def vX7_hasPart (parts : Int32) (limit : Int32) (p1 : Int32) (Q : Int32 → Prop) : Prop := ((p1 < 0 → (Q (0 : Int32))) ∧ (¬ p1 < 0 → ((parts ≤ p1 → (Q (0 : Int32))) ∧ (¬ parts ≤ p1 → (Q (1 : Int32))))))
set_option maxHeartbeats 4000000 in
set_option maxRecDepth 100000 in
theorem wX7_hasPart (l : Launch) (g : GP) (qt : Nat) (ql : Nat) (qr : Nat) (qv : Nat) (qg : Nat) (parts : Int32) (limit : Int32) (p1 : Int32) {Q : Int32 → Prop} (hv : vX7_hasPart parts limit p1 Q) : Met l yX7_hasPart wsX7_hasPart rmX7_hasPart (va_Pc [.ref qt, .int p1] (fun U => va_P g.1 vwCl [(qt, .inr (7, [.ref ql, .ref qr, .ref qv, .ref qg, .int parts, .int limit]))] U.heap ∧ GK g U)) (vp_Si Q) 0 0 (fun _ => False) := by
  refine Met.ofW (cc := cX7_hasPart) (maxL := 2) (ret := (some .boolean)) (by decide) rfl ?_
  intro p e s m args below meth c s₁ B hml hv'
  obtain ⟨rfl, hP, hG⟩ := hv'
  have S : CallFix p m c cX7_hasPart 2 s _ wsX7_hasPart RX7 := ⟨B.exec, B.bytes, hml, findClass_of_methodNamed B.named, atoms_spec (ws := wsX7_hasPart) B.pre⟩
  obtain ⟨hx, hb, hml, hown, hts⟩ := id S
  have hK := hG.1
  have hr := B.returns
  have hlocks := B.notSynchronized
  have hl := lv_entry ([.ref qt, .int p1]) (n := 2) (Nat.le_of_ble_eq_true rfl)
  rw [lg_entry_eq]
  generalize (lg_sl ([.ref qt, .int p1]) ++ List.replicate (2 - (lg_sl ([.ref qt, .int p1])).length) Slot.unset).toArray = ls at hl ⊢
  have hl : lv_has ls 2 [(0, .ref qt), (1, .int p1)] := hl
  unfold vX7_hasPart at hv
  refine lv_iload_n hx hb dX7_hasPart_0 rfl (lv_at hl 1 rfl) ?_
  obtain ⟨hvt, hvf⟩ := hv
  refine lv_if_lt (tgt := 16) hx hb dX7_hasPart_1 (by decide) (fun hc => ?_) (fun hc => ?_)
  · have hv := hvt hc
    refine lv_iconst (v := (0 : Int32)) hx hb dX7_hasPart_16 (by decide) ?_
    exact W.zret (v := (0 : Int32)) (ty := .boolean) hx hb hr rfl (fun t ht hW => ⟨_, rfl, hv, ht⟩) (fun _ h => by cases h) dX7_hasPart_17
  · have hv := hvf hc
    refine lv_iload_n hx hb dX7_hasPart_4 rfl (lv_at hl 1 rfl) ?_
    refine lv_aload_n hx hb dX7_hasPart_5 rfl (lv_at hl 0 rfl) ?_
    refine va_get (D := g.1) (ci := 7) (v := .int parts) (C := RX7) (T := TX7) (N := 6) hx hb hts inX7_hasPart_7 hown hK hP 0 rfl rfl 4 (by decide) (hts (.fieldLink RX7 32 "RangeCodes$Told" "parts" "I") (List.mem_of_getElem? (i := 1) rfl)) (fun _ h9 => h9) rfl dX7_hasPart_6 ?_
    obtain ⟨hvt, hvf⟩ := hv
    refine lv_icmp_ge (tgt := 16) hx hb dX7_hasPart_9 (by decide) (fun hc => ?_) (fun hc => ?_)
    · have hv := hvt hc
      refine lv_iconst (v := (0 : Int32)) hx hb dX7_hasPart_16 (by decide) ?_
      exact W.zret (v := (0 : Int32)) (ty := .boolean) hx hb hr rfl (fun t ht hW => ⟨_, rfl, hv, ht⟩) (fun _ h => by cases h) dX7_hasPart_17
    · have hv := hvf hc
      refine lv_iconst (v := (1 : Int32)) hx hb dX7_hasPart_12 (by decide) ?_
      refine lv_goto (tgt := 17) hx hb dX7_hasPart_13 (by decide) ?_
      exact W.zret (v := (1 : Int32)) (ty := .boolean) hx hb hr rfl (fun t ht hW => ⟨_, rfl, hv, ht⟩) (fun _ h => by cases h) dX7_hasPart_17
abbrev preX7_hasPart (parts _ : Int32) (_ : Int32) : Prop := True
abbrev postX7_hasPart (parts _ p1 r : Int32) : Prop := r = if 0 ≤ p1.toInt ∧ p1.toInt < parts.toInt then 1 else 0
theorem sX7_hasPart (parts limit p1 : Int32) (_ : preX7_hasPart parts limit p1) : vX7_hasPart parts limit p1 (postX7_hasPart parts limit p1) := by
  unfold vX7_hasPart
  rw [fa_lt, fa_le]
  show ((p1.toInt < 0 → _) ∧ (¬ p1.toInt < 0 → _))
  refine ⟨fun hc => (if_neg (by omega)).symm, fun hc => ⟨fun hd => (if_neg (by omega)).symm, fun hd => (if_pos (by omega)).symm⟩⟩
theorem dX7_allParts_0 : decode cX7_allParts 0 = .ok (.iconst 1, 1) := by decide +kernel
theorem dX7_allParts_1 : decode cX7_allParts 1 = .ok (.aload_n 0, 1) := by decide +kernel
theorem dX7_allParts_2 : decode cX7_allParts 2 = .ok (.getfield 32, 3) := by decide +kernel
theorem dX7_allParts_5 : decode cX7_allParts 5 = .ok (.ishl, 1) := by decide +kernel
theorem dX7_allParts_6 : decode cX7_allParts 6 = .ok (.iconst 1, 1) := by decide +kernel
theorem dX7_allParts_7 : decode cX7_allParts 7 = .ok (.isub, 1) := by decide +kernel
theorem dX7_allParts_8 : decode cX7_allParts 8 = .ok (.ireturn, 1) := by decide +kernel
abbrev rmX7_allParts : Room := { frames := 0, cells := 0, slots := 0, locals := 0 }
theorem inX7_allParts_7 : ∀ w ∈ wsX70, w ∈ wsX7_allParts := by decide +kernel
def vX7_allParts (parts : Int32) (limit : Int32) (Q : Int32 → Prop) : Prop := (Q (((1 : Int32) <<< (parts &&& 31)) - (1 : Int32)))
set_option maxHeartbeats 4000000 in
set_option maxRecDepth 100000 in
theorem wX7_allParts (l : Launch) (g : GP) (qt : Nat) (ql : Nat) (qr : Nat) (qv : Nat) (qg : Nat) (parts : Int32) (limit : Int32) {Q : Int32 → Prop} (hv : vX7_allParts parts limit Q) : Met l yX7_allParts wsX7_allParts rmX7_allParts (va_Pc [.ref qt] (fun U => va_P g.1 vwCl [(qt, .inr (7, [.ref ql, .ref qr, .ref qv, .ref qg, .int parts, .int limit]))] U.heap ∧ GK g U)) (vp_Si Q) 0 0 (fun _ => False) := by
  refine Met.ofW (cc := cX7_allParts) (maxL := 1) (ret := (some .int)) (by decide) rfl ?_
  intro p e s m args below meth c s₁ B hml hv'
  obtain ⟨rfl, hP, hG⟩ := hv'
  have S : CallFix p m c cX7_allParts 1 s _ wsX7_allParts RX7 := ⟨B.exec, B.bytes, hml, findClass_of_methodNamed B.named, atoms_spec (ws := wsX7_allParts) B.pre⟩
  obtain ⟨hx, hb, hml, hown, hts⟩ := id S
  have hK := hG.1
  have hr := B.returns
  have hlocks := B.notSynchronized
  have hl := lv_entry ([.ref qt]) (n := 1) (Nat.le_of_ble_eq_true rfl)
  rw [lg_entry_eq]
  generalize (lg_sl ([.ref qt]) ++ List.replicate (1 - (lg_sl ([.ref qt])).length) Slot.unset).toArray = ls at hl ⊢
  have hl : lv_has ls 1 [(0, .ref qt)] := hl
  unfold vX7_allParts at hv
  refine lv_iconst (v := (1 : Int32)) hx hb dX7_allParts_0 (by decide) ?_
  refine lv_aload_n hx hb dX7_allParts_1 rfl (lv_at hl 0 rfl) ?_
  refine va_get (D := g.1) (ci := 7) (v := .int parts) (C := RX7) (T := TX7) (N := 6) hx hb hts inX7_allParts_7 hown hK hP 0 rfl rfl 4 (by decide) (hts (.fieldLink RX7 32 "RangeCodes$Told" "parts" "I") (List.mem_of_getElem? (i := 1) rfl)) (fun _ h9 => h9) rfl dX7_allParts_2 ?_
  refine lv_ishl hx hb dX7_allParts_5 ?_
  refine lv_iconst (v := (1 : Int32)) hx hb dX7_allParts_6 (by decide) ?_
  refine lv_isub hx hb dX7_allParts_7 ?_
  exact W.iret (v := (((1 : Int32) <<< (parts &&& 31)) - (1 : Int32))) hx hb hr (fun t ht hW => ⟨_, rfl, hv, ht⟩) (fun _ h => by cases h) dX7_allParts_8
theorem q_shl1 : ∀ k, k < 31 → ((1 : Int32) <<< (nI k &&& 31)).toInt = ((2 ^ k : Nat) : Int) := by decide
abbrev preX7_allParts (T : Cd) (parts _ : Int32) : Prop := isN T parts
abbrev postX7_allParts (T : Cd) (_ _ r : Int32) : Prop := r.toInt = ((2 ^ cn T - 1 : Nat) : Int)
theorem sX7_allParts (T : Cd) (parts limit : Int32) (h : preX7_allParts T parts limit) : vX7_allParts parts limit (postX7_allParts T parts limit) := by
  have h1 := q_shl1 (cn T) (by have := h.2; omega)
  have h2 := Nat.two_pow_pos (cn T)
  have h3 := p32_le h.2
  show (((1 : Int32) <<< (parts &&& 31)) - (1 : Int32)).toInt = _
  rw [q_eqN h.1]
  exact q_subN (b := 1) h1 (by decide) (by omega) (by omega)
theorem dX7_hasPlace_0 : decode cX7_hasPlace 0 = .ok (.iload_n 2, 1) := by decide +kernel
theorem dX7_hasPlace_1 : decode cX7_hasPlace 1 = .ok (.ifCond .lt 17, 3) := by decide +kernel
theorem dX7_hasPlace_4 : decode cX7_hasPlace 4 = .ok (.iload_n 2, 1) := by decide +kernel
theorem dX7_hasPlace_5 : decode cX7_hasPlace 5 = .ok (.aload_n 0, 1) := by decide +kernel
theorem dX7_hasPlace_6 : decode cX7_hasPlace 6 = .ok (.getfield 9, 3) := by decide +kernel
theorem dX7_hasPlace_9 : decode cX7_hasPlace 9 = .ok (.iload_n 1, 1) := by decide +kernel
theorem dX7_hasPlace_10 : decode cX7_hasPlace 10 = .ok (.iaload, 1) := by decide +kernel
theorem dX7_hasPlace_11 : decode cX7_hasPlace 11 = .ok (.if_icmp .ge 7, 3) := by decide +kernel
theorem dX7_hasPlace_14 : decode cX7_hasPlace 14 = .ok (.iconst 1, 1) := by decide +kernel
theorem dX7_hasPlace_15 : decode cX7_hasPlace 15 = .ok (.goto 4, 3) := by decide +kernel
theorem dX7_hasPlace_18 : decode cX7_hasPlace 18 = .ok (.iconst 0, 1) := by decide +kernel
theorem dX7_hasPlace_19 : decode cX7_hasPlace 19 = .ok (.ireturn, 1) := by decide +kernel
abbrev rmX7_hasPlace : Room := { frames := 0, cells := 0, slots := 0, locals := 0 }
theorem inX7_hasPlace_7 : ∀ w ∈ wsX70, w ∈ wsX7_hasPlace := by decide +kernel
def vX7_hasPlace (parts : Int32) (limit : Int32) (len : Nat → Int32) (p1 : Int32) (p2 : Int32) (Q : Int32 → Prop) : Prop := ((p2 < 0 → (Q (0 : Int32))) ∧ (¬ p2 < 0 → (vp_in p1 5 ∧ (((len p1.toNatClampNeg) ≤ p2 → (Q (0 : Int32))) ∧ (¬ (len p1.toNatClampNeg) ≤ p2 → (Q (1 : Int32)))))))
set_option maxHeartbeats 4000000 in
set_option maxRecDepth 100000 in
theorem wX7_hasPlace (l : Launch) (g : GP) (qt : Nat) (ql : Nat) (qr : Nat) (qv : Nat) (qg : Nat) (parts : Int32) (limit : Int32) (len : Nat → Int32) (p1 : Int32) (p2 : Int32) {Q : Int32 → Prop} (hv : vX7_hasPlace parts limit len p1 p2 Q) : Met l yX7_hasPlace wsX7_hasPlace rmX7_hasPlace (va_Pc [.ref qt, .int p1, .int p2] (fun U => va_P g.1 vwCl [(qt, .inr (7, [.ref ql, .ref qr, .ref qv, .ref qg, .int parts, .int limit])), (ql, .inl (g.2 0, 5, .inl len))] U.heap ∧ GK g U)) (vp_Si Q) 0 0 (fun _ => False) := by
  refine Met.ofW (cc := cX7_hasPlace) (maxL := 3) (ret := (some .boolean)) (by decide) rfl ?_
  intro p e s m args below meth c s₁ B hml hv'
  obtain ⟨rfl, hP, hG⟩ := hv'
  have S : CallFix p m c cX7_hasPlace 3 s _ wsX7_hasPlace RX7 := ⟨B.exec, B.bytes, hml, findClass_of_methodNamed B.named, atoms_spec (ws := wsX7_hasPlace) B.pre⟩
  obtain ⟨hx, hb, hml, hown, hts⟩ := id S
  have hK := hG.1
  have hr := B.returns
  have hlocks := B.notSynchronized
  have hl := lv_entry ([.ref qt, .int p1, .int p2]) (n := 3) (Nat.le_of_ble_eq_true rfl)
  rw [lg_entry_eq]
  generalize (lg_sl ([.ref qt, .int p1, .int p2]) ++ List.replicate (3 - (lg_sl ([.ref qt, .int p1, .int p2])).length) Slot.unset).toArray = ls at hl ⊢
  have hl : lv_has ls 3 [(0, .ref qt), (1, .int p1), (2, .int p2)] := hl
  unfold vX7_hasPlace at hv
  refine lv_iload_n hx hb dX7_hasPlace_0 rfl (lv_at hl 2 rfl) ?_
  obtain ⟨hvt, hvf⟩ := hv
  refine lv_if_lt (tgt := 18) hx hb dX7_hasPlace_1 (by decide) (fun hc => ?_) (fun hc => ?_)
  · have hv := hvt hc
    refine lv_iconst (v := (0 : Int32)) hx hb dX7_hasPlace_18 (by decide) ?_
    exact W.zret (v := (0 : Int32)) (ty := .boolean) hx hb hr rfl (fun t ht hW => ⟨_, rfl, hv, ht⟩) (fun _ h => by cases h) dX7_hasPlace_19
  · have hv := hvf hc
    refine lv_iload_n hx hb dX7_hasPlace_4 rfl (lv_at hl 2 rfl) ?_
    refine lv_aload_n hx hb dX7_hasPlace_5 rfl (lv_at hl 0 rfl) ?_
    refine va_get (D := g.1) (ci := 7) (v := .ref ql) (C := RX7) (T := TX7) (N := 6) hx hb hts inX7_hasPlace_7 hown hK hP 0 rfl rfl 0 (by decide) (hts (.fieldLink RX7 9 "RangeCodes$Told" "lengths" "[I") (List.mem_of_getElem? (i := 1) rfl)) (fun _ h9 => h9) rfl dX7_hasPlace_6 ?_
    refine lv_iload_n hx hb dX7_hasPlace_9 rfl (lv_at hl 1 rfl) ?_
    obtain ⟨ho_1, hv⟩ := hv
    refine va_iald hx hb hK hP 1 0 rfl rfl ho_1 dX7_hasPlace_10 ?_
    obtain ⟨hvt, hvf⟩ := hv
    refine lv_icmp_ge (tgt := 18) hx hb dX7_hasPlace_11 (by decide) (fun hc => ?_) (fun hc => ?_)
    · have hv := hvt hc
      refine lv_iconst (v := (0 : Int32)) hx hb dX7_hasPlace_18 (by decide) ?_
      exact W.zret (v := (0 : Int32)) (ty := .boolean) hx hb hr rfl (fun t ht hW => ⟨_, rfl, hv, ht⟩) (fun _ h => by cases h) dX7_hasPlace_19
    · have hv := hvf hc
      refine lv_iconst (v := (1 : Int32)) hx hb dX7_hasPlace_14 (by decide) ?_
      refine lv_goto (tgt := 19) hx hb dX7_hasPlace_15 (by decide) ?_
      exact W.zret (v := (1 : Int32)) (ty := .boolean) hx hb hr rfl (fun t ht hW => ⟨_, rfl, hv, ht⟩) (fun _ h => by cases h) dX7_hasPlace_19
abbrev preX7_hasPlace (T : Cd) (p : Nat) (parts _ : Int32) (len : Nat → Int32) (p1 _ : Int32) : Prop := isL T len ∧ cn T ≤ 5 ∧ p1.toInt = (p : Int) ∧ p < cn T
abbrev postX7_hasPlace (T : Cd) (p : Nat) (_ _ : Int32) (_ : Nat → Int32) (_ p2 r : Int32) : Prop := r = if 0 ≤ p2.toInt ∧ p2.toInt < (cL T p : Int) then 1 else 0
theorem sX7_hasPlace (T : Cd) (p : Nat) (parts limit : Int32) (len : Nat → Int32) (p1 p2 : Int32) (h : preX7_hasPlace T p parts limit len p1 p2) : vX7_hasPlace parts limit len p1 p2 (postX7_hasPlace T p parts limit len p1 p2) := by
  obtain ⟨hL, hn, h1, hp⟩ := h
  have hl := (hL p hp).1
  have hin : vp_in p1 5 := q_in h1 (by omega)
  unfold vX7_hasPlace
  rw [fa_lt]
  show ((p2.toInt < 0 → _) ∧ (¬ p2.toInt < 0 → _))
  refine ⟨fun hc => (if_neg (by omega)).symm, fun hc => ⟨hin, ?_⟩⟩
  rw [fa_le, q_cl h1, hl]
  exact ⟨fun hd => (if_neg (by omega)).symm, fun hd => (if_pos (by omega)).symm⟩
set_option maxRecDepth 20000 in
theorem ggX7_periodOf_X8_commonMultiple : GoodIn wsX7_periodOf wsX8_commonMultiple := goodIn_r _ [5, 6, 7, 4, 8] (by decide +kernel) (by decide +kernel)
set_option maxRecDepth 20000 in
theorem gX7_periodOf_X8_commonMultiple_n48 : GoodIn wsX7_periodOf (wsX8_commonMultiple) := ggX7_periodOf_X8_commonMultiple
theorem dX7_periodOf_0 : decode cX7_periodOf 0 = .ok (.iconst 1, 1) := by decide +kernel
theorem dX7_periodOf_1 : decode cX7_periodOf 1 = .ok (.istore_n 2, 1) := by decide +kernel
theorem dX7_periodOf_2 : decode cX7_periodOf 2 = .ok (.iconst 0, 1) := by decide +kernel
theorem dX7_periodOf_3 : decode cX7_periodOf 3 = .ok (.istore_n 3, 1) := by decide +kernel
theorem dX7_periodOf_4 : decode cX7_periodOf 4 = .ok (.iload_n 3, 1) := by decide +kernel
theorem dX7_periodOf_5 : decode cX7_periodOf 5 = .ok (.aload_n 0, 1) := by decide +kernel
theorem dX7_periodOf_6 : decode cX7_periodOf 6 = .ok (.getfield 32, 3) := by decide +kernel
theorem dX7_periodOf_9 : decode cX7_periodOf 9 = .ok (.if_icmp .ge 29, 3) := by decide +kernel
theorem dX7_periodOf_12 : decode cX7_periodOf 12 = .ok (.iload_n 1, 1) := by decide +kernel
theorem dX7_periodOf_13 : decode cX7_periodOf 13 = .ok (.iload_n 3, 1) := by decide +kernel
theorem dX7_periodOf_14 : decode cX7_periodOf 14 = .ok (.ishr, 1) := by decide +kernel
theorem dX7_periodOf_15 : decode cX7_periodOf 15 = .ok (.iconst 1, 1) := by decide +kernel
theorem dX7_periodOf_16 : decode cX7_periodOf 16 = .ok (.iand, 1) := by decide +kernel
theorem dX7_periodOf_17 : decode cX7_periodOf 17 = .ok (.iconst 1, 1) := by decide +kernel
theorem dX7_periodOf_18 : decode cX7_periodOf 18 = .ok (.if_icmp .ne 14, 3) := by decide +kernel
theorem dX7_periodOf_21 : decode cX7_periodOf 21 = .ok (.iload_n 2, 1) := by decide +kernel
theorem dX7_periodOf_22 : decode cX7_periodOf 22 = .ok (.aload_n 0, 1) := by decide +kernel
theorem dX7_periodOf_23 : decode cX7_periodOf 23 = .ok (.getfield 9, 3) := by decide +kernel
theorem dX7_periodOf_26 : decode cX7_periodOf 26 = .ok (.iload_n 3, 1) := by decide +kernel
theorem dX7_periodOf_27 : decode cX7_periodOf 27 = .ok (.iaload, 1) := by decide +kernel
theorem dX7_periodOf_28 : decode cX7_periodOf 28 = .ok (.invokestatic 48, 3) := by decide +kernel
theorem dX7_periodOf_31 : decode cX7_periodOf 31 = .ok (.istore_n 2, 1) := by decide +kernel
theorem dX7_periodOf_32 : decode cX7_periodOf 32 = .ok (.iinc 3 1, 3) := by decide +kernel
theorem dX7_periodOf_35 : decode cX7_periodOf 35 = .ok (.goto (-31), 3) := by decide +kernel
theorem dX7_periodOf_38 : decode cX7_periodOf 38 = .ok (.iload_n 2, 1) := by decide +kernel
theorem dX7_periodOf_39 : decode cX7_periodOf 39 = .ok (.ireturn, 1) := by decide +kernel
abbrev rmX7_periodOf : Room := { frames := 2, cells := 0, slots := 0, locals := 52 }
theorem inX7_periodOf_7 : ∀ w ∈ wsX70, w ∈ wsX7_periodOf := by decide +kernel
def vX7_periodOf_c4 (parts : Int32) (limit : Int32) (len : Nat → Int32) (p1 : Int32) (Q : Int32 → Prop) : Nat → Int32 → Int32 → Prop
  | 0, _, _ => False
  | n + 1, x2, x3 => ((parts ≤ x3 → (Q x2)) ∧ (¬ parts ≤ x3 → ((¬ ((p1 >>> (x3 &&& 31)) &&& (1 : Int32)) = (1 : Int32) → (vX7_periodOf_c4 parts limit len p1 Q n x2 (x3 + (1 : Int32)))) ∧ (((p1 >>> (x3 &&& 31)) &&& (1 : Int32)) = (1 : Int32) → (vp_in x3 5 ∧ (∃ (a_28 : Nat) (b_28 : Nat), preX8_commonMultiple a_28 b_28 x2 (len x3.toNatClampNeg) ∧ (∀ r_28 : Int32, postX8_commonMultiple a_28 b_28 x2 (len x3.toNatClampNeg) r_28 → (vX7_periodOf_c4 parts limit len p1 Q n r_28 (x3 + (1 : Int32))))))))))
set_option maxHeartbeats 4000000 in
set_option maxRecDepth 100000 in
theorem kX7_periodOf_c4 {p : Program} {l : Launch} {e : Env} {s : State} {m : MethodId} {args : Array Value} {below : List Frame} {meth : Method} {c : Code} {g : GP} {qt ql qr qv qg : Nat} {parts : Int32} {limit : Int32} {len : Nat → Int32} {p1 : Int32} {Q : Int32 → Prop} (S : CallFix p m c cX7_periodOf 4 s args wsX7_periodOf RX7) (hr : meth.sig.returnType = (some .int)) (hlocks : meth.locks = false) (hG : GK g s) (hP : va_P g.1 vwCl [(qt, .inr (7, [.ref ql, .ref qr, .ref qv, .ref qg, .int parts, .int limit])), (ql, .inl (g.2 0, 5, .inl len))] s.heap) : ∀ (n : Nat), ∀ (x2 : Int32) (x3 : Int32), vX7_periodOf_c4 parts limit len p1 Q n x2 x3 → ∀ (ls : Array Slot), lv_has ls 4 [(0, .ref qt), (1, .int p1), (2, .int x2), (3, .int x3)] → W p l e (headSpec wsX7_periodOf rmX7_periodOf).room s m args below meth c s.heap [] 0 0 (MQ below (vp_Si Q) args s 0 0 (fun _ => False)) (F0 m 4 ls []) := by
  obtain ⟨hx, hb, hml, hown, hts⟩ := id S
  have hK := hG.1
  intro n
  induction n with
  | zero => intro x2 x3 hv; exact hv.elim
  | succ n ih =>
    intro x2 x3 hv ls hl
    refine lv_iload_n hx hb dX7_periodOf_4 rfl (lv_at hl 3 rfl) ?_
    refine lv_aload_n hx hb dX7_periodOf_5 rfl (lv_at hl 0 rfl) ?_
    refine va_get (D := g.1) (ci := 7) (v := .int parts) (C := RX7) (T := TX7) (N := 6) hx hb hts inX7_periodOf_7 hown hK hP 0 rfl rfl 4 (by decide) (hts (.fieldLink RX7 32 "RangeCodes$Told" "parts" "I") (List.mem_of_getElem? (i := 1) rfl)) (fun _ h9 => h9) rfl dX7_periodOf_6 ?_
    obtain ⟨hvt, hvf⟩ := hv
    refine lv_icmp_ge (tgt := 38) hx hb dX7_periodOf_9 (by decide) (fun hc => ?_) (fun hc => ?_)
    · have hv := hvt hc
      refine lv_iload_n hx hb dX7_periodOf_38 rfl (lv_at hl 2 rfl) ?_
      exact W.iret (v := x2) hx hb hr (fun t ht hW => ⟨_, rfl, hv, ht⟩) (fun _ h => by cases h) dX7_periodOf_39
    · have hv := hvf hc
      refine lv_iload_n hx hb dX7_periodOf_12 rfl (lv_at hl 1 rfl) ?_
      refine lv_iload_n hx hb dX7_periodOf_13 rfl (lv_at hl 3 rfl) ?_
      refine lv_ishr hx hb dX7_periodOf_14 ?_
      refine lv_iconst (v := (1 : Int32)) hx hb dX7_periodOf_15 (by decide) ?_
      refine lv_iand hx hb dX7_periodOf_16 ?_
      refine lv_iconst (v := (1 : Int32)) hx hb dX7_periodOf_17 (by decide) ?_
      obtain ⟨hvt, hvf⟩ := hv
      refine lv_icmp_ne (tgt := 32) hx hb dX7_periodOf_18 (by decide) (fun hc => ?_) (fun hc => ?_)
      · have hv := hvt hc
        refine lv_iinc (v := (x3 + (1 : Int32))) (lv' := [(3, .int (x3 + (1 : Int32))), (0, .ref qt), (1, .int p1), (2, .int x2)]) hx hb dX7_periodOf_32 hl (k := 3) rfl rfl (by decide) rfl (fun ls hl => ?_)
        refine lv_goto (tgt := 4) hx hb dX7_periodOf_35 (by decide) ?_
        exact ih _ _ hv ls (lv_sub hl [1, 2, 3, 0] rfl)
      · have hv := hvf hc
        refine lv_iload_n hx hb dX7_periodOf_21 rfl (lv_at hl 2 rfl) ?_
        refine lv_aload_n hx hb dX7_periodOf_22 rfl (lv_at hl 0 rfl) ?_
        refine va_get (D := g.1) (ci := 7) (v := .ref ql) (C := RX7) (T := TX7) (N := 6) hx hb hts inX7_periodOf_7 hown hK hP 0 rfl rfl 0 (by decide) (hts (.fieldLink RX7 9 "RangeCodes$Told" "lengths" "[I") (List.mem_of_getElem? (i := 2) rfl)) (fun _ h9 => h9) rfl dX7_periodOf_23 ?_
        refine lv_iload_n hx hb dX7_periodOf_26 rfl (lv_at hl 3 rfl) ?_
        obtain ⟨ho_1, hv⟩ := hv
        refine va_iald hx hb hK hP 1 0 rfl rfl ho_1 dX7_periodOf_27 ?_
        obtain ⟨a_28, b_28, ho_2, hv⟩ := hv
        refine vp_callSi (run_of (va_runSN (As := [.int x2, .int (len x3.toNatClampNeg)]) (rest := []) S (wX8_commonMultiple l g x2 (len x3.toNatClampNeg) (sX8_commonMultiple a_28 b_28 x2 (len x3.toNatClampNeg) ho_2)) ⟨va_cnB 2 hts gX7_periodOf_X8_commonMultiple_n48 rfl rfl rfl (hG.2 _ (List.mem_of_getElem? (i := 8) rfl)) (hts (.initialized RX8) (List.mem_of_getElem? (i := 4) rfl)) (by decide +kernel) ⟨Nat.le_of_ble_eq_true rfl, Nat.le_of_ble_eq_true rfl⟩, (hts (.static yX8_commonMultiple) (List.mem_of_getElem? (i := 3) rfl)), trivial⟩ ⟨blindRO, fun U hU hW => ⟨rfl, by rw [hU]; exact hP.sub [] rfl, hG.warm hW⟩⟩ rfl rfl hl.1 rfl (lv_room (Nat.le_of_ble_eq_true rfl)) dX7_periodOf_28 ⟨Nat.le_of_ble_eq_true rfl, Nat.le_of_ble_eq_true rfl⟩)) (fun r_28 hr_28 => ?_)
        have hv := hv r_28 hr_28
        refine lv_istore_n (lv' := [(2, .int r_28), (0, .ref qt), (1, .int p1), (3, .int x3)]) hx hb dX7_periodOf_31 rfl hl (by decide) rfl (fun ls hl => ?_)
        refine lv_iinc (v := (x3 + (1 : Int32))) (lv' := [(3, .int (x3 + (1 : Int32))), (2, .int r_28), (0, .ref qt), (1, .int p1)]) hx hb dX7_periodOf_32 hl (k := 3) rfl rfl (by decide) rfl (fun ls hl => ?_)
        refine lv_goto (tgt := 4) hx hb dX7_periodOf_35 (by decide) ?_
        exact ih _ _ hv ls (lv_sub hl [2, 3, 1, 0] rfl)
def vX7_periodOf (parts : Int32) (limit : Int32) (len : Nat → Int32) (p1 : Int32) (Q : Int32 → Prop) : Prop := (∃ nn, vX7_periodOf_c4 parts limit len p1 Q nn (1 : Int32) (0 : Int32))
set_option maxHeartbeats 4000000 in
set_option maxRecDepth 100000 in
theorem wX7_periodOf (l : Launch) (g : GP) (qt : Nat) (ql : Nat) (qr : Nat) (qv : Nat) (qg : Nat) (parts : Int32) (limit : Int32) (len : Nat → Int32) (p1 : Int32) {Q : Int32 → Prop} (hv : vX7_periodOf parts limit len p1 Q) : Met l yX7_periodOf wsX7_periodOf rmX7_periodOf (va_Pc [.ref qt, .int p1] (fun U => va_P g.1 vwCl [(qt, .inr (7, [.ref ql, .ref qr, .ref qv, .ref qg, .int parts, .int limit])), (ql, .inl (g.2 0, 5, .inl len))] U.heap ∧ GK g U)) (vp_Si Q) 0 0 (fun _ => False) := by
  refine Met.ofW (cc := cX7_periodOf) (maxL := 4) (ret := (some .int)) (by decide) rfl ?_
  intro p e s m args below meth c s₁ B hml hv'
  obtain ⟨rfl, hP, hG⟩ := hv'
  have S : CallFix p m c cX7_periodOf 4 s _ wsX7_periodOf RX7 := ⟨B.exec, B.bytes, hml, findClass_of_methodNamed B.named, atoms_spec (ws := wsX7_periodOf) B.pre⟩
  obtain ⟨hx, hb, hml, hown, hts⟩ := id S
  have hK := hG.1
  have hr := B.returns
  have hlocks := B.notSynchronized
  have hl := lv_entry ([.ref qt, .int p1]) (n := 4) (Nat.le_of_ble_eq_true rfl)
  rw [lg_entry_eq]
  generalize (lg_sl ([.ref qt, .int p1]) ++ List.replicate (4 - (lg_sl ([.ref qt, .int p1])).length) Slot.unset).toArray = ls at hl ⊢
  have hl : lv_has ls 4 [(0, .ref qt), (1, .int p1)] := hl
  unfold vX7_periodOf at hv
  refine lv_iconst (v := (1 : Int32)) hx hb dX7_periodOf_0 (by decide) ?_
  refine lv_istore_n (lv' := [(2, .int (1 : Int32)), (0, .ref qt), (1, .int p1)]) hx hb dX7_periodOf_1 rfl hl (by decide) rfl (fun ls hl => ?_)
  refine lv_iconst (v := (0 : Int32)) hx hb dX7_periodOf_2 (by decide) ?_
  refine lv_istore_n (lv' := [(3, .int (0 : Int32)), (2, .int (1 : Int32)), (0, .ref qt), (1, .int p1)]) hx hb dX7_periodOf_3 rfl hl (by decide) rfl (fun ls hl => ?_)
  obtain ⟨nn, hv⟩ := hv
  exact kX7_periodOf_c4 S hr hlocks hG hP nn _ _ hv ls (lv_sub hl [2, 3, 1, 0] rfl)
abbrev preX7_periodOf (T : Cd) (s : Nat) (parts _ : Int32) (len : Nat → Int32) (p1 : Int32) : Prop := isN T parts ∧ isL T len ∧ p1.toInt = (s : Int)
abbrev postX7_periodOf (T : Cd) (s : Nat) (_ _ : Int32) (_ : Nat → Int32) (_ r : Int32) : Prop := r.toInt = ((lcS T s (cn T) : Nat) : Int)
theorem sX7_periodOf_1 (T : Cd) (s : Nat) (parts limit : Int32) (len : Nat → Int32) (p1 : Int32) (h : preX7_periodOf T s parts limit len p1) : ∀ (n i : Nat) (x2 x3 : Int32), x2.toInt = ((lcS T s i : Nat) : Int) → x3.toInt = (i : Int) → i ≤ cn T → cn T + 1 ≤ i + n → vX7_periodOf_c4 parts limit len p1 (postX7_periodOf T s parts limit len p1) n x2 x3
  | 0, i, x2, x3, _, _, hi, hn => absurd hn (by omega)
  | n + 1, i, x2, x3, h2, h3, hi, hn => by
    obtain ⟨hN, hL, h1⟩ := id h
    have hN5 := hN.2
    rw [vX7_periodOf_c4]
    rw [q_le hN.1 h3]
    refine ⟨fun hc => ?_, fun hc => ?_⟩
    · have : i = cn T := by omega
      subst this
      exact h2
    · have hi2 : i < cn T := by omega
      have h3s := q_1 h3 (by omega)
      rw [q_bitB h1 h3 (by omega)]
      refine ⟨fun hb => ?_, fun hb => ⟨q_in h3 (by omega), ?_⟩⟩
      · refine sX7_periodOf_1 T s parts limit len p1 h n (i + 1) _ _ ?_ h3s hi2 (by omega)
        rw [lcS, if_neg hb]
        exact h2
      · have hl := hL i hi2
        have hp := lcS_pos (fun p hp => (hL p hp).2.1) s i hi
        have hq := lcS_le (fun p hp => (hL p hp).2.2) s i hi
        have hq2 := p5_le (k := i) (by omega)
        have hm : lcS T s i * cL T i ≤ 371293 * 13 := Nat.mul_le_mul (by omega) hl.2.2
        rw [q_cl h3]
        refine ⟨lcS T s i, cL T i, ⟨h2, hl.1, hp, by omega, by omega⟩, fun r hr => ?_⟩
        refine sX7_periodOf_1 T s parts limit len p1 h n (i + 1) _ _ ?_ h3s hi2 (by omega)
        rw [lcS, if_pos hb]
        exact hr
theorem sX7_periodOf (T : Cd) (s : Nat) (parts limit : Int32) (len : Nat → Int32) (p1 : Int32) (h : preX7_periodOf T s parts limit len p1) : vX7_periodOf parts limit len p1 (postX7_periodOf T s parts limit len p1) :=
  ⟨cn T + 1, sX7_periodOf_1 T s parts limit len p1 h (cn T + 1) 0 1 0 rfl rfl (by omega) (by omega)⟩
theorem dX7_votesOf_0 : decode cX7_votesOf 0 = .ok (.iconst 0, 1) := by decide +kernel
theorem dX7_votesOf_1 : decode cX7_votesOf 1 = .ok (.istore_n 2, 1) := by decide +kernel
theorem dX7_votesOf_2 : decode cX7_votesOf 2 = .ok (.iconst 0, 1) := by decide +kernel
theorem dX7_votesOf_3 : decode cX7_votesOf 3 = .ok (.istore_n 3, 1) := by decide +kernel
theorem dX7_votesOf_4 : decode cX7_votesOf 4 = .ok (.iload_n 3, 1) := by decide +kernel
theorem dX7_votesOf_5 : decode cX7_votesOf 5 = .ok (.aload_n 0, 1) := by decide +kernel
theorem dX7_votesOf_6 : decode cX7_votesOf 6 = .ok (.getfield 32, 3) := by decide +kernel
theorem dX7_votesOf_9 : decode cX7_votesOf 9 = .ok (.if_icmp .ge 27, 3) := by decide +kernel
theorem dX7_votesOf_12 : decode cX7_votesOf 12 = .ok (.iload_n 1, 1) := by decide +kernel
theorem dX7_votesOf_13 : decode cX7_votesOf 13 = .ok (.iload_n 3, 1) := by decide +kernel
theorem dX7_votesOf_14 : decode cX7_votesOf 14 = .ok (.ishr, 1) := by decide +kernel
theorem dX7_votesOf_15 : decode cX7_votesOf 15 = .ok (.iconst 1, 1) := by decide +kernel
theorem dX7_votesOf_16 : decode cX7_votesOf 16 = .ok (.iand, 1) := by decide +kernel
theorem dX7_votesOf_17 : decode cX7_votesOf 17 = .ok (.iconst 1, 1) := by decide +kernel
theorem dX7_votesOf_18 : decode cX7_votesOf 18 = .ok (.if_icmp .ne 12, 3) := by decide +kernel
theorem dX7_votesOf_21 : decode cX7_votesOf 21 = .ok (.iload_n 2, 1) := by decide +kernel
theorem dX7_votesOf_22 : decode cX7_votesOf 22 = .ok (.aload_n 0, 1) := by decide +kernel
theorem dX7_votesOf_23 : decode cX7_votesOf 23 = .ok (.getfield 18, 3) := by decide +kernel
theorem dX7_votesOf_26 : decode cX7_votesOf 26 = .ok (.iload_n 3, 1) := by decide +kernel
theorem dX7_votesOf_27 : decode cX7_votesOf 27 = .ok (.iaload, 1) := by decide +kernel
theorem dX7_votesOf_28 : decode cX7_votesOf 28 = .ok (.iadd, 1) := by decide +kernel
theorem dX7_votesOf_29 : decode cX7_votesOf 29 = .ok (.istore_n 2, 1) := by decide +kernel
theorem dX7_votesOf_30 : decode cX7_votesOf 30 = .ok (.iinc 3 1, 3) := by decide +kernel
theorem dX7_votesOf_33 : decode cX7_votesOf 33 = .ok (.goto (-29), 3) := by decide +kernel
theorem dX7_votesOf_36 : decode cX7_votesOf 36 = .ok (.iload_n 2, 1) := by decide +kernel
theorem dX7_votesOf_37 : decode cX7_votesOf 37 = .ok (.ireturn, 1) := by decide +kernel
abbrev rmX7_votesOf : Room := { frames := 0, cells := 0, slots := 0, locals := 0 }
theorem inX7_votesOf_7 : ∀ w ∈ wsX70, w ∈ wsX7_votesOf := by decide +kernel
def vX7_votesOf_c4 (parts : Int32) (limit : Int32) (vot : Nat → Int32) (p1 : Int32) (Q : Int32 → Prop) : Nat → Int32 → Int32 → Prop
  | 0, _, _ => False
  | n + 1, x2, x3 => ((parts ≤ x3 → (Q x2)) ∧ (¬ parts ≤ x3 → ((¬ ((p1 >>> (x3 &&& 31)) &&& (1 : Int32)) = (1 : Int32) → (vX7_votesOf_c4 parts limit vot p1 Q n x2 (x3 + (1 : Int32)))) ∧ (((p1 >>> (x3 &&& 31)) &&& (1 : Int32)) = (1 : Int32) → (vp_in x3 5 ∧ (∀ y_29 : Int32, y_29 = (x2 + (vot x3.toNatClampNeg)) → (vX7_votesOf_c4 parts limit vot p1 Q n y_29 (x3 + (1 : Int32)))))))))
set_option maxHeartbeats 4000000 in
set_option maxRecDepth 100000 in
theorem kX7_votesOf_c4 {p : Program} {l : Launch} {e : Env} {s : State} {m : MethodId} {args : Array Value} {below : List Frame} {meth : Method} {c : Code} {g : GP} {qt ql qr qv qg : Nat} {parts : Int32} {limit : Int32} {vot : Nat → Int32} {p1 : Int32} {Q : Int32 → Prop} (S : CallFix p m c cX7_votesOf 4 s args wsX7_votesOf RX7) (hr : meth.sig.returnType = (some .int)) (hlocks : meth.locks = false) (hG : GK g s) (hP : va_P g.1 vwCl [(qt, .inr (7, [.ref ql, .ref qr, .ref qv, .ref qg, .int parts, .int limit])), (qv, .inl (g.2 0, 5, .inl vot))] s.heap) : ∀ (n : Nat), ∀ (x2 : Int32) (x3 : Int32), vX7_votesOf_c4 parts limit vot p1 Q n x2 x3 → ∀ (ls : Array Slot), lv_has ls 4 [(0, .ref qt), (1, .int p1), (2, .int x2), (3, .int x3)] → W p l e (headSpec wsX7_votesOf rmX7_votesOf).room s m args below meth c s.heap [] 0 0 (MQ below (vp_Si Q) args s 0 0 (fun _ => False)) (F0 m 4 ls []) := by
  obtain ⟨hx, hb, hml, hown, hts⟩ := id S
  have hK := hG.1
  intro n
  induction n with
  | zero => intro x2 x3 hv; exact hv.elim
  | succ n ih =>
    intro x2 x3 hv ls hl
    refine lv_iload_n hx hb dX7_votesOf_4 rfl (lv_at hl 3 rfl) ?_
    refine lv_aload_n hx hb dX7_votesOf_5 rfl (lv_at hl 0 rfl) ?_
    refine va_get (D := g.1) (ci := 7) (v := .int parts) (C := RX7) (T := TX7) (N := 6) hx hb hts inX7_votesOf_7 hown hK hP 0 rfl rfl 4 (by decide) (hts (.fieldLink RX7 32 "RangeCodes$Told" "parts" "I") (List.mem_of_getElem? (i := 1) rfl)) (fun _ h9 => h9) rfl dX7_votesOf_6 ?_
    obtain ⟨hvt, hvf⟩ := hv
    refine lv_icmp_ge (tgt := 36) hx hb dX7_votesOf_9 (by decide) (fun hc => ?_) (fun hc => ?_)
    · have hv := hvt hc
      refine lv_iload_n hx hb dX7_votesOf_36 rfl (lv_at hl 2 rfl) ?_
      exact W.iret (v := x2) hx hb hr (fun t ht hW => ⟨_, rfl, hv, ht⟩) (fun _ h => by cases h) dX7_votesOf_37
    · have hv := hvf hc
      refine lv_iload_n hx hb dX7_votesOf_12 rfl (lv_at hl 1 rfl) ?_
      refine lv_iload_n hx hb dX7_votesOf_13 rfl (lv_at hl 3 rfl) ?_
      refine lv_ishr hx hb dX7_votesOf_14 ?_
      refine lv_iconst (v := (1 : Int32)) hx hb dX7_votesOf_15 (by decide) ?_
      refine lv_iand hx hb dX7_votesOf_16 ?_
      refine lv_iconst (v := (1 : Int32)) hx hb dX7_votesOf_17 (by decide) ?_
      obtain ⟨hvt, hvf⟩ := hv
      refine lv_icmp_ne (tgt := 30) hx hb dX7_votesOf_18 (by decide) (fun hc => ?_) (fun hc => ?_)
      · have hv := hvt hc
        refine lv_iinc (v := (x3 + (1 : Int32))) (lv' := [(3, .int (x3 + (1 : Int32))), (0, .ref qt), (1, .int p1), (2, .int x2)]) hx hb dX7_votesOf_30 hl (k := 3) rfl rfl (by decide) rfl (fun ls hl => ?_)
        refine lv_goto (tgt := 4) hx hb dX7_votesOf_33 (by decide) ?_
        exact ih _ _ hv ls (lv_sub hl [1, 2, 3, 0] rfl)
      · have hv := hvf hc
        refine lv_iload_n hx hb dX7_votesOf_21 rfl (lv_at hl 2 rfl) ?_
        refine lv_aload_n hx hb dX7_votesOf_22 rfl (lv_at hl 0 rfl) ?_
        refine va_get (D := g.1) (ci := 7) (v := .ref qv) (C := RX7) (T := TX7) (N := 6) hx hb hts inX7_votesOf_7 hown hK hP 0 rfl rfl 2 (by decide) (hts (.fieldLink RX7 18 "RangeCodes$Told" "votes" "[I") (List.mem_of_getElem? (i := 2) rfl)) (fun _ h9 => h9) rfl dX7_votesOf_23 ?_
        refine lv_iload_n hx hb dX7_votesOf_26 rfl (lv_at hl 3 rfl) ?_
        obtain ⟨ho_1, hv⟩ := hv
        refine va_iald hx hb hK hP 1 0 rfl rfl ho_1 dX7_votesOf_27 ?_
        refine lv_iadd hx hb dX7_votesOf_28 ?_
        refine lv_topi (fun y_29 ey_29 => ?_)
        have hv := hv y_29 ey_29
        refine lv_istore_n (lv' := [(2, .int y_29), (0, .ref qt), (1, .int p1), (3, .int x3)]) hx hb dX7_votesOf_29 rfl hl (by decide) rfl (fun ls hl => ?_)
        refine lv_iinc (v := (x3 + (1 : Int32))) (lv' := [(3, .int (x3 + (1 : Int32))), (2, .int y_29), (0, .ref qt), (1, .int p1)]) hx hb dX7_votesOf_30 hl (k := 3) rfl rfl (by decide) rfl (fun ls hl => ?_)
        refine lv_goto (tgt := 4) hx hb dX7_votesOf_33 (by decide) ?_
        exact ih _ _ hv ls (lv_sub hl [2, 3, 1, 0] rfl)
def vX7_votesOf (parts : Int32) (limit : Int32) (vot : Nat → Int32) (p1 : Int32) (Q : Int32 → Prop) : Prop := (∃ nn, vX7_votesOf_c4 parts limit vot p1 Q nn (0 : Int32) (0 : Int32))
set_option maxHeartbeats 4000000 in
set_option maxRecDepth 100000 in
theorem wX7_votesOf (l : Launch) (g : GP) (qt : Nat) (ql : Nat) (qr : Nat) (qv : Nat) (qg : Nat) (parts : Int32) (limit : Int32) (vot : Nat → Int32) (p1 : Int32) {Q : Int32 → Prop} (hv : vX7_votesOf parts limit vot p1 Q) : Met l yX7_votesOf wsX7_votesOf rmX7_votesOf (va_Pc [.ref qt, .int p1] (fun U => va_P g.1 vwCl [(qt, .inr (7, [.ref ql, .ref qr, .ref qv, .ref qg, .int parts, .int limit])), (qv, .inl (g.2 0, 5, .inl vot))] U.heap ∧ GK g U)) (vp_Si Q) 0 0 (fun _ => False) := by
  refine Met.ofW (cc := cX7_votesOf) (maxL := 4) (ret := (some .int)) (by decide) rfl ?_
  intro p e s m args below meth c s₁ B hml hv'
  obtain ⟨rfl, hP, hG⟩ := hv'
  have S : CallFix p m c cX7_votesOf 4 s _ wsX7_votesOf RX7 := ⟨B.exec, B.bytes, hml, findClass_of_methodNamed B.named, atoms_spec (ws := wsX7_votesOf) B.pre⟩
  obtain ⟨hx, hb, hml, hown, hts⟩ := id S
  have hK := hG.1
  have hr := B.returns
  have hlocks := B.notSynchronized
  have hl := lv_entry ([.ref qt, .int p1]) (n := 4) (Nat.le_of_ble_eq_true rfl)
  rw [lg_entry_eq]
  generalize (lg_sl ([.ref qt, .int p1]) ++ List.replicate (4 - (lg_sl ([.ref qt, .int p1])).length) Slot.unset).toArray = ls at hl ⊢
  have hl : lv_has ls 4 [(0, .ref qt), (1, .int p1)] := hl
  unfold vX7_votesOf at hv
  refine lv_iconst (v := (0 : Int32)) hx hb dX7_votesOf_0 (by decide) ?_
  refine lv_istore_n (lv' := [(2, .int (0 : Int32)), (0, .ref qt), (1, .int p1)]) hx hb dX7_votesOf_1 rfl hl (by decide) rfl (fun ls hl => ?_)
  refine lv_iconst (v := (0 : Int32)) hx hb dX7_votesOf_2 (by decide) ?_
  refine lv_istore_n (lv' := [(3, .int (0 : Int32)), (2, .int (0 : Int32)), (0, .ref qt), (1, .int p1)]) hx hb dX7_votesOf_3 rfl hl (by decide) rfl (fun ls hl => ?_)
  obtain ⟨nn, hv⟩ := hv
  exact kX7_votesOf_c4 S hr hlocks hG hP nn _ _ hv ls (lv_sub hl [2, 3, 1, 0] rfl)
abbrev preX7_votesOf (T : Cd) (s : Nat) (parts _ : Int32) (vot : Nat → Int32) (p1 : Int32) : Prop := isN T parts ∧ isV T vot ∧ p1.toInt = (s : Int)
abbrev postX7_votesOf (T : Cd) (s : Nat) (_ _ : Int32) (_ : Nat → Int32) (_ r : Int32) : Prop := r.toInt = ((voS T s (cn T) : Nat) : Int)
theorem sX7_votesOf_1 (T : Cd) (s : Nat) (parts limit : Int32) (vot : Nat → Int32) (p1 : Int32) (h : preX7_votesOf T s parts limit vot p1) : ∀ (n i : Nat) (x2 x3 : Int32), x2.toInt = ((voS T s i : Nat) : Int) → x3.toInt = (i : Int) → i ≤ cn T → cn T + 1 ≤ i + n → vX7_votesOf_c4 parts limit vot p1 (postX7_votesOf T s parts limit vot p1) n x2 x3
  | 0, i, x2, x3, _, _, hi, hn => absurd hn (by omega)
  | n + 1, i, x2, x3, h2, h3, hi, hn => by
    obtain ⟨hN, hL, h1⟩ := id h
    have hN5 := hN.2
    rw [vX7_votesOf_c4]
    rw [q_le hN.1 h3]
    refine ⟨fun hc => ?_, fun hc => ?_⟩
    · have : i = cn T := by omega
      subst this
      exact h2
    · have hi2 : i < cn T := by omega
      have h3s := q_1 h3 (by omega)
      rw [q_bitB h1 h3 (by omega)]
      refine ⟨fun hb => ?_, fun hb => ⟨q_in h3 (by omega), ?_⟩⟩
      · refine sX7_votesOf_1 T s parts limit vot p1 h n (i + 1) _ _ ?_ h3s hi2 (by omega)
        rw [voS, if_neg hb]
        exact h2
      · have hl := hL i hi2
        have hp := voS_le (fun p hp => (hL p hp).2) s i hi
        rw [q_cl h3]
        have e := q_addN h2 hl.1 (by omega)
        intro y hy
        rw [hy]
        refine sX7_votesOf_1 T s parts limit vot p1 h n (i + 1) _ _ ?_ h3s hi2 (by omega)
        rw [voS, if_pos hb]
        exact e
theorem sX7_votesOf (T : Cd) (s : Nat) (parts limit : Int32) (vot : Nat → Int32) (p1 : Int32) (h : preX7_votesOf T s parts limit vot p1) : vX7_votesOf parts limit vot p1 (postX7_votesOf T s parts limit vot p1) :=
  ⟨cn T + 1, sX7_votesOf_1 T s parts limit vot p1 h (cn T + 1) 0 0 0 rfl rfl (by omega) (by omega)⟩
set_option maxRecDepth 20000 in
theorem ggX7_chipOf_X8_rest : GoodIn wsX7_chipOf wsX8_rest := goodIn_r _ [5] (by decide +kernel) (by decide +kernel)
set_option maxRecDepth 20000 in
theorem gX7_chipOf_X8_rest_n52 : GoodIn wsX7_chipOf (wsX8_rest) := ggX7_chipOf_X8_rest
theorem dX7_chipOf_0 : decode cX7_chipOf 0 = .ok (.aload_n 0, 1) := by decide +kernel
theorem dX7_chipOf_1 : decode cX7_chipOf 1 = .ok (.getfield 15, 3) := by decide +kernel
theorem dX7_chipOf_4 : decode cX7_chipOf 4 = .ok (.iload_n 1, 1) := by decide +kernel
theorem dX7_chipOf_5 : decode cX7_chipOf 5 = .ok (.iaload, 1) := by decide +kernel
theorem dX7_chipOf_6 : decode cX7_chipOf 6 = .ok (.iload_n 2, 1) := by decide +kernel
theorem dX7_chipOf_7 : decode cX7_chipOf 7 = .ok (.aload_n 0, 1) := by decide +kernel
theorem dX7_chipOf_8 : decode cX7_chipOf 8 = .ok (.getfield 9, 3) := by decide +kernel
theorem dX7_chipOf_11 : decode cX7_chipOf 11 = .ok (.iload_n 1, 1) := by decide +kernel
theorem dX7_chipOf_12 : decode cX7_chipOf 12 = .ok (.iaload, 1) := by decide +kernel
theorem dX7_chipOf_13 : decode cX7_chipOf 13 = .ok (.invokestatic 52, 3) := by decide +kernel
theorem dX7_chipOf_16 : decode cX7_chipOf 16 = .ok (.ishr, 1) := by decide +kernel
theorem dX7_chipOf_17 : decode cX7_chipOf 17 = .ok (.iconst 1, 1) := by decide +kernel
theorem dX7_chipOf_18 : decode cX7_chipOf 18 = .ok (.iand, 1) := by decide +kernel
theorem dX7_chipOf_19 : decode cX7_chipOf 19 = .ok (.ireturn, 1) := by decide +kernel
abbrev rmX7_chipOf : Room := { frames := 1, cells := 0, slots := 0, locals := 22 }
theorem inX7_chipOf_7 : ∀ w ∈ wsX70, w ∈ wsX7_chipOf := by decide +kernel
def vX7_chipOf (parts : Int32) (limit : Int32) (len : Nat → Int32) (row : Nat → Int32) (p1 : Int32) (p2 : Int32) (Q : Int32 → Prop) : Prop := (vp_in p1 5 ∧ (vp_in p1 5 ∧ (preX8_rest p2 (len p1.toNatClampNeg) ∧ (∀ r_13 : Int32, postX8_rest p2 (len p1.toNatClampNeg) r_13 → (Q (((row p1.toNatClampNeg) >>> (r_13 &&& 31)) &&& (1 : Int32)))))))
set_option maxHeartbeats 4000000 in
set_option maxRecDepth 100000 in
theorem wX7_chipOf (l : Launch) (g : GP) (qt : Nat) (ql : Nat) (qr : Nat) (qv : Nat) (qg : Nat) (parts : Int32) (limit : Int32) (len : Nat → Int32) (row : Nat → Int32) (p1 : Int32) (p2 : Int32) {Q : Int32 → Prop} (hv : vX7_chipOf parts limit len row p1 p2 Q) : Met l yX7_chipOf wsX7_chipOf rmX7_chipOf (va_Pc [.ref qt, .int p1, .int p2] (fun U => va_P g.1 vwCl [(qt, .inr (7, [.ref ql, .ref qr, .ref qv, .ref qg, .int parts, .int limit])), (ql, .inl (g.2 0, 5, .inl len)), (qr, .inl (g.2 0, 5, .inl row))] U.heap ∧ GK g U)) (vp_Si Q) 0 0 (fun _ => False) := by
  refine Met.ofW (cc := cX7_chipOf) (maxL := 3) (ret := (some .int)) (by decide) rfl ?_
  intro p e s m args below meth c s₁ B hml hv'
  obtain ⟨rfl, hP, hG⟩ := hv'
  have S : CallFix p m c cX7_chipOf 3 s _ wsX7_chipOf RX7 := ⟨B.exec, B.bytes, hml, findClass_of_methodNamed B.named, atoms_spec (ws := wsX7_chipOf) B.pre⟩
  obtain ⟨hx, hb, hml, hown, hts⟩ := id S
  have hK := hG.1
  have hr := B.returns
  have hlocks := B.notSynchronized
  have hl := lv_entry ([.ref qt, .int p1, .int p2]) (n := 3) (Nat.le_of_ble_eq_true rfl)
  rw [lg_entry_eq]
  generalize (lg_sl ([.ref qt, .int p1, .int p2]) ++ List.replicate (3 - (lg_sl ([.ref qt, .int p1, .int p2])).length) Slot.unset).toArray = ls at hl ⊢
  have hl : lv_has ls 3 [(0, .ref qt), (1, .int p1), (2, .int p2)] := hl
  unfold vX7_chipOf at hv
  refine lv_aload_n hx hb dX7_chipOf_0 rfl (lv_at hl 0 rfl) ?_
  refine va_get (D := g.1) (ci := 7) (v := .ref qr) (C := RX7) (T := TX7) (N := 6) hx hb hts inX7_chipOf_7 hown hK hP 0 rfl rfl 1 (by decide) (hts (.fieldLink RX7 15 "RangeCodes$Told" "rows" "[I") (List.mem_of_getElem? (i := 1) rfl)) (fun _ h9 => h9) rfl dX7_chipOf_1 ?_
  refine lv_iload_n hx hb dX7_chipOf_4 rfl (lv_at hl 1 rfl) ?_
  obtain ⟨ho_1, hv⟩ := hv
  refine va_iald hx hb hK hP 2 0 rfl rfl ho_1 dX7_chipOf_5 ?_
  refine lv_iload_n hx hb dX7_chipOf_6 rfl (lv_at hl 2 rfl) ?_
  refine lv_aload_n hx hb dX7_chipOf_7 rfl (lv_at hl 0 rfl) ?_
  refine va_get (D := g.1) (ci := 7) (v := .ref ql) (C := RX7) (T := TX7) (N := 6) hx hb hts inX7_chipOf_7 hown hK hP 0 rfl rfl 0 (by decide) (hts (.fieldLink RX7 9 "RangeCodes$Told" "lengths" "[I") (List.mem_of_getElem? (i := 2) rfl)) (fun _ h9 => h9) rfl dX7_chipOf_8 ?_
  refine lv_iload_n hx hb dX7_chipOf_11 rfl (lv_at hl 1 rfl) ?_
  obtain ⟨ho_2, hv⟩ := hv
  refine va_iald hx hb hK hP 1 0 rfl rfl ho_2 dX7_chipOf_12 ?_
  obtain ⟨ho_3, hv⟩ := hv
  refine vp_callSi (run_of (va_runSN (As := [.int p2, .int (len p1.toNatClampNeg)]) (rest := [.int (row p1.toNatClampNeg)]) S (wX8_rest l g p2 (len p1.toNatClampNeg) (sX8_rest p2 (len p1.toNatClampNeg) ho_3)) ⟨va_cnB 2 hts gX7_chipOf_X8_rest_n52 rfl rfl rfl (hG.2 _ (List.mem_of_getElem? (i := 9) rfl)) (hts (.initialized RX8) (List.mem_of_getElem? (i := 4) rfl)) (by decide +kernel) ⟨Nat.le_of_ble_eq_true rfl, Nat.le_of_ble_eq_true rfl⟩, (hts (.static yX8_rest) (List.mem_of_getElem? (i := 3) rfl)), trivial⟩ ⟨blindRO, fun U hU hW => ⟨rfl, by rw [hU]; exact hP.sub [] rfl, hG.warm hW⟩⟩ rfl rfl hl.1 rfl (lv_room (Nat.le_of_ble_eq_true rfl)) dX7_chipOf_13 ⟨Nat.le_of_ble_eq_true rfl, Nat.le_of_ble_eq_true rfl⟩)) (fun r_13 hr_13 => ?_)
  have hv := hv r_13 hr_13
  refine lv_ishr hx hb dX7_chipOf_16 ?_
  refine lv_iconst (v := (1 : Int32)) hx hb dX7_chipOf_17 (by decide) ?_
  refine lv_iand hx hb dX7_chipOf_18 ?_
  exact W.iret (v := (((row p1.toNatClampNeg) >>> (r_13 &&& 31)) &&& (1 : Int32))) hx hb hr (fun t ht hW => ⟨_, rfl, hv, ht⟩) (fun _ h => by cases h) dX7_chipOf_19
abbrev preX7_chipOf (T : Cd) (p : Nat) (_ _ : Int32) (len row : Nat → Int32) (p1 _ : Int32) : Prop := cn T ≤ 5 ∧ isL T len ∧ isR T row ∧ p1.toInt = (p : Int) ∧ p < cn T
abbrev postX7_chipOf (T : Cd) (p : Nat) (_ _ : Int32) (_ _ : Nat → Int32) (_ p2 r : Int32) : Prop := r = if chB T p p2.toInt then 1 else 0
theorem sX7_chipOf (T : Cd) (p : Nat) (parts limit : Int32) (len row : Nat → Int32) (p1 p2 : Int32) (h : preX7_chipOf T p parts limit len row p1 p2) : vX7_chipOf parts limit len row p1 p2 (postX7_chipOf T p parts limit len row p1 p2) := by
  obtain ⟨hn, hL, hR, h1, hp⟩ := h
  have hl := hL p hp
  have hr := hR p hp
  have hin : vp_in p1 5 := q_in h1 (by omega)
  refine ⟨hin, hin, ?_⟩
  rw [q_cl h1]
  refine ⟨by show 0 < (len p).toInt; omega, fun r hq => ?_⟩
  have hq : r.toInt = p2.toInt % (len p).toInt := hq
  rw [hl.1] at hq
  have e := emN (t := p2.toInt) (L := cL T p) (by omega)
  rw [← e.1] at hq
  exact q_bit hr.1 hq (by omega)
set_option maxRecDepth 20000 in
theorem ggX7_election_X7_hasPart : GoodIn wsX7_election wsX7_hasPart := goodIn_r _ [6, 7, 16, 17, 18, 19, 20, 21] (by decide +kernel) (by decide +kernel)
set_option maxRecDepth 20000 in
theorem gX7_election_X7_hasPart : GoodIn wsX7_election (wsV RX7 55 RX7 yX7_hasPart wsX7_hasPart) := goodIn_app (goodIn_of _ (by decide +kernel)) ggX7_election_X7_hasPart
set_option maxRecDepth 20000 in
theorem ggX7_election_X7_allParts : GoodIn wsX7_election wsX7_allParts := goodIn_r _ [11, 7, 16, 17, 18, 19, 20, 21] (by decide +kernel) (by decide +kernel)
set_option maxRecDepth 20000 in
theorem gX7_election_X7_allParts : GoodIn wsX7_election (wsV RX7 59 RX7 yX7_allParts wsX7_allParts) := goodIn_app (goodIn_of _ (by decide +kernel)) ggX7_election_X7_allParts
set_option maxRecDepth 20000 in
theorem ggX7_election_X7_votesOf : GoodIn wsX7_election wsX7_votesOf := goodIn_r _ [15, 7, 1, 16, 17, 18, 19, 20, 21] (by decide +kernel) (by decide +kernel)
set_option maxRecDepth 20000 in
theorem gX7_election_X7_votesOf : GoodIn wsX7_election (wsV RX7 63 RX7 yX7_votesOf wsX7_votesOf) := goodIn_app (goodIn_of _ (by decide +kernel)) ggX7_election_X7_votesOf
theorem dX7_election_0 : decode cX7_election 0 = .ok (.aload_n 0, 1) := by decide +kernel
theorem dX7_election_1 : decode cX7_election 1 = .ok (.iload_n 1, 1) := by decide +kernel
theorem dX7_election_2 : decode cX7_election 2 = .ok (.invokevirtual 55, 3) := by decide +kernel
theorem dX7_election_5 : decode cX7_election 5 = .ok (.ifCond .eq 14, 3) := by decide +kernel
theorem dX7_election_8 : decode cX7_election 8 = .ok (.iload_n 2, 1) := by decide +kernel
theorem dX7_election_9 : decode cX7_election 9 = .ok (.aload_n 0, 1) := by decide +kernel
theorem dX7_election_10 : decode cX7_election 10 = .ok (.getfield 18, 3) := by decide +kernel
theorem dX7_election_13 : decode cX7_election 13 = .ok (.iload_n 1, 1) := by decide +kernel
theorem dX7_election_14 : decode cX7_election 14 = .ok (.iaload, 1) := by decide +kernel
theorem dX7_election_15 : decode cX7_election 15 = .ok (.isub, 1) := by decide +kernel
theorem dX7_election_16 : decode cX7_election 16 = .ok (.goto 4, 3) := by decide +kernel
theorem dX7_election_19 : decode cX7_election 19 = .ok (.iconst 0, 1) := by decide +kernel
theorem dX7_election_20 : decode cX7_election 20 = .ok (.istore_n 3, 1) := by decide +kernel
theorem dX7_election_21 : decode cX7_election 21 = .ok (.aload_n 0, 1) := by decide +kernel
theorem dX7_election_22 : decode cX7_election 22 = .ok (.aload_n 0, 1) := by decide +kernel
theorem dX7_election_23 : decode cX7_election 23 = .ok (.invokevirtual 59, 3) := by decide +kernel
theorem dX7_election_26 : decode cX7_election 26 = .ok (.invokevirtual 63, 3) := by decide +kernel
theorem dX7_election_29 : decode cX7_election 29 = .ok (.iload_n 3, 1) := by decide +kernel
theorem dX7_election_30 : decode cX7_election 30 = .ok (.iadd, 1) := by decide +kernel
theorem dX7_election_31 : decode cX7_election 31 = .ok (.istore 4, 2) := by decide +kernel
theorem dX7_election_33 : decode cX7_election 33 = .ok (.iconst 0, 1) := by decide +kernel
theorem dX7_election_34 : decode cX7_election 34 = .ok (.istore 5, 2) := by decide +kernel
theorem dX7_election_36 : decode cX7_election 36 = .ok (.iconst 0, 1) := by decide +kernel
theorem dX7_election_37 : decode cX7_election 37 = .ok (.istore 6, 2) := by decide +kernel
theorem dX7_election_39 : decode cX7_election 39 = .ok (.iload 6, 2) := by decide +kernel
theorem dX7_election_41 : decode cX7_election 41 = .ok (.aload_n 0, 1) := by decide +kernel
theorem dX7_election_42 : decode cX7_election 42 = .ok (.invokevirtual 59, 3) := by decide +kernel
theorem dX7_election_45 : decode cX7_election 45 = .ok (.if_icmp .gt 96, 3) := by decide +kernel
theorem dX7_election_48 : decode cX7_election 48 = .ok (.aload_n 0, 1) := by decide +kernel
theorem dX7_election_49 : decode cX7_election 49 = .ok (.iload 6, 2) := by decide +kernel
theorem dX7_election_51 : decode cX7_election 51 = .ok (.invokevirtual 63, 3) := by decide +kernel
theorem dX7_election_54 : decode cX7_election 54 = .ok (.istore 7, 2) := by decide +kernel
theorem dX7_election_56 : decode cX7_election 56 = .ok (.aload_n 0, 1) := by decide +kernel
theorem dX7_election_57 : decode cX7_election 57 = .ok (.iload_n 1, 1) := by decide +kernel
theorem dX7_election_58 : decode cX7_election 58 = .ok (.invokevirtual 55, 3) := by decide +kernel
theorem dX7_election_61 : decode cX7_election 61 = .ok (.ifCond .eq 19, 3) := by decide +kernel
theorem dX7_election_64 : decode cX7_election 64 = .ok (.iload 6, 2) := by decide +kernel
theorem dX7_election_66 : decode cX7_election 66 = .ok (.iload_n 1, 1) := by decide +kernel
theorem dX7_election_67 : decode cX7_election 67 = .ok (.ishr, 1) := by decide +kernel
theorem dX7_election_68 : decode cX7_election 68 = .ok (.iconst 1, 1) := by decide +kernel
theorem dX7_election_69 : decode cX7_election 69 = .ok (.iand, 1) := by decide +kernel
theorem dX7_election_70 : decode cX7_election 70 = .ok (.iconst 1, 1) := by decide +kernel
theorem dX7_election_71 : decode cX7_election 71 = .ok (.if_icmp .ne 9, 3) := by decide +kernel
theorem dX7_election_74 : decode cX7_election 74 = .ok (.iload 7, 2) := by decide +kernel
theorem dX7_election_76 : decode cX7_election 76 = .ok (.iload_n 3, 1) := by decide +kernel
theorem dX7_election_77 : decode cX7_election 77 = .ok (.iadd, 1) := by decide +kernel
theorem dX7_election_78 : decode cX7_election 78 = .ok (.istore 7, 2) := by decide +kernel
theorem dX7_election_80 : decode cX7_election 80 = .ok (.iconst 2, 1) := by decide +kernel
theorem dX7_election_81 : decode cX7_election 81 = .ok (.iload 7, 2) := by decide +kernel
theorem dX7_election_83 : decode cX7_election 83 = .ok (.imul, 1) := by decide +kernel
theorem dX7_election_84 : decode cX7_election 84 = .ok (.iload 4, 2) := by decide +kernel
theorem dX7_election_86 : decode cX7_election 86 = .ok (.if_icmp .ne 19, 3) := by decide +kernel
theorem dX7_election_89 : decode cX7_election 89 = .ok (.iload 6, 2) := by decide +kernel
theorem dX7_election_91 : decode cX7_election 91 = .ok (.iconst 1, 1) := by decide +kernel
theorem dX7_election_92 : decode cX7_election 92 = .ok (.iand, 1) := by decide +kernel
theorem dX7_election_93 : decode cX7_election 93 = .ok (.iconst 1, 1) := by decide +kernel
theorem dX7_election_94 : decode cX7_election 94 = .ok (.if_icmp .ne 7, 3) := by decide +kernel
theorem dX7_election_97 : decode cX7_election 97 = .ok (.iconst 1, 1) := by decide +kernel
theorem dX7_election_98 : decode cX7_election 98 = .ok (.goto 21, 3) := by decide +kernel
theorem dX7_election_101 : decode cX7_election 101 = .ok (.iconst 0, 1) := by decide +kernel
theorem dX7_election_102 : decode cX7_election 102 = .ok (.goto 17, 3) := by decide +kernel
theorem dX7_election_105 : decode cX7_election 105 = .ok (.iconst 2, 1) := by decide +kernel
theorem dX7_election_106 : decode cX7_election 106 = .ok (.iload 7, 2) := by decide +kernel
theorem dX7_election_108 : decode cX7_election 108 = .ok (.imul, 1) := by decide +kernel
theorem dX7_election_109 : decode cX7_election 109 = .ok (.iload 4, 2) := by decide +kernel
theorem dX7_election_111 : decode cX7_election 111 = .ok (.if_icmp .le 7, 3) := by decide +kernel
theorem dX7_election_114 : decode cX7_election 114 = .ok (.iconst 1, 1) := by decide +kernel
theorem dX7_election_115 : decode cX7_election 115 = .ok (.goto 4, 3) := by decide +kernel
theorem dX7_election_118 : decode cX7_election 118 = .ok (.iconst 0, 1) := by decide +kernel
theorem dX7_election_119 : decode cX7_election 119 = .ok (.istore 8, 2) := by decide +kernel
theorem dX7_election_121 : decode cX7_election 121 = .ok (.iload 8, 2) := by decide +kernel
theorem dX7_election_123 : decode cX7_election 123 = .ok (.ifCond .eq 12, 3) := by decide +kernel
theorem dX7_election_126 : decode cX7_election 126 = .ok (.iload 5, 2) := by decide +kernel
theorem dX7_election_128 : decode cX7_election 128 = .ok (.iconst 1, 1) := by decide +kernel
theorem dX7_election_129 : decode cX7_election 129 = .ok (.iload 6, 2) := by decide +kernel
theorem dX7_election_131 : decode cX7_election 131 = .ok (.ishl, 1) := by decide +kernel
theorem dX7_election_132 : decode cX7_election 132 = .ok (.ior, 1) := by decide +kernel
theorem dX7_election_133 : decode cX7_election 133 = .ok (.istore 5, 2) := by decide +kernel
theorem dX7_election_135 : decode cX7_election 135 = .ok (.iinc 6 1, 3) := by decide +kernel
theorem dX7_election_138 : decode cX7_election 138 = .ok (.goto (-99), 3) := by decide +kernel
theorem dX7_election_141 : decode cX7_election 141 = .ok (.iload 5, 2) := by decide +kernel
theorem dX7_election_143 : decode cX7_election 143 = .ok (.ireturn, 1) := by decide +kernel
abbrev rmX7_election : Room := { frames := 1, cells := 0, slots := 0, locals := 23 }
theorem inX7_election_7 : ∀ w ∈ wsX70, w ∈ wsX7_election := by decide +kernel
def vX7_election_c119 (parts : Int32) (limit : Int32) (vot : Nat → Int32) (p1 : Int32) (p2 : Int32) (Q : Int32 → Prop) (K39 : Int32 → Int32 → Int32 → Int32 → Prop) (x3 : Int32) (x4 : Int32) (x5 : Int32) (x6 : Int32) (s0 : Int32) : Prop := ((s0 = 0 → (K39 x3 x4 x5 (x6 + (1 : Int32)))) ∧ (¬ s0 = 0 → (∀ y_133 : Int32, y_133 = (x5 ||| ((1 : Int32) <<< (x6 &&& 31))) → (K39 x3 x4 y_133 (x6 + (1 : Int32))))))
set_option maxHeartbeats 4000000 in
set_option maxRecDepth 100000 in
theorem kX7_election_c119 {p : Program} {l : Launch} {e : Env} {s : State} {m : MethodId} {args : Array Value} {below : List Frame} {meth : Method} {c : Code} {g : GP} {qt ql qr qv qg : Nat} {parts : Int32} {limit : Int32} {vot : Nat → Int32} {p1 : Int32} {p2 : Int32} {Q : Int32 → Prop} {K39 : Int32 → Int32 → Int32 → Int32 → Prop} (S : CallFix p m c cX7_election 9 s args wsX7_election RX7) (hr : meth.sig.returnType = (some .int)) (hlocks : meth.locks = false) (hG : GK g s) (hP : va_P g.1 vwCl [(qt, .inr (7, [.ref ql, .ref qr, .ref qv, .ref qg, .int parts, .int limit])), (qv, .inl (g.2 0, 5, .inl vot))] s.heap) (kk39 : ∀ (x3 : Int32) (x4 : Int32) (x5 : Int32) (x6 : Int32), K39 x3 x4 x5 x6 → ∀ (ls : Array Slot), lv_has ls 9 [(0, .ref qt), (1, .int p1), (3, .int x3), (4, .int x4), (5, .int x5), (6, .int x6)] → W p l e (headSpec wsX7_election rmX7_election).room s m args below meth c s.heap [] 0 0 (MQ below (vp_Si Q) args s 0 0 (fun _ => False)) (F0 m 39 ls [])) : ∀ (x3 : Int32) (x4 : Int32) (x5 : Int32) (x6 : Int32) (s0 : Int32), vX7_election_c119 parts limit vot p1 p2 Q K39 x3 x4 x5 x6 s0 → ∀ (ls : Array Slot), lv_has ls 9 [(0, .ref qt), (1, .int p1), (3, .int x3), (4, .int x4), (5, .int x5), (6, .int x6)] → W p l e (headSpec wsX7_election rmX7_election).room s m args below meth c s.heap [] 0 0 (MQ below (vp_Si Q) args s 0 0 (fun _ => False)) (F0 m 119 ls [.int s0]) := by
  obtain ⟨hx, hb, hml, hown, hts⟩ := id S
  have hK := hG.1
  intro x3 x4 x5 x6 s0 hv ls hl
  unfold vX7_election_c119 at hv
  refine lv_istore (lv' := [(8, .int s0), (0, .ref qt), (1, .int p1), (3, .int x3), (4, .int x4), (5, .int x5), (6, .int x6)]) hx hb dX7_election_119 hl (by decide) rfl (fun ls hl => ?_)
  refine lv_iload hx hb dX7_election_121 (lv_at hl 0 rfl) ?_
  obtain ⟨hvt, hvf⟩ := hv
  refine lv_if_eq (tgt := 135) hx hb dX7_election_123 (by decide) (fun hc => ?_) (fun hc => ?_)
  · have hv := hvt hc
    refine lv_iinc (v := (x6 + (1 : Int32))) (lv' := [(6, .int (x6 + (1 : Int32))), (8, .int s0), (0, .ref qt), (1, .int p1), (3, .int x3), (4, .int x4), (5, .int x5)]) hx hb dX7_election_135 hl (k := 6) rfl rfl (by decide) rfl (fun ls hl => ?_)
    refine lv_goto (tgt := 39) hx hb dX7_election_138 (by decide) ?_
    exact kk39 _ _ _ _ hv ls (lv_sub hl [2, 3, 4, 5, 6, 0] rfl)
  · have hv := hvf hc
    refine lv_iload hx hb dX7_election_126 (lv_at hl 5 rfl) ?_
    refine lv_iconst (v := (1 : Int32)) hx hb dX7_election_128 (by decide) ?_
    refine lv_iload hx hb dX7_election_129 (lv_at hl 6 rfl) ?_
    refine lv_ishl hx hb dX7_election_131 ?_
    refine lv_ior hx hb dX7_election_132 ?_
    refine lv_topi (fun y_133 ey_133 => ?_)
    have hv := hv y_133 ey_133
    refine lv_istore (lv' := [(5, .int y_133), (8, .int s0), (0, .ref qt), (1, .int p1), (3, .int x3), (4, .int x4), (6, .int x6)]) hx hb dX7_election_133 hl (by decide) rfl (fun ls hl => ?_)
    refine lv_iinc (v := (x6 + (1 : Int32))) (lv' := [(6, .int (x6 + (1 : Int32))), (5, .int y_133), (8, .int s0), (0, .ref qt), (1, .int p1), (3, .int x3), (4, .int x4)]) hx hb dX7_election_135 hl (k := 6) rfl rfl (by decide) rfl (fun ls hl => ?_)
    refine lv_goto (tgt := 39) hx hb dX7_election_138 (by decide) ?_
    exact kk39 _ _ _ _ hv ls (lv_sub hl [3, 4, 5, 6, 1, 0] rfl)
def vX7_election_c80 (parts : Int32) (limit : Int32) (vot : Nat → Int32) (p1 : Int32) (p2 : Int32) (Q : Int32 → Prop) (K39 : Int32 → Int32 → Int32 → Int32 → Prop) (x3 : Int32) (x4 : Int32) (x5 : Int32) (x6 : Int32) (x7 : Int32) : Prop := ((¬ ((2 : Int32) * x7) = x4 → ((((2 : Int32) * x7) ≤ x4 → (vX7_election_c119 parts limit vot p1 p2 Q K39 x3 x4 x5 x6 (0 : Int32))) ∧ (¬ ((2 : Int32) * x7) ≤ x4 → (vX7_election_c119 parts limit vot p1 p2 Q K39 x3 x4 x5 x6 (1 : Int32))))) ∧ (((2 : Int32) * x7) = x4 → ((¬ (x6 &&& (1 : Int32)) = (1 : Int32) → (vX7_election_c119 parts limit vot p1 p2 Q K39 x3 x4 x5 x6 (0 : Int32))) ∧ ((x6 &&& (1 : Int32)) = (1 : Int32) → (vX7_election_c119 parts limit vot p1 p2 Q K39 x3 x4 x5 x6 (1 : Int32))))))
set_option maxHeartbeats 4000000 in
set_option maxRecDepth 100000 in
theorem kX7_election_c80 {p : Program} {l : Launch} {e : Env} {s : State} {m : MethodId} {args : Array Value} {below : List Frame} {meth : Method} {c : Code} {g : GP} {qt ql qr qv qg : Nat} {parts : Int32} {limit : Int32} {vot : Nat → Int32} {p1 : Int32} {p2 : Int32} {Q : Int32 → Prop} {K39 : Int32 → Int32 → Int32 → Int32 → Prop} (S : CallFix p m c cX7_election 9 s args wsX7_election RX7) (hr : meth.sig.returnType = (some .int)) (hlocks : meth.locks = false) (hG : GK g s) (hP : va_P g.1 vwCl [(qt, .inr (7, [.ref ql, .ref qr, .ref qv, .ref qg, .int parts, .int limit])), (qv, .inl (g.2 0, 5, .inl vot))] s.heap) (kk39 : ∀ (x3 : Int32) (x4 : Int32) (x5 : Int32) (x6 : Int32), K39 x3 x4 x5 x6 → ∀ (ls : Array Slot), lv_has ls 9 [(0, .ref qt), (1, .int p1), (3, .int x3), (4, .int x4), (5, .int x5), (6, .int x6)] → W p l e (headSpec wsX7_election rmX7_election).room s m args below meth c s.heap [] 0 0 (MQ below (vp_Si Q) args s 0 0 (fun _ => False)) (F0 m 39 ls [])) : ∀ (x3 : Int32) (x4 : Int32) (x5 : Int32) (x6 : Int32) (x7 : Int32), vX7_election_c80 parts limit vot p1 p2 Q K39 x3 x4 x5 x6 x7 → ∀ (ls : Array Slot), lv_has ls 9 [(0, .ref qt), (1, .int p1), (3, .int x3), (4, .int x4), (5, .int x5), (6, .int x6), (7, .int x7)] → W p l e (headSpec wsX7_election rmX7_election).room s m args below meth c s.heap [] 0 0 (MQ below (vp_Si Q) args s 0 0 (fun _ => False)) (F0 m 80 ls []) := by
  obtain ⟨hx, hb, hml, hown, hts⟩ := id S
  have hK := hG.1
  intro x3 x4 x5 x6 x7 hv ls hl
  unfold vX7_election_c80 at hv
  refine lv_iconst (v := (2 : Int32)) hx hb dX7_election_80 (by decide) ?_
  refine lv_iload hx hb dX7_election_81 (lv_at hl 6 rfl) ?_
  refine lv_imul hx hb dX7_election_83 ?_
  refine lv_iload hx hb dX7_election_84 (lv_at hl 3 rfl) ?_
  obtain ⟨hvt, hvf⟩ := hv
  refine lv_icmp_ne (tgt := 105) hx hb dX7_election_86 (by decide) (fun hc => ?_) (fun hc => ?_)
  · have hv := hvt hc
    refine lv_iconst (v := (2 : Int32)) hx hb dX7_election_105 (by decide) ?_
    refine lv_iload hx hb dX7_election_106 (lv_at hl 6 rfl) ?_
    refine lv_imul hx hb dX7_election_108 ?_
    refine lv_iload hx hb dX7_election_109 (lv_at hl 3 rfl) ?_
    obtain ⟨hvt, hvf⟩ := hv
    refine lv_icmp_le (tgt := 118) hx hb dX7_election_111 (by decide) (fun hc => ?_) (fun hc => ?_)
    · have hv := hvt hc
      refine lv_iconst (v := (0 : Int32)) hx hb dX7_election_118 (by decide) ?_
      exact kX7_election_c119 S hr hlocks hG hP kk39 _ _ _ _ _ hv ls (lv_sub hl [0, 1, 2, 3, 4, 5] rfl)
    · have hv := hvf hc
      refine lv_iconst (v := (1 : Int32)) hx hb dX7_election_114 (by decide) ?_
      refine lv_goto (tgt := 119) hx hb dX7_election_115 (by decide) ?_
      exact kX7_election_c119 S hr hlocks hG hP kk39 _ _ _ _ _ hv ls (lv_sub hl [0, 1, 2, 3, 4, 5] rfl)
  · have hv := hvf hc
    refine lv_iload hx hb dX7_election_89 (lv_at hl 5 rfl) ?_
    refine lv_iconst (v := (1 : Int32)) hx hb dX7_election_91 (by decide) ?_
    refine lv_iand hx hb dX7_election_92 ?_
    refine lv_iconst (v := (1 : Int32)) hx hb dX7_election_93 (by decide) ?_
    obtain ⟨hvt, hvf⟩ := hv
    refine lv_icmp_ne (tgt := 101) hx hb dX7_election_94 (by decide) (fun hc => ?_) (fun hc => ?_)
    · have hv := hvt hc
      refine lv_iconst (v := (0 : Int32)) hx hb dX7_election_101 (by decide) ?_
      refine lv_goto (tgt := 119) hx hb dX7_election_102 (by decide) ?_
      exact kX7_election_c119 S hr hlocks hG hP kk39 _ _ _ _ _ hv ls (lv_sub hl [0, 1, 2, 3, 4, 5] rfl)
    · have hv := hvf hc
      refine lv_iconst (v := (1 : Int32)) hx hb dX7_election_97 (by decide) ?_
      refine lv_goto (tgt := 119) hx hb dX7_election_98 (by decide) ?_
      exact kX7_election_c119 S hr hlocks hG hP kk39 _ _ _ _ _ hv ls (lv_sub hl [0, 1, 2, 3, 4, 5] rfl)
def vX7_election_c39 (parts : Int32) (limit : Int32) (vot : Nat → Int32) (p1 : Int32) (p2 : Int32) (Q : Int32 → Prop) : Nat → Int32 → Int32 → Int32 → Int32 → Prop
  | 0, _, _, _, _ => False
  | n + 1, x3, x4, x5, x6 => (∃ (T_42 : Cd), preX7_allParts T_42 parts limit ∧ (∀ r_42 : Int32, postX7_allParts T_42 parts limit r_42 → ((r_42 < x6 → (Q x5)) ∧ (¬ r_42 < x6 → (∃ (T_51 : Cd) (s_51 : Nat), preX7_votesOf T_51 s_51 parts limit vot x6 ∧ (∀ r_51 : Int32, postX7_votesOf T_51 s_51 parts limit vot x6 r_51 → (preX7_hasPart parts limit p1 ∧ (∀ r_58 : Int32, postX7_hasPart parts limit p1 r_58 → ((r_58 = 0 → (vX7_election_c80 parts limit vot p1 p2 Q (vX7_election_c39 parts limit vot p1 p2 Q n) x3 x4 x5 x6 r_51)) ∧ (¬ r_58 = 0 → ((¬ ((x6 >>> (p1 &&& 31)) &&& (1 : Int32)) = (1 : Int32) → (vX7_election_c80 parts limit vot p1 p2 Q (vX7_election_c39 parts limit vot p1 p2 Q n) x3 x4 x5 x6 r_51)) ∧ (((x6 >>> (p1 &&& 31)) &&& (1 : Int32)) = (1 : Int32) → (vX7_election_c80 parts limit vot p1 p2 Q (vX7_election_c39 parts limit vot p1 p2 Q n) x3 x4 x5 x6 (r_51 + x3))))))))))))))
set_option maxHeartbeats 4000000 in
set_option maxRecDepth 100000 in
theorem kX7_election_c39 {p : Program} {l : Launch} {e : Env} {s : State} {m : MethodId} {args : Array Value} {below : List Frame} {meth : Method} {c : Code} {g : GP} {qt ql qr qv qg : Nat} {parts : Int32} {limit : Int32} {vot : Nat → Int32} {p1 : Int32} {p2 : Int32} {Q : Int32 → Prop} (S : CallFix p m c cX7_election 9 s args wsX7_election RX7) (hr : meth.sig.returnType = (some .int)) (hlocks : meth.locks = false) (hG : GK g s) (hP : va_P g.1 vwCl [(qt, .inr (7, [.ref ql, .ref qr, .ref qv, .ref qg, .int parts, .int limit])), (qv, .inl (g.2 0, 5, .inl vot))] s.heap) : ∀ (n : Nat), ∀ (x3 : Int32) (x4 : Int32) (x5 : Int32) (x6 : Int32), vX7_election_c39 parts limit vot p1 p2 Q n x3 x4 x5 x6 → ∀ (ls : Array Slot), lv_has ls 9 [(0, .ref qt), (1, .int p1), (3, .int x3), (4, .int x4), (5, .int x5), (6, .int x6)] → W p l e (headSpec wsX7_election rmX7_election).room s m args below meth c s.heap [] 0 0 (MQ below (vp_Si Q) args s 0 0 (fun _ => False)) (F0 m 39 ls []) := by
  obtain ⟨hx, hb, hml, hown, hts⟩ := id S
  have hK := hG.1
  intro n
  induction n with
  | zero => intro x3 x4 x5 x6 hv; exact hv.elim
  | succ n ih =>
    intro x3 x4 x5 x6 hv ls hl
    refine lv_iload hx hb dX7_election_39 (lv_at hl 5 rfl) ?_
    refine lv_aload_n hx hb dX7_election_41 rfl (lv_at hl 0 rfl) ?_
    obtain ⟨T_42, ho_1, hv⟩ := hv
    refine vp_callSi (W.runV (As := []) (rest := [.int x6]) S (wX7_allParts l g qt ql qr qv qg parts limit (sX7_allParts T_42 parts limit ho_1)) (cwV 0 hts gX7_election_X7_allParts rfl rfl rfl (by decide +kernel) ⟨Nat.le_of_ble_eq_true rfl, Nat.le_of_ble_eq_true rfl⟩) ⟨blindRO, va_recv hK hP (ci := 7) (q0 := 0) rfl rfl, fun U hU hW => ⟨rfl, by rw [hU]; exact hP.sub [0] rfl, hG.warm hW⟩⟩ rfl rfl hl.1 rfl (lv_room (Nat.le_of_ble_eq_true rfl)) dX7_election_42 ⟨Nat.le_of_ble_eq_true rfl, Nat.le_of_ble_eq_true rfl⟩) (fun r_42 hr_42 => ?_)
    have hv := hv r_42 hr_42
    obtain ⟨hvt, hvf⟩ := hv
    refine lv_icmp_gt (tgt := 141) hx hb dX7_election_45 (by decide) (fun hc => ?_) (fun hc => ?_)
    · have hv := hvt hc
      refine lv_iload hx hb dX7_election_141 (lv_at hl 4 rfl) ?_
      exact W.iret (v := x5) hx hb hr (fun t ht hW => ⟨_, rfl, hv, ht⟩) (fun _ h => by cases h) dX7_election_143
    · have hv := hvf hc
      refine lv_aload_n hx hb dX7_election_48 rfl (lv_at hl 0 rfl) ?_
      refine lv_iload hx hb dX7_election_49 (lv_at hl 5 rfl) ?_
      obtain ⟨T_51, s_51, ho_2, hv⟩ := hv
      refine vp_callSi (W.runV (As := [.int x6]) (rest := []) S (wX7_votesOf l g qt ql qr qv qg parts limit vot x6 (sX7_votesOf T_51 s_51 parts limit vot x6 ho_2)) (cwV 1 hts gX7_election_X7_votesOf rfl rfl rfl (by decide +kernel) ⟨Nat.le_of_ble_eq_true rfl, Nat.le_of_ble_eq_true rfl⟩) ⟨blindRO, va_recv hK hP (ci := 7) (q0 := 0) rfl rfl, fun U hU hW => ⟨rfl, by rw [hU]; exact hP.sub [0, 1] rfl, hG.warm hW⟩⟩ rfl rfl hl.1 rfl (lv_room (Nat.le_of_ble_eq_true rfl)) dX7_election_51 ⟨Nat.le_of_ble_eq_true rfl, Nat.le_of_ble_eq_true rfl⟩) (fun r_51 hr_51 => ?_)
      have hv := hv r_51 hr_51
      refine lv_istore (lv' := [(7, .int r_51), (0, .ref qt), (1, .int p1), (3, .int x3), (4, .int x4), (5, .int x5), (6, .int x6)]) hx hb dX7_election_54 hl (by decide) rfl (fun ls hl => ?_)
      refine lv_aload_n hx hb dX7_election_56 rfl (lv_at hl 1 rfl) ?_
      refine lv_iload_n hx hb dX7_election_57 rfl (lv_at hl 2 rfl) ?_
      obtain ⟨ho_3, hv⟩ := hv
      refine vp_callSi (W.runV (As := [.int p1]) (rest := []) S (wX7_hasPart l g qt ql qr qv qg parts limit p1 (sX7_hasPart parts limit p1 ho_3)) (cwV 1 hts gX7_election_X7_hasPart rfl rfl rfl (by decide +kernel) ⟨Nat.le_of_ble_eq_true rfl, Nat.le_of_ble_eq_true rfl⟩) ⟨blindRO, va_recv hK hP (ci := 7) (q0 := 0) rfl rfl, fun U hU hW => ⟨rfl, by rw [hU]; exact hP.sub [0] rfl, hG.warm hW⟩⟩ rfl rfl hl.1 rfl (lv_room (Nat.le_of_ble_eq_true rfl)) dX7_election_58 ⟨Nat.le_of_ble_eq_true rfl, Nat.le_of_ble_eq_true rfl⟩) (fun r_58 hr_58 => ?_)
      have hv := hv r_58 hr_58
      obtain ⟨hvt, hvf⟩ := hv
      refine lv_if_eq (tgt := 80) hx hb dX7_election_61 (by decide) (fun hc => ?_) (fun hc => ?_)
      · have hv := hvt hc
        exact kX7_election_c80 S hr hlocks hG hP ih _ _ _ _ _ hv ls (lv_sub hl [1, 2, 3, 4, 5, 6, 0] rfl)
      · have hv := hvf hc
        refine lv_iload hx hb dX7_election_64 (lv_at hl 6 rfl) ?_
        refine lv_iload_n hx hb dX7_election_66 rfl (lv_at hl 2 rfl) ?_
        refine lv_ishr hx hb dX7_election_67 ?_
        refine lv_iconst (v := (1 : Int32)) hx hb dX7_election_68 (by decide) ?_
        refine lv_iand hx hb dX7_election_69 ?_
        refine lv_iconst (v := (1 : Int32)) hx hb dX7_election_70 (by decide) ?_
        obtain ⟨hvt, hvf⟩ := hv
        refine lv_icmp_ne (tgt := 80) hx hb dX7_election_71 (by decide) (fun hc => ?_) (fun hc => ?_)
        · have hv := hvt hc
          exact kX7_election_c80 S hr hlocks hG hP ih _ _ _ _ _ hv ls (lv_sub hl [1, 2, 3, 4, 5, 6, 0] rfl)
        · have hv := hvf hc
          refine lv_iload hx hb dX7_election_74 (lv_at hl 0 rfl) ?_
          refine lv_iload_n hx hb dX7_election_76 rfl (lv_at hl 3 rfl) ?_
          refine lv_iadd hx hb dX7_election_77 ?_
          refine lv_istore (lv' := [(7, .int (r_51 + x3)), (0, .ref qt), (1, .int p1), (3, .int x3), (4, .int x4), (5, .int x5), (6, .int x6)]) hx hb dX7_election_78 hl (by decide) rfl (fun ls hl => ?_)
          exact kX7_election_c80 S hr hlocks hG hP ih _ _ _ _ _ hv ls (lv_sub hl [1, 2, 3, 4, 5, 6, 0] rfl)
def vX7_election_c20 (parts : Int32) (limit : Int32) (vot : Nat → Int32) (p1 : Int32) (p2 : Int32) (Q : Int32 → Prop) (s0 : Int32) : Prop := (∃ (T_23 : Cd), preX7_allParts T_23 parts limit ∧ (∀ r_23 : Int32, postX7_allParts T_23 parts limit r_23 → (∃ (T_26 : Cd) (s_26 : Nat), preX7_votesOf T_26 s_26 parts limit vot r_23 ∧ (∀ r_26 : Int32, postX7_votesOf T_26 s_26 parts limit vot r_23 r_26 → (∃ nn, vX7_election_c39 parts limit vot p1 p2 Q nn s0 (r_26 + s0) (0 : Int32) (0 : Int32))))))
set_option maxHeartbeats 4000000 in
set_option maxRecDepth 100000 in
theorem kX7_election_c20 {p : Program} {l : Launch} {e : Env} {s : State} {m : MethodId} {args : Array Value} {below : List Frame} {meth : Method} {c : Code} {g : GP} {qt ql qr qv qg : Nat} {parts : Int32} {limit : Int32} {vot : Nat → Int32} {p1 : Int32} {p2 : Int32} {Q : Int32 → Prop} (S : CallFix p m c cX7_election 9 s args wsX7_election RX7) (hr : meth.sig.returnType = (some .int)) (hlocks : meth.locks = false) (hG : GK g s) (hP : va_P g.1 vwCl [(qt, .inr (7, [.ref ql, .ref qr, .ref qv, .ref qg, .int parts, .int limit])), (qv, .inl (g.2 0, 5, .inl vot))] s.heap) : ∀ (s0 : Int32), vX7_election_c20 parts limit vot p1 p2 Q s0 → ∀ (ls : Array Slot), lv_has ls 9 [(0, .ref qt), (1, .int p1)] → W p l e (headSpec wsX7_election rmX7_election).room s m args below meth c s.heap [] 0 0 (MQ below (vp_Si Q) args s 0 0 (fun _ => False)) (F0 m 20 ls [.int s0]) := by
  obtain ⟨hx, hb, hml, hown, hts⟩ := id S
  have hK := hG.1
  intro s0 hv ls hl
  unfold vX7_election_c20 at hv
  refine lv_istore_n (lv' := [(3, .int s0), (0, .ref qt), (1, .int p1)]) hx hb dX7_election_20 rfl hl (by decide) rfl (fun ls hl => ?_)
  refine lv_aload_n hx hb dX7_election_21 rfl (lv_at hl 1 rfl) ?_
  refine lv_aload_n hx hb dX7_election_22 rfl (lv_at hl 1 rfl) ?_
  obtain ⟨T_23, ho_1, hv⟩ := hv
  refine vp_callSi (W.runV (As := []) (rest := [.ref qt]) S (wX7_allParts l g qt ql qr qv qg parts limit (sX7_allParts T_23 parts limit ho_1)) (cwV 0 hts gX7_election_X7_allParts rfl rfl rfl (by decide +kernel) ⟨Nat.le_of_ble_eq_true rfl, Nat.le_of_ble_eq_true rfl⟩) ⟨blindRO, va_recv hK hP (ci := 7) (q0 := 0) rfl rfl, fun U hU hW => ⟨rfl, by rw [hU]; exact hP.sub [0] rfl, hG.warm hW⟩⟩ rfl rfl hl.1 rfl (lv_room (Nat.le_of_ble_eq_true rfl)) dX7_election_23 ⟨Nat.le_of_ble_eq_true rfl, Nat.le_of_ble_eq_true rfl⟩) (fun r_23 hr_23 => ?_)
  have hv := hv r_23 hr_23
  obtain ⟨T_26, s_26, ho_2, hv⟩ := hv
  refine vp_callSi (W.runV (As := [.int r_23]) (rest := []) S (wX7_votesOf l g qt ql qr qv qg parts limit vot r_23 (sX7_votesOf T_26 s_26 parts limit vot r_23 ho_2)) (cwV 1 hts gX7_election_X7_votesOf rfl rfl rfl (by decide +kernel) ⟨Nat.le_of_ble_eq_true rfl, Nat.le_of_ble_eq_true rfl⟩) ⟨blindRO, va_recv hK hP (ci := 7) (q0 := 0) rfl rfl, fun U hU hW => ⟨rfl, by rw [hU]; exact hP.sub [0, 1] rfl, hG.warm hW⟩⟩ rfl rfl hl.1 rfl (lv_room (Nat.le_of_ble_eq_true rfl)) dX7_election_26 ⟨Nat.le_of_ble_eq_true rfl, Nat.le_of_ble_eq_true rfl⟩) (fun r_26 hr_26 => ?_)
  have hv := hv r_26 hr_26
  refine lv_iload_n hx hb dX7_election_29 rfl (lv_at hl 0 rfl) ?_
  refine lv_iadd hx hb dX7_election_30 ?_
  refine lv_istore (lv' := [(4, .int (r_26 + s0)), (3, .int s0), (0, .ref qt), (1, .int p1)]) hx hb dX7_election_31 hl (by decide) rfl (fun ls hl => ?_)
  refine lv_iconst (v := (0 : Int32)) hx hb dX7_election_33 (by decide) ?_
  refine lv_istore (lv' := [(5, .int (0 : Int32)), (4, .int (r_26 + s0)), (3, .int s0), (0, .ref qt), (1, .int p1)]) hx hb dX7_election_34 hl (by decide) rfl (fun ls hl => ?_)
  refine lv_iconst (v := (0 : Int32)) hx hb dX7_election_36 (by decide) ?_
  refine lv_istore (lv' := [(6, .int (0 : Int32)), (5, .int (0 : Int32)), (4, .int (r_26 + s0)), (3, .int s0), (0, .ref qt), (1, .int p1)]) hx hb dX7_election_37 hl (by decide) rfl (fun ls hl => ?_)
  obtain ⟨nn, hv⟩ := hv
  exact kX7_election_c39 S hr hlocks hG hP nn _ _ _ _ hv ls (lv_sub hl [4, 5, 3, 2, 1, 0] rfl)
def vX7_election (parts : Int32) (limit : Int32) (vot : Nat → Int32) (p1 : Int32) (p2 : Int32) (Q : Int32 → Prop) : Prop := (preX7_hasPart parts limit p1 ∧ (∀ r_2 : Int32, postX7_hasPart parts limit p1 r_2 → ((r_2 = 0 → (vX7_election_c20 parts limit vot p1 p2 Q (0 : Int32))) ∧ (¬ r_2 = 0 → (vp_in p1 5 ∧ (vX7_election_c20 parts limit vot p1 p2 Q (p2 - (vot p1.toNatClampNeg))))))))
set_option maxHeartbeats 4000000 in
set_option maxRecDepth 100000 in
theorem wX7_election (l : Launch) (g : GP) (qt : Nat) (ql : Nat) (qr : Nat) (qv : Nat) (qg : Nat) (parts : Int32) (limit : Int32) (vot : Nat → Int32) (p1 : Int32) (p2 : Int32) {Q : Int32 → Prop} (hv : vX7_election parts limit vot p1 p2 Q) : Met l yX7_election wsX7_election rmX7_election (va_Pc [.ref qt, .int p1, .int p2] (fun U => va_P g.1 vwCl [(qt, .inr (7, [.ref ql, .ref qr, .ref qv, .ref qg, .int parts, .int limit])), (qv, .inl (g.2 0, 5, .inl vot))] U.heap ∧ GK g U)) (vp_Si Q) 0 0 (fun _ => False) := by
  refine Met.ofW (cc := cX7_election) (maxL := 9) (ret := (some .int)) (by decide) rfl ?_
  intro p e s m args below meth c s₁ B hml hv'
  obtain ⟨rfl, hP, hG⟩ := hv'
  have S : CallFix p m c cX7_election 9 s _ wsX7_election RX7 := ⟨B.exec, B.bytes, hml, findClass_of_methodNamed B.named, atoms_spec (ws := wsX7_election) B.pre⟩
  obtain ⟨hx, hb, hml, hown, hts⟩ := id S
  have hK := hG.1
  have hr := B.returns
  have hlocks := B.notSynchronized
  have hl := lv_entry ([.ref qt, .int p1, .int p2]) (n := 9) (Nat.le_of_ble_eq_true rfl)
  rw [lg_entry_eq]
  generalize (lg_sl ([.ref qt, .int p1, .int p2]) ++ List.replicate (9 - (lg_sl ([.ref qt, .int p1, .int p2])).length) Slot.unset).toArray = ls at hl ⊢
  have hl : lv_has ls 9 [(0, .ref qt), (1, .int p1), (2, .int p2)] := hl
  unfold vX7_election at hv
  refine lv_aload_n hx hb dX7_election_0 rfl (lv_at hl 0 rfl) ?_
  refine lv_iload_n hx hb dX7_election_1 rfl (lv_at hl 1 rfl) ?_
  obtain ⟨ho_1, hv⟩ := hv
  refine vp_callSi (W.runV (As := [.int p1]) (rest := []) S (wX7_hasPart l g qt ql qr qv qg parts limit p1 (sX7_hasPart parts limit p1 ho_1)) (cwV 1 hts gX7_election_X7_hasPart rfl rfl rfl (by decide +kernel) ⟨Nat.le_of_ble_eq_true rfl, Nat.le_of_ble_eq_true rfl⟩) ⟨blindRO, va_recv hK hP (ci := 7) (q0 := 0) rfl rfl, fun U hU hW => ⟨rfl, by rw [hU]; exact hP.sub [0] rfl, hG.warm hW⟩⟩ rfl rfl hl.1 rfl (lv_room (Nat.le_of_ble_eq_true rfl)) dX7_election_2 ⟨Nat.le_of_ble_eq_true rfl, Nat.le_of_ble_eq_true rfl⟩) (fun r_2 hr_2 => ?_)
  have hv := hv r_2 hr_2
  obtain ⟨hvt, hvf⟩ := hv
  refine lv_if_eq (tgt := 19) hx hb dX7_election_5 (by decide) (fun hc => ?_) (fun hc => ?_)
  · have hv := hvt hc
    refine lv_iconst (v := (0 : Int32)) hx hb dX7_election_19 (by decide) ?_
    exact kX7_election_c20 S hr hlocks hG hP _ hv ls (lv_sub hl [0, 1] rfl)
  · have hv := hvf hc
    refine lv_iload_n hx hb dX7_election_8 rfl (lv_at hl 2 rfl) ?_
    refine lv_aload_n hx hb dX7_election_9 rfl (lv_at hl 0 rfl) ?_
    refine va_get (D := g.1) (ci := 7) (v := .ref qv) (C := RX7) (T := TX7) (N := 6) hx hb hts inX7_election_7 hown hK hP 0 rfl rfl 2 (by decide) (hts (.fieldLink RX7 18 "RangeCodes$Told" "votes" "[I") (List.mem_of_getElem? (i := 1) rfl)) (fun _ h9 => h9) rfl dX7_election_10 ?_
    refine lv_iload_n hx hb dX7_election_13 rfl (lv_at hl 1 rfl) ?_
    obtain ⟨ho_2, hv⟩ := hv
    refine va_iald hx hb hK hP 1 0 rfl rfl ho_2 dX7_election_14 ?_
    refine lv_isub hx hb dX7_election_15 ?_
    refine lv_goto (tgt := 20) hx hb dX7_election_16 (by decide) ?_
    exact kX7_election_c20 S hr hlocks hG hP _ hv ls (lv_sub hl [0, 1] rfl)
abbrev preX7_election (T T' : Cd) (parts _ : Int32) (vot : Nat → Int32) (p1 p2 : Int32) : Prop := isN T parts ∧ isV T vot ∧ ((¬ (0 ≤ p1.toInt ∧ p1.toInt < (cn T : Int)) ∧ T' = T) ∨ ∃ c v : Nat, p1.toInt = (c : Int) ∧ c < cn T ∧ p2.toInt = (v : Int) ∧ v ≤ 9 ∧ T' = wV T c v)
abbrev postX7_election (T T' : Cd) (_ _ : Int32) (_ : Nat → Int32) (_ _ r : Int32) : Prop := ∀ s, s < 2 ^ cn T → bt r s = elB T' s
/-- the vote of a set, were a part's vote another one -/
def elM (T T' : Cd) (p1 : Int32) (x3 : Int32) : Prop := ∀ s, ((voS T' s (cn T) : Nat) : Int) = (voS T s (cn T) : Int) + (if (0 ≤ p1.toInt ∧ p1.toInt < (cn T : Int)) ∧ s.testBit p1.toInt.toNat = true then x3.toInt else 0)
theorem sX7_election_119 (T T' : Cd) (parts limit : Int32) (vot : Nat → Int32) (p1 p2 : Int32) (Q : Int32 → Prop) (K : Int32 → Int32 → Int32 → Int32 → Prop) (x3 x4 x5 x6 s0 : Int32) (i : Nat) (h6 : x6.toInt = (i : Int)) (hi : i < 32) (b : Bool) (hs : s0 = if b then 1 else 0)
    (hK : ∀ x : Int32, (∀ j, j < 32 → bt x j = (bt x5 j || (decide (j = i) && b))) → K x3 x4 x (x6 + (1 : Int32))) : vX7_election_c119 parts limit vot p1 p2 Q K x3 x4 x5 x6 s0 := by
  unfold vX7_election_c119
  refine ⟨fun hc => ?_, fun hc y hy => ?_⟩
  · cases b with
    | true => rw [hs] at hc; exact absurd hc (by decide)
    | false => exact hK _ (fun j _ => by simp)
  · cases b with
    | false => rw [hs] at hc; exact absurd rfl hc
    | true =>
      refine hK _ (fun j hj => ?_)
      rw [hy, b_or, q_eqN h6, b_shl i hi 1 hj, bt_1]
      congr 1
      by_cases h : j = i
      · subst h; simp
      · rcases Nat.lt_or_ge j i with z | z
        · simp [h, show ¬ i ≤ j by omega]
        · simp [h, show ¬ j - i = 0 by omega]
theorem sX7_election_1 (T T' : Cd) (hT : cn T' = cn T) (parts limit : Int32) (vot : Nat → Int32) (p1 p2 : Int32) (hN : isN T parts) (hV : isV T vot) (hV' : ∀ p, p < cn T → cV T' p ≤ 9) (x3 x4 : Int32) (hM : elM T T' p1 x3) (h3 : -9 ≤ x3.toInt ∧ x3.toInt ≤ 9) (h4 : x4.toInt = ((voS T' (2 ^ cn T - 1) (cn T) : Nat) : Int)) (Q : Int32 → Prop) (hQ : ∀ r : Int32, (∀ s, s < 2 ^ cn T → bt r s = elB T' s) → Q r) :
    ∀ (n i : Nat) (x5 x6 : Int32), x6.toInt = (i : Int) → i ≤ 2 ^ cn T → 2 ^ cn T + 1 ≤ i + n → (∀ j, j < 32 → bt x5 j = (decide (j < i) && elB T' j)) → vX7_election_c39 parts limit vot p1 p2 Q n x3 x4 x5 x6
  | 0, i, x5, x6, _, hi, hn, _ => absurd hn (by omega)
  | n + 1, i, x5, x6, h6, hi, hn, h5 => by
    have h32 := p32_le hN.2
    have hpos := Nat.two_pow_pos (cn T)
    rw [vX7_election_c39]
    refine ⟨T, hN, fun r hr => ?_⟩
    have hr : r.toInt = ((2 ^ cn T - 1 : Nat) : Int) := hr
    rw [q_lt hr h6]
    refine ⟨fun hc => ?_, fun hc => ?_⟩
    · have : i = 2 ^ cn T := by omega
      subst this
      exact hQ _ (fun s hs => by rw [h5 s (by omega)]; simp [hs])
    · have hi2 : i < 2 ^ cn T := by omega
      refine ⟨T, i, ⟨hN, hV, h6⟩, fun r2 hr2 => ⟨trivial, fun r3 hr3 => ?_⟩⟩
      have hr2 : r2.toInt = ((voS T i (cn T) : Nat) : Int) := hr2
      have hle := voS_le (T := T) (fun p hp => (hV p hp).2) i (cn T) (Nat.le_refl _)
      have hle' := voS_le (T := T') (fun p hp => hV' p (by omega)) i (cn T) (by omega)
      have hle2 := voS_le (T := T') (fun p hp => hV' p (by omega)) (2 ^ cn T - 1) (cn T) (by omega)
      have hn5 := hN.2
      have hM1 := hM i
      have hr3 : r3 = if 0 ≤ p1.toInt ∧ p1.toInt < (cn T : Int) then 1 else 0 := by rw [← hN.1]; exact hr3
      have key : ∀ x7 : Int32, x7.toInt = ((voS T' i (cn T) : Nat) : Int) → vX7_election_c80 parts limit vot p1 p2 Q (vX7_election_c39 parts limit vot p1 p2 Q n) x3 x4 x5 x6 x7 := by
        intro x7 h7
        have h72 : ((2 : Int32) * x7).toInt = 2 * ((voS T' i (cn T) : Nat) : Int) := by
          rw [q_mul (a := 2) rfl h7 (by omega) (by omega)]
        have next : ∀ (b : Bool) (s0 : Int32), s0 = (if b then 1 else 0) → elB T' i = b → vX7_election_c119 parts limit vot p1 p2 Q (vX7_election_c39 parts limit vot p1 p2 Q n) x3 x4 x5 x6 s0 := by
          intro b s0 hs hb
          refine sX7_election_119 T T' parts limit vot p1 p2 Q _ x3 x4 x5 x6 s0 i h6 (by omega) b hs (fun x hx => ?_)
          refine sX7_election_1 T T' hT parts limit vot p1 p2 hN hV hV' x3 x4 hM h3 h4 Q hQ n (i + 1) x _ (q_1 h6 (by omega)) hi2 (by omega) (fun j hj => ?_)
          rw [hx j hj, h5 j hj]
          rcases Nat.lt_trichotomy j i with z | z | z
          · simp [z, Nat.lt_succ_of_lt z, show ¬ j = i by omega]
          · subst z; simp [hb]
          · simp [show ¬ j < i by omega, show ¬ j < i + 1 by omega, show ¬ j = i by omega]
        unfold vX7_election_c80
        rw [fa_eq, fa_le, h72, h4, q_and1 h6]
        have hel : elB T' i = if 2 * voS T' i (cn T) = voS T' (2 ^ cn T - 1) (cn T) then i.testBit 0 else decide (voS T' (2 ^ cn T - 1) (cn T) < 2 * voS T' i (cn T)) := by
          unfold elB; rw [hT]
        refine ⟨fun hq => ⟨fun hl => next false _ rfl ?_, fun hl => next true _ rfl ?_⟩, fun hq => ⟨fun hl => next false _ rfl ?_, fun hl => next true _ rfl ?_⟩⟩
        · rw [hel, if_neg (by omega)]; exact decide_eq_false (by omega)
        · rw [hel, if_neg (by omega)]; exact decide_eq_true (by omega)
        · rw [hel, if_pos (by omega)]
          cases hb : i.testBit 0 with
          | false => rfl
          | true => rw [hb] at hl; exact absurd rfl hl
        · rw [hel, if_pos (by omega)]
          cases hb : i.testBit 0 with
          | false => rw [hb] at hl; exact absurd hl (by decide)
          | true => rfl
      refine ⟨fun hz => key _ ?_, fun hz => ?_⟩
      · by_cases hc2 : 0 ≤ p1.toInt ∧ p1.toInt < (cn T : Int)
        · rw [hr3, if_pos hc2] at hz; exact absurd hz (by decide)
        · rw [if_neg (fun q => hc2 q.1)] at hM1
          rw [hr2]; omega
      · by_cases hc2 : 0 ≤ p1.toInt ∧ p1.toInt < (cn T : Int)
        · have hp1 : p1.toInt = (p1.toInt.toNat : Int) := by omega
          rw [q_bitB h6 hp1 (by omega)]
          refine ⟨fun hb => key _ ?_, fun hb => key _ ?_⟩
          · rw [if_neg (fun q => hb q.2)] at hM1
            rw [hr2]; omega
          · rw [if_pos ⟨hc2, hb⟩] at hM1
            rw [q_add hr2 rfl (by omega) (by omega)]; omega
        · rw [hr3, if_neg hc2] at hz; exact absurd rfl hz
theorem sX7_election_20 (T T' : Cd) (hT : cn T' = cn T) (parts limit : Int32) (vot : Nat → Int32) (p1 p2 : Int32) (hN : isN T parts) (hV : isV T vot) (hV' : ∀ p, p < cn T → cV T' p ≤ 9) (s0 : Int32) (hM : elM T T' p1 s0) (h3 : -9 ≤ s0.toInt ∧ s0.toInt ≤ 9) (hz : ¬ (0 ≤ p1.toInt ∧ p1.toInt < (cn T : Int)) → s0.toInt = 0) : vX7_election_c20 parts limit vot p1 p2 (postX7_election T T' parts limit vot p1 p2) s0 := by
  have hn5 := hN.2
  have h32 := p32_le hN.2
  refine ⟨T, hN, fun r hr => ⟨T, 2 ^ cn T - 1, ⟨hN, hV, hr⟩, fun r2 hr2 => ⟨2 ^ cn T + 1, ?_⟩⟩⟩
  have hr2 : r2.toInt = ((voS T (2 ^ cn T - 1) (cn T) : Nat) : Int) := hr2
  have hle := voS_le (T := T) (fun p hp => (hV p hp).2) (2 ^ cn T - 1) (cn T) (Nat.le_refl _)
  have hM1 := hM (2 ^ cn T - 1)
  refine sX7_election_1 T T' hT parts limit vot p1 p2 hN hV hV' s0 _ hM h3 ?_ _ (fun r h => h) (2 ^ cn T + 1) 0 0 0 rfl (Nat.zero_le _) (by omega) (fun j hj => by rw [b_0]; simp)
  rw [q_add hr2 rfl (by omega) (by omega)]
  by_cases hc2 : 0 ≤ p1.toInt ∧ p1.toInt < (cn T : Int)
  · rw [if_pos ⟨hc2, voS_all T (Nat.le_refl _) _ (by omega)⟩] at hM1
    omega
  · rw [if_neg (fun q => hc2 q.1)] at hM1
    have := hz hc2
    omega
theorem sX7_election (T T' : Cd) (parts limit : Int32) (vot : Nat → Int32) (p1 p2 : Int32) (h : preX7_election T T' parts limit vot p1 p2) : vX7_election parts limit vot p1 p2 (postX7_election T T' parts limit vot p1 p2) := by
  obtain ⟨hN, hV, h⟩ := h
  have hn5 := hN.2
  refine ⟨trivial, fun r hr => ?_⟩
  have hr : r = if 0 ≤ p1.toInt ∧ p1.toInt < (cn T : Int) then 1 else 0 := by rw [← hN.1]; exact hr
  rcases h with ⟨h1, rfl⟩ | ⟨c, v, h1, hc, h2, hv, rfl⟩
  · rw [if_neg h1] at hr
    refine ⟨fun _ => ?_, fun hz => absurd hr hz⟩
    refine sX7_election_20 T' T' rfl parts limit vot p1 p2 hN hV (fun p hp => (hV p hp).2) 0 (fun s => ?_) (by decide) (fun _ => rfl)
    rw [if_neg (fun q => h1 q.1)]; omega
  · rw [if_pos (by omega)] at hr
    refine ⟨fun hz => ?_, fun _ => ⟨q_in h1 (by omega), ?_⟩⟩
    · rw [hr] at hz; exact absurd hz (by decide)
    · rw [q_cl h1]
      have hc9 := hV c hc
      have e : (p2 - (vot c)).toInt = (v : Int) - (cV T c : Int) := q_sub h2 hc9.1 (by omega) (by omega)
      refine sX7_election_20 T (wV T c v) rfl parts limit vot p1 p2 hN hV (fun p hp => ?_) _ (fun s => ?_) (by omega) (fun q => absurd (by omega) q)
      · show (if p = c then v else cV T p) ≤ 9
        have := hV p hp
        split <;> omega
      · rw [voS_wV, e]
        have e3 : p1.toInt.toNat = c := by omega
        rw [e3]
        by_cases hb : s.testBit c = true
        · rw [if_pos ⟨hc, hb⟩, if_pos ⟨by omega, hb⟩]
        · rw [if_neg (fun q => hb q.2), if_neg (fun q => hb q.2)]
set_option maxRecDepth 20000 in
theorem ggX7_codeChip_X8_rest : GoodIn wsX7_codeChip wsX8_rest := goodIn_r _ [6] (by decide +kernel) (by decide +kernel)
set_option maxRecDepth 20000 in
theorem gX7_codeChip_X8_rest_n52 : GoodIn wsX7_codeChip (wsX8_rest) := ggX7_codeChip_X8_rest
theorem dX7_codeChip_0 : decode cX7_codeChip 0 = .ok (.iconst 0, 1) := by decide +kernel
theorem dX7_codeChip_1 : decode cX7_codeChip 1 = .ok (.istore_n 3, 1) := by decide +kernel
theorem dX7_codeChip_2 : decode cX7_codeChip 2 = .ok (.iconst 0, 1) := by decide +kernel
theorem dX7_codeChip_3 : decode cX7_codeChip 3 = .ok (.istore 4, 2) := by decide +kernel
theorem dX7_codeChip_5 : decode cX7_codeChip 5 = .ok (.iload 4, 2) := by decide +kernel
theorem dX7_codeChip_7 : decode cX7_codeChip 7 = .ok (.aload_n 0, 1) := by decide +kernel
theorem dX7_codeChip_8 : decode cX7_codeChip 8 = .ok (.getfield 32, 3) := by decide +kernel
theorem dX7_codeChip_11 : decode cX7_codeChip 11 = .ok (.if_icmp .ge 36, 3) := by decide +kernel
theorem dX7_codeChip_14 : decode cX7_codeChip 14 = .ok (.iload_n 3, 1) := by decide +kernel
theorem dX7_codeChip_15 : decode cX7_codeChip 15 = .ok (.aload_n 0, 1) := by decide +kernel
theorem dX7_codeChip_16 : decode cX7_codeChip 16 = .ok (.getfield 15, 3) := by decide +kernel
theorem dX7_codeChip_19 : decode cX7_codeChip 19 = .ok (.iload 4, 2) := by decide +kernel
theorem dX7_codeChip_21 : decode cX7_codeChip 21 = .ok (.iaload, 1) := by decide +kernel
theorem dX7_codeChip_22 : decode cX7_codeChip 22 = .ok (.iload_n 1, 1) := by decide +kernel
theorem dX7_codeChip_23 : decode cX7_codeChip 23 = .ok (.aload_n 0, 1) := by decide +kernel
theorem dX7_codeChip_24 : decode cX7_codeChip 24 = .ok (.getfield 9, 3) := by decide +kernel
theorem dX7_codeChip_27 : decode cX7_codeChip 27 = .ok (.iload 4, 2) := by decide +kernel
theorem dX7_codeChip_29 : decode cX7_codeChip 29 = .ok (.iaload, 1) := by decide +kernel
theorem dX7_codeChip_30 : decode cX7_codeChip 30 = .ok (.invokestatic 52, 3) := by decide +kernel
theorem dX7_codeChip_33 : decode cX7_codeChip 33 = .ok (.ishr, 1) := by decide +kernel
theorem dX7_codeChip_34 : decode cX7_codeChip 34 = .ok (.iconst 1, 1) := by decide +kernel
theorem dX7_codeChip_35 : decode cX7_codeChip 35 = .ok (.iand, 1) := by decide +kernel
theorem dX7_codeChip_36 : decode cX7_codeChip 36 = .ok (.iload 4, 2) := by decide +kernel
theorem dX7_codeChip_38 : decode cX7_codeChip 38 = .ok (.ishl, 1) := by decide +kernel
theorem dX7_codeChip_39 : decode cX7_codeChip 39 = .ok (.ior, 1) := by decide +kernel
theorem dX7_codeChip_40 : decode cX7_codeChip 40 = .ok (.istore_n 3, 1) := by decide +kernel
theorem dX7_codeChip_41 : decode cX7_codeChip 41 = .ok (.iinc 4 1, 3) := by decide +kernel
theorem dX7_codeChip_44 : decode cX7_codeChip 44 = .ok (.goto (-39), 3) := by decide +kernel
theorem dX7_codeChip_47 : decode cX7_codeChip 47 = .ok (.iload_n 2, 1) := by decide +kernel
theorem dX7_codeChip_48 : decode cX7_codeChip 48 = .ok (.iload_n 3, 1) := by decide +kernel
theorem dX7_codeChip_49 : decode cX7_codeChip 49 = .ok (.iushr, 1) := by decide +kernel
theorem dX7_codeChip_50 : decode cX7_codeChip 50 = .ok (.iconst 1, 1) := by decide +kernel
theorem dX7_codeChip_51 : decode cX7_codeChip 51 = .ok (.iand, 1) := by decide +kernel
theorem dX7_codeChip_52 : decode cX7_codeChip 52 = .ok (.ireturn, 1) := by decide +kernel
abbrev rmX7_codeChip : Room := { frames := 1, cells := 0, slots := 0, locals := 22 }
theorem inX7_codeChip_7 : ∀ w ∈ wsX70, w ∈ wsX7_codeChip := by decide +kernel
def vX7_codeChip_c5 (parts : Int32) (limit : Int32) (len : Nat → Int32) (row : Nat → Int32) (p1 : Int32) (p2 : Int32) (Q : Int32 → Prop) : Nat → Int32 → Int32 → Prop
  | 0, _, _ => False
  | n + 1, x3, x4 => ((parts ≤ x4 → (Q (((p2.toUInt32 >>> (x3.toUInt32 &&& Int32.toUInt32 31)).toInt32) &&& (1 : Int32)))) ∧ (¬ parts ≤ x4 → (vp_in x4 5 ∧ (vp_in x4 5 ∧ (preX8_rest p1 (len x4.toNatClampNeg) ∧ (∀ r_30 : Int32, postX8_rest p1 (len x4.toNatClampNeg) r_30 → (∀ y_40 : Int32, y_40 = (x3 ||| ((((row x4.toNatClampNeg) >>> (r_30 &&& 31)) &&& (1 : Int32)) <<< (x4 &&& 31))) → (vX7_codeChip_c5 parts limit len row p1 p2 Q n y_40 (x4 + (1 : Int32))))))))))
set_option maxHeartbeats 4000000 in
set_option maxRecDepth 100000 in
theorem kX7_codeChip_c5 {p : Program} {l : Launch} {e : Env} {s : State} {m : MethodId} {args : Array Value} {below : List Frame} {meth : Method} {c : Code} {g : GP} {qt ql qr qv qg : Nat} {parts : Int32} {limit : Int32} {len : Nat → Int32} {row : Nat → Int32} {p1 : Int32} {p2 : Int32} {Q : Int32 → Prop} (S : CallFix p m c cX7_codeChip 5 s args wsX7_codeChip RX7) (hr : meth.sig.returnType = (some .int)) (hlocks : meth.locks = false) (hG : GK g s) (hP : va_P g.1 vwCl [(qt, .inr (7, [.ref ql, .ref qr, .ref qv, .ref qg, .int parts, .int limit])), (ql, .inl (g.2 0, 5, .inl len)), (qr, .inl (g.2 0, 5, .inl row))] s.heap) : ∀ (n : Nat), ∀ (x3 : Int32) (x4 : Int32), vX7_codeChip_c5 parts limit len row p1 p2 Q n x3 x4 → ∀ (ls : Array Slot), lv_has ls 5 [(0, .ref qt), (1, .int p1), (2, .int p2), (3, .int x3), (4, .int x4)] → W p l e (headSpec wsX7_codeChip rmX7_codeChip).room s m args below meth c s.heap [] 0 0 (MQ below (vp_Si Q) args s 0 0 (fun _ => False)) (F0 m 5 ls []) := by
  obtain ⟨hx, hb, hml, hown, hts⟩ := id S
  have hK := hG.1
  intro n
  induction n with
  | zero => intro x3 x4 hv; exact hv.elim
  | succ n ih =>
    intro x3 x4 hv ls hl
    refine lv_iload hx hb dX7_codeChip_5 (lv_at hl 4 rfl) ?_
    refine lv_aload_n hx hb dX7_codeChip_7 rfl (lv_at hl 0 rfl) ?_
    refine va_get (D := g.1) (ci := 7) (v := .int parts) (C := RX7) (T := TX7) (N := 6) hx hb hts inX7_codeChip_7 hown hK hP 0 rfl rfl 4 (by decide) (hts (.fieldLink RX7 32 "RangeCodes$Told" "parts" "I") (List.mem_of_getElem? (i := 1) rfl)) (fun _ h9 => h9) rfl dX7_codeChip_8 ?_
    obtain ⟨hvt, hvf⟩ := hv
    refine lv_icmp_ge (tgt := 47) hx hb dX7_codeChip_11 (by decide) (fun hc => ?_) (fun hc => ?_)
    · have hv := hvt hc
      refine lv_iload_n hx hb dX7_codeChip_47 rfl (lv_at hl 2 rfl) ?_
      refine lv_iload_n hx hb dX7_codeChip_48 rfl (lv_at hl 3 rfl) ?_
      refine lv_iushr (v := ((p2.toUInt32 >>> (x3.toUInt32 &&& Int32.toUInt32 31)).toInt32)) hx hb dX7_codeChip_49 rfl ?_
      refine lv_iconst (v := (1 : Int32)) hx hb dX7_codeChip_50 (by decide) ?_
      refine lv_iand hx hb dX7_codeChip_51 ?_
      exact W.iret (v := (((p2.toUInt32 >>> (x3.toUInt32 &&& Int32.toUInt32 31)).toInt32) &&& (1 : Int32))) hx hb hr (fun t ht hW => ⟨_, rfl, hv, ht⟩) (fun _ h => by cases h) dX7_codeChip_52
    · have hv := hvf hc
      refine lv_iload_n hx hb dX7_codeChip_14 rfl (lv_at hl 3 rfl) ?_
      refine lv_aload_n hx hb dX7_codeChip_15 rfl (lv_at hl 0 rfl) ?_
      refine va_get (D := g.1) (ci := 7) (v := .ref qr) (C := RX7) (T := TX7) (N := 6) hx hb hts inX7_codeChip_7 hown hK hP 0 rfl rfl 1 (by decide) (hts (.fieldLink RX7 15 "RangeCodes$Told" "rows" "[I") (List.mem_of_getElem? (i := 2) rfl)) (fun _ h9 => h9) rfl dX7_codeChip_16 ?_
      refine lv_iload hx hb dX7_codeChip_19 (lv_at hl 4 rfl) ?_
      obtain ⟨ho_1, hv⟩ := hv
      refine va_iald hx hb hK hP 2 0 rfl rfl ho_1 dX7_codeChip_21 ?_
      refine lv_iload_n hx hb dX7_codeChip_22 rfl (lv_at hl 1 rfl) ?_
      refine lv_aload_n hx hb dX7_codeChip_23 rfl (lv_at hl 0 rfl) ?_
      refine va_get (D := g.1) (ci := 7) (v := .ref ql) (C := RX7) (T := TX7) (N := 6) hx hb hts inX7_codeChip_7 hown hK hP 0 rfl rfl 0 (by decide) (hts (.fieldLink RX7 9 "RangeCodes$Told" "lengths" "[I") (List.mem_of_getElem? (i := 3) rfl)) (fun _ h9 => h9) rfl dX7_codeChip_24 ?_
      refine lv_iload hx hb dX7_codeChip_27 (lv_at hl 4 rfl) ?_
      obtain ⟨ho_2, hv⟩ := hv
      refine va_iald hx hb hK hP 1 0 rfl rfl ho_2 dX7_codeChip_29 ?_
      obtain ⟨ho_3, hv⟩ := hv
      refine vp_callSi (run_of (va_runSN (As := [.int p1, .int (len x4.toNatClampNeg)]) (rest := [.int (row x4.toNatClampNeg), .int x3]) S (wX8_rest l g p1 (len x4.toNatClampNeg) (sX8_rest p1 (len x4.toNatClampNeg) ho_3)) ⟨va_cnB 2 hts gX7_codeChip_X8_rest_n52 rfl rfl rfl (hG.2 _ (List.mem_of_getElem? (i := 9) rfl)) (hts (.initialized RX8) (List.mem_of_getElem? (i := 5) rfl)) (by decide +kernel) ⟨Nat.le_of_ble_eq_true rfl, Nat.le_of_ble_eq_true rfl⟩, (hts (.static yX8_rest) (List.mem_of_getElem? (i := 4) rfl)), trivial⟩ ⟨blindRO, fun U hU hW => ⟨rfl, by rw [hU]; exact hP.sub [] rfl, hG.warm hW⟩⟩ rfl rfl hl.1 rfl (lv_room (Nat.le_of_ble_eq_true rfl)) dX7_codeChip_30 ⟨Nat.le_of_ble_eq_true rfl, Nat.le_of_ble_eq_true rfl⟩)) (fun r_30 hr_30 => ?_)
      have hv := hv r_30 hr_30
      refine lv_ishr hx hb dX7_codeChip_33 ?_
      refine lv_iconst (v := (1 : Int32)) hx hb dX7_codeChip_34 (by decide) ?_
      refine lv_iand hx hb dX7_codeChip_35 ?_
      refine lv_iload hx hb dX7_codeChip_36 (lv_at hl 4 rfl) ?_
      refine lv_ishl hx hb dX7_codeChip_38 ?_
      refine lv_ior hx hb dX7_codeChip_39 ?_
      refine lv_topi (fun y_40 ey_40 => ?_)
      have hv := hv y_40 ey_40
      refine lv_istore_n (lv' := [(3, .int y_40), (0, .ref qt), (1, .int p1), (2, .int p2), (4, .int x4)]) hx hb dX7_codeChip_40 rfl hl (by decide) rfl (fun ls hl => ?_)
      refine lv_iinc (v := (x4 + (1 : Int32))) (lv' := [(4, .int (x4 + (1 : Int32))), (3, .int y_40), (0, .ref qt), (1, .int p1), (2, .int p2)]) hx hb dX7_codeChip_41 hl (k := 4) rfl rfl (by decide) rfl (fun ls hl => ?_)
      refine lv_goto (tgt := 5) hx hb dX7_codeChip_44 (by decide) ?_
      exact ih _ _ hv ls (lv_sub hl [2, 3, 4, 1, 0] rfl)
def vX7_codeChip (parts : Int32) (limit : Int32) (len : Nat → Int32) (row : Nat → Int32) (p1 : Int32) (p2 : Int32) (Q : Int32 → Prop) : Prop := (∃ nn, vX7_codeChip_c5 parts limit len row p1 p2 Q nn (0 : Int32) (0 : Int32))
set_option maxHeartbeats 4000000 in
set_option maxRecDepth 100000 in
theorem wX7_codeChip (l : Launch) (g : GP) (qt : Nat) (ql : Nat) (qr : Nat) (qv : Nat) (qg : Nat) (parts : Int32) (limit : Int32) (len : Nat → Int32) (row : Nat → Int32) (p1 : Int32) (p2 : Int32) {Q : Int32 → Prop} (hv : vX7_codeChip parts limit len row p1 p2 Q) : Met l yX7_codeChip wsX7_codeChip rmX7_codeChip (va_Pc [.ref qt, .int p1, .int p2] (fun U => va_P g.1 vwCl [(qt, .inr (7, [.ref ql, .ref qr, .ref qv, .ref qg, .int parts, .int limit])), (ql, .inl (g.2 0, 5, .inl len)), (qr, .inl (g.2 0, 5, .inl row))] U.heap ∧ GK g U)) (vp_Si Q) 0 0 (fun _ => False) := by
  refine Met.ofW (cc := cX7_codeChip) (maxL := 5) (ret := (some .int)) (by decide) rfl ?_
  intro p e s m args below meth c s₁ B hml hv'
  obtain ⟨rfl, hP, hG⟩ := hv'
  have S : CallFix p m c cX7_codeChip 5 s _ wsX7_codeChip RX7 := ⟨B.exec, B.bytes, hml, findClass_of_methodNamed B.named, atoms_spec (ws := wsX7_codeChip) B.pre⟩
  obtain ⟨hx, hb, hml, hown, hts⟩ := id S
  have hK := hG.1
  have hr := B.returns
  have hlocks := B.notSynchronized
  have hl := lv_entry ([.ref qt, .int p1, .int p2]) (n := 5) (Nat.le_of_ble_eq_true rfl)
  rw [lg_entry_eq]
  generalize (lg_sl ([.ref qt, .int p1, .int p2]) ++ List.replicate (5 - (lg_sl ([.ref qt, .int p1, .int p2])).length) Slot.unset).toArray = ls at hl ⊢
  have hl : lv_has ls 5 [(0, .ref qt), (1, .int p1), (2, .int p2)] := hl
  unfold vX7_codeChip at hv
  refine lv_iconst (v := (0 : Int32)) hx hb dX7_codeChip_0 (by decide) ?_
  refine lv_istore_n (lv' := [(3, .int (0 : Int32)), (0, .ref qt), (1, .int p1), (2, .int p2)]) hx hb dX7_codeChip_1 rfl hl (by decide) rfl (fun ls hl => ?_)
  refine lv_iconst (v := (0 : Int32)) hx hb dX7_codeChip_2 (by decide) ?_
  refine lv_istore (lv' := [(4, .int (0 : Int32)), (3, .int (0 : Int32)), (0, .ref qt), (1, .int p1), (2, .int p2)]) hx hb dX7_codeChip_3 hl (by decide) rfl (fun ls hl => ?_)
  obtain ⟨nn, hv⟩ := hv
  exact kX7_codeChip_c5 S hr hlocks hG hP nn _ _ hv ls (lv_sub hl [2, 3, 4, 1, 0] rfl)
abbrev preX7_codeChip (T : Cd) (E : Nat → Bool) (parts _ : Int32) (len row : Nat → Int32) (_ p2 : Int32) : Prop := isN T parts ∧ isL T len ∧ isR T row ∧ ∀ s, s < 2 ^ cn T → bt p2 s = E s
abbrev postX7_codeChip (T : Cd) (E : Nat → Bool) (_ _ : Int32) (_ _ : Nat → Int32) (p1 _ r : Int32) : Prop := r = if E (chS T p1.toInt (cn T)) then 1 else 0
theorem sX7_codeChip_1 (T : Cd) (E : Nat → Bool) (parts limit : Int32) (len row : Nat → Int32) (p1 p2 : Int32) (h : preX7_codeChip T E parts limit len row p1 p2) : ∀ (n i : Nat) (x3 x4 : Int32), x3.toInt = ((chS T p1.toInt i : Nat) : Int) → x4.toInt = (i : Int) → i ≤ cn T → cn T + 1 ≤ i + n → vX7_codeChip_c5 parts limit len row p1 p2 (postX7_codeChip T E parts limit len row p1 p2) n x3 x4
  | 0, i, x3, x4, _, _, hi, hn => absurd hn (by omega)
  | n + 1, i, x3, x4, h3, h4, hi, hn => by
    obtain ⟨hN, hL, hR, hE⟩ := id h
    have hN5 := hN.2
    have hlt := chS_lt T p1.toInt i
    have h32 := p32_le (k := i) (by omega)
    rw [vX7_codeChip_c5]
    rw [q_le hN.1 h4]
    refine ⟨fun hc => ?_, fun hc => ?_⟩
    · have : i = cn T := by omega
      subst this
      show _ = _
      rw [bt_and1, q_eqN h3, b_ushr _ (by omega), Nat.add_zero, hE _ hlt]
    · have hi2 : i < cn T := by omega
      have hl := hL i hi2
      have hr := hR i hi2
      have h4s := q_1 h4 (by omega)
      have hin : vp_in x4 5 := q_in h4 (by omega)
      refine ⟨hin, hin, ?_⟩
      rw [q_cl h4]
      refine ⟨by show 0 < (len i).toInt; omega, fun r hq y hy => ?_⟩
      have hq : r.toInt = p1.toInt % (len i).toInt := hq
      rw [hl.1] at hq
      have e := emN (t := p1.toInt) (L := cL T i) (by omega)
      rw [← e.1] at hq
      rw [q_bit hr.1 hq (by omega)] at hy
      refine sX7_codeChip_1 T E parts limit len row p1 p2 h n (i + 1) _ _ ?_ h4s hi2 (by omega)
      rw [hy, chS]
      have h2i : 2 ^ i ≤ 16 := by
        rcases (show i = 0 ∨ i = 1 ∨ i = 2 ∨ i = 3 ∨ i = 4 by omega) with rfl | rfl | rfl | rfl | rfl <;> decide
      have hcb : (cR T i).testBit (p1.toInt % (cL T i : Int)).toNat = chB T i p1.toInt := rfl
      rw [hcb]
      cases chB T i p1.toInt with
      | false =>
        have e0 : ((if (false = true) then (1 : Int32) else 0) <<< (x4 &&& 31)).toInt = ((2 ^ i * 0 : Nat) : Int) := by
          have := q_shlN (x := 0) (a := 0) rfl h4 (by omega) (by omega)
          simpa using this
        rw [q_orS h3 hlt e0 (by omega)]
        simp
      | true =>
        have e0 : ((if (true = true) then (1 : Int32) else 0) <<< (x4 &&& 31)).toInt = ((2 ^ i * 1 : Nat) : Int) := by
          have := q_shlN (x := 1) (a := 1) rfl h4 (by omega) (by omega)
          simpa using this
        rw [q_orS h3 hlt e0 (by omega)]
        simp
        omega
theorem sX7_codeChip (T : Cd) (E : Nat → Bool) (parts limit : Int32) (len row : Nat → Int32) (p1 p2 : Int32) (h : preX7_codeChip T E parts limit len row p1 p2) : vX7_codeChip parts limit len row p1 p2 (postX7_codeChip T E parts limit len row p1 p2) :=
  ⟨cn T + 1, sX7_codeChip_1 T E parts limit len row p1 p2 h (cn T + 1) 0 0 0 rfl rfl (by omega) (by omega)⟩
