theorem dX8_rest_0 : decode cX8_rest 0 = .ok (.iload_n 1, 1) := by decide +kernel
theorem dX8_rest_1 : decode cX8_rest 1 = .ok (.iconst 1, 1) := by decide +kernel
theorem dX8_rest_2 : decode cX8_rest 2 = .ok (.if_icmp .ge 5, 3) := by decide +kernel
theorem dX8_rest_5 : decode cX8_rest 5 = .ok (.iconst 0, 1) := by decide +kernel
theorem dX8_rest_6 : decode cX8_rest 6 = .ok (.ireturn, 1) := by decide +kernel
theorem dX8_rest_7 : decode cX8_rest 7 = .ok (.iload_n 0, 1) := by decide +kernel
theorem dX8_rest_8 : decode cX8_rest 8 = .ok (.iload_n 1, 1) := by decide +kernel
theorem dX8_rest_9 : decode cX8_rest 9 = .ok (.irem, 1) := by decide +kernel
theorem dX8_rest_10 : decode cX8_rest 10 = .ok (.istore_n 2, 1) := by decide +kernel
theorem dX8_rest_11 : decode cX8_rest 11 = .ok (.iload_n 2, 1) := by decide +kernel
theorem dX8_rest_12 : decode cX8_rest 12 = .ok (.ifCond .ge 9, 3) := by decide +kernel
theorem dX8_rest_15 : decode cX8_rest 15 = .ok (.iload_n 2, 1) := by decide +kernel
theorem dX8_rest_16 : decode cX8_rest 16 = .ok (.iload_n 1, 1) := by decide +kernel
theorem dX8_rest_17 : decode cX8_rest 17 = .ok (.iadd, 1) := by decide +kernel
theorem dX8_rest_18 : decode cX8_rest 18 = .ok (.goto 4, 3) := by decide +kernel
theorem dX8_rest_21 : decode cX8_rest 21 = .ok (.iload_n 2, 1) := by decide +kernel
theorem dX8_rest_22 : decode cX8_rest 22 = .ok (.ireturn, 1) := by decide +kernel
abbrev rmX8_rest : Room := { frames := 0, cells := 0, slots := 0, locals := 0 }
def vX8_rest (p1 : Int32) (p2 : Int32) (Q : Int32 → Prop) : Prop := (((1 : Int32) ≤ p2 → (¬ p2 = 0 ∧ ((0 ≤ (p1 - p1 / p2 * p2) → (Q (p1 - p1 / p2 * p2))) ∧ (¬ 0 ≤ (p1 - p1 / p2 * p2) → (Q ((p1 - p1 / p2 * p2) + p2)))))) ∧ (¬ (1 : Int32) ≤ p2 → (Q (0 : Int32))))
set_option maxHeartbeats 4000000 in
set_option maxRecDepth 100000 in
theorem wX8_rest (l : Launch) (g : GP)  (p1 : Int32) (p2 : Int32) {Q : Int32 → Prop} (hv : vX8_rest p1 p2 Q) : Met l yX8_rest wsX8_rest rmX8_rest (va_Pc [.int p1, .int p2] (fun U => va_P g.1 vwCl [] U.heap ∧ GK g U)) (vp_Si Q) 0 0 (fun _ => False) := by
  refine Met.ofW (cc := cX8_rest) (maxL := 3) (ret := (some .int)) (by decide) rfl ?_
  intro p e s m args below meth c s₁ B hml hv'
  obtain ⟨rfl, hP, hG⟩ := hv'
  have S : CallFix p m c cX8_rest 3 s _ wsX8_rest RX8 := ⟨B.exec, B.bytes, hml, findClass_of_methodNamed B.named, atoms_spec (ws := wsX8_rest) B.pre⟩
  obtain ⟨hx, hb, hml, hown, hts⟩ := id S
  have hK := hG.1
  have hr := B.returns
  have hlocks := B.notSynchronized
  have hl := lv_entry ([.int p1, .int p2]) (n := 3) (Nat.le_of_ble_eq_true rfl)
  rw [lg_entry_eq]
  generalize (lg_sl ([.int p1, .int p2]) ++ List.replicate (3 - (lg_sl ([.int p1, .int p2])).length) Slot.unset).toArray = ls at hl ⊢
  have hl : lv_has ls 3 [(0, .int p1), (1, .int p2)] := hl
  unfold vX8_rest at hv
  refine lv_iload_n hx hb dX8_rest_0 rfl (lv_at hl 1 rfl) ?_
  refine lv_iconst (v := (1 : Int32)) hx hb dX8_rest_1 (by decide) ?_
  obtain ⟨hvt, hvf⟩ := hv
  refine lv_icmp_ge (tgt := 7) hx hb dX8_rest_2 (by decide) (fun hc => ?_) (fun hc => ?_)
  · have hv := hvt hc
    refine lv_iload_n hx hb dX8_rest_7 rfl (lv_at hl 0 rfl) ?_
    refine lv_iload_n hx hb dX8_rest_8 rfl (lv_at hl 1 rfl) ?_
    obtain ⟨ho_1, hv⟩ := hv
    refine lv_irem hx hb dX8_rest_9 ho_1 ?_
    refine lv_istore_n (lv' := [(2, .int (p1 - p1 / p2 * p2)), (0, .int p1), (1, .int p2)]) hx hb dX8_rest_10 rfl hl (by decide) rfl (fun ls hl => ?_)
    refine lv_iload_n hx hb dX8_rest_11 rfl (lv_at hl 0 rfl) ?_
    obtain ⟨hvt, hvf⟩ := hv
    refine lv_if_ge (tgt := 21) hx hb dX8_rest_12 (by decide) (fun hc => ?_) (fun hc => ?_)
    · have hv := hvt hc
      refine lv_iload_n hx hb dX8_rest_21 rfl (lv_at hl 0 rfl) ?_
      exact W.iret (v := (p1 - p1 / p2 * p2)) hx hb hr (fun t ht hW => ⟨_, rfl, hv, ht⟩) (fun _ h => by cases h) dX8_rest_22
    · have hv := hvf hc
      refine lv_iload_n hx hb dX8_rest_15 rfl (lv_at hl 0 rfl) ?_
      refine lv_iload_n hx hb dX8_rest_16 rfl (lv_at hl 2 rfl) ?_
      refine lv_iadd hx hb dX8_rest_17 ?_
      refine lv_goto (tgt := 22) hx hb dX8_rest_18 (by decide) ?_
      exact W.iret (v := ((p1 - p1 / p2 * p2) + p2)) hx hb hr (fun t ht hW => ⟨_, rfl, hv, ht⟩) (fun _ h => by cases h) dX8_rest_22
  · have hv := hvf hc
    refine lv_iconst (v := (0 : Int32)) hx hb dX8_rest_5 (by decide) ?_
    exact W.iret (v := (0 : Int32)) hx hb hr (fun t ht hW => ⟨_, rfl, hv, ht⟩) (fun _ h => by cases h) dX8_rest_6
abbrev preX8_rest (_ p2 : Int32) : Prop := 0 < p2.toInt
abbrev postX8_rest (p1 p2 r : Int32) : Prop := r.toInt = p1.toInt % p2.toInt
theorem sX8_rest (p1 p2 : Int32) (h : preX8_rest p1 p2) : vX8_rest p1 p2 (postX8_rest p1 p2) := by
  have h0 : ¬ p2 = 0 := fun q => by rw [fa_eq, z0] at q; omega
  have e := q_rem (x := p1) h
  have e2 := q_tmod_emod (a := p1.toInt) h
  have l1 := Int.tmod_lt_of_pos p1.toInt h
  have l2 := Int.lt_tmod_of_pos p1.toInt h
  have l3 := fb_rng p2
  have key : (0 ≤ (p1 - p1 / p2 * p2) → (p1 - p1 / p2 * p2).toInt = p1.toInt % p2.toInt) ∧ (¬ 0 ≤ (p1 - p1 / p2 * p2) → ((p1 - p1 / p2 * p2) + p2).toInt = p1.toInt % p2.toInt) := by
    refine ⟨fun hc => ?_, fun hc => ?_⟩
    · rw [fa_le, e, z0] at hc
      rw [e, e2, if_pos hc]
    · rw [fa_le, e, z0] at hc
      rw [q_add e rfl (by omega) (by omega), e2, if_neg hc]
  unfold vX8_rest
  refine ⟨fun _ => ⟨h0, key⟩, fun hc => absurd ?_ hc⟩
  rw [fa_le, z1]
  omega
theorem dX9_rest_0 : decode cX9_rest 0 = .ok (.iload_n 0, 1) := by decide +kernel
theorem dX9_rest_1 : decode cX9_rest 1 = .ok (.iload_n 1, 1) := by decide +kernel
theorem dX9_rest_2 : decode cX9_rest 2 = .ok (.irem, 1) := by decide +kernel
theorem dX9_rest_3 : decode cX9_rest 3 = .ok (.istore_n 2, 1) := by decide +kernel
theorem dX9_rest_4 : decode cX9_rest 4 = .ok (.iload_n 2, 1) := by decide +kernel
theorem dX9_rest_5 : decode cX9_rest 5 = .ok (.ifCond .ge 9, 3) := by decide +kernel
theorem dX9_rest_8 : decode cX9_rest 8 = .ok (.iload_n 2, 1) := by decide +kernel
theorem dX9_rest_9 : decode cX9_rest 9 = .ok (.iload_n 1, 1) := by decide +kernel
theorem dX9_rest_10 : decode cX9_rest 10 = .ok (.iadd, 1) := by decide +kernel
theorem dX9_rest_11 : decode cX9_rest 11 = .ok (.goto 4, 3) := by decide +kernel
theorem dX9_rest_14 : decode cX9_rest 14 = .ok (.iload_n 2, 1) := by decide +kernel
theorem dX9_rest_15 : decode cX9_rest 15 = .ok (.ireturn, 1) := by decide +kernel
abbrev rmX9_rest : Room := { frames := 0, cells := 0, slots := 0, locals := 0 }
def vX9_rest (p1 : Int32) (p2 : Int32) (Q : Int32 → Prop) : Prop := (¬ p2 = 0 ∧ ((0 ≤ (p1 - p1 / p2 * p2) → (Q (p1 - p1 / p2 * p2))) ∧ (¬ 0 ≤ (p1 - p1 / p2 * p2) → (Q ((p1 - p1 / p2 * p2) + p2)))))
set_option maxHeartbeats 4000000 in
set_option maxRecDepth 100000 in
theorem wX9_rest (l : Launch) (g : GP)  (p1 : Int32) (p2 : Int32) {Q : Int32 → Prop} (hv : vX9_rest p1 p2 Q) : Met l yX9_rest wsX9_rest rmX9_rest (va_Pc [.int p1, .int p2] (fun U => va_P g.1 vwCl [] U.heap ∧ GK g U)) (vp_Si Q) 0 0 (fun _ => False) := by
  refine Met.ofW (cc := cX9_rest) (maxL := 3) (ret := (some .int)) (by decide) rfl ?_
  intro p e s m args below meth c s₁ B hml hv'
  obtain ⟨rfl, hP, hG⟩ := hv'
  have S : CallFix p m c cX9_rest 3 s _ wsX9_rest RX9 := ⟨B.exec, B.bytes, hml, findClass_of_methodNamed B.named, atoms_spec (ws := wsX9_rest) B.pre⟩
  obtain ⟨hx, hb, hml, hown, hts⟩ := id S
  have hK := hG.1
  have hr := B.returns
  have hlocks := B.notSynchronized
  have hl := lv_entry ([.int p1, .int p2]) (n := 3) (Nat.le_of_ble_eq_true rfl)
  rw [lg_entry_eq]
  generalize (lg_sl ([.int p1, .int p2]) ++ List.replicate (3 - (lg_sl ([.int p1, .int p2])).length) Slot.unset).toArray = ls at hl ⊢
  have hl : lv_has ls 3 [(0, .int p1), (1, .int p2)] := hl
  unfold vX9_rest at hv
  refine lv_iload_n hx hb dX9_rest_0 rfl (lv_at hl 0 rfl) ?_
  refine lv_iload_n hx hb dX9_rest_1 rfl (lv_at hl 1 rfl) ?_
  obtain ⟨ho_1, hv⟩ := hv
  refine lv_irem hx hb dX9_rest_2 ho_1 ?_
  refine lv_istore_n (lv' := [(2, .int (p1 - p1 / p2 * p2)), (0, .int p1), (1, .int p2)]) hx hb dX9_rest_3 rfl hl (by decide) rfl (fun ls hl => ?_)
  refine lv_iload_n hx hb dX9_rest_4 rfl (lv_at hl 0 rfl) ?_
  obtain ⟨hvt, hvf⟩ := hv
  refine lv_if_ge (tgt := 14) hx hb dX9_rest_5 (by decide) (fun hc => ?_) (fun hc => ?_)
  · have hv := hvt hc
    refine lv_iload_n hx hb dX9_rest_14 rfl (lv_at hl 0 rfl) ?_
    exact W.iret (v := (p1 - p1 / p2 * p2)) hx hb hr (fun t ht hW => ⟨_, rfl, hv, ht⟩) (fun _ h => by cases h) dX9_rest_15
  · have hv := hvf hc
    refine lv_iload_n hx hb dX9_rest_8 rfl (lv_at hl 0 rfl) ?_
    refine lv_iload_n hx hb dX9_rest_9 rfl (lv_at hl 2 rfl) ?_
    refine lv_iadd hx hb dX9_rest_10 ?_
    refine lv_goto (tgt := 15) hx hb dX9_rest_11 (by decide) ?_
    exact W.iret (v := ((p1 - p1 / p2 * p2) + p2)) hx hb hr (fun t ht hW => ⟨_, rfl, hv, ht⟩) (fun _ h => by cases h) dX9_rest_15
abbrev preX9_rest (_ p2 : Int32) : Prop := 0 < p2.toInt
abbrev postX9_rest (p1 p2 r : Int32) : Prop := r.toInt = p1.toInt % p2.toInt
theorem sX9_rest (p1 p2 : Int32) (h : preX9_rest p1 p2) : vX9_rest p1 p2 (postX9_rest p1 p2) := by
  have h0 : ¬ p2 = 0 := fun q => by rw [fa_eq, z0] at q; omega
  have e := q_rem (x := p1) h
  have e2 := q_tmod_emod (a := p1.toInt) h
  have l1 := Int.tmod_lt_of_pos p1.toInt h
  have l2 := Int.lt_tmod_of_pos p1.toInt h
  have l3 := fb_rng p2
  have key : (0 ≤ (p1 - p1 / p2 * p2) → (p1 - p1 / p2 * p2).toInt = p1.toInt % p2.toInt) ∧ (¬ 0 ≤ (p1 - p1 / p2 * p2) → ((p1 - p1 / p2 * p2) + p2).toInt = p1.toInt % p2.toInt) := by
    refine ⟨fun hc => ?_, fun hc => ?_⟩
    · rw [fa_le, e, z0] at hc
      rw [e, e2, if_pos hc]
    · rw [fa_le, e, z0] at hc
      rw [q_add e rfl (by omega) (by omega), e2, if_neg hc]
  unfold vX9_rest
  exact ⟨h0, key⟩
theorem dX8_commonDivisor_0 : decode cX8_commonDivisor 0 = .ok (.lload_n 0, 1) := by decide +kernel
theorem dX8_commonDivisor_1 : decode cX8_commonDivisor 1 = .ok (.lstore 4, 2) := by decide +kernel
theorem dX8_commonDivisor_3 : decode cX8_commonDivisor 3 = .ok (.lload_n 2, 1) := by decide +kernel
theorem dX8_commonDivisor_4 : decode cX8_commonDivisor 4 = .ok (.lstore 6, 2) := by decide +kernel
theorem dX8_commonDivisor_6 : decode cX8_commonDivisor 6 = .ok (.iconst 0, 1) := by decide +kernel
theorem dX8_commonDivisor_7 : decode cX8_commonDivisor 7 = .ok (.istore 8, 2) := by decide +kernel
theorem dX8_commonDivisor_9 : decode cX8_commonDivisor 9 = .ok (.iload 8, 2) := by decide +kernel
theorem dX8_commonDivisor_11 : decode cX8_commonDivisor 11 = .ok (.sipush 200, 3) := by decide +kernel
theorem dX8_commonDivisor_14 : decode cX8_commonDivisor 14 = .ok (.if_icmp .ge 31, 3) := by decide +kernel
theorem dX8_commonDivisor_17 : decode cX8_commonDivisor 17 = .ok (.lload 6, 2) := by decide +kernel
theorem dX8_commonDivisor_19 : decode cX8_commonDivisor 19 = .ok (.lconst 0, 1) := by decide +kernel
theorem dX8_commonDivisor_20 : decode cX8_commonDivisor 20 = .ok (.lcmp, 1) := by decide +kernel
theorem dX8_commonDivisor_21 : decode cX8_commonDivisor 21 = .ok (.ifCond .eq 24, 3) := by decide +kernel
theorem dX8_commonDivisor_24 : decode cX8_commonDivisor 24 = .ok (.lload 4, 2) := by decide +kernel
theorem dX8_commonDivisor_26 : decode cX8_commonDivisor 26 = .ok (.lload 6, 2) := by decide +kernel
theorem dX8_commonDivisor_28 : decode cX8_commonDivisor 28 = .ok (.lrem, 1) := by decide +kernel
theorem dX8_commonDivisor_29 : decode cX8_commonDivisor 29 = .ok (.lstore 9, 2) := by decide +kernel
theorem dX8_commonDivisor_31 : decode cX8_commonDivisor 31 = .ok (.lload 6, 2) := by decide +kernel
theorem dX8_commonDivisor_33 : decode cX8_commonDivisor 33 = .ok (.lstore 4, 2) := by decide +kernel
theorem dX8_commonDivisor_35 : decode cX8_commonDivisor 35 = .ok (.lload 9, 2) := by decide +kernel
theorem dX8_commonDivisor_37 : decode cX8_commonDivisor 37 = .ok (.lstore 6, 2) := by decide +kernel
theorem dX8_commonDivisor_39 : decode cX8_commonDivisor 39 = .ok (.iinc 8 1, 3) := by decide +kernel
theorem dX8_commonDivisor_42 : decode cX8_commonDivisor 42 = .ok (.goto (-33), 3) := by decide +kernel
theorem dX8_commonDivisor_45 : decode cX8_commonDivisor 45 = .ok (.lload 4, 2) := by decide +kernel
theorem dX8_commonDivisor_47 : decode cX8_commonDivisor 47 = .ok (.lreturn, 1) := by decide +kernel
abbrev rmX8_commonDivisor : Room := { frames := 0, cells := 0, slots := 0, locals := 0 }
def vX8_commonDivisor_c9 (p1 : Int64) (p2 : Int64) (Q : Int64 → Prop) : Nat → Int64 → Int64 → Int32 → Prop
  | 0, _, _, _ => False
  | n + 1, x4, x6, x8 => (((200 : Int32) ≤ x8 → (Q x4)) ∧ (¬ (200 : Int32) ≤ x8 → (((lg_cmp x6 (0 : Int64)) = 0 → (Q x4)) ∧ (¬ (lg_cmp x6 (0 : Int64)) = 0 → (¬ x6 = 0 ∧ (vX8_commonDivisor_c9 p1 p2 Q n x6 (x4 - x4 / x6 * x6) (x8 + (1 : Int32))))))))
set_option maxHeartbeats 4000000 in
set_option maxRecDepth 100000 in
theorem kX8_commonDivisor_c9 {p : Program} {l : Launch} {e : Env} {s : State} {m : MethodId} {args : Array Value} {below : List Frame} {meth : Method} {c : Code} {g : GP}  {p1 : Int64} {p2 : Int64} {Q : Int64 → Prop} (S : CallFix p m c cX8_commonDivisor 11 s args wsX8_commonDivisor RX8) (hr : meth.sig.returnType = (some .long)) (hlocks : meth.locks = false) (hG : GK g s) (hP : va_P g.1 vwCl [] s.heap) : ∀ (n : Nat), ∀ (x4 : Int64) (x6 : Int64) (x8 : Int32), vX8_commonDivisor_c9 p1 p2 Q n x4 x6 x8 → ∀ (ls : Array Slot), lv_has ls 11 [(4, .long x4), (6, .long x6), (8, .int x8)] → W p l e (headSpec wsX8_commonDivisor rmX8_commonDivisor).room s m args below meth c s.heap [] 0 0 (MQ below (vp_Sl Q) args s 0 0 (fun _ => False)) (F0 m 9 ls []) := by
  obtain ⟨hx, hb, hml, hown, hts⟩ := id S
  have hK := hG.1
  intro n
  induction n with
  | zero => intro x4 x6 x8 hv; exact hv.elim
  | succ n ih =>
    intro x4 x6 x8 hv ls hl
    refine lv_iload hx hb dX8_commonDivisor_9 (lv_at hl 2 rfl) ?_
    refine lv_sipush (v := (200 : Int32)) hx hb dX8_commonDivisor_11 (by decide) ?_
    obtain ⟨hvt, hvf⟩ := hv
    refine lv_icmp_ge (tgt := 45) hx hb dX8_commonDivisor_14 (by decide) (fun hc => ?_) (fun hc => ?_)
    · have hv := hvt hc
      refine lv_lload hx hb dX8_commonDivisor_45 (lv_at hl 0 rfl) ?_
      exact W.lret (v := x4) hx hb hr (fun t ht hW => ⟨_, rfl, hv, ht⟩) (fun _ h => by cases h) dX8_commonDivisor_47
    · have hv := hvf hc
      refine lv_lload hx hb dX8_commonDivisor_17 (lv_at hl 1 rfl) ?_
      refine lv_lconst (v := (0 : Int64)) hx hb dX8_commonDivisor_19 (by decide) ?_
      refine W.lcmp hx hb dX8_commonDivisor_20 ?_
      obtain ⟨hvt, hvf⟩ := hv
      refine lv_if_eq (tgt := 45) hx hb dX8_commonDivisor_21 (by decide) (fun hc => ?_) (fun hc => ?_)
      · have hv := hvt hc
        refine lv_lload hx hb dX8_commonDivisor_45 (lv_at hl 0 rfl) ?_
        exact W.lret (v := x4) hx hb hr (fun t ht hW => ⟨_, rfl, hv, ht⟩) (fun _ h => by cases h) dX8_commonDivisor_47
      · have hv := hvf hc
        refine lv_lload hx hb dX8_commonDivisor_24 (lv_at hl 0 rfl) ?_
        refine lv_lload hx hb dX8_commonDivisor_26 (lv_at hl 1 rfl) ?_
        obtain ⟨ho_1, hv⟩ := hv
        refine lv_lrem hx hb dX8_commonDivisor_28 ho_1 ?_
        refine lv_lstore (lv' := [(9, .long (x4 - x4 / x6 * x6)), (4, .long x4), (6, .long x6), (8, .int x8)]) hx hb dX8_commonDivisor_29 hl (by decide) rfl (fun ls hl => ?_)
        refine lv_lload hx hb dX8_commonDivisor_31 (lv_at hl 2 rfl) ?_
        refine lv_lstore (lv' := [(4, .long x6), (9, .long (x4 - x4 / x6 * x6)), (6, .long x6), (8, .int x8)]) hx hb dX8_commonDivisor_33 hl (by decide) rfl (fun ls hl => ?_)
        refine lv_lload hx hb dX8_commonDivisor_35 (lv_at hl 1 rfl) ?_
        refine lv_lstore (lv' := [(6, .long (x4 - x4 / x6 * x6)), (4, .long x6), (9, .long (x4 - x4 / x6 * x6)), (8, .int x8)]) hx hb dX8_commonDivisor_37 hl (by decide) rfl (fun ls hl => ?_)
        refine lv_iinc (v := (x8 + (1 : Int32))) (lv' := [(8, .int (x8 + (1 : Int32))), (6, .long (x4 - x4 / x6 * x6)), (4, .long x6), (9, .long (x4 - x4 / x6 * x6))]) hx hb dX8_commonDivisor_39 hl (k := 3) rfl rfl (by decide) rfl (fun ls hl => ?_)
        refine lv_goto (tgt := 9) hx hb dX8_commonDivisor_42 (by decide) ?_
        exact ih _ _ _ hv ls (lv_sub hl [2, 1, 0] rfl)
def vX8_commonDivisor (p1 : Int64) (p2 : Int64) (Q : Int64 → Prop) : Prop := (∃ nn, vX8_commonDivisor_c9 p1 p2 Q nn p1 p2 (0 : Int32))
set_option maxHeartbeats 4000000 in
set_option maxRecDepth 100000 in
theorem wX8_commonDivisor (l : Launch) (g : GP)  (p1 : Int64) (p2 : Int64) {Q : Int64 → Prop} (hv : vX8_commonDivisor p1 p2 Q) : Met l yX8_commonDivisor wsX8_commonDivisor rmX8_commonDivisor (va_Pc [.long p1, .long p2] (fun U => va_P g.1 vwCl [] U.heap ∧ GK g U)) (vp_Sl Q) 0 0 (fun _ => False) := by
  refine Met.ofW (cc := cX8_commonDivisor) (maxL := 11) (ret := (some .long)) (by decide) rfl ?_
  intro p e s m args below meth c s₁ B hml hv'
  obtain ⟨rfl, hP, hG⟩ := hv'
  have S : CallFix p m c cX8_commonDivisor 11 s _ wsX8_commonDivisor RX8 := ⟨B.exec, B.bytes, hml, findClass_of_methodNamed B.named, atoms_spec (ws := wsX8_commonDivisor) B.pre⟩
  obtain ⟨hx, hb, hml, hown, hts⟩ := id S
  have hK := hG.1
  have hr := B.returns
  have hlocks := B.notSynchronized
  have hl := lv_entry ([.long p1, .long p2]) (n := 11) (Nat.le_of_ble_eq_true rfl)
  rw [lg_entry_eq]
  generalize (lg_sl ([.long p1, .long p2]) ++ List.replicate (11 - (lg_sl ([.long p1, .long p2])).length) Slot.unset).toArray = ls at hl ⊢
  have hl : lv_has ls 11 [(0, .long p1), (2, .long p2)] := hl
  unfold vX8_commonDivisor at hv
  refine lv_lload_n hx hb dX8_commonDivisor_0 rfl (lv_at hl 0 rfl) ?_
  refine lv_lstore (lv' := [(4, .long p1), (0, .long p1), (2, .long p2)]) hx hb dX8_commonDivisor_1 hl (by decide) rfl (fun ls hl => ?_)
  refine lv_lload_n hx hb dX8_commonDivisor_3 rfl (lv_at hl 2 rfl) ?_
  refine lv_lstore (lv' := [(6, .long p2), (4, .long p1), (0, .long p1), (2, .long p2)]) hx hb dX8_commonDivisor_4 hl (by decide) rfl (fun ls hl => ?_)
  refine lv_iconst (v := (0 : Int32)) hx hb dX8_commonDivisor_6 (by decide) ?_
  refine lv_istore (lv' := [(8, .int (0 : Int32)), (6, .long p2), (4, .long p1), (0, .long p1), (2, .long p2)]) hx hb dX8_commonDivisor_7 hl (by decide) rfl (fun ls hl => ?_)
  obtain ⟨nn, hv⟩ := hv
  exact kX8_commonDivisor_c9 S hr hlocks hG hP nn _ _ _ hv ls (lv_sub hl [2, 1, 0] rfl)
/-- Euclid's rounds: two of them halve the second number -/
theorem eu_half {b r : Nat} (hr : 0 < r) (h : r < b) : 2 * (b % r) < b := by
  have h1 := Nat.mod_lt b hr
  have h2 := Nat.div_add_mod b r
  have h3 : 1 ≤ b / r := Nat.div_pos (Nat.le_of_lt h) hr
  have h4 : r ≤ r * (b / r) := Nat.le_mul_of_pos_right r h3
  omega
abbrev preX8_commonDivisor (a b : Nat) (p1 p2 : Int64) : Prop := p1.toInt = (a : Int) ∧ p2.toInt = (b : Int)
abbrev postX8_commonDivisor (a b : Nat) (_ _ r : Int64) : Prop := r.toInt = ((Nat.gcd a b : Nat) : Int)
theorem sX8_commonDivisor_1 (p1 p2 : Int64) (Q : Int64 → Prop) (d : Nat) (hQ : ∀ r : Int64, r.toInt = (d : Int) → Q r) : ∀ (n a b k i : Nat) (x4 x6 : Int64) (x8 : Int32), x4.toInt = (a : Int) → x6.toInt = (b : Int) → x8.toInt = (i : Int) → Nat.gcd a b = d → b < 2 ^ k → i + 2 * k + 2 ≤ 200 → 2 * k + 2 ≤ n → vX8_commonDivisor_c9 p1 p2 Q n x4 x6 x8
  | 0, a, b, k, i, x4, x6, x8, _, _, _, _, _, _, hn => absurd hn (by omega)
  | 1, a, b, k, i, x4, x6, x8, _, _, _, _, _, _, hn => absurd hn (by omega)
  | n + 2, a, b, k, i, x4, x6, x8, h4, h6, h8, hd, hk, hi, hn => by
    have c200 : ¬ (200 : Int32) ≤ x8 := by rw [fa_le, h8]; show ¬ (200 : Int) ≤ i; omega
    rw [vX8_commonDivisor_c9]
    refine ⟨fun hc => absurd hc c200, fun _ => ⟨fun hc => ?_, fun hc => ?_⟩⟩
    · rw [lg_cmp_eq, q_l0 h6] at hc
      subst hc
      exact hQ _ (by rw [h4, ← hd, Nat.gcd_zero_right])
    · rw [lg_cmp_eq, q_l0 h6] at hc
      have hb : 0 < b := Nat.pos_of_ne_zero hc
      have h62 : (x4 - x4 / x6 * x6).toInt = ((a % b : Nat) : Int) := q_lrem h4 h6 hb
      have h82 := q_1 h8 (by omega)
      have hd2 : Nat.gcd b (a % b) = d := by rw [← hd, Nat.gcd_comm a b, Nat.gcd_rec b a, Nat.gcd_comm]
      have hlt := Nat.mod_lt a hb
      refine ⟨by rw [q_l0 h6]; exact hc, ?_⟩
      have c201 : ¬ (200 : Int32) ≤ x8 + (1 : Int32) := by rw [fa_le, h82]; show ¬ (200 : Int) ≤ ((i + 1 : Nat) : Int); omega
      rw [vX8_commonDivisor_c9]
      refine ⟨fun hc => absurd hc c201, fun _ => ⟨fun hc => ?_, fun hc => ?_⟩⟩
      · rw [lg_cmp_eq, q_l0 h62] at hc
        rw [hc, Nat.gcd_zero_right] at hd2
        exact hQ _ (by rw [h6, hd2])
      · rw [lg_cmp_eq, q_l0 h62] at hc
        refine ⟨by rw [q_l0 h62]; exact hc, ?_⟩
        have h63 := q_lrem h6 h62 (Nat.pos_of_ne_zero hc)
        have h83 := q_1 h82 (by omega)
        have hh := eu_half (Nat.pos_of_ne_zero hc) hlt
        cases k with
        | zero => exact absurd hk (by omega)
        | succ k =>
          have h2k : 2 ^ (k + 1) = 2 * 2 ^ k := by rw [Nat.pow_succ, Nat.mul_comm]
          refine sX8_commonDivisor_1 p1 p2 Q d hQ n (a % b) (b % (a % b)) k (i + 1 + 1) _ _ _ h62 h63 h83 ?_ (by omega) (by omega) (by omega)
          rw [← hd2, Nat.gcd_comm b (a % b), Nat.gcd_rec (a % b) b, Nat.gcd_comm]
theorem sX8_commonDivisor (a b : Nat) (p1 p2 : Int64) (h : preX8_commonDivisor a b p1 p2) : vX8_commonDivisor p1 p2 (postX8_commonDivisor a b p1 p2) := by
  have h1 := Int64.toInt_lt p2
  exact ⟨130, sX8_commonDivisor_1 p1 p2 _ (Nat.gcd a b) (fun r hr => hr) 130 a b 63 0 p1 p2 0 h.1 h.2 (by decide) rfl (by omega) (by omega) (by omega)⟩
theorem dX9_measure_0 : decode cX9_measure 0 = .ok (.lload_n 0, 1) := by decide +kernel
theorem dX9_measure_1 : decode cX9_measure 1 = .ok (.lstore 4, 2) := by decide +kernel
theorem dX9_measure_3 : decode cX9_measure 3 = .ok (.lload_n 2, 1) := by decide +kernel
theorem dX9_measure_4 : decode cX9_measure 4 = .ok (.lstore 6, 2) := by decide +kernel
theorem dX9_measure_6 : decode cX9_measure 6 = .ok (.lload 6, 2) := by decide +kernel
theorem dX9_measure_8 : decode cX9_measure 8 = .ok (.lconst 0, 1) := by decide +kernel
theorem dX9_measure_9 : decode cX9_measure 9 = .ok (.lcmp, 1) := by decide +kernel
theorem dX9_measure_10 : decode cX9_measure 10 = .ok (.ifCond .eq 21, 3) := by decide +kernel
theorem dX9_measure_13 : decode cX9_measure 13 = .ok (.lload 4, 2) := by decide +kernel
theorem dX9_measure_15 : decode cX9_measure 15 = .ok (.lload 6, 2) := by decide +kernel
theorem dX9_measure_17 : decode cX9_measure 17 = .ok (.lrem, 1) := by decide +kernel
theorem dX9_measure_18 : decode cX9_measure 18 = .ok (.lstore 8, 2) := by decide +kernel
theorem dX9_measure_20 : decode cX9_measure 20 = .ok (.lload 6, 2) := by decide +kernel
theorem dX9_measure_22 : decode cX9_measure 22 = .ok (.lstore 4, 2) := by decide +kernel
theorem dX9_measure_24 : decode cX9_measure 24 = .ok (.lload 8, 2) := by decide +kernel
theorem dX9_measure_26 : decode cX9_measure 26 = .ok (.lstore 6, 2) := by decide +kernel
theorem dX9_measure_28 : decode cX9_measure 28 = .ok (.goto (-22), 3) := by decide +kernel
theorem dX9_measure_31 : decode cX9_measure 31 = .ok (.lload 4, 2) := by decide +kernel
theorem dX9_measure_33 : decode cX9_measure 33 = .ok (.lreturn, 1) := by decide +kernel
abbrev rmX9_measure : Room := { frames := 0, cells := 0, slots := 0, locals := 0 }
def vX9_measure_c6 (p1 : Int64) (p2 : Int64) (Q : Int64 → Prop) : Nat → Int64 → Int64 → Prop
  | 0, _, _ => False
  | n + 1, x4, x6 => (((lg_cmp x6 (0 : Int64)) = 0 → (Q x4)) ∧ (¬ (lg_cmp x6 (0 : Int64)) = 0 → (¬ x6 = 0 ∧ (vX9_measure_c6 p1 p2 Q n x6 (x4 - x4 / x6 * x6)))))
set_option maxHeartbeats 4000000 in
set_option maxRecDepth 100000 in
theorem kX9_measure_c6 {p : Program} {l : Launch} {e : Env} {s : State} {m : MethodId} {args : Array Value} {below : List Frame} {meth : Method} {c : Code} {g : GP}  {p1 : Int64} {p2 : Int64} {Q : Int64 → Prop} (S : CallFix p m c cX9_measure 10 s args wsX9_measure RX9) (hr : meth.sig.returnType = (some .long)) (hlocks : meth.locks = false) (hG : GK g s) (hP : va_P g.1 vwCl [] s.heap) : ∀ (n : Nat), ∀ (x4 : Int64) (x6 : Int64), vX9_measure_c6 p1 p2 Q n x4 x6 → ∀ (ls : Array Slot), lv_has ls 10 [(4, .long x4), (6, .long x6)] → W p l e (headSpec wsX9_measure rmX9_measure).room s m args below meth c s.heap [] 0 0 (MQ below (vp_Sl Q) args s 0 0 (fun _ => False)) (F0 m 6 ls []) := by
  obtain ⟨hx, hb, hml, hown, hts⟩ := id S
  have hK := hG.1
  intro n
  induction n with
  | zero => intro x4 x6 hv; exact hv.elim
  | succ n ih =>
    intro x4 x6 hv ls hl
    refine lv_lload hx hb dX9_measure_6 (lv_at hl 1 rfl) ?_
    refine lv_lconst (v := (0 : Int64)) hx hb dX9_measure_8 (by decide) ?_
    refine W.lcmp hx hb dX9_measure_9 ?_
    obtain ⟨hvt, hvf⟩ := hv
    refine lv_if_eq (tgt := 31) hx hb dX9_measure_10 (by decide) (fun hc => ?_) (fun hc => ?_)
    · have hv := hvt hc
      refine lv_lload hx hb dX9_measure_31 (lv_at hl 0 rfl) ?_
      exact W.lret (v := x4) hx hb hr (fun t ht hW => ⟨_, rfl, hv, ht⟩) (fun _ h => by cases h) dX9_measure_33
    · have hv := hvf hc
      refine lv_lload hx hb dX9_measure_13 (lv_at hl 0 rfl) ?_
      refine lv_lload hx hb dX9_measure_15 (lv_at hl 1 rfl) ?_
      obtain ⟨ho_1, hv⟩ := hv
      refine lv_lrem hx hb dX9_measure_17 ho_1 ?_
      refine lv_lstore (lv' := [(8, .long (x4 - x4 / x6 * x6)), (4, .long x4), (6, .long x6)]) hx hb dX9_measure_18 hl (by decide) rfl (fun ls hl => ?_)
      refine lv_lload hx hb dX9_measure_20 (lv_at hl 2 rfl) ?_
      refine lv_lstore (lv' := [(4, .long x6), (8, .long (x4 - x4 / x6 * x6)), (6, .long x6)]) hx hb dX9_measure_22 hl (by decide) rfl (fun ls hl => ?_)
      refine lv_lload hx hb dX9_measure_24 (lv_at hl 1 rfl) ?_
      refine lv_lstore (lv' := [(6, .long (x4 - x4 / x6 * x6)), (4, .long x6), (8, .long (x4 - x4 / x6 * x6))]) hx hb dX9_measure_26 hl (by decide) rfl (fun ls hl => ?_)
      refine lv_goto (tgt := 6) hx hb dX9_measure_28 (by decide) ?_
      exact ih _ _ hv ls (lv_sub hl [1, 0] rfl)
def vX9_measure (p1 : Int64) (p2 : Int64) (Q : Int64 → Prop) : Prop := (∃ nn, vX9_measure_c6 p1 p2 Q nn p1 p2)
set_option maxHeartbeats 4000000 in
set_option maxRecDepth 100000 in
theorem wX9_measure (l : Launch) (g : GP)  (p1 : Int64) (p2 : Int64) {Q : Int64 → Prop} (hv : vX9_measure p1 p2 Q) : Met l yX9_measure wsX9_measure rmX9_measure (va_Pc [.long p1, .long p2] (fun U => va_P g.1 vwCl [] U.heap ∧ GK g U)) (vp_Sl Q) 0 0 (fun _ => False) := by
  refine Met.ofW (cc := cX9_measure) (maxL := 10) (ret := (some .long)) (by decide) rfl ?_
  intro p e s m args below meth c s₁ B hml hv'
  obtain ⟨rfl, hP, hG⟩ := hv'
  have S : CallFix p m c cX9_measure 10 s _ wsX9_measure RX9 := ⟨B.exec, B.bytes, hml, findClass_of_methodNamed B.named, atoms_spec (ws := wsX9_measure) B.pre⟩
  obtain ⟨hx, hb, hml, hown, hts⟩ := id S
  have hK := hG.1
  have hr := B.returns
  have hlocks := B.notSynchronized
  have hl := lv_entry ([.long p1, .long p2]) (n := 10) (Nat.le_of_ble_eq_true rfl)
  rw [lg_entry_eq]
  generalize (lg_sl ([.long p1, .long p2]) ++ List.replicate (10 - (lg_sl ([.long p1, .long p2])).length) Slot.unset).toArray = ls at hl ⊢
  have hl : lv_has ls 10 [(0, .long p1), (2, .long p2)] := hl
  unfold vX9_measure at hv
  refine lv_lload_n hx hb dX9_measure_0 rfl (lv_at hl 0 rfl) ?_
  refine lv_lstore (lv' := [(4, .long p1), (0, .long p1), (2, .long p2)]) hx hb dX9_measure_1 hl (by decide) rfl (fun ls hl => ?_)
  refine lv_lload_n hx hb dX9_measure_3 rfl (lv_at hl 2 rfl) ?_
  refine lv_lstore (lv' := [(6, .long p2), (4, .long p1), (0, .long p1), (2, .long p2)]) hx hb dX9_measure_4 hl (by decide) rfl (fun ls hl => ?_)
  obtain ⟨nn, hv⟩ := hv
  exact kX9_measure_c6 S hr hlocks hG hP nn _ _ hv ls (lv_sub hl [1, 0] rfl)
abbrev preX9_measure (a b : Nat) (p1 p2 : Int64) : Prop := p1.toInt = (a : Int) ∧ p2.toInt = (b : Int)
abbrev postX9_measure (a b : Nat) (_ _ r : Int64) : Prop := r.toInt = ((Nat.gcd a b : Nat) : Int)
theorem sX9_measure_1 (p1 p2 : Int64) (Q : Int64 → Prop) (d : Nat) (hQ : ∀ r : Int64, r.toInt = (d : Int) → Q r) : ∀ (n a b : Nat) (x4 x6 : Int64), x4.toInt = (a : Int) → x6.toInt = (b : Int) → Nat.gcd a b = d → b < n → vX9_measure_c6 p1 p2 Q n x4 x6
  | 0, a, b, x4, x6, _, _, _, hn => absurd hn (by omega)
  | n + 1, a, b, x4, x6, h4, h6, hd, hn => by
    rw [vX9_measure_c6]
    refine ⟨fun hc => ?_, fun hc => ?_⟩
    · rw [lg_cmp_eq, q_l0 h6] at hc
      subst hc
      exact hQ _ (by rw [h4, ← hd, Nat.gcd_zero_right])
    · rw [lg_cmp_eq, q_l0 h6] at hc
      have hb : 0 < b := Nat.pos_of_ne_zero hc
      have hlt := Nat.mod_lt a hb
      refine ⟨by rw [q_l0 h6]; exact hc, ?_⟩
      exact sX9_measure_1 p1 p2 Q d hQ n b (a % b) _ _ h6 (q_lrem h4 h6 hb) (by rw [← hd, Nat.gcd_comm a b, Nat.gcd_rec b a, Nat.gcd_comm]) (by omega)
theorem sX9_measure (a b : Nat) (p1 p2 : Int64) (h : preX9_measure a b p1 p2) : vX9_measure p1 p2 (postX9_measure a b p1 p2) :=
  ⟨b + 1, sX9_measure_1 p1 p2 _ (Nat.gcd a b) (fun r hr => hr) (b + 1) a b p1 p2 h.1 h.2 rfl (by omega)⟩
set_option maxRecDepth 20000 in
theorem ggX8_commonMultiple_X8_commonDivisor : GoodIn wsX8_commonMultiple wsX8_commonDivisor := goodIn_r _ [4] (by decide +kernel) (by decide +kernel)
set_option maxRecDepth 20000 in
theorem gX8_commonMultiple_X8_commonDivisor : GoodIn wsX8_commonMultiple (va_wsS RX8 298 yX8_commonDivisor wsX8_commonDivisor) := goodIn_app (goodIn_of _ (by decide +kernel)) ggX8_commonMultiple_X8_commonDivisor
theorem dX8_commonMultiple_0 : decode cX8_commonMultiple 0 = .ok (.iload_n 0, 1) := by decide +kernel
theorem dX8_commonMultiple_1 : decode cX8_commonMultiple 1 = .ok (.i2l, 1) := by decide +kernel
theorem dX8_commonMultiple_2 : decode cX8_commonMultiple 2 = .ok (.iload_n 1, 1) := by decide +kernel
theorem dX8_commonMultiple_3 : decode cX8_commonMultiple 3 = .ok (.i2l, 1) := by decide +kernel
theorem dX8_commonMultiple_4 : decode cX8_commonMultiple 4 = .ok (.invokestatic 298, 3) := by decide +kernel
theorem dX8_commonMultiple_7 : decode cX8_commonMultiple 7 = .ok (.l2i, 1) := by decide +kernel
theorem dX8_commonMultiple_8 : decode cX8_commonMultiple 8 = .ok (.istore_n 2, 1) := by decide +kernel
theorem dX8_commonMultiple_9 : decode cX8_commonMultiple 9 = .ok (.iload_n 2, 1) := by decide +kernel
theorem dX8_commonMultiple_10 : decode cX8_commonMultiple 10 = .ok (.iconst 1, 1) := by decide +kernel
theorem dX8_commonMultiple_11 : decode cX8_commonMultiple 11 = .ok (.if_icmp .ge 7, 3) := by decide +kernel
theorem dX8_commonMultiple_14 : decode cX8_commonMultiple 14 = .ok (.iconst 1, 1) := by decide +kernel
theorem dX8_commonMultiple_15 : decode cX8_commonMultiple 15 = .ok (.goto 8, 3) := by decide +kernel
theorem dX8_commonMultiple_18 : decode cX8_commonMultiple 18 = .ok (.iload_n 0, 1) := by decide +kernel
theorem dX8_commonMultiple_19 : decode cX8_commonMultiple 19 = .ok (.iload_n 2, 1) := by decide +kernel
theorem dX8_commonMultiple_20 : decode cX8_commonMultiple 20 = .ok (.idiv, 1) := by decide +kernel
theorem dX8_commonMultiple_21 : decode cX8_commonMultiple 21 = .ok (.iload_n 1, 1) := by decide +kernel
theorem dX8_commonMultiple_22 : decode cX8_commonMultiple 22 = .ok (.imul, 1) := by decide +kernel
theorem dX8_commonMultiple_23 : decode cX8_commonMultiple 23 = .ok (.ireturn, 1) := by decide +kernel
abbrev rmX8_commonMultiple : Room := { frames := 1, cells := 0, slots := 0, locals := 30 }
def vX8_commonMultiple (p1 : Int32) (p2 : Int32) (Q : Int32 → Prop) : Prop := (∃ (a_4 : Nat) (b_4 : Nat), preX8_commonDivisor a_4 b_4 (p1.toInt64) (p2.toInt64) ∧ (∀ r_4 : Int64, postX8_commonDivisor a_4 b_4 (p1.toInt64) (p2.toInt64) r_4 → (((1 : Int32) ≤ (r_4.toInt32) → (¬ (r_4.toInt32) = 0 ∧ (Q ((p1 / (r_4.toInt32)) * p2)))) ∧ (¬ (1 : Int32) ≤ (r_4.toInt32) → (Q (1 : Int32))))))
set_option maxHeartbeats 4000000 in
set_option maxRecDepth 100000 in
theorem wX8_commonMultiple (l : Launch) (g : GP)  (p1 : Int32) (p2 : Int32) {Q : Int32 → Prop} (hv : vX8_commonMultiple p1 p2 Q) : Met l yX8_commonMultiple wsX8_commonMultiple rmX8_commonMultiple (va_Pc [.int p1, .int p2] (fun U => va_P g.1 vwCl [] U.heap ∧ GK g U)) (vp_Si Q) 0 0 (fun _ => False) := by
  refine Met.ofW (cc := cX8_commonMultiple) (maxL := 3) (ret := (some .int)) (by decide) rfl ?_
  intro p e s m args below meth c s₁ B hml hv'
  obtain ⟨rfl, hP, hG⟩ := hv'
  have S : CallFix p m c cX8_commonMultiple 3 s _ wsX8_commonMultiple RX8 := ⟨B.exec, B.bytes, hml, findClass_of_methodNamed B.named, atoms_spec (ws := wsX8_commonMultiple) B.pre⟩
  obtain ⟨hx, hb, hml, hown, hts⟩ := id S
  have hK := hG.1
  have hr := B.returns
  have hlocks := B.notSynchronized
  have hl := lv_entry ([.int p1, .int p2]) (n := 3) (Nat.le_of_ble_eq_true rfl)
  rw [lg_entry_eq]
  generalize (lg_sl ([.int p1, .int p2]) ++ List.replicate (3 - (lg_sl ([.int p1, .int p2])).length) Slot.unset).toArray = ls at hl ⊢
  have hl : lv_has ls 3 [(0, .int p1), (1, .int p2)] := hl
  unfold vX8_commonMultiple at hv
  refine lv_iload_n hx hb dX8_commonMultiple_0 rfl (lv_at hl 0 rfl) ?_
  refine lv_i2l (v := (p1.toInt64)) hx hb dX8_commonMultiple_1 rfl ?_
  refine lv_iload_n hx hb dX8_commonMultiple_2 rfl (lv_at hl 1 rfl) ?_
  refine lv_i2l (v := (p2.toInt64)) hx hb dX8_commonMultiple_3 rfl ?_
  obtain ⟨a_4, b_4, ho_1, hv⟩ := hv
  refine vp_callSl (W.runS (As := [.long (p1.toInt64), .long (p2.toInt64)]) (rest := []) S (wX8_commonDivisor l g (p1.toInt64) (p2.toInt64) (sX8_commonDivisor a_4 b_4 (p1.toInt64) (p2.toInt64) ho_1)) (va_cwS 2 hts gX8_commonMultiple_X8_commonDivisor rfl rfl rfl (by decide +kernel) ⟨Nat.le_of_ble_eq_true rfl, Nat.le_of_ble_eq_true rfl⟩) ⟨blindRO, fun U hU hW => ⟨rfl, by rw [hU]; exact hP.sub [] rfl, hG.warm hW⟩⟩ rfl rfl hl.1 rfl (lv_room (Nat.le_of_ble_eq_true rfl)) dX8_commonMultiple_4 ⟨Nat.le_of_ble_eq_true rfl, Nat.le_of_ble_eq_true rfl⟩) (fun r_4 hr_4 => ?_)
  have hv := hv r_4 hr_4
  refine lv_l2i (v := (r_4.toInt32)) hx hb dX8_commonMultiple_7 rfl ?_
  refine lv_istore_n (lv' := [(2, .int (r_4.toInt32)), (0, .int p1), (1, .int p2)]) hx hb dX8_commonMultiple_8 rfl hl (by decide) rfl (fun ls hl => ?_)
  refine lv_iload_n hx hb dX8_commonMultiple_9 rfl (lv_at hl 0 rfl) ?_
  refine lv_iconst (v := (1 : Int32)) hx hb dX8_commonMultiple_10 (by decide) ?_
  obtain ⟨hvt, hvf⟩ := hv
  refine lv_icmp_ge (tgt := 18) hx hb dX8_commonMultiple_11 (by decide) (fun hc => ?_) (fun hc => ?_)
  · have hv := hvt hc
    refine lv_iload_n hx hb dX8_commonMultiple_18 rfl (lv_at hl 1 rfl) ?_
    refine lv_iload_n hx hb dX8_commonMultiple_19 rfl (lv_at hl 0 rfl) ?_
    obtain ⟨ho_2, hv⟩ := hv
    refine lv_idiv hx hb dX8_commonMultiple_20 ho_2 ?_
    refine lv_iload_n hx hb dX8_commonMultiple_21 rfl (lv_at hl 2 rfl) ?_
    refine lv_imul hx hb dX8_commonMultiple_22 ?_
    exact W.iret (v := ((p1 / (r_4.toInt32)) * p2)) hx hb hr (fun t ht hW => ⟨_, rfl, hv, ht⟩) (fun _ h => by cases h) dX8_commonMultiple_23
  · have hv := hvf hc
    refine lv_iconst (v := (1 : Int32)) hx hb dX8_commonMultiple_14 (by decide) ?_
    refine lv_goto (tgt := 23) hx hb dX8_commonMultiple_15 (by decide) ?_
    exact W.iret (v := (1 : Int32)) hx hb hr (fun t ht hW => ⟨_, rfl, hv, ht⟩) (fun _ h => by cases h) dX8_commonMultiple_23
abbrev preX8_commonMultiple (a b : Nat) (p1 p2 : Int32) : Prop := p1.toInt = (a : Int) ∧ p2.toInt = (b : Int) ∧ 0 < a ∧ 0 < b ∧ a * b < 2147483648
abbrev postX8_commonMultiple (a b : Nat) (_ _ r : Int32) : Prop := r.toInt = ((Nat.lcm a b : Nat) : Int)
theorem sX8_commonMultiple (a b : Nat) (p1 p2 : Int32) (h : preX8_commonMultiple a b p1 p2) : vX8_commonMultiple p1 p2 (postX8_commonMultiple a b p1 p2) := by
  obtain ⟨h1, h2, ha, hb, hab⟩ := h
  have r1 := fb_rng p1
  have hg := Nat.gcd_le_left b ha
  have hg0 := Nat.gcd_pos_of_pos_left b ha
  refine ⟨a, b, ⟨q_i2l h1, q_i2l h2⟩, fun r hr => ?_⟩
  have h3 : (r.toInt32).toInt = ((Nat.gcd a b : Nat) : Int) := q_l2i hr (by omega) (by omega)
  have h0 : ¬ r.toInt32 = 0 := fun q => by rw [q] at h3; have : (0 : Int) = ((Nat.gcd a b : Nat) : Int) := h3; omega
  have hq : ((p1 / (r.toInt32)) * p2).toInt = ((Nat.lcm a b : Nat) : Int) := by
    have e := q_divN h1 h3 hg0
    have l := lcm_lt hab
    have hl : a / Nat.gcd a b * b < 2147483648 := by rw [lcm_cut]; exact l
    rw [q_mulN e h2 hl, lcm_cut]
  refine ⟨fun _ => ⟨h0, hq⟩, fun hc => absurd ?_ hc⟩
  rw [fa_le, h3, z1]
  omega
set_option maxRecDepth 20000 in
theorem ggX9_common_X9_measure : GoodIn wsX9_common wsX9_measure := goodIn_r _ [4] (by decide +kernel) (by decide +kernel)
set_option maxRecDepth 20000 in
theorem gX9_common_X9_measure : GoodIn wsX9_common (va_wsS RX9 59 yX9_measure wsX9_measure) := goodIn_app (goodIn_of _ (by decide +kernel)) ggX9_common_X9_measure
theorem dX9_common_0 : decode cX9_common 0 = .ok (.iload_n 0, 1) := by decide +kernel
theorem dX9_common_1 : decode cX9_common 1 = .ok (.iload_n 0, 1) := by decide +kernel
theorem dX9_common_2 : decode cX9_common 2 = .ok (.i2l, 1) := by decide +kernel
theorem dX9_common_3 : decode cX9_common 3 = .ok (.iload_n 1, 1) := by decide +kernel
theorem dX9_common_4 : decode cX9_common 4 = .ok (.i2l, 1) := by decide +kernel
theorem dX9_common_5 : decode cX9_common 5 = .ok (.invokestatic 59, 3) := by decide +kernel
theorem dX9_common_8 : decode cX9_common 8 = .ok (.l2i, 1) := by decide +kernel
theorem dX9_common_9 : decode cX9_common 9 = .ok (.idiv, 1) := by decide +kernel
theorem dX9_common_10 : decode cX9_common 10 = .ok (.iload_n 1, 1) := by decide +kernel
theorem dX9_common_11 : decode cX9_common 11 = .ok (.imul, 1) := by decide +kernel
theorem dX9_common_12 : decode cX9_common 12 = .ok (.ireturn, 1) := by decide +kernel
abbrev rmX9_common : Room := { frames := 1, cells := 0, slots := 0, locals := 29 }
def vX9_common (p1 : Int32) (p2 : Int32) (Q : Int32 → Prop) : Prop := (∃ (a_5 : Nat) (b_5 : Nat), preX9_measure a_5 b_5 (p1.toInt64) (p2.toInt64) ∧ (∀ r_5 : Int64, postX9_measure a_5 b_5 (p1.toInt64) (p2.toInt64) r_5 → (¬ (r_5.toInt32) = 0 ∧ (Q ((p1 / (r_5.toInt32)) * p2)))))
set_option maxHeartbeats 4000000 in
set_option maxRecDepth 100000 in
theorem wX9_common (l : Launch) (g : GP)  (p1 : Int32) (p2 : Int32) {Q : Int32 → Prop} (hv : vX9_common p1 p2 Q) : Met l yX9_common wsX9_common rmX9_common (va_Pc [.int p1, .int p2] (fun U => va_P g.1 vwCl [] U.heap ∧ GK g U)) (vp_Si Q) 0 0 (fun _ => False) := by
  refine Met.ofW (cc := cX9_common) (maxL := 2) (ret := (some .int)) (by decide) rfl ?_
  intro p e s m args below meth c s₁ B hml hv'
  obtain ⟨rfl, hP, hG⟩ := hv'
  have S : CallFix p m c cX9_common 2 s _ wsX9_common RX9 := ⟨B.exec, B.bytes, hml, findClass_of_methodNamed B.named, atoms_spec (ws := wsX9_common) B.pre⟩
  obtain ⟨hx, hb, hml, hown, hts⟩ := id S
  have hK := hG.1
  have hr := B.returns
  have hlocks := B.notSynchronized
  have hl := lv_entry ([.int p1, .int p2]) (n := 2) (Nat.le_of_ble_eq_true rfl)
  rw [lg_entry_eq]
  generalize (lg_sl ([.int p1, .int p2]) ++ List.replicate (2 - (lg_sl ([.int p1, .int p2])).length) Slot.unset).toArray = ls at hl ⊢
  have hl : lv_has ls 2 [(0, .int p1), (1, .int p2)] := hl
  unfold vX9_common at hv
  refine lv_iload_n hx hb dX9_common_0 rfl (lv_at hl 0 rfl) ?_
  refine lv_iload_n hx hb dX9_common_1 rfl (lv_at hl 0 rfl) ?_
  refine lv_i2l (v := (p1.toInt64)) hx hb dX9_common_2 rfl ?_
  refine lv_iload_n hx hb dX9_common_3 rfl (lv_at hl 1 rfl) ?_
  refine lv_i2l (v := (p2.toInt64)) hx hb dX9_common_4 rfl ?_
  obtain ⟨a_5, b_5, ho_1, hv⟩ := hv
  refine vp_callSl (W.runS (As := [.long (p1.toInt64), .long (p2.toInt64)]) (rest := [.int p1]) S (wX9_measure l g (p1.toInt64) (p2.toInt64) (sX9_measure a_5 b_5 (p1.toInt64) (p2.toInt64) ho_1)) (va_cwS 2 hts gX9_common_X9_measure rfl rfl rfl (by decide +kernel) ⟨Nat.le_of_ble_eq_true rfl, Nat.le_of_ble_eq_true rfl⟩) ⟨blindRO, fun U hU hW => ⟨rfl, by rw [hU]; exact hP.sub [] rfl, hG.warm hW⟩⟩ rfl rfl hl.1 rfl (lv_room (Nat.le_of_ble_eq_true rfl)) dX9_common_5 ⟨Nat.le_of_ble_eq_true rfl, Nat.le_of_ble_eq_true rfl⟩) (fun r_5 hr_5 => ?_)
  have hv := hv r_5 hr_5
  refine lv_l2i (v := (r_5.toInt32)) hx hb dX9_common_8 rfl ?_
  obtain ⟨ho_2, hv⟩ := hv
  refine lv_idiv hx hb dX9_common_9 ho_2 ?_
  refine lv_iload_n hx hb dX9_common_10 rfl (lv_at hl 1 rfl) ?_
  refine lv_imul hx hb dX9_common_11 ?_
  exact W.iret (v := ((p1 / (r_5.toInt32)) * p2)) hx hb hr (fun t ht hW => ⟨_, rfl, hv, ht⟩) (fun _ h => by cases h) dX9_common_12
abbrev preX9_common (a b : Nat) (p1 p2 : Int32) : Prop := p1.toInt = (a : Int) ∧ p2.toInt = (b : Int) ∧ 0 < a ∧ 0 < b ∧ a * b < 2147483648
abbrev postX9_common (a b : Nat) (_ _ r : Int32) : Prop := r.toInt = ((Nat.lcm a b : Nat) : Int)
theorem sX9_common (a b : Nat) (p1 p2 : Int32) (h : preX9_common a b p1 p2) : vX9_common p1 p2 (postX9_common a b p1 p2) := by
  obtain ⟨h1, h2, ha, hb, hab⟩ := h
  have r1 := fb_rng p1
  have hg := Nat.gcd_le_left b ha
  have hg0 := Nat.gcd_pos_of_pos_left b ha
  refine ⟨a, b, ⟨q_i2l h1, q_i2l h2⟩, fun r hr => ?_⟩
  have h3 : (r.toInt32).toInt = ((Nat.gcd a b : Nat) : Int) := q_l2i hr (by omega) (by omega)
  have h0 : ¬ r.toInt32 = 0 := fun q => by rw [q] at h3; have : (0 : Int) = ((Nat.gcd a b : Nat) : Int) := h3; omega
  have hq : ((p1 / (r.toInt32)) * p2).toInt = ((Nat.lcm a b : Nat) : Int) := by
    have e := q_divN h1 h3 hg0
    have l := lcm_lt hab
    have hl : a / Nat.gcd a b * b < 2147483648 := by rw [lcm_cut]; exact l
    rw [q_mulN e h2 hl, lcm_cut]
  exact ⟨h0, hq⟩
theorem dX9_in_0 : decode cX9_in 0 = .ok (.iload_n 0, 1) := by decide +kernel
theorem dX9_in_1 : decode cX9_in 1 = .ok (.iload_n 1, 1) := by decide +kernel
theorem dX9_in_2 : decode cX9_in 2 = .ok (.if_icmp .lt 12, 3) := by decide +kernel
theorem dX9_in_5 : decode cX9_in 5 = .ok (.iload_n 0, 1) := by decide +kernel
theorem dX9_in_6 : decode cX9_in 6 = .ok (.iload_n 2, 1) := by decide +kernel
theorem dX9_in_7 : decode cX9_in 7 = .ok (.if_icmp .gt 7, 3) := by decide +kernel
theorem dX9_in_10 : decode cX9_in 10 = .ok (.iconst 1, 1) := by decide +kernel
theorem dX9_in_11 : decode cX9_in 11 = .ok (.goto 4, 3) := by decide +kernel
theorem dX9_in_14 : decode cX9_in 14 = .ok (.iconst 0, 1) := by decide +kernel
theorem dX9_in_15 : decode cX9_in 15 = .ok (.ireturn, 1) := by decide +kernel
abbrev rmX9_in : Room := { frames := 0, cells := 0, slots := 0, locals := 0 }
def vX9_in (p1 : Int32) (p2 : Int32) (p3 : Int32) (Q : Int32 → Prop) : Prop := ((p1 < p2 → (Q (0 : Int32))) ∧ (¬ p1 < p2 → ((p3 < p1 → (Q (0 : Int32))) ∧ (¬ p3 < p1 → (Q (1 : Int32))))))
set_option maxHeartbeats 4000000 in
set_option maxRecDepth 100000 in
theorem wX9_in (l : Launch) (g : GP)  (p1 : Int32) (p2 : Int32) (p3 : Int32) {Q : Int32 → Prop} (hv : vX9_in p1 p2 p3 Q) : Met l yX9_in wsX9_in rmX9_in (va_Pc [.int p1, .int p2, .int p3] (fun U => va_P g.1 vwCl [] U.heap ∧ GK g U)) (vp_Si Q) 0 0 (fun _ => False) := by
  refine Met.ofW (cc := cX9_in) (maxL := 3) (ret := (some .boolean)) (by decide) rfl ?_
  intro p e s m args below meth c s₁ B hml hv'
  obtain ⟨rfl, hP, hG⟩ := hv'
  have S : CallFix p m c cX9_in 3 s _ wsX9_in RX9 := ⟨B.exec, B.bytes, hml, findClass_of_methodNamed B.named, atoms_spec (ws := wsX9_in) B.pre⟩
  obtain ⟨hx, hb, hml, hown, hts⟩ := id S
  have hK := hG.1
  have hr := B.returns
  have hlocks := B.notSynchronized
  have hl := lv_entry ([.int p1, .int p2, .int p3]) (n := 3) (Nat.le_of_ble_eq_true rfl)
  rw [lg_entry_eq]
  generalize (lg_sl ([.int p1, .int p2, .int p3]) ++ List.replicate (3 - (lg_sl ([.int p1, .int p2, .int p3])).length) Slot.unset).toArray = ls at hl ⊢
  have hl : lv_has ls 3 [(0, .int p1), (1, .int p2), (2, .int p3)] := hl
  unfold vX9_in at hv
  refine lv_iload_n hx hb dX9_in_0 rfl (lv_at hl 0 rfl) ?_
  refine lv_iload_n hx hb dX9_in_1 rfl (lv_at hl 1 rfl) ?_
  obtain ⟨hvt, hvf⟩ := hv
  refine lv_icmp_lt (tgt := 14) hx hb dX9_in_2 (by decide) (fun hc => ?_) (fun hc => ?_)
  · have hv := hvt hc
    refine lv_iconst (v := (0 : Int32)) hx hb dX9_in_14 (by decide) ?_
    exact W.zret (v := (0 : Int32)) (ty := .boolean) hx hb hr rfl (fun t ht hW => ⟨_, rfl, hv, ht⟩) (fun _ h => by cases h) dX9_in_15
  · have hv := hvf hc
    refine lv_iload_n hx hb dX9_in_5 rfl (lv_at hl 0 rfl) ?_
    refine lv_iload_n hx hb dX9_in_6 rfl (lv_at hl 2 rfl) ?_
    obtain ⟨hvt, hvf⟩ := hv
    refine lv_icmp_gt (tgt := 14) hx hb dX9_in_7 (by decide) (fun hc => ?_) (fun hc => ?_)
    · have hv := hvt hc
      refine lv_iconst (v := (0 : Int32)) hx hb dX9_in_14 (by decide) ?_
      exact W.zret (v := (0 : Int32)) (ty := .boolean) hx hb hr rfl (fun t ht hW => ⟨_, rfl, hv, ht⟩) (fun _ h => by cases h) dX9_in_15
    · have hv := hvf hc
      refine lv_iconst (v := (1 : Int32)) hx hb dX9_in_10 (by decide) ?_
      refine lv_goto (tgt := 15) hx hb dX9_in_11 (by decide) ?_
      exact W.zret (v := (1 : Int32)) (ty := .boolean) hx hb hr rfl (fun t ht hW => ⟨_, rfl, hv, ht⟩) (fun _ h => by cases h) dX9_in_15
abbrev preX9_in (_ _ _ : Int32) : Prop := True
abbrev postX9_in (p1 p2 p3 r : Int32) : Prop := r = if p2.toInt ≤ p1.toInt ∧ p1.toInt ≤ p3.toInt then 1 else 0
theorem sX9_in (p1 p2 p3 : Int32) (_ : preX9_in p1 p2 p3) : vX9_in p1 p2 p3 (postX9_in p1 p2 p3) := by
  unfold vX9_in
  rw [fa_lt, fa_lt]
  refine ⟨fun hc => (if_neg (by omega)).symm, fun hc => ⟨fun hd => (if_neg (by omega)).symm, fun hd => (if_pos (by omega)).symm⟩⟩
/-- an answer that is yes or no -/
theorem q_nar (c : Prop) [Decidable c] : narrow .boolean (.int (if c then (1 : Int32) else 0)) = .int (if c then (1 : Int32) else 0) := by
  split <;> rfl
theorem dX9_has_0 : decode cX9_has 0 = .ok (.iload_n 0, 1) := by decide +kernel
theorem dX9_has_1 : decode cX9_has 1 = .ok (.iload_n 1, 1) := by decide +kernel
theorem dX9_has_2 : decode cX9_has 2 = .ok (.ishr, 1) := by decide +kernel
theorem dX9_has_3 : decode cX9_has 3 = .ok (.iconst 1, 1) := by decide +kernel
theorem dX9_has_4 : decode cX9_has 4 = .ok (.iand, 1) := by decide +kernel
theorem dX9_has_5 : decode cX9_has 5 = .ok (.iconst 1, 1) := by decide +kernel
theorem dX9_has_6 : decode cX9_has 6 = .ok (.if_icmp .ne 7, 3) := by decide +kernel
theorem dX9_has_9 : decode cX9_has 9 = .ok (.iconst 1, 1) := by decide +kernel
theorem dX9_has_10 : decode cX9_has 10 = .ok (.goto 4, 3) := by decide +kernel
theorem dX9_has_13 : decode cX9_has 13 = .ok (.iconst 0, 1) := by decide +kernel
theorem dX9_has_14 : decode cX9_has 14 = .ok (.ireturn, 1) := by decide +kernel
abbrev rmX9_has : Room := { frames := 0, cells := 0, slots := 0, locals := 0 }
def vX9_has (p1 : Int32) (p2 : Int32) (Q : Int32 → Prop) : Prop := ((¬ ((p1 >>> (p2 &&& 31)) &&& (1 : Int32)) = (1 : Int32) → (Q (0 : Int32))) ∧ (((p1 >>> (p2 &&& 31)) &&& (1 : Int32)) = (1 : Int32) → (Q (1 : Int32))))
set_option maxHeartbeats 4000000 in
set_option maxRecDepth 100000 in
theorem wX9_has (l : Launch) (g : GP)  (p1 : Int32) (p2 : Int32) {Q : Int32 → Prop} (hv : vX9_has p1 p2 Q) : Met l yX9_has wsX9_has rmX9_has (va_Pc [.int p1, .int p2] (fun U => va_P g.1 vwCl [] U.heap ∧ GK g U)) (vp_Si Q) 0 0 (fun _ => False) := by
  refine Met.ofW (cc := cX9_has) (maxL := 2) (ret := (some .boolean)) (by decide) rfl ?_
  intro p e s m args below meth c s₁ B hml hv'
  obtain ⟨rfl, hP, hG⟩ := hv'
  have S : CallFix p m c cX9_has 2 s _ wsX9_has RX9 := ⟨B.exec, B.bytes, hml, findClass_of_methodNamed B.named, atoms_spec (ws := wsX9_has) B.pre⟩
  obtain ⟨hx, hb, hml, hown, hts⟩ := id S
  have hK := hG.1
  have hr := B.returns
  have hlocks := B.notSynchronized
  have hl := lv_entry ([.int p1, .int p2]) (n := 2) (Nat.le_of_ble_eq_true rfl)
  rw [lg_entry_eq]
  generalize (lg_sl ([.int p1, .int p2]) ++ List.replicate (2 - (lg_sl ([.int p1, .int p2])).length) Slot.unset).toArray = ls at hl ⊢
  have hl : lv_has ls 2 [(0, .int p1), (1, .int p2)] := hl
  unfold vX9_has at hv
  refine lv_iload_n hx hb dX9_has_0 rfl (lv_at hl 0 rfl) ?_
  refine lv_iload_n hx hb dX9_has_1 rfl (lv_at hl 1 rfl) ?_
  refine lv_ishr hx hb dX9_has_2 ?_
  refine lv_iconst (v := (1 : Int32)) hx hb dX9_has_3 (by decide) ?_
  refine lv_iand hx hb dX9_has_4 ?_
  refine lv_iconst (v := (1 : Int32)) hx hb dX9_has_5 (by decide) ?_
  obtain ⟨hvt, hvf⟩ := hv
  refine lv_icmp_ne (tgt := 13) hx hb dX9_has_6 (by decide) (fun hc => ?_) (fun hc => ?_)
  · have hv := hvt hc
    refine lv_iconst (v := (0 : Int32)) hx hb dX9_has_13 (by decide) ?_
    exact W.zret (v := (0 : Int32)) (ty := .boolean) hx hb hr rfl (fun t ht hW => ⟨_, rfl, hv, ht⟩) (fun _ h => by cases h) dX9_has_14
  · have hv := hvf hc
    refine lv_iconst (v := (1 : Int32)) hx hb dX9_has_9 (by decide) ?_
    refine lv_goto (tgt := 14) hx hb dX9_has_10 (by decide) ?_
    exact W.zret (v := (1 : Int32)) (ty := .boolean) hx hb hr rfl (fun t ht hW => ⟨_, rfl, hv, ht⟩) (fun _ h => by cases h) dX9_has_14
abbrev preX9_has (s k : Nat) (p1 p2 : Int32) : Prop := p1.toInt = (s : Int) ∧ p2.toInt = (k : Int) ∧ k < 32
abbrev postX9_has (s k : Nat) (_ _ r : Int32) : Prop := r = if s.testBit k then 1 else 0
theorem sX9_has (s k : Nat) (p1 p2 : Int32) (h : preX9_has s k p1 p2) : vX9_has p1 p2 (postX9_has s k p1 p2) := by
  unfold vX9_has
  rw [q_bitB h.1 h.2.1 h.2.2]
  refine ⟨fun hc => (if_neg hc).symm, fun hc => (if_pos hc).symm⟩
theorem dX9_lesser_0 : decode cX9_lesser 0 = .ok (.iload_n 0, 1) := by decide +kernel
theorem dX9_lesser_1 : decode cX9_lesser 1 = .ok (.iload_n 1, 1) := by decide +kernel
theorem dX9_lesser_2 : decode cX9_lesser 2 = .ok (.if_icmp .ge 7, 3) := by decide +kernel
theorem dX9_lesser_5 : decode cX9_lesser 5 = .ok (.iload_n 0, 1) := by decide +kernel
theorem dX9_lesser_6 : decode cX9_lesser 6 = .ok (.goto 4, 3) := by decide +kernel
theorem dX9_lesser_9 : decode cX9_lesser 9 = .ok (.iload_n 1, 1) := by decide +kernel
theorem dX9_lesser_10 : decode cX9_lesser 10 = .ok (.ireturn, 1) := by decide +kernel
abbrev rmX9_lesser : Room := { frames := 0, cells := 0, slots := 0, locals := 0 }
def vX9_lesser (p1 : Int32) (p2 : Int32) (Q : Int32 → Prop) : Prop := ((p2 ≤ p1 → (Q p2)) ∧ (¬ p2 ≤ p1 → (Q p1)))
set_option maxHeartbeats 4000000 in
set_option maxRecDepth 100000 in
theorem wX9_lesser (l : Launch) (g : GP)  (p1 : Int32) (p2 : Int32) {Q : Int32 → Prop} (hv : vX9_lesser p1 p2 Q) : Met l yX9_lesser wsX9_lesser rmX9_lesser (va_Pc [.int p1, .int p2] (fun U => va_P g.1 vwCl [] U.heap ∧ GK g U)) (vp_Si Q) 0 0 (fun _ => False) := by
  refine Met.ofW (cc := cX9_lesser) (maxL := 2) (ret := (some .int)) (by decide) rfl ?_
  intro p e s m args below meth c s₁ B hml hv'
  obtain ⟨rfl, hP, hG⟩ := hv'
  have S : CallFix p m c cX9_lesser 2 s _ wsX9_lesser RX9 := ⟨B.exec, B.bytes, hml, findClass_of_methodNamed B.named, atoms_spec (ws := wsX9_lesser) B.pre⟩
  obtain ⟨hx, hb, hml, hown, hts⟩ := id S
  have hK := hG.1
  have hr := B.returns
  have hlocks := B.notSynchronized
  have hl := lv_entry ([.int p1, .int p2]) (n := 2) (Nat.le_of_ble_eq_true rfl)
  rw [lg_entry_eq]
  generalize (lg_sl ([.int p1, .int p2]) ++ List.replicate (2 - (lg_sl ([.int p1, .int p2])).length) Slot.unset).toArray = ls at hl ⊢
  have hl : lv_has ls 2 [(0, .int p1), (1, .int p2)] := hl
  unfold vX9_lesser at hv
  refine lv_iload_n hx hb dX9_lesser_0 rfl (lv_at hl 0 rfl) ?_
  refine lv_iload_n hx hb dX9_lesser_1 rfl (lv_at hl 1 rfl) ?_
  obtain ⟨hvt, hvf⟩ := hv
  refine lv_icmp_ge (tgt := 9) hx hb dX9_lesser_2 (by decide) (fun hc => ?_) (fun hc => ?_)
  · have hv := hvt hc
    refine lv_iload_n hx hb dX9_lesser_9 rfl (lv_at hl 1 rfl) ?_
    exact W.iret (v := p2) hx hb hr (fun t ht hW => ⟨_, rfl, hv, ht⟩) (fun _ h => by cases h) dX9_lesser_10
  · have hv := hvf hc
    refine lv_iload_n hx hb dX9_lesser_5 rfl (lv_at hl 0 rfl) ?_
    refine lv_goto (tgt := 10) hx hb dX9_lesser_6 (by decide) ?_
    exact W.iret (v := p1) hx hb hr (fun t ht hW => ⟨_, rfl, hv, ht⟩) (fun _ h => by cases h) dX9_lesser_10
abbrev preX9_lesser (_ _ : Int32) : Prop := True
abbrev postX9_lesser (p1 p2 r : Int32) : Prop := r.toInt = min p1.toInt p2.toInt
theorem sX9_lesser (p1 p2 : Int32) (_ : preX9_lesser p1 p2) : vX9_lesser p1 p2 (postX9_lesser p1 p2) := by
  unfold vX9_lesser
  rw [fa_le]
  refine ⟨fun hc => ?_, fun hc => ?_⟩
  · show p2.toInt = _
    omega
  · show p1.toInt = _
    omega
theorem dX9_greater_0 : decode cX9_greater 0 = .ok (.iload_n 0, 1) := by decide +kernel
theorem dX9_greater_1 : decode cX9_greater 1 = .ok (.iload_n 1, 1) := by decide +kernel
theorem dX9_greater_2 : decode cX9_greater 2 = .ok (.if_icmp .le 7, 3) := by decide +kernel
theorem dX9_greater_5 : decode cX9_greater 5 = .ok (.iload_n 0, 1) := by decide +kernel
theorem dX9_greater_6 : decode cX9_greater 6 = .ok (.goto 4, 3) := by decide +kernel
theorem dX9_greater_9 : decode cX9_greater 9 = .ok (.iload_n 1, 1) := by decide +kernel
theorem dX9_greater_10 : decode cX9_greater 10 = .ok (.ireturn, 1) := by decide +kernel
abbrev rmX9_greater : Room := { frames := 0, cells := 0, slots := 0, locals := 0 }
def vX9_greater (p1 : Int32) (p2 : Int32) (Q : Int32 → Prop) : Prop := ((p1 ≤ p2 → (Q p2)) ∧ (¬ p1 ≤ p2 → (Q p1)))
set_option maxHeartbeats 4000000 in
set_option maxRecDepth 100000 in
theorem wX9_greater (l : Launch) (g : GP)  (p1 : Int32) (p2 : Int32) {Q : Int32 → Prop} (hv : vX9_greater p1 p2 Q) : Met l yX9_greater wsX9_greater rmX9_greater (va_Pc [.int p1, .int p2] (fun U => va_P g.1 vwCl [] U.heap ∧ GK g U)) (vp_Si Q) 0 0 (fun _ => False) := by
  refine Met.ofW (cc := cX9_greater) (maxL := 2) (ret := (some .int)) (by decide) rfl ?_
  intro p e s m args below meth c s₁ B hml hv'
  obtain ⟨rfl, hP, hG⟩ := hv'
  have S : CallFix p m c cX9_greater 2 s _ wsX9_greater RX9 := ⟨B.exec, B.bytes, hml, findClass_of_methodNamed B.named, atoms_spec (ws := wsX9_greater) B.pre⟩
  obtain ⟨hx, hb, hml, hown, hts⟩ := id S
  have hK := hG.1
  have hr := B.returns
  have hlocks := B.notSynchronized
  have hl := lv_entry ([.int p1, .int p2]) (n := 2) (Nat.le_of_ble_eq_true rfl)
  rw [lg_entry_eq]
  generalize (lg_sl ([.int p1, .int p2]) ++ List.replicate (2 - (lg_sl ([.int p1, .int p2])).length) Slot.unset).toArray = ls at hl ⊢
  have hl : lv_has ls 2 [(0, .int p1), (1, .int p2)] := hl
  unfold vX9_greater at hv
  refine lv_iload_n hx hb dX9_greater_0 rfl (lv_at hl 0 rfl) ?_
  refine lv_iload_n hx hb dX9_greater_1 rfl (lv_at hl 1 rfl) ?_
  obtain ⟨hvt, hvf⟩ := hv
  refine lv_icmp_le (tgt := 9) hx hb dX9_greater_2 (by decide) (fun hc => ?_) (fun hc => ?_)
  · have hv := hvt hc
    refine lv_iload_n hx hb dX9_greater_9 rfl (lv_at hl 1 rfl) ?_
    exact W.iret (v := p2) hx hb hr (fun t ht hW => ⟨_, rfl, hv, ht⟩) (fun _ h => by cases h) dX9_greater_10
  · have hv := hvf hc
    refine lv_iload_n hx hb dX9_greater_5 rfl (lv_at hl 0 rfl) ?_
    refine lv_goto (tgt := 10) hx hb dX9_greater_6 (by decide) ?_
    exact W.iret (v := p1) hx hb hr (fun t ht hW => ⟨_, rfl, hv, ht⟩) (fun _ h => by cases h) dX9_greater_10
abbrev preX9_greater (_ _ : Int32) : Prop := True
abbrev postX9_greater (p1 p2 r : Int32) : Prop := r.toInt = max p1.toInt p2.toInt
theorem sX9_greater (p1 p2 : Int32) (_ : preX9_greater p1 p2) : vX9_greater p1 p2 (postX9_greater p1 p2) := by
  unfold vX9_greater
  rw [fa_le]
  refine ⟨fun hc => ?_, fun hc => ?_⟩
  · show p2.toInt = _
    omega
  · show p1.toInt = _
    omega
set_option maxRecDepth 20000 in
theorem ggX9_floor_X9_rest : GoodIn wsX9_floor wsX9_rest := goodIn_r _ [4] (by decide +kernel) (by decide +kernel)
set_option maxRecDepth 20000 in
theorem gX9_floor_X9_rest : GoodIn wsX9_floor (va_wsS RX9 55 yX9_rest wsX9_rest) := goodIn_app (goodIn_of _ (by decide +kernel)) ggX9_floor_X9_rest
theorem dX9_floor_0 : decode cX9_floor 0 = .ok (.iload_n 0, 1) := by decide +kernel
theorem dX9_floor_1 : decode cX9_floor 1 = .ok (.iload_n 0, 1) := by decide +kernel
theorem dX9_floor_2 : decode cX9_floor 2 = .ok (.iload_n 1, 1) := by decide +kernel
theorem dX9_floor_3 : decode cX9_floor 3 = .ok (.invokestatic 55, 3) := by decide +kernel
theorem dX9_floor_6 : decode cX9_floor 6 = .ok (.isub, 1) := by decide +kernel
theorem dX9_floor_7 : decode cX9_floor 7 = .ok (.iload_n 1, 1) := by decide +kernel
theorem dX9_floor_8 : decode cX9_floor 8 = .ok (.idiv, 1) := by decide +kernel
theorem dX9_floor_9 : decode cX9_floor 9 = .ok (.ireturn, 1) := by decide +kernel
abbrev rmX9_floor : Room := { frames := 1, cells := 0, slots := 0, locals := 22 }
def vX9_floor (p1 : Int32) (p2 : Int32) (Q : Int32 → Prop) : Prop := (preX9_rest p1 p2 ∧ (∀ r_3 : Int32, postX9_rest p1 p2 r_3 → (¬ p2 = 0 ∧ (Q ((p1 - r_3) / p2)))))
set_option maxHeartbeats 4000000 in
set_option maxRecDepth 100000 in
theorem wX9_floor (l : Launch) (g : GP)  (p1 : Int32) (p2 : Int32) {Q : Int32 → Prop} (hv : vX9_floor p1 p2 Q) : Met l yX9_floor wsX9_floor rmX9_floor (va_Pc [.int p1, .int p2] (fun U => va_P g.1 vwCl [] U.heap ∧ GK g U)) (vp_Si Q) 0 0 (fun _ => False) := by
  refine Met.ofW (cc := cX9_floor) (maxL := 2) (ret := (some .int)) (by decide) rfl ?_
  intro p e s m args below meth c s₁ B hml hv'
  obtain ⟨rfl, hP, hG⟩ := hv'
  have S : CallFix p m c cX9_floor 2 s _ wsX9_floor RX9 := ⟨B.exec, B.bytes, hml, findClass_of_methodNamed B.named, atoms_spec (ws := wsX9_floor) B.pre⟩
  obtain ⟨hx, hb, hml, hown, hts⟩ := id S
  have hK := hG.1
  have hr := B.returns
  have hlocks := B.notSynchronized
  have hl := lv_entry ([.int p1, .int p2]) (n := 2) (Nat.le_of_ble_eq_true rfl)
  rw [lg_entry_eq]
  generalize (lg_sl ([.int p1, .int p2]) ++ List.replicate (2 - (lg_sl ([.int p1, .int p2])).length) Slot.unset).toArray = ls at hl ⊢
  have hl : lv_has ls 2 [(0, .int p1), (1, .int p2)] := hl
  unfold vX9_floor at hv
  refine lv_iload_n hx hb dX9_floor_0 rfl (lv_at hl 0 rfl) ?_
  refine lv_iload_n hx hb dX9_floor_1 rfl (lv_at hl 0 rfl) ?_
  refine lv_iload_n hx hb dX9_floor_2 rfl (lv_at hl 1 rfl) ?_
  obtain ⟨ho_1, hv⟩ := hv
  refine vp_callSi (W.runS (As := [.int p1, .int p2]) (rest := [.int p1]) S (wX9_rest l g p1 p2 (sX9_rest p1 p2 ho_1)) (va_cwS 2 hts gX9_floor_X9_rest rfl rfl rfl (by decide +kernel) ⟨Nat.le_of_ble_eq_true rfl, Nat.le_of_ble_eq_true rfl⟩) ⟨blindRO, fun U hU hW => ⟨rfl, by rw [hU]; exact hP.sub [] rfl, hG.warm hW⟩⟩ rfl rfl hl.1 rfl (lv_room (Nat.le_of_ble_eq_true rfl)) dX9_floor_3 ⟨Nat.le_of_ble_eq_true rfl, Nat.le_of_ble_eq_true rfl⟩) (fun r_3 hr_3 => ?_)
  have hv := hv r_3 hr_3
  refine lv_isub hx hb dX9_floor_6 ?_
  refine lv_iload_n hx hb dX9_floor_7 rfl (lv_at hl 1 rfl) ?_
  obtain ⟨ho_2, hv⟩ := hv
  refine lv_idiv hx hb dX9_floor_8 ho_2 ?_
  exact W.iret (v := ((p1 - r_3) / p2)) hx hb hr (fun t ht hW => ⟨_, rfl, hv, ht⟩) (fun _ h => by cases h) dX9_floor_9
abbrev preX9_floor (p1 p2 : Int32) : Prop := 0 < p2.toInt ∧ p2.toInt < 1073741824 ∧ -1073741824 < p1.toInt ∧ p1.toInt < 1073741824
abbrev postX9_floor (p1 p2 r : Int32) : Prop := r.toInt = p1.toInt / p2.toInt
theorem sX9_floor (p1 p2 : Int32) (h : preX9_floor p1 p2) : vX9_floor p1 p2 (postX9_floor p1 p2) := by
  obtain ⟨h1, h2, h3, h4⟩ := h
  refine ⟨h1, fun r hr => ⟨fun q => by rw [fa_eq, z0] at q; omega, ?_⟩⟩
  have e1 := Int.emod_nonneg p1.toInt (Int.ne_of_gt h1)
  have e2 := Int.emod_lt_of_pos p1.toInt h1
  have e3 := Int.emod_add_mul_ediv p1.toInt p2.toInt
  have hs : (p1 - r).toInt = p2.toInt * (p1.toInt / p2.toInt) := by
    rw [q_sub rfl hr (by omega) (by omega)]
    omega
  show ((p1 - r) / p2).toInt = _
  rw [q_div h1, hs]
  exact Int.mul_tdiv_cancel_left _ (Int.ne_of_gt h1)
theorem dX9_ones_0 : decode cX9_ones 0 = .ok (.iconst 0, 1) := by decide +kernel
theorem dX9_ones_1 : decode cX9_ones 1 = .ok (.istore_n 1, 1) := by decide +kernel
theorem dX9_ones_2 : decode cX9_ones 2 = .ok (.iconst 0, 1) := by decide +kernel
theorem dX9_ones_3 : decode cX9_ones 3 = .ok (.istore_n 2, 1) := by decide +kernel
theorem dX9_ones_4 : decode cX9_ones 4 = .ok (.iload_n 2, 1) := by decide +kernel
theorem dX9_ones_5 : decode cX9_ones 5 = .ok (.bipush 13, 2) := by decide +kernel
theorem dX9_ones_7 : decode cX9_ones 7 = .ok (.if_icmp .ge 17, 3) := by decide +kernel
theorem dX9_ones_10 : decode cX9_ones 10 = .ok (.iload_n 1, 1) := by decide +kernel
theorem dX9_ones_11 : decode cX9_ones 11 = .ok (.iload_n 0, 1) := by decide +kernel
theorem dX9_ones_12 : decode cX9_ones 12 = .ok (.iload_n 2, 1) := by decide +kernel
theorem dX9_ones_13 : decode cX9_ones 13 = .ok (.ishr, 1) := by decide +kernel
theorem dX9_ones_14 : decode cX9_ones 14 = .ok (.iconst 1, 1) := by decide +kernel
theorem dX9_ones_15 : decode cX9_ones 15 = .ok (.iand, 1) := by decide +kernel
theorem dX9_ones_16 : decode cX9_ones 16 = .ok (.iadd, 1) := by decide +kernel
theorem dX9_ones_17 : decode cX9_ones 17 = .ok (.istore_n 1, 1) := by decide +kernel
theorem dX9_ones_18 : decode cX9_ones 18 = .ok (.iinc 2 1, 3) := by decide +kernel
theorem dX9_ones_21 : decode cX9_ones 21 = .ok (.goto (-17), 3) := by decide +kernel
theorem dX9_ones_24 : decode cX9_ones 24 = .ok (.iload_n 1, 1) := by decide +kernel
theorem dX9_ones_25 : decode cX9_ones 25 = .ok (.ireturn, 1) := by decide +kernel
abbrev rmX9_ones : Room := { frames := 0, cells := 0, slots := 0, locals := 0 }
def vX9_ones_c4 (p1 : Int32) (Q : Int32 → Prop) : Nat → Int32 → Int32 → Prop
  | 0, _, _ => False
  | n + 1, x1, x2 => (((13 : Int32) ≤ x2 → (Q x1)) ∧ (¬ (13 : Int32) ≤ x2 → (∀ y_17 : Int32, y_17 = (x1 + ((p1 >>> (x2 &&& 31)) &&& (1 : Int32))) → (vX9_ones_c4 p1 Q n y_17 (x2 + (1 : Int32))))))
set_option maxHeartbeats 4000000 in
set_option maxRecDepth 100000 in
theorem kX9_ones_c4 {p : Program} {l : Launch} {e : Env} {s : State} {m : MethodId} {args : Array Value} {below : List Frame} {meth : Method} {c : Code} {g : GP}  {p1 : Int32} {Q : Int32 → Prop} (S : CallFix p m c cX9_ones 3 s args wsX9_ones RX9) (hr : meth.sig.returnType = (some .int)) (hlocks : meth.locks = false) (hG : GK g s) (hP : va_P g.1 vwCl [] s.heap) : ∀ (n : Nat), ∀ (x1 : Int32) (x2 : Int32), vX9_ones_c4 p1 Q n x1 x2 → ∀ (ls : Array Slot), lv_has ls 3 [(0, .int p1), (1, .int x1), (2, .int x2)] → W p l e (headSpec wsX9_ones rmX9_ones).room s m args below meth c s.heap [] 0 0 (MQ below (vp_Si Q) args s 0 0 (fun _ => False)) (F0 m 4 ls []) := by
  obtain ⟨hx, hb, hml, hown, hts⟩ := id S
  have hK := hG.1
  intro n
  induction n with
  | zero => intro x1 x2 hv; exact hv.elim
  | succ n ih =>
    intro x1 x2 hv ls hl
    refine lv_iload_n hx hb dX9_ones_4 rfl (lv_at hl 2 rfl) ?_
    refine lv_bipush (v := (13 : Int32)) hx hb dX9_ones_5 (by decide) ?_
    obtain ⟨hvt, hvf⟩ := hv
    refine lv_icmp_ge (tgt := 24) hx hb dX9_ones_7 (by decide) (fun hc => ?_) (fun hc => ?_)
    · have hv := hvt hc
      refine lv_iload_n hx hb dX9_ones_24 rfl (lv_at hl 1 rfl) ?_
      exact W.iret (v := x1) hx hb hr (fun t ht hW => ⟨_, rfl, hv, ht⟩) (fun _ h => by cases h) dX9_ones_25
    · have hv := hvf hc
      refine lv_iload_n hx hb dX9_ones_10 rfl (lv_at hl 1 rfl) ?_
      refine lv_iload_n hx hb dX9_ones_11 rfl (lv_at hl 0 rfl) ?_
      refine lv_iload_n hx hb dX9_ones_12 rfl (lv_at hl 2 rfl) ?_
      refine lv_ishr hx hb dX9_ones_13 ?_
      refine lv_iconst (v := (1 : Int32)) hx hb dX9_ones_14 (by decide) ?_
      refine lv_iand hx hb dX9_ones_15 ?_
      refine lv_iadd hx hb dX9_ones_16 ?_
      refine lv_topi (fun y_17 ey_17 => ?_)
      have hv := hv y_17 ey_17
      refine lv_istore_n (lv' := [(1, .int y_17), (0, .int p1), (2, .int x2)]) hx hb dX9_ones_17 rfl hl (by decide) rfl (fun ls hl => ?_)
      refine lv_iinc (v := (x2 + (1 : Int32))) (lv' := [(2, .int (x2 + (1 : Int32))), (1, .int y_17), (0, .int p1)]) hx hb dX9_ones_18 hl (k := 2) rfl rfl (by decide) rfl (fun ls hl => ?_)
      refine lv_goto (tgt := 4) hx hb dX9_ones_21 (by decide) ?_
      exact ih _ _ hv ls (lv_sub hl [2, 1, 0] rfl)
def vX9_ones (p1 : Int32) (Q : Int32 → Prop) : Prop := (∃ nn, vX9_ones_c4 p1 Q nn (0 : Int32) (0 : Int32))
set_option maxHeartbeats 4000000 in
set_option maxRecDepth 100000 in
theorem wX9_ones (l : Launch) (g : GP)  (p1 : Int32) {Q : Int32 → Prop} (hv : vX9_ones p1 Q) : Met l yX9_ones wsX9_ones rmX9_ones (va_Pc [.int p1] (fun U => va_P g.1 vwCl [] U.heap ∧ GK g U)) (vp_Si Q) 0 0 (fun _ => False) := by
  refine Met.ofW (cc := cX9_ones) (maxL := 3) (ret := (some .int)) (by decide) rfl ?_
  intro p e s m args below meth c s₁ B hml hv'
  obtain ⟨rfl, hP, hG⟩ := hv'
  have S : CallFix p m c cX9_ones 3 s _ wsX9_ones RX9 := ⟨B.exec, B.bytes, hml, findClass_of_methodNamed B.named, atoms_spec (ws := wsX9_ones) B.pre⟩
  obtain ⟨hx, hb, hml, hown, hts⟩ := id S
  have hK := hG.1
  have hr := B.returns
  have hlocks := B.notSynchronized
  have hl := lv_entry ([.int p1]) (n := 3) (Nat.le_of_ble_eq_true rfl)
  rw [lg_entry_eq]
  generalize (lg_sl ([.int p1]) ++ List.replicate (3 - (lg_sl ([.int p1])).length) Slot.unset).toArray = ls at hl ⊢
  have hl : lv_has ls 3 [(0, .int p1)] := hl
  unfold vX9_ones at hv
  refine lv_iconst (v := (0 : Int32)) hx hb dX9_ones_0 (by decide) ?_
  refine lv_istore_n (lv' := [(1, .int (0 : Int32)), (0, .int p1)]) hx hb dX9_ones_1 rfl hl (by decide) rfl (fun ls hl => ?_)
  refine lv_iconst (v := (0 : Int32)) hx hb dX9_ones_2 (by decide) ?_
  refine lv_istore_n (lv' := [(2, .int (0 : Int32)), (1, .int (0 : Int32)), (0, .int p1)]) hx hb dX9_ones_3 rfl hl (by decide) rfl (fun ls hl => ?_)
  obtain ⟨nn, hv⟩ := hv
  exact kX9_ones_c4 S hr hlocks hG hP nn _ _ hv ls (lv_sub hl [2, 1, 0] rfl)
/-- how many bits of the first so many are set -/
def bcn (s : Nat) : Nat → Nat
  | 0 => 0
  | k + 1 => bcn s k + if s.testBit k then 1 else 0
theorem bcn_le (s : Nat) : ∀ k, bcn s k ≤ k
  | 0 => Nat.le_refl 0
  | k + 1 => by have := bcn_le s k; rw [bcn]; split <;> omega
abbrev preX9_ones (s : Nat) (p1 : Int32) : Prop := p1.toInt = (s : Int)
abbrev postX9_ones (s : Nat) (_ r : Int32) : Prop := r.toInt = ((bcn s 13 : Nat) : Int)
theorem sX9_ones_1 (p1 : Int32) (s : Nat) (h : p1.toInt = (s : Int)) : ∀ (n i : Nat) (x1 x2 : Int32), x1.toInt = ((bcn s i : Nat) : Int) → x2.toInt = (i : Int) → i ≤ 13 → 14 ≤ i + n → vX9_ones_c4 p1 (postX9_ones s p1) n x1 x2
  | 0, i, x1, x2, _, _, hi, hn => absurd hn (by omega)
  | n + 1, i, x1, x2, h1, h2, hi, hn => by
    rw [vX9_ones_c4]
    refine ⟨fun hc => ?_, fun hc => ?_⟩
    · rw [fa_le, h2] at hc
      have hc : (13 : Int) ≤ i := hc
      have : i = 13 := by omega
      subst this
      exact h1
    · rw [fa_le, h2] at hc
      have hc : ¬ (13 : Int) ≤ i := hc
      have hb := bcn_le s i
      intro y hy
      refine sX9_ones_1 p1 s h n (i + 1) _ _ ?_ (q_1 h2 (by omega)) (by omega) (by omega)
      rw [hy, q_bit h h2 (by omega), bcn]
      cases s.testBit i
      · exact q_addN (b := 0) h1 (by decide) (by omega)
      · exact q_addN (b := 1) h1 (by decide) (by omega)
theorem sX9_ones (s : Nat) (p1 : Int32) (h : preX9_ones s p1) : vX9_ones p1 (postX9_ones s p1) :=
  ⟨14, sX9_ones_1 p1 s h 14 0 0 0 rfl rfl (by omega) (by omega)⟩
theorem dX8_isLeg_0 : decode cX8_isLeg 0 = .ok (.iload_n 0, 1) := by decide +kernel
theorem dX8_isLeg_1 : decode cX8_isLeg 1 = .ok (.ifCond .lt 12, 3) := by decide +kernel
theorem dX8_isLeg_4 : decode cX8_isLeg 4 = .ok (.iload_n 0, 1) := by decide +kernel
theorem dX8_isLeg_5 : decode cX8_isLeg 5 = .ok (.iconst 2, 1) := by decide +kernel
theorem dX8_isLeg_6 : decode cX8_isLeg 6 = .ok (.if_icmp .ge 7, 3) := by decide +kernel
theorem dX8_isLeg_9 : decode cX8_isLeg 9 = .ok (.iconst 1, 1) := by decide +kernel
theorem dX8_isLeg_10 : decode cX8_isLeg 10 = .ok (.goto 4, 3) := by decide +kernel
theorem dX8_isLeg_13 : decode cX8_isLeg 13 = .ok (.iconst 0, 1) := by decide +kernel
theorem dX8_isLeg_14 : decode cX8_isLeg 14 = .ok (.ireturn, 1) := by decide +kernel
abbrev rmX8_isLeg : Room := { frames := 0, cells := 0, slots := 0, locals := 0 }
def vX8_isLeg (p1 : Int32) (Q : Int32 → Prop) : Prop := ((p1 < 0 → (Q (0 : Int32))) ∧ (¬ p1 < 0 → (((2 : Int32) ≤ p1 → (Q (0 : Int32))) ∧ (¬ (2 : Int32) ≤ p1 → (Q (1 : Int32))))))
set_option maxHeartbeats 4000000 in
set_option maxRecDepth 100000 in
theorem wX8_isLeg (l : Launch) (g : GP)  (p1 : Int32) {Q : Int32 → Prop} (hv : vX8_isLeg p1 Q) : Met l yX8_isLeg wsX8_isLeg rmX8_isLeg (va_Pc [.int p1] (fun U => va_P g.1 vwCl [] U.heap ∧ GK g U)) (vp_Si Q) 0 0 (fun _ => False) := by
  refine Met.ofW (cc := cX8_isLeg) (maxL := 1) (ret := (some .boolean)) (by decide) rfl ?_
  intro p e s m args below meth c s₁ B hml hv'
  obtain ⟨rfl, hP, hG⟩ := hv'
  have S : CallFix p m c cX8_isLeg 1 s _ wsX8_isLeg RX8 := ⟨B.exec, B.bytes, hml, findClass_of_methodNamed B.named, atoms_spec (ws := wsX8_isLeg) B.pre⟩
  obtain ⟨hx, hb, hml, hown, hts⟩ := id S
  have hK := hG.1
  have hr := B.returns
  have hlocks := B.notSynchronized
  have hl := lv_entry ([.int p1]) (n := 1) (Nat.le_of_ble_eq_true rfl)
  rw [lg_entry_eq]
  generalize (lg_sl ([.int p1]) ++ List.replicate (1 - (lg_sl ([.int p1])).length) Slot.unset).toArray = ls at hl ⊢
  have hl : lv_has ls 1 [(0, .int p1)] := hl
  unfold vX8_isLeg at hv
  refine lv_iload_n hx hb dX8_isLeg_0 rfl (lv_at hl 0 rfl) ?_
  obtain ⟨hvt, hvf⟩ := hv
  refine lv_if_lt (tgt := 13) hx hb dX8_isLeg_1 (by decide) (fun hc => ?_) (fun hc => ?_)
  · have hv := hvt hc
    refine lv_iconst (v := (0 : Int32)) hx hb dX8_isLeg_13 (by decide) ?_
    exact W.zret (v := (0 : Int32)) (ty := .boolean) hx hb hr rfl (fun t ht hW => ⟨_, rfl, hv, ht⟩) (fun _ h => by cases h) dX8_isLeg_14
  · have hv := hvf hc
    refine lv_iload_n hx hb dX8_isLeg_4 rfl (lv_at hl 0 rfl) ?_
    refine lv_iconst (v := (2 : Int32)) hx hb dX8_isLeg_5 (by decide) ?_
    obtain ⟨hvt, hvf⟩ := hv
    refine lv_icmp_ge (tgt := 13) hx hb dX8_isLeg_6 (by decide) (fun hc => ?_) (fun hc => ?_)
    · have hv := hvt hc
      refine lv_iconst (v := (0 : Int32)) hx hb dX8_isLeg_13 (by decide) ?_
      exact W.zret (v := (0 : Int32)) (ty := .boolean) hx hb hr rfl (fun t ht hW => ⟨_, rfl, hv, ht⟩) (fun _ h => by cases h) dX8_isLeg_14
    · have hv := hvf hc
      refine lv_iconst (v := (1 : Int32)) hx hb dX8_isLeg_9 (by decide) ?_
      refine lv_goto (tgt := 14) hx hb dX8_isLeg_10 (by decide) ?_
      exact W.zret (v := (1 : Int32)) (ty := .boolean) hx hb hr rfl (fun t ht hW => ⟨_, rfl, hv, ht⟩) (fun _ h => by cases h) dX8_isLeg_14
abbrev preX8_isLeg (_ : Int32) : Prop := True
abbrev postX8_isLeg (p1 r : Int32) : Prop := r = if p1.toInt = 0 ∨ p1.toInt = 1 then 1 else 0
theorem sX8_isLeg (p1 : Int32) (_ : preX8_isLeg p1) : vX8_isLeg p1 (postX8_isLeg p1) := by
  unfold vX8_isLeg
  rw [fa_lt, fa_le]
  show ((p1.toInt < 0 → _) ∧ (¬ p1.toInt < 0 → (((2 : Int) ≤ p1.toInt → _) ∧ (¬ (2 : Int) ≤ p1.toInt → _))))
  refine ⟨fun hc => (if_neg (by omega)).symm, fun hc => ⟨fun hd => (if_neg (by omega)).symm, fun hd => (if_pos (by omega)).symm⟩⟩
set_option maxRecDepth 20000 in
theorem ggX9_isLeg_X9_in : GoodIn wsX9_isLeg wsX9_in := goodIn_r _ [4] (by decide +kernel) (by decide +kernel)
set_option maxRecDepth 20000 in
theorem gX9_isLeg_X9_in : GoodIn wsX9_isLeg (va_wsS RX9 63 yX9_in wsX9_in) := goodIn_app (goodIn_of _ (by decide +kernel)) ggX9_isLeg_X9_in
theorem dX9_isLeg_0 : decode cX9_isLeg 0 = .ok (.iload_n 0, 1) := by decide +kernel
theorem dX9_isLeg_1 : decode cX9_isLeg 1 = .ok (.iconst 0, 1) := by decide +kernel
theorem dX9_isLeg_2 : decode cX9_isLeg 2 = .ok (.iconst 1, 1) := by decide +kernel
theorem dX9_isLeg_3 : decode cX9_isLeg 3 = .ok (.invokestatic 63, 3) := by decide +kernel
theorem dX9_isLeg_6 : decode cX9_isLeg 6 = .ok (.ireturn, 1) := by decide +kernel
abbrev rmX9_isLeg : Room := { frames := 1, cells := 0, slots := 0, locals := 22 }
def vX9_isLeg (p1 : Int32) (Q : Int32 → Prop) : Prop := (preX9_in p1 (0 : Int32) (1 : Int32) ∧ (∀ r_3 : Int32, postX9_in p1 (0 : Int32) (1 : Int32) r_3 → (narrow .boolean (.int r_3) = .int r_3 ∧ Q r_3)))
set_option maxHeartbeats 4000000 in
set_option maxRecDepth 100000 in
theorem wX9_isLeg (l : Launch) (g : GP)  (p1 : Int32) {Q : Int32 → Prop} (hv : vX9_isLeg p1 Q) : Met l yX9_isLeg wsX9_isLeg rmX9_isLeg (va_Pc [.int p1] (fun U => va_P g.1 vwCl [] U.heap ∧ GK g U)) (vp_Si Q) 0 0 (fun _ => False) := by
  refine Met.ofW (cc := cX9_isLeg) (maxL := 1) (ret := (some .boolean)) (by decide) rfl ?_
  intro p e s m args below meth c s₁ B hml hv'
  obtain ⟨rfl, hP, hG⟩ := hv'
  have S : CallFix p m c cX9_isLeg 1 s _ wsX9_isLeg RX9 := ⟨B.exec, B.bytes, hml, findClass_of_methodNamed B.named, atoms_spec (ws := wsX9_isLeg) B.pre⟩
  obtain ⟨hx, hb, hml, hown, hts⟩ := id S
  have hK := hG.1
  have hr := B.returns
  have hlocks := B.notSynchronized
  have hl := lv_entry ([.int p1]) (n := 1) (Nat.le_of_ble_eq_true rfl)
  rw [lg_entry_eq]
  generalize (lg_sl ([.int p1]) ++ List.replicate (1 - (lg_sl ([.int p1])).length) Slot.unset).toArray = ls at hl ⊢
  have hl : lv_has ls 1 [(0, .int p1)] := hl
  unfold vX9_isLeg at hv
  refine lv_iload_n hx hb dX9_isLeg_0 rfl (lv_at hl 0 rfl) ?_
  refine lv_iconst (v := (0 : Int32)) hx hb dX9_isLeg_1 (by decide) ?_
  refine lv_iconst (v := (1 : Int32)) hx hb dX9_isLeg_2 (by decide) ?_
  obtain ⟨ho_1, hv⟩ := hv
  refine vp_callSi (W.runS (As := [.int p1, .int (0 : Int32), .int (1 : Int32)]) (rest := []) S (wX9_in l g p1 (0 : Int32) (1 : Int32) (sX9_in p1 (0 : Int32) (1 : Int32) ho_1)) (va_cwS 3 hts gX9_isLeg_X9_in rfl rfl rfl (by decide +kernel) ⟨Nat.le_of_ble_eq_true rfl, Nat.le_of_ble_eq_true rfl⟩) ⟨blindRO, fun U hU hW => ⟨rfl, by rw [hU]; exact hP.sub [] rfl, hG.warm hW⟩⟩ rfl rfl hl.1 rfl (lv_room (Nat.le_of_ble_eq_true rfl)) dX9_isLeg_3 ⟨Nat.le_of_ble_eq_true rfl, Nat.le_of_ble_eq_true rfl⟩) (fun r_3 hr_3 => ?_)
  have hv := hv r_3 hr_3
  obtain ⟨hn, hv⟩ := hv
  exact W.zret (v := r_3) (ty := .boolean) hx hb hr hn (fun t ht hW => ⟨_, rfl, hv, ht⟩) (fun _ h => by cases h) dX9_isLeg_6
abbrev preX9_isLeg (_ : Int32) : Prop := True
abbrev postX9_isLeg (p1 r : Int32) : Prop := r = if p1.toInt = 0 ∨ p1.toInt = 1 then 1 else 0
theorem sX9_isLeg (p1 : Int32) (_ : preX9_isLeg p1) : vX9_isLeg p1 (postX9_isLeg p1) := by
  refine ⟨trivial, fun r hr => ?_⟩
  have hr : r = if p1.toInt = 0 ∨ p1.toInt = 1 then 1 else 0 := by
    rw [hr]
    have e : ((0 : Int32).toInt ≤ p1.toInt ∧ p1.toInt ≤ (1 : Int32).toInt) ↔ (p1.toInt = 0 ∨ p1.toInt = 1) := by
      show ((0 : Int) ≤ p1.toInt ∧ p1.toInt ≤ (1 : Int)) ↔ _
      omega
    simp only [e]
  rw [hr]
  exact ⟨q_nar _, rfl⟩
theorem dX9_leastOf_0 : decode cX9_leastOf 0 = .ok (.iload_n 0, 1) := by decide +kernel
theorem dX9_leastOf_1 : decode cX9_leastOf 1 = .ok (.iconst 3, 1) := by decide +kernel
theorem dX9_leastOf_2 : decode cX9_leastOf 2 = .ok (.if_icmp .ne 7, 3) := by decide +kernel
theorem dX9_leastOf_5 : decode cX9_leastOf 5 = .ok (.iconst 1, 1) := by decide +kernel
theorem dX9_leastOf_6 : decode cX9_leastOf 6 = .ok (.goto 14, 3) := by decide +kernel
theorem dX9_leastOf_9 : decode cX9_leastOf 9 = .ok (.iload_n 0, 1) := by decide +kernel
theorem dX9_leastOf_10 : decode cX9_leastOf 10 = .ok (.iconst 1, 1) := by decide +kernel
theorem dX9_leastOf_11 : decode cX9_leastOf 11 = .ok (.if_icmp .ne 8, 3) := by decide +kernel
theorem dX9_leastOf_14 : decode cX9_leastOf 14 = .ok (.bipush (-64), 2) := by decide +kernel
theorem dX9_leastOf_16 : decode cX9_leastOf 16 = .ok (.goto 4, 3) := by decide +kernel
theorem dX9_leastOf_19 : decode cX9_leastOf 19 = .ok (.iconst 0, 1) := by decide +kernel
theorem dX9_leastOf_20 : decode cX9_leastOf 20 = .ok (.ireturn, 1) := by decide +kernel
abbrev rmX9_leastOf : Room := { frames := 0, cells := 0, slots := 0, locals := 0 }
def vX9_leastOf (p1 : Int32) (Q : Int32 → Prop) : Prop := ((¬ p1 = (3 : Int32) → ((¬ p1 = (1 : Int32) → (Q (0 : Int32))) ∧ (p1 = (1 : Int32) → (Q (-64 : Int32))))) ∧ (p1 = (3 : Int32) → (Q (1 : Int32))))
set_option maxHeartbeats 4000000 in
set_option maxRecDepth 100000 in
theorem wX9_leastOf (l : Launch) (g : GP)  (p1 : Int32) {Q : Int32 → Prop} (hv : vX9_leastOf p1 Q) : Met l yX9_leastOf wsX9_leastOf rmX9_leastOf (va_Pc [.int p1] (fun U => va_P g.1 vwCl [] U.heap ∧ GK g U)) (vp_Si Q) 0 0 (fun _ => False) := by
  refine Met.ofW (cc := cX9_leastOf) (maxL := 1) (ret := (some .int)) (by decide) rfl ?_
  intro p e s m args below meth c s₁ B hml hv'
  obtain ⟨rfl, hP, hG⟩ := hv'
  have S : CallFix p m c cX9_leastOf 1 s _ wsX9_leastOf RX9 := ⟨B.exec, B.bytes, hml, findClass_of_methodNamed B.named, atoms_spec (ws := wsX9_leastOf) B.pre⟩
  obtain ⟨hx, hb, hml, hown, hts⟩ := id S
  have hK := hG.1
  have hr := B.returns
  have hlocks := B.notSynchronized
  have hl := lv_entry ([.int p1]) (n := 1) (Nat.le_of_ble_eq_true rfl)
  rw [lg_entry_eq]
  generalize (lg_sl ([.int p1]) ++ List.replicate (1 - (lg_sl ([.int p1])).length) Slot.unset).toArray = ls at hl ⊢
  have hl : lv_has ls 1 [(0, .int p1)] := hl
  unfold vX9_leastOf at hv
  refine lv_iload_n hx hb dX9_leastOf_0 rfl (lv_at hl 0 rfl) ?_
  refine lv_iconst (v := (3 : Int32)) hx hb dX9_leastOf_1 (by decide) ?_
  obtain ⟨hvt, hvf⟩ := hv
  refine lv_icmp_ne (tgt := 9) hx hb dX9_leastOf_2 (by decide) (fun hc => ?_) (fun hc => ?_)
  · have hv := hvt hc
    refine lv_iload_n hx hb dX9_leastOf_9 rfl (lv_at hl 0 rfl) ?_
    refine lv_iconst (v := (1 : Int32)) hx hb dX9_leastOf_10 (by decide) ?_
    obtain ⟨hvt, hvf⟩ := hv
    refine lv_icmp_ne (tgt := 19) hx hb dX9_leastOf_11 (by decide) (fun hc => ?_) (fun hc => ?_)
    · have hv := hvt hc
      refine lv_iconst (v := (0 : Int32)) hx hb dX9_leastOf_19 (by decide) ?_
      exact W.iret (v := (0 : Int32)) hx hb hr (fun t ht hW => ⟨_, rfl, hv, ht⟩) (fun _ h => by cases h) dX9_leastOf_20
    · have hv := hvf hc
      refine lv_bipush (v := (-64 : Int32)) hx hb dX9_leastOf_14 (by decide) ?_
      refine lv_goto (tgt := 20) hx hb dX9_leastOf_16 (by decide) ?_
      exact W.iret (v := (-64 : Int32)) hx hb hr (fun t ht hW => ⟨_, rfl, hv, ht⟩) (fun _ h => by cases h) dX9_leastOf_20
  · have hv := hvf hc
    refine lv_iconst (v := (1 : Int32)) hx hb dX9_leastOf_5 (by decide) ?_
    refine lv_goto (tgt := 20) hx hb dX9_leastOf_6 (by decide) ?_
    exact W.iret (v := (1 : Int32)) hx hb hr (fun t ht hW => ⟨_, rfl, hv, ht⟩) (fun _ h => by cases h) dX9_leastOf_20
def leastS (k : Int) : Int := if k = 3 then 1 else if k = 1 then -64 else 0
def mostS (k : Int) : Int := if k = 1 then 64 else if k = 3 then 200 else if k = 4 then 100 else 9999
abbrev preX9_leastOf (_ : Int32) : Prop := True
abbrev postX9_leastOf (p1 r : Int32) : Prop := r.toInt = leastS p1.toInt
theorem sX9_leastOf (p1 : Int32) (_ : preX9_leastOf p1) : vX9_leastOf p1 (postX9_leastOf p1) := by
  unfold vX9_leastOf postX9_leastOf leastS
  simp only [fa_eq]
  show ((¬ p1.toInt = (3 : Int) → ((¬ p1.toInt = (1 : Int) → (0 : Int) = _) ∧ (p1.toInt = (1 : Int) → (-64 : Int) = _))) ∧ (p1.toInt = (3 : Int) → (1 : Int) = _))
  refine ⟨fun h => ⟨fun h2 => ?_, fun h2 => ?_⟩, fun h => ?_⟩
  · rw [if_neg h, if_neg h2]
  · rw [if_neg h, if_pos h2]
  · rw [if_pos h]
