theorem dX8_power_0 : decode cX8_power 0 = .ok (.lconst 1, 1) := by decide +kernel
theorem dX8_power_1 : decode cX8_power 1 = .ok (.lstore_n 3, 1) := by decide +kernel
theorem dX8_power_2 : decode cX8_power 2 = .ok (.iconst 0, 1) := by decide +kernel
theorem dX8_power_3 : decode cX8_power 3 = .ok (.istore 5, 2) := by decide +kernel
theorem dX8_power_5 : decode cX8_power 5 = .ok (.iload 5, 2) := by decide +kernel
theorem dX8_power_7 : decode cX8_power 7 = .ok (.iload_n 2, 1) := by decide +kernel
theorem dX8_power_8 : decode cX8_power 8 = .ok (.if_icmp .ge 13, 3) := by decide +kernel
theorem dX8_power_11 : decode cX8_power 11 = .ok (.lload_n 3, 1) := by decide +kernel
theorem dX8_power_12 : decode cX8_power 12 = .ok (.lload_n 0, 1) := by decide +kernel
theorem dX8_power_13 : decode cX8_power 13 = .ok (.lmul, 1) := by decide +kernel
theorem dX8_power_14 : decode cX8_power 14 = .ok (.lstore_n 3, 1) := by decide +kernel
theorem dX8_power_15 : decode cX8_power 15 = .ok (.iinc 5 1, 3) := by decide +kernel
theorem dX8_power_18 : decode cX8_power 18 = .ok (.goto (-13), 3) := by decide +kernel
theorem dX8_power_21 : decode cX8_power 21 = .ok (.lload_n 3, 1) := by decide +kernel
theorem dX8_power_22 : decode cX8_power 22 = .ok (.lreturn, 1) := by decide +kernel
abbrev rmX8_power : Room := { frames := 0, cells := 0, slots := 0, locals := 0 }
def vX8_power_c5 (p1 : Int64) (p2 : Int32) (Q : Int64 → Prop) : Nat → Int64 → Int32 → Prop
  | 0, _, _ => False
  | n + 1, x3, x5 => ((p2 ≤ x5 → (Q x3)) ∧ (¬ p2 ≤ x5 → (vX8_power_c5 p1 p2 Q n (x3 * p1) (x5 + (1 : Int32)))))
set_option maxHeartbeats 4000000 in
set_option maxRecDepth 100000 in
theorem kX8_power_c5 {p : Program} {l : Launch} {e : Env} {s : State} {m : MethodId} {args : Array Value} {below : List Frame} {meth : Method} {c : Code} {g : GP}  {p1 : Int64} {p2 : Int32} {Q : Int64 → Prop} (S : CallFix p m c cX8_power 6 s args wsX8_power RX8) (hr : meth.sig.returnType = (some .long)) (hlocks : meth.locks = false) (hG : GK g s) (hP : va_P g.1 vwCl [] s.heap) : ∀ (n : Nat), ∀ (x3 : Int64) (x5 : Int32), vX8_power_c5 p1 p2 Q n x3 x5 → ∀ (ls : Array Slot), lv_has ls 6 [(0, .long p1), (2, .int p2), (3, .long x3), (5, .int x5)] → W p l e (headSpec wsX8_power rmX8_power).room s m args below meth c s.heap [] 0 0 (MQ below (vp_Sl Q) args s 0 0 (fun _ => False)) (F0 m 5 ls []) := by
  obtain ⟨hx, hb, hml, hown, hts⟩ := id S
  have hK := hG.1
  intro n
  induction n with
  | zero => intro x3 x5 hv; exact hv.elim
  | succ n ih =>
    intro x3 x5 hv ls hl
    refine lv_iload hx hb dX8_power_5 (lv_at hl 3 rfl) ?_
    refine lv_iload_n hx hb dX8_power_7 rfl (lv_at hl 1 rfl) ?_
    obtain ⟨hvt, hvf⟩ := hv
    refine lv_icmp_ge (tgt := 21) hx hb dX8_power_8 (by decide) (fun hc => ?_) (fun hc => ?_)
    · have hv := hvt hc
      refine lv_lload_n hx hb dX8_power_21 rfl (lv_at hl 2 rfl) ?_
      exact W.lret (v := x3) hx hb hr (fun t ht hW => ⟨_, rfl, hv, ht⟩) (fun _ h => by cases h) dX8_power_22
    · have hv := hvf hc
      refine lv_lload_n hx hb dX8_power_11 rfl (lv_at hl 2 rfl) ?_
      refine lv_lload_n hx hb dX8_power_12 rfl (lv_at hl 0 rfl) ?_
      refine lv_lmul hx hb dX8_power_13 ?_
      refine lv_lstore_n (lv' := [(3, .long (x3 * p1)), (0, .long p1), (2, .int p2), (5, .int x5)]) hx hb dX8_power_14 rfl hl (by decide) rfl (fun ls hl => ?_)
      refine lv_iinc (v := (x5 + (1 : Int32))) (lv' := [(5, .int (x5 + (1 : Int32))), (3, .long (x3 * p1)), (0, .long p1), (2, .int p2)]) hx hb dX8_power_15 hl (k := 3) rfl rfl (by decide) rfl (fun ls hl => ?_)
      refine lv_goto (tgt := 5) hx hb dX8_power_18 (by decide) ?_
      exact ih _ _ hv ls (lv_sub hl [2, 3, 1, 0] rfl)
def vX8_power (p1 : Int64) (p2 : Int32) (Q : Int64 → Prop) : Prop := (∃ nn, vX8_power_c5 p1 p2 Q nn (1 : Int64) (0 : Int32))
set_option maxHeartbeats 4000000 in
set_option maxRecDepth 100000 in
theorem wX8_power (l : Launch) (g : GP)  (p1 : Int64) (p2 : Int32) {Q : Int64 → Prop} (hv : vX8_power p1 p2 Q) : Met l yX8_power wsX8_power rmX8_power (va_Pc [.long p1, .int p2] (fun U => va_P g.1 vwCl [] U.heap ∧ GK g U)) (vp_Sl Q) 0 0 (fun _ => False) := by
  refine Met.ofW (cc := cX8_power) (maxL := 6) (ret := (some .long)) (by decide) rfl ?_
  intro p e s m args below meth c s₁ B hml hv'
  obtain ⟨rfl, hP, hG⟩ := hv'
  have S : CallFix p m c cX8_power 6 s _ wsX8_power RX8 := ⟨B.exec, B.bytes, hml, findClass_of_methodNamed B.named, atoms_spec (ws := wsX8_power) B.pre⟩
  obtain ⟨hx, hb, hml, hown, hts⟩ := id S
  have hK := hG.1
  have hr := B.returns
  have hlocks := B.notSynchronized
  have hl := lv_entry ([.long p1, .int p2]) (n := 6) (Nat.le_of_ble_eq_true rfl)
  rw [lg_entry_eq]
  generalize (lg_sl ([.long p1, .int p2]) ++ List.replicate (6 - (lg_sl ([.long p1, .int p2])).length) Slot.unset).toArray = ls at hl ⊢
  have hl : lv_has ls 6 [(0, .long p1), (2, .int p2)] := hl
  unfold vX8_power at hv
  refine lv_lconst (v := (1 : Int64)) hx hb dX8_power_0 (by decide) ?_
  refine lv_lstore_n (lv' := [(3, .long (1 : Int64)), (0, .long p1), (2, .int p2)]) hx hb dX8_power_1 rfl hl (by decide) rfl (fun ls hl => ?_)
  refine lv_iconst (v := (0 : Int32)) hx hb dX8_power_2 (by decide) ?_
  refine lv_istore (lv' := [(5, .int (0 : Int32)), (3, .long (1 : Int64)), (0, .long p1), (2, .int p2)]) hx hb dX8_power_3 hl (by decide) rfl (fun ls hl => ?_)
  obtain ⟨nn, hv⟩ := hv
  exact kX8_power_c5 S hr hlocks hG hP nn _ _ hv ls (lv_sub hl [2, 3, 1, 0] rfl)
abbrev preX8_power (b k : Nat) (p1 : Int64) (p2 : Int32) : Prop := p1.toInt = (b : Int) ∧ b ≤ 10 ∧ p2.toInt = (k : Int) ∧ k ≤ 18
abbrev postX8_power (b k : Nat) (_ : Int64) (_ : Int32) (r : Int64) : Prop := r.toInt = ((b ^ k : Nat) : Int)
theorem sX8_power_5 (b k : Nat) (p1 : Int64) (p2 : Int32) (H : preX8_power b k p1 p2) : ∀ (n i : Nat) (x3 : Int64) (x5 : Int32), x3.toInt = ((b ^ i : Nat) : Int) → x5.toInt = (i : Int) → i ≤ k → k + 1 ≤ i + n → vX8_power_c5 p1 p2 (postX8_power b k p1 p2) n x3 x5
  | 0, i, x3, x5, _, _, hi, hn => absurd hn (by omega)
  | n + 1, i, x3, x5, h3, h5, hi, hn => by
    obtain ⟨h1, hb, h2, hk⟩ := id H
    rw [vX8_power_c5, q_le h2 h5]
    refine ⟨fun hc => ?_, fun hc => sX8_power_5 b k p1 p2 H n (i + 1) _ _ ?_ (q_1 h5 (by omega)) (by omega) (by omega)⟩
    · have : i = k := by omega
      subst this
      exact h3
    · have hl := pw_le hb (i + 1)
      have hl2 := p10_le (n := i + 1) (by omega)
      rw [Nat.pow_succ] at hl ⊢
      rw [Nat.pow_succ] at hl2
      exact q_lmulN h3 h1 (by omega)
theorem sX8_power (b k : Nat) (p1 : Int64) (p2 : Int32) (H : preX8_power b k p1 p2) : vX8_power p1 p2 (postX8_power b k p1 p2) := ⟨k + 1, sX8_power_5 b k p1 p2 H (k + 1) 0 1 0 rfl rfl (by omega) (by omega)⟩
theorem dX8_ways_0 : decode cX8_ways 0 = .ok (.lconst 1, 1) := by decide +kernel
theorem dX8_ways_1 : decode cX8_ways 1 = .ok (.lstore_n 2, 1) := by decide +kernel
theorem dX8_ways_2 : decode cX8_ways 2 = .ok (.iconst 1, 1) := by decide +kernel
theorem dX8_ways_3 : decode cX8_ways 3 = .ok (.istore 4, 2) := by decide +kernel
theorem dX8_ways_5 : decode cX8_ways 5 = .ok (.iload 4, 2) := by decide +kernel
theorem dX8_ways_7 : decode cX8_ways 7 = .ok (.iload_n 1, 1) := by decide +kernel
theorem dX8_ways_8 : decode cX8_ways 8 = .ok (.if_icmp .gt 23, 3) := by decide +kernel
theorem dX8_ways_11 : decode cX8_ways 11 = .ok (.lload_n 2, 1) := by decide +kernel
theorem dX8_ways_12 : decode cX8_ways 12 = .ok (.iload_n 0, 1) := by decide +kernel
theorem dX8_ways_13 : decode cX8_ways 13 = .ok (.iload_n 1, 1) := by decide +kernel
theorem dX8_ways_14 : decode cX8_ways 14 = .ok (.isub, 1) := by decide +kernel
theorem dX8_ways_15 : decode cX8_ways 15 = .ok (.iload 4, 2) := by decide +kernel
theorem dX8_ways_17 : decode cX8_ways 17 = .ok (.iadd, 1) := by decide +kernel
theorem dX8_ways_18 : decode cX8_ways 18 = .ok (.i2l, 1) := by decide +kernel
theorem dX8_ways_19 : decode cX8_ways 19 = .ok (.lmul, 1) := by decide +kernel
theorem dX8_ways_20 : decode cX8_ways 20 = .ok (.iload 4, 2) := by decide +kernel
theorem dX8_ways_22 : decode cX8_ways 22 = .ok (.i2l, 1) := by decide +kernel
theorem dX8_ways_23 : decode cX8_ways 23 = .ok (.ldiv, 1) := by decide +kernel
theorem dX8_ways_24 : decode cX8_ways 24 = .ok (.lstore_n 2, 1) := by decide +kernel
theorem dX8_ways_25 : decode cX8_ways 25 = .ok (.iinc 4 1, 3) := by decide +kernel
theorem dX8_ways_28 : decode cX8_ways 28 = .ok (.goto (-23), 3) := by decide +kernel
theorem dX8_ways_31 : decode cX8_ways 31 = .ok (.lload_n 2, 1) := by decide +kernel
theorem dX8_ways_32 : decode cX8_ways 32 = .ok (.lreturn, 1) := by decide +kernel
abbrev rmX8_ways : Room := { frames := 0, cells := 0, slots := 0, locals := 0 }
def vX8_ways_c5 (p1 : Int32) (p2 : Int32) (Q : Int64 → Prop) : Nat → Int64 → Int32 → Prop
  | 0, _, _ => False
  | n + 1, x2, x4 => ((p2 < x4 → (Q x2)) ∧ (¬ p2 < x4 → (¬ (x4.toInt64) = 0 ∧ (∀ y_24 : Int64, y_24 = ((x2 * (((p1 - p2) + x4).toInt64)) / (x4.toInt64)) → (vX8_ways_c5 p1 p2 Q n y_24 (x4 + (1 : Int32)))))))
set_option maxHeartbeats 4000000 in
set_option maxRecDepth 100000 in
theorem kX8_ways_c5 {p : Program} {l : Launch} {e : Env} {s : State} {m : MethodId} {args : Array Value} {below : List Frame} {meth : Method} {c : Code} {g : GP}  {p1 : Int32} {p2 : Int32} {Q : Int64 → Prop} (S : CallFix p m c cX8_ways 5 s args wsX8_ways RX8) (hr : meth.sig.returnType = (some .long)) (hlocks : meth.locks = false) (hG : GK g s) (hP : va_P g.1 vwCl [] s.heap) : ∀ (n : Nat), ∀ (x2 : Int64) (x4 : Int32), vX8_ways_c5 p1 p2 Q n x2 x4 → ∀ (ls : Array Slot), lv_has ls 5 [(0, .int p1), (1, .int p2), (2, .long x2), (4, .int x4)] → W p l e (headSpec wsX8_ways rmX8_ways).room s m args below meth c s.heap [] 0 0 (MQ below (vp_Sl Q) args s 0 0 (fun _ => False)) (F0 m 5 ls []) := by
  obtain ⟨hx, hb, hml, hown, hts⟩ := id S
  have hK := hG.1
  intro n
  induction n with
  | zero => intro x2 x4 hv; exact hv.elim
  | succ n ih =>
    intro x2 x4 hv ls hl
    refine lv_iload hx hb dX8_ways_5 (lv_at hl 3 rfl) ?_
    refine lv_iload_n hx hb dX8_ways_7 rfl (lv_at hl 1 rfl) ?_
    obtain ⟨hvt, hvf⟩ := hv
    refine lv_icmp_gt (tgt := 31) hx hb dX8_ways_8 (by decide) (fun hc => ?_) (fun hc => ?_)
    · have hv := hvt hc
      refine lv_lload_n hx hb dX8_ways_31 rfl (lv_at hl 2 rfl) ?_
      exact W.lret (v := x2) hx hb hr (fun t ht hW => ⟨_, rfl, hv, ht⟩) (fun _ h => by cases h) dX8_ways_32
    · have hv := hvf hc
      refine lv_lload_n hx hb dX8_ways_11 rfl (lv_at hl 2 rfl) ?_
      refine lv_iload_n hx hb dX8_ways_12 rfl (lv_at hl 0 rfl) ?_
      refine lv_iload_n hx hb dX8_ways_13 rfl (lv_at hl 1 rfl) ?_
      refine lv_isub hx hb dX8_ways_14 ?_
      refine lv_iload hx hb dX8_ways_15 (lv_at hl 3 rfl) ?_
      refine lv_iadd hx hb dX8_ways_17 ?_
      refine lv_i2l (v := (((p1 - p2) + x4).toInt64)) hx hb dX8_ways_18 rfl ?_
      refine lv_lmul hx hb dX8_ways_19 ?_
      refine lv_iload hx hb dX8_ways_20 (lv_at hl 3 rfl) ?_
      refine lv_i2l (v := (x4.toInt64)) hx hb dX8_ways_22 rfl ?_
      obtain ⟨ho_1, hv⟩ := hv
      refine lv_ldiv hx hb dX8_ways_23 ho_1 ?_
      refine lv_topl (fun y_24 ey_24 => ?_)
      have hv := hv y_24 ey_24
      refine lv_lstore_n (lv' := [(2, .long y_24), (0, .int p1), (1, .int p2), (4, .int x4)]) hx hb dX8_ways_24 rfl hl (by decide) rfl (fun ls hl => ?_)
      refine lv_iinc (v := (x4 + (1 : Int32))) (lv' := [(4, .int (x4 + (1 : Int32))), (2, .long y_24), (0, .int p1), (1, .int p2)]) hx hb dX8_ways_25 hl (k := 3) rfl rfl (by decide) rfl (fun ls hl => ?_)
      refine lv_goto (tgt := 5) hx hb dX8_ways_28 (by decide) ?_
      exact ih _ _ hv ls (lv_sub hl [2, 3, 1, 0] rfl)
def vX8_ways (p1 : Int32) (p2 : Int32) (Q : Int64 → Prop) : Prop := (∃ nn, vX8_ways_c5 p1 p2 Q nn (1 : Int64) (1 : Int32))
set_option maxHeartbeats 4000000 in
set_option maxRecDepth 100000 in
theorem wX8_ways (l : Launch) (g : GP)  (p1 : Int32) (p2 : Int32) {Q : Int64 → Prop} (hv : vX8_ways p1 p2 Q) : Met l yX8_ways wsX8_ways rmX8_ways (va_Pc [.int p1, .int p2] (fun U => va_P g.1 vwCl [] U.heap ∧ GK g U)) (vp_Sl Q) 0 0 (fun _ => False) := by
  refine Met.ofW (cc := cX8_ways) (maxL := 5) (ret := (some .long)) (by decide) rfl ?_
  intro p e s m args below meth c s₁ B hml hv'
  obtain ⟨rfl, hP, hG⟩ := hv'
  have S : CallFix p m c cX8_ways 5 s _ wsX8_ways RX8 := ⟨B.exec, B.bytes, hml, findClass_of_methodNamed B.named, atoms_spec (ws := wsX8_ways) B.pre⟩
  obtain ⟨hx, hb, hml, hown, hts⟩ := id S
  have hK := hG.1
  have hr := B.returns
  have hlocks := B.notSynchronized
  have hl := lv_entry ([.int p1, .int p2]) (n := 5) (Nat.le_of_ble_eq_true rfl)
  rw [lg_entry_eq]
  generalize (lg_sl ([.int p1, .int p2]) ++ List.replicate (5 - (lg_sl ([.int p1, .int p2])).length) Slot.unset).toArray = ls at hl ⊢
  have hl : lv_has ls 5 [(0, .int p1), (1, .int p2)] := hl
  unfold vX8_ways at hv
  refine lv_lconst (v := (1 : Int64)) hx hb dX8_ways_0 (by decide) ?_
  refine lv_lstore_n (lv' := [(2, .long (1 : Int64)), (0, .int p1), (1, .int p2)]) hx hb dX8_ways_1 rfl hl (by decide) rfl (fun ls hl => ?_)
  refine lv_iconst (v := (1 : Int32)) hx hb dX8_ways_2 (by decide) ?_
  refine lv_istore (lv' := [(4, .int (1 : Int32)), (2, .long (1 : Int64)), (0, .int p1), (1, .int p2)]) hx hb dX8_ways_3 hl (by decide) rfl (fun ls hl => ?_)
  obtain ⟨nn, hv⟩ := hv
  exact kX8_ways_c5 S hr hlocks hG hP nn _ _ hv ls (lv_sub hl [2, 3, 1, 0] rfl)
abbrev preX8_ways (n k : Nat) (p1 p2 : Int32) : Prop := p1.toInt = (n : Int) ∧ n ≤ 18 ∧ p2.toInt = (k : Int) ∧ k ≤ n
abbrev postX8_ways (n k : Nat) (_ _ : Int32) (r : Int64) : Prop := r.toInt = ((vR n k : Nat) : Int)
theorem sX8_ways_5 (n k : Nat) (p1 p2 : Int32) (H : preX8_ways n k p1 p2) : ∀ (f i : Nat) (x2 : Int64) (x4 : Int32), x2.toInt = ((wyC n k i : Nat) : Int) → x4.toInt = ((i + 1 : Nat) : Int) → i ≤ k → k + 1 ≤ i + f → vX8_ways_c5 p1 p2 (postX8_ways n k p1 p2) f x2 x4
  | 0, i, x2, x4, _, _, hi, hn => absurd hn (by omega)
  | f + 1, i, x2, x4, h2, h4, hi, hn => by
    obtain ⟨h1, hn18, hp2, hk⟩ := id H
    have hw := wy_le n (by omega) k (by omega) i (by omega)
    rw [vX8_ways_c5, q_lt hp2 h4]
    refine ⟨fun hc => ?_, fun hc => ?_⟩
    · have : i = k := by omega
      subst this
      show x2.toInt = ((vR n i : Nat) : Int)
      rw [h2, wy_vR n (by omega) i (by omega)]
    · have e4 := q_i2l h4
      have e1 := q_i2l (q_addN (q_subN h1 hp2 (by omega) (by omega)) h4 (by omega))
      have hm : wyC n k i * (n - k + (i + 1)) ≤ 1000000 * 40 := Nat.mul_le_mul hw (by omega)
      refine ⟨by rw [q_l0 e4]; omega, fun y hy => sX8_ways_5 n k p1 p2 H f (i + 1) _ _ ?_ (q_1 h4 (by omega)) (by omega) (by omega)⟩
      rw [hy, wyC]
      exact q_ldiv (q_lmulN h2 e1 (by omega)) e4 (by omega)
theorem sX8_ways (n k : Nat) (p1 p2 : Int32) (H : preX8_ways n k p1 p2) : vX8_ways p1 p2 (postX8_ways n k p1 p2) := ⟨k + 1, sX8_ways_5 n k p1 p2 H (k + 1) 0 1 1 rfl rfl (by omega) (by omega)⟩
set_option maxRecDepth 20000 in
theorem ggX8_chance_X8_ways : GoodIn wsX8_chance wsX8_ways := goodIn_r _ [6] (by decide +kernel) (by decide +kernel)
set_option maxRecDepth 20000 in
theorem gX8_chance_X8_ways : GoodIn wsX8_chance (va_wsS RX8 288 yX8_ways wsX8_ways) := goodIn_app (goodIn_of _ (by decide +kernel)) ggX8_chance_X8_ways
set_option maxRecDepth 20000 in
theorem ggX8_chance_X8_power : GoodIn wsX8_chance wsX8_power := goodIn_r _ [9] (by decide +kernel) (by decide +kernel)
set_option maxRecDepth 20000 in
theorem gX8_chance_X8_power : GoodIn wsX8_chance (va_wsS RX8 292 yX8_power wsX8_power) := goodIn_app (goodIn_of _ (by decide +kernel)) ggX8_chance_X8_power
set_option maxRecDepth 20000 in
theorem ggX8_chance_X8_commonDivisor : GoodIn wsX8_chance wsX8_commonDivisor := goodIn_r _ [12] (by decide +kernel) (by decide +kernel)
set_option maxRecDepth 20000 in
theorem gX8_chance_X8_commonDivisor : GoodIn wsX8_chance (va_wsS RX8 298 yX8_commonDivisor wsX8_commonDivisor) := goodIn_app (goodIn_of _ (by decide +kernel)) ggX8_chance_X8_commonDivisor
theorem dX8_chance_0 : decode cX8_chance 0 = .ok (.iload_n 1, 1) := by decide +kernel
theorem dX8_chance_1 : decode cX8_chance 1 = .ok (.ifCond .lt 29, 3) := by decide +kernel
theorem dX8_chance_4 : decode cX8_chance 4 = .ok (.iload_n 1, 1) := by decide +kernel
theorem dX8_chance_5 : decode cX8_chance 5 = .ok (.bipush 18, 2) := by decide +kernel
theorem dX8_chance_7 : decode cX8_chance 7 = .ok (.if_icmp .gt 23, 3) := by decide +kernel
theorem dX8_chance_10 : decode cX8_chance 10 = .ok (.iload_n 2, 1) := by decide +kernel
theorem dX8_chance_11 : decode cX8_chance 11 = .ok (.ifCond .lt 19, 3) := by decide +kernel
theorem dX8_chance_14 : decode cX8_chance 14 = .ok (.iload_n 2, 1) := by decide +kernel
theorem dX8_chance_15 : decode cX8_chance 15 = .ok (.bipush 10, 2) := by decide +kernel
theorem dX8_chance_17 : decode cX8_chance 17 = .ok (.if_icmp .gt 13, 3) := by decide +kernel
theorem dX8_chance_20 : decode cX8_chance 20 = .ok (.iload_n 3, 1) := by decide +kernel
theorem dX8_chance_21 : decode cX8_chance 21 = .ok (.ifCond .lt 9, 3) := by decide +kernel
theorem dX8_chance_24 : decode cX8_chance 24 = .ok (.iload_n 3, 1) := by decide +kernel
theorem dX8_chance_25 : decode cX8_chance 25 = .ok (.bipush 18, 2) := by decide +kernel
theorem dX8_chance_27 : decode cX8_chance 27 = .ok (.if_icmp .le 7, 3) := by decide +kernel
theorem dX8_chance_30 : decode cX8_chance 30 = .ok (.ldc2_w 286, 3) := by decide +kernel
theorem dX8_chance_33 : decode cX8_chance 33 = .ok (.lreturn, 1) := by decide +kernel
theorem dX8_chance_34 : decode cX8_chance 34 = .ok (.lconst 0, 1) := by decide +kernel
theorem dX8_chance_35 : decode cX8_chance 35 = .ok (.lstore 5, 2) := by decide +kernel
theorem dX8_chance_37 : decode cX8_chance 37 = .ok (.iload_n 3, 1) := by decide +kernel
theorem dX8_chance_38 : decode cX8_chance 38 = .ok (.istore 7, 2) := by decide +kernel
theorem dX8_chance_40 : decode cX8_chance 40 = .ok (.iload 7, 2) := by decide +kernel
theorem dX8_chance_42 : decode cX8_chance 42 = .ok (.iload_n 1, 1) := by decide +kernel
theorem dX8_chance_43 : decode cX8_chance 43 = .ok (.if_icmp .gt 41, 3) := by decide +kernel
theorem dX8_chance_46 : decode cX8_chance 46 = .ok (.lload 5, 2) := by decide +kernel
theorem dX8_chance_48 : decode cX8_chance 48 = .ok (.iload_n 1, 1) := by decide +kernel
theorem dX8_chance_49 : decode cX8_chance 49 = .ok (.iload 7, 2) := by decide +kernel
theorem dX8_chance_51 : decode cX8_chance 51 = .ok (.invokestatic 288, 3) := by decide +kernel
theorem dX8_chance_54 : decode cX8_chance 54 = .ok (.iload_n 2, 1) := by decide +kernel
theorem dX8_chance_55 : decode cX8_chance 55 = .ok (.i2l, 1) := by decide +kernel
theorem dX8_chance_56 : decode cX8_chance 56 = .ok (.iload 7, 2) := by decide +kernel
theorem dX8_chance_58 : decode cX8_chance 58 = .ok (.invokestatic 292, 3) := by decide +kernel
theorem dX8_chance_61 : decode cX8_chance 61 = .ok (.bipush 10, 2) := by decide +kernel
theorem dX8_chance_63 : decode cX8_chance 63 = .ok (.iload_n 2, 1) := by decide +kernel
theorem dX8_chance_64 : decode cX8_chance 64 = .ok (.isub, 1) := by decide +kernel
theorem dX8_chance_65 : decode cX8_chance 65 = .ok (.i2l, 1) := by decide +kernel
theorem dX8_chance_66 : decode cX8_chance 66 = .ok (.iload_n 1, 1) := by decide +kernel
theorem dX8_chance_67 : decode cX8_chance 67 = .ok (.iload 7, 2) := by decide +kernel
theorem dX8_chance_69 : decode cX8_chance 69 = .ok (.isub, 1) := by decide +kernel
theorem dX8_chance_70 : decode cX8_chance 70 = .ok (.invokestatic 292, 3) := by decide +kernel
theorem dX8_chance_73 : decode cX8_chance 73 = .ok (.lmul, 1) := by decide +kernel
theorem dX8_chance_74 : decode cX8_chance 74 = .ok (.lmul, 1) := by decide +kernel
theorem dX8_chance_75 : decode cX8_chance 75 = .ok (.ladd, 1) := by decide +kernel
theorem dX8_chance_76 : decode cX8_chance 76 = .ok (.lstore 5, 2) := by decide +kernel
theorem dX8_chance_78 : decode cX8_chance 78 = .ok (.iinc 7 1, 3) := by decide +kernel
theorem dX8_chance_81 : decode cX8_chance 81 = .ok (.goto (-41), 3) := by decide +kernel
theorem dX8_chance_84 : decode cX8_chance 84 = .ok (.ldc2_w 296, 3) := by decide +kernel
theorem dX8_chance_87 : decode cX8_chance 87 = .ok (.iload_n 1, 1) := by decide +kernel
theorem dX8_chance_88 : decode cX8_chance 88 = .ok (.invokestatic 292, 3) := by decide +kernel
theorem dX8_chance_91 : decode cX8_chance 91 = .ok (.lstore 7, 2) := by decide +kernel
theorem dX8_chance_93 : decode cX8_chance 93 = .ok (.lload 5, 2) := by decide +kernel
theorem dX8_chance_95 : decode cX8_chance 95 = .ok (.lload 7, 2) := by decide +kernel
theorem dX8_chance_97 : decode cX8_chance 97 = .ok (.invokestatic 298, 3) := by decide +kernel
theorem dX8_chance_100 : decode cX8_chance 100 = .ok (.lstore 9, 2) := by decide +kernel
theorem dX8_chance_102 : decode cX8_chance 102 = .ok (.lload 9, 2) := by decide +kernel
theorem dX8_chance_104 : decode cX8_chance 104 = .ok (.lconst 1, 1) := by decide +kernel
theorem dX8_chance_105 : decode cX8_chance 105 = .ok (.lcmp, 1) := by decide +kernel
theorem dX8_chance_106 : decode cX8_chance 106 = .ok (.ifCond .ge 7, 3) := by decide +kernel
theorem dX8_chance_109 : decode cX8_chance 109 = .ok (.ldc2_w 286, 3) := by decide +kernel
theorem dX8_chance_112 : decode cX8_chance 112 = .ok (.lreturn, 1) := by decide +kernel
theorem dX8_chance_113 : decode cX8_chance 113 = .ok (.iload 4, 2) := by decide +kernel
theorem dX8_chance_115 : decode cX8_chance 115 = .ok (.ifCond .eq 8, 3) := by decide +kernel
theorem dX8_chance_118 : decode cX8_chance 118 = .ok (.lload 7, 2) := by decide +kernel
theorem dX8_chance_120 : decode cX8_chance 120 = .ok (.goto 5, 3) := by decide +kernel
theorem dX8_chance_123 : decode cX8_chance 123 = .ok (.lload 5, 2) := by decide +kernel
theorem dX8_chance_125 : decode cX8_chance 125 = .ok (.lload 9, 2) := by decide +kernel
theorem dX8_chance_127 : decode cX8_chance 127 = .ok (.ldiv, 1) := by decide +kernel
theorem dX8_chance_128 : decode cX8_chance 128 = .ok (.lreturn, 1) := by decide +kernel
abbrev rmX8_chance : Room := { frames := 1, cells := 0, slots := 0, locals := 30 }
def vX8_chance_c40 (p1 : Int32) (p2 : Int32) (p3 : Int32) (p4 : Int32) (Q : Int64 → Prop) : Nat → Int64 → Int32 → Prop
  | 0, _, _ => False
  | n + 1, x5, x7 => ((p1 < x7 → (∃ (b_88 : Nat) (k_88 : Nat), preX8_power b_88 k_88 (10 : Int64) p1 ∧ (∀ r_88 : Int64, postX8_power b_88 k_88 (10 : Int64) p1 r_88 → (∃ (a_97 : Nat) (b_97 : Nat), preX8_commonDivisor a_97 b_97 x5 r_88 ∧ (∀ r_97 : Int64, postX8_commonDivisor a_97 b_97 x5 r_88 r_97 → ((0 ≤ (lg_cmp r_97 (1 : Int64)) → ((p4 = 0 → (¬ r_97 = 0 ∧ (Q (x5 / r_97)))) ∧ (¬ p4 = 0 → (¬ r_97 = 0 ∧ (Q (r_88 / r_97)))))) ∧ (¬ 0 ≤ (lg_cmp r_97 (1 : Int64)) → (Q (-1 : Int64))))))))) ∧ (¬ p1 < x7 → (∃ (n_51 : Nat) (k_51 : Nat), preX8_ways n_51 k_51 p1 x7 ∧ (∀ r_51 : Int64, postX8_ways n_51 k_51 p1 x7 r_51 → (∃ (b_58 : Nat) (k_58 : Nat), preX8_power b_58 k_58 (p2.toInt64) x7 ∧ (∀ r_58 : Int64, postX8_power b_58 k_58 (p2.toInt64) x7 r_58 → (∃ (b_70 : Nat) (k_70 : Nat), preX8_power b_70 k_70 (((10 : Int32) - p2).toInt64) (p1 - x7) ∧ (∀ r_70 : Int64, postX8_power b_70 k_70 (((10 : Int32) - p2).toInt64) (p1 - x7) r_70 → (∀ y_76 : Int64, y_76 = (x5 + (r_51 * (r_58 * r_70))) → (vX8_chance_c40 p1 p2 p3 p4 Q n y_76 (x7 + (1 : Int32))))))))))))
set_option maxHeartbeats 4000000 in
set_option maxRecDepth 100000 in
theorem kX8_chance_c40 {p : Program} {l : Launch} {e : Env} {s : State} {m : MethodId} {args : Array Value} {below : List Frame} {meth : Method} {c : Code} {g : GP} {qX : Nat} {qP : Nat} {qI : Nat} {qt : Nat} {qd : Nat} {qe : Nat} {qsp : Nat} {qrk : Nat} {qty : Nat}  {p1 : Int32} {p2 : Int32} {p3 : Int32} {p4 : Int32} {Q : Int64 → Prop} (S : CallFix p m c cX8_chance 11 s args wsX8_chance RX8) (hr : meth.sig.returnType = (some .long)) (hlocks : meth.locks = false) (hG : GK g s) (hP : va_P g.1 vwCl [(qX, .inr (8, [.ref qP, .ref qI, .ref qt, .ref qd, .ref qe, .ref qsp, .ref qrk, .ref qty]))] s.heap) : ∀ (n : Nat), ∀ (x5 : Int64) (x7 : Int32), vX8_chance_c40 p1 p2 p3 p4 Q n x5 x7 → ∀ (ls : Array Slot), lv_has ls 11 [(1, .int p1), (2, .int p2), (4, .int p4), (5, .long x5), (7, .int x7)] → W p l e (headSpec wsX8_chance rmX8_chance).room s m args below meth c s.heap [] 0 0 (MQ below (vp_Sl Q) args s 0 0 (fun _ => False)) (F0 m 40 ls []) := by
  obtain ⟨hx, hb, hml, hown, hts⟩ := id S
  have hK := hG.1
  intro n
  induction n with
  | zero => intro x5 x7 hv; exact hv.elim
  | succ n ih =>
    intro x5 x7 hv ls hl
    refine lv_iload hx hb dX8_chance_40 (lv_at hl 4 rfl) ?_
    refine lv_iload_n hx hb dX8_chance_42 rfl (lv_at hl 0 rfl) ?_
    obtain ⟨hvt, hvf⟩ := hv
    refine lv_icmp_gt (tgt := 84) hx hb dX8_chance_43 (by decide) (fun hc => ?_) (fun hc => ?_)
    · have hv := hvt hc
      refine lv_ldc2 (v := (10 : Int64)) hx hb hown (hts (.constantLong RX8 296 (10)) (List.mem_of_getElem? (i := 2) rfl)) dX8_chance_84 ?_
      refine lv_iload_n hx hb dX8_chance_87 rfl (lv_at hl 0 rfl) ?_
      obtain ⟨b_88, k_88, ho_1, hv⟩ := hv
      refine vp_callSl (W.runS (As := [.long (10 : Int64), .int p1]) (rest := []) S (wX8_power l g (10 : Int64) p1 (sX8_power b_88 k_88 (10 : Int64) p1 ho_1)) (va_cwS 2 hts gX8_chance_X8_power rfl rfl rfl (by decide +kernel) ⟨Nat.le_of_ble_eq_true rfl, Nat.le_of_ble_eq_true rfl⟩) ⟨blindRO, fun U hU hW => ⟨rfl, by rw [hU]; exact hP.sub (ws' := []) [] rfl, hG.warm hW⟩⟩ rfl rfl hl.1 rfl (lv_room (Nat.le_of_ble_eq_true rfl)) dX8_chance_88 ⟨Nat.le_of_ble_eq_true rfl, Nat.le_of_ble_eq_true rfl⟩) (fun r_88 hr_88 => ?_)
      have hv := hv r_88 hr_88
      refine lv_lstore (lv' := [(7, .long r_88), (1, .int p1), (2, .int p2), (4, .int p4), (5, .long x5)]) hx hb dX8_chance_91 hl (by decide) rfl (fun ls hl => ?_)
      refine lv_lload hx hb dX8_chance_93 (lv_at hl 4 rfl) ?_
      refine lv_lload hx hb dX8_chance_95 (lv_at hl 0 rfl) ?_
      obtain ⟨a_97, b_97, ho_2, hv⟩ := hv
      refine vp_callSl (W.runS (As := [.long x5, .long r_88]) (rest := []) S (wX8_commonDivisor l g x5 r_88 (sX8_commonDivisor a_97 b_97 x5 r_88 ho_2)) (va_cwS 2 hts gX8_chance_X8_commonDivisor rfl rfl rfl (by decide +kernel) ⟨Nat.le_of_ble_eq_true rfl, Nat.le_of_ble_eq_true rfl⟩) ⟨blindRO, fun U hU hW => ⟨rfl, by rw [hU]; exact hP.sub (ws' := []) [] rfl, hG.warm hW⟩⟩ rfl rfl hl.1 rfl (lv_room (Nat.le_of_ble_eq_true rfl)) dX8_chance_97 ⟨Nat.le_of_ble_eq_true rfl, Nat.le_of_ble_eq_true rfl⟩) (fun r_97 hr_97 => ?_)
      have hv := hv r_97 hr_97
      refine lv_lstore (lv' := [(9, .long r_97), (7, .long r_88), (1, .int p1), (2, .int p2), (4, .int p4), (5, .long x5)]) hx hb dX8_chance_100 hl (by decide) rfl (fun ls hl => ?_)
      refine lv_lload hx hb dX8_chance_102 (lv_at hl 0 rfl) ?_
      refine lv_lconst (v := (1 : Int64)) hx hb dX8_chance_104 (by decide) ?_
      refine W.lcmp hx hb dX8_chance_105 ?_
      obtain ⟨hvt, hvf⟩ := hv
      refine lv_if_ge (tgt := 113) hx hb dX8_chance_106 (by decide) (fun hc => ?_) (fun hc => ?_)
      · have hv := hvt hc
        refine lv_iload hx hb dX8_chance_113 (lv_at hl 4 rfl) ?_
        obtain ⟨hvt, hvf⟩ := hv
        refine lv_if_eq (tgt := 123) hx hb dX8_chance_115 (by decide) (fun hc => ?_) (fun hc => ?_)
        · have hv := hvt hc
          refine lv_lload hx hb dX8_chance_123 (lv_at hl 5 rfl) ?_
          refine lv_lload hx hb dX8_chance_125 (lv_at hl 0 rfl) ?_
          obtain ⟨ho_3, hv⟩ := hv
          refine lv_ldiv hx hb dX8_chance_127 ho_3 ?_
          exact W.lret (v := (x5 / r_97)) hx hb hr (fun t ht hW => ⟨_, rfl, hv, ht⟩) (fun _ h => by cases h) dX8_chance_128
        · have hv := hvf hc
          refine lv_lload hx hb dX8_chance_118 (lv_at hl 1 rfl) ?_
          refine lv_goto (tgt := 125) hx hb dX8_chance_120 (by decide) ?_
          refine lv_lload hx hb dX8_chance_125 (lv_at hl 0 rfl) ?_
          obtain ⟨ho_4, hv⟩ := hv
          refine lv_ldiv hx hb dX8_chance_127 ho_4 ?_
          exact W.lret (v := (r_88 / r_97)) hx hb hr (fun t ht hW => ⟨_, rfl, hv, ht⟩) (fun _ h => by cases h) dX8_chance_128
      · have hv := hvf hc
        refine lv_ldc2 (v := (-1 : Int64)) hx hb hown (hts (.constantLong RX8 286 (-1)) (List.mem_of_getElem? (i := 1) rfl)) dX8_chance_109 ?_
        exact W.lret (v := (-1 : Int64)) hx hb hr (fun t ht hW => ⟨_, rfl, hv, ht⟩) (fun _ h => by cases h) dX8_chance_112
    · have hv := hvf hc
      refine lv_lload hx hb dX8_chance_46 (lv_at hl 3 rfl) ?_
      refine lv_iload_n hx hb dX8_chance_48 rfl (lv_at hl 0 rfl) ?_
      refine lv_iload hx hb dX8_chance_49 (lv_at hl 4 rfl) ?_
      obtain ⟨n_51, k_51, ho_5, hv⟩ := hv
      refine vp_callSl (W.runS (As := [.int p1, .int x7]) (rest := [.long x5]) S (wX8_ways l g p1 x7 (sX8_ways n_51 k_51 p1 x7 ho_5)) (va_cwS 2 hts gX8_chance_X8_ways rfl rfl rfl (by decide +kernel) ⟨Nat.le_of_ble_eq_true rfl, Nat.le_of_ble_eq_true rfl⟩) ⟨blindRO, fun U hU hW => ⟨rfl, by rw [hU]; exact hP.sub (ws' := []) [] rfl, hG.warm hW⟩⟩ rfl rfl hl.1 rfl (lv_room (Nat.le_of_ble_eq_true rfl)) dX8_chance_51 ⟨Nat.le_of_ble_eq_true rfl, Nat.le_of_ble_eq_true rfl⟩) (fun r_51 hr_51 => ?_)
      have hv := hv r_51 hr_51
      refine lv_iload_n hx hb dX8_chance_54 rfl (lv_at hl 1 rfl) ?_
      refine lv_i2l (v := (p2.toInt64)) hx hb dX8_chance_55 rfl ?_
      refine lv_iload hx hb dX8_chance_56 (lv_at hl 4 rfl) ?_
      obtain ⟨b_58, k_58, ho_6, hv⟩ := hv
      refine vp_callSl (W.runS (As := [.long (p2.toInt64), .int x7]) (rest := [.long r_51, .long x5]) S (wX8_power l g (p2.toInt64) x7 (sX8_power b_58 k_58 (p2.toInt64) x7 ho_6)) (va_cwS 2 hts gX8_chance_X8_power rfl rfl rfl (by decide +kernel) ⟨Nat.le_of_ble_eq_true rfl, Nat.le_of_ble_eq_true rfl⟩) ⟨blindRO, fun U hU hW => ⟨rfl, by rw [hU]; exact hP.sub (ws' := []) [] rfl, hG.warm hW⟩⟩ rfl rfl hl.1 rfl (lv_room (Nat.le_of_ble_eq_true rfl)) dX8_chance_58 ⟨Nat.le_of_ble_eq_true rfl, Nat.le_of_ble_eq_true rfl⟩) (fun r_58 hr_58 => ?_)
      have hv := hv r_58 hr_58
      refine lv_bipush (v := (10 : Int32)) hx hb dX8_chance_61 (by decide) ?_
      refine lv_iload_n hx hb dX8_chance_63 rfl (lv_at hl 1 rfl) ?_
      refine lv_isub hx hb dX8_chance_64 ?_
      refine lv_i2l (v := (((10 : Int32) - p2).toInt64)) hx hb dX8_chance_65 rfl ?_
      refine lv_iload_n hx hb dX8_chance_66 rfl (lv_at hl 0 rfl) ?_
      refine lv_iload hx hb dX8_chance_67 (lv_at hl 4 rfl) ?_
      refine lv_isub hx hb dX8_chance_69 ?_
      obtain ⟨b_70, k_70, ho_7, hv⟩ := hv
      refine vp_callSl (W.runS (As := [.long (((10 : Int32) - p2).toInt64), .int (p1 - x7)]) (rest := [.long r_58, .long r_51, .long x5]) S (wX8_power l g (((10 : Int32) - p2).toInt64) (p1 - x7) (sX8_power b_70 k_70 (((10 : Int32) - p2).toInt64) (p1 - x7) ho_7)) (va_cwS 2 hts gX8_chance_X8_power rfl rfl rfl (by decide +kernel) ⟨Nat.le_of_ble_eq_true rfl, Nat.le_of_ble_eq_true rfl⟩) ⟨blindRO, fun U hU hW => ⟨rfl, by rw [hU]; exact hP.sub (ws' := []) [] rfl, hG.warm hW⟩⟩ rfl rfl hl.1 rfl (lv_room (Nat.le_of_ble_eq_true rfl)) dX8_chance_70 ⟨Nat.le_of_ble_eq_true rfl, Nat.le_of_ble_eq_true rfl⟩) (fun r_70 hr_70 => ?_)
      have hv := hv r_70 hr_70
      refine lv_lmul hx hb dX8_chance_73 ?_
      refine lv_lmul hx hb dX8_chance_74 ?_
      refine lv_ladd hx hb dX8_chance_75 ?_
      refine lv_topl (fun y_76 ey_76 => ?_)
      have hv := hv y_76 ey_76
      refine lv_lstore (lv' := [(5, .long y_76), (1, .int p1), (2, .int p2), (4, .int p4), (7, .int x7)]) hx hb dX8_chance_76 hl (by decide) rfl (fun ls hl => ?_)
      refine lv_iinc (v := (x7 + (1 : Int32))) (lv' := [(7, .int (x7 + (1 : Int32))), (5, .long y_76), (1, .int p1), (2, .int p2), (4, .int p4)]) hx hb dX8_chance_78 hl (k := 4) rfl rfl (by decide) rfl (fun ls hl => ?_)
      refine lv_goto (tgt := 40) hx hb dX8_chance_81 (by decide) ?_
      exact ih _ _ hv ls (lv_sub hl [2, 3, 4, 1, 0] rfl)
def vX8_chance (p1 : Int32) (p2 : Int32) (p3 : Int32) (p4 : Int32) (Q : Int64 → Prop) : Prop := ((p1 < 0 → (Q (-1 : Int64))) ∧ (¬ p1 < 0 → (((18 : Int32) < p1 → (Q (-1 : Int64))) ∧ (¬ (18 : Int32) < p1 → ((p2 < 0 → (Q (-1 : Int64))) ∧ (¬ p2 < 0 → (((10 : Int32) < p2 → (Q (-1 : Int64))) ∧ (¬ (10 : Int32) < p2 → ((p3 < 0 → (Q (-1 : Int64))) ∧ (¬ p3 < 0 → ((p3 ≤ (18 : Int32) → (∃ nn, vX8_chance_c40 p1 p2 p3 p4 Q nn (0 : Int64) p3)) ∧ (¬ p3 ≤ (18 : Int32) → (Q (-1 : Int64))))))))))))))
set_option maxHeartbeats 4000000 in
set_option maxRecDepth 100000 in
theorem wX8_chance (l : Launch) (g : GP) (qX : Nat) (qP : Nat) (qI : Nat) (qt : Nat) (qd : Nat) (qe : Nat) (qsp : Nat) (qrk : Nat) (qty : Nat) (p1 : Int32) (p2 : Int32) (p3 : Int32) (p4 : Int32) {Q : Int64 → Prop} (hv : vX8_chance p1 p2 p3 p4 Q) : Met l yX8_chance wsX8_chance rmX8_chance (va_Pc [.ref qX, .int p1, .int p2, .int p3, .int p4] (fun U => va_P g.1 vwCl [(qX, .inr (8, [.ref qP, .ref qI, .ref qt, .ref qd, .ref qe, .ref qsp, .ref qrk, .ref qty]))] U.heap ∧ GK g U)) (vp_Sl Q) 0 0 (fun _ => False) := by
  refine Met.ofW (cc := cX8_chance) (maxL := 11) (ret := (some .long)) (by decide) rfl ?_
  intro p e s m args below meth c s₁ B hml hv'
  obtain ⟨rfl, hP, hG⟩ := hv'
  have S : CallFix p m c cX8_chance 11 s _ wsX8_chance RX8 := ⟨B.exec, B.bytes, hml, findClass_of_methodNamed B.named, atoms_spec (ws := wsX8_chance) B.pre⟩
  obtain ⟨hx, hb, hml, hown, hts⟩ := id S
  have hK := hG.1
  have hr := B.returns
  have hlocks := B.notSynchronized
  have hl := lv_entry ([.ref qX, .int p1, .int p2, .int p3, .int p4]) (n := 11) (Nat.le_of_ble_eq_true rfl)
  rw [lg_entry_eq]
  generalize (lg_sl ([.ref qX, .int p1, .int p2, .int p3, .int p4]) ++ List.replicate (11 - (lg_sl ([.ref qX, .int p1, .int p2, .int p3, .int p4])).length) Slot.unset).toArray = ls at hl ⊢
  have hl : lv_has ls 11 [(0, .ref qX), (1, .int p1), (2, .int p2), (3, .int p3), (4, .int p4)] := hl
  unfold vX8_chance at hv
  refine lv_iload_n hx hb dX8_chance_0 rfl (lv_at hl 1 rfl) ?_
  obtain ⟨hvt, hvf⟩ := hv
  refine lv_if_lt (tgt := 30) hx hb dX8_chance_1 (by decide) (fun hc => ?_) (fun hc => ?_)
  · have hv := hvt hc
    refine lv_ldc2 (v := (-1 : Int64)) hx hb hown (hts (.constantLong RX8 286 (-1)) (List.mem_of_getElem? (i := 1) rfl)) dX8_chance_30 ?_
    exact W.lret (v := (-1 : Int64)) hx hb hr (fun t ht hW => ⟨_, rfl, hv, ht⟩) (fun _ h => by cases h) dX8_chance_33
  · have hv := hvf hc
    refine lv_iload_n hx hb dX8_chance_4 rfl (lv_at hl 1 rfl) ?_
    refine lv_bipush (v := (18 : Int32)) hx hb dX8_chance_5 (by decide) ?_
    obtain ⟨hvt, hvf⟩ := hv
    refine lv_icmp_gt (tgt := 30) hx hb dX8_chance_7 (by decide) (fun hc => ?_) (fun hc => ?_)
    · have hv := hvt hc
      refine lv_ldc2 (v := (-1 : Int64)) hx hb hown (hts (.constantLong RX8 286 (-1)) (List.mem_of_getElem? (i := 1) rfl)) dX8_chance_30 ?_
      exact W.lret (v := (-1 : Int64)) hx hb hr (fun t ht hW => ⟨_, rfl, hv, ht⟩) (fun _ h => by cases h) dX8_chance_33
    · have hv := hvf hc
      refine lv_iload_n hx hb dX8_chance_10 rfl (lv_at hl 2 rfl) ?_
      obtain ⟨hvt, hvf⟩ := hv
      refine lv_if_lt (tgt := 30) hx hb dX8_chance_11 (by decide) (fun hc => ?_) (fun hc => ?_)
      · have hv := hvt hc
        refine lv_ldc2 (v := (-1 : Int64)) hx hb hown (hts (.constantLong RX8 286 (-1)) (List.mem_of_getElem? (i := 1) rfl)) dX8_chance_30 ?_
        exact W.lret (v := (-1 : Int64)) hx hb hr (fun t ht hW => ⟨_, rfl, hv, ht⟩) (fun _ h => by cases h) dX8_chance_33
      · have hv := hvf hc
        refine lv_iload_n hx hb dX8_chance_14 rfl (lv_at hl 2 rfl) ?_
        refine lv_bipush (v := (10 : Int32)) hx hb dX8_chance_15 (by decide) ?_
        obtain ⟨hvt, hvf⟩ := hv
        refine lv_icmp_gt (tgt := 30) hx hb dX8_chance_17 (by decide) (fun hc => ?_) (fun hc => ?_)
        · have hv := hvt hc
          refine lv_ldc2 (v := (-1 : Int64)) hx hb hown (hts (.constantLong RX8 286 (-1)) (List.mem_of_getElem? (i := 1) rfl)) dX8_chance_30 ?_
          exact W.lret (v := (-1 : Int64)) hx hb hr (fun t ht hW => ⟨_, rfl, hv, ht⟩) (fun _ h => by cases h) dX8_chance_33
        · have hv := hvf hc
          refine lv_iload_n hx hb dX8_chance_20 rfl (lv_at hl 3 rfl) ?_
          obtain ⟨hvt, hvf⟩ := hv
          refine lv_if_lt (tgt := 30) hx hb dX8_chance_21 (by decide) (fun hc => ?_) (fun hc => ?_)
          · have hv := hvt hc
            refine lv_ldc2 (v := (-1 : Int64)) hx hb hown (hts (.constantLong RX8 286 (-1)) (List.mem_of_getElem? (i := 1) rfl)) dX8_chance_30 ?_
            exact W.lret (v := (-1 : Int64)) hx hb hr (fun t ht hW => ⟨_, rfl, hv, ht⟩) (fun _ h => by cases h) dX8_chance_33
          · have hv := hvf hc
            refine lv_iload_n hx hb dX8_chance_24 rfl (lv_at hl 3 rfl) ?_
            refine lv_bipush (v := (18 : Int32)) hx hb dX8_chance_25 (by decide) ?_
            obtain ⟨hvt, hvf⟩ := hv
            refine lv_icmp_le (tgt := 34) hx hb dX8_chance_27 (by decide) (fun hc => ?_) (fun hc => ?_)
            · have hv := hvt hc
              refine lv_lconst (v := (0 : Int64)) hx hb dX8_chance_34 (by decide) ?_
              refine lv_lstore (lv' := [(5, .long (0 : Int64)), (0, .ref qX), (1, .int p1), (2, .int p2), (3, .int p3), (4, .int p4)]) hx hb dX8_chance_35 hl (by decide) rfl (fun ls hl => ?_)
              refine lv_iload_n hx hb dX8_chance_37 rfl (lv_at hl 4 rfl) ?_
              refine lv_istore (lv' := [(7, .int p3), (5, .long (0 : Int64)), (0, .ref qX), (1, .int p1), (2, .int p2), (3, .int p3), (4, .int p4)]) hx hb dX8_chance_38 hl (by decide) rfl (fun ls hl => ?_)
              obtain ⟨nn, hv⟩ := hv
              exact kX8_chance_c40 S hr hlocks hG hP nn _ _ hv ls (lv_sub hl [3, 4, 6, 1, 0] rfl)
            · have hv := hvf hc
              refine lv_ldc2 (v := (-1 : Int64)) hx hb hown (hts (.constantLong RX8 286 (-1)) (List.mem_of_getElem? (i := 1) rfl)) dX8_chance_30 ?_
              exact W.lret (v := (-1 : Int64)) hx hb hr (fun t ht hW => ⟨_, rfl, hv, ht⟩) (fun _ h => by cases h) dX8_chance_33
theorem ch_end {u w c : Nat} (hu : u ≤ 1000000000000000000) (hw : 0 < w) (hw2 : w ≤ 1000000000000000000) {x y g : Int64} (hx : x.toInt = (u : Int)) (hy : y.toInt = (w : Int)) (hg : g.toInt = ((Nat.gcd u w : Nat) : Int)) : 0 < Nat.gcd u w ∧ (x / g).toInt = ((u / Nat.gcd u w : Nat) : Int) ∧ (y / g).toInt = ((w / Nat.gcd u w : Nat) : Int) := by
  have h0 := Nat.gcd_pos_of_pos_right u hw
  exact ⟨h0, q_ldiv hx hg h0, q_ldiv hy hg h0⟩
theorem sX8_chance_40 (n p m : Nat) (p1 p2 p3 p4 : Int32) (h1 : p1.toInt = (n : Int)) (hn : n ≤ 18) (h2 : p2.toInt = (p : Int)) (hp : p ≤ 10) (Q : Int64 → Prop) (hQ : ∀ r : Int64, r.toInt = ((if p4.toInt = 0 then us n p m (n + 1) / Nat.gcd (us n p m (n + 1)) (10 ^ n) else 10 ^ n / Nat.gcd (us n p m (n + 1)) (10 ^ n) : Nat) : Int) → Q r) : ∀ (f k : Nat) (x5 : Int64) (x7 : Int32), x5.toInt = ((us n p m k : Nat) : Int) → x7.toInt = (k : Int) → m ≤ k → k ≤ 19 → 20 ≤ k + f → us n p m k ≤ 1000000000000000000 → (n + 1 ≤ k → us n p m k = us n p m (n + 1)) → vX8_chance_c40 p1 p2 p3 p4 Q f x5 x7
  | 0, k, x5, x7, _, _, _, hk, hf, _, _ => absurd hf (by omega)
  | f + 1, k, x5, x7, h5, h7, hm, hk, hf, hu, he => by
    rw [vX8_chance_c40, q_lt h1 h7]
    refine ⟨fun hc => ⟨10, n, ⟨rfl, Nat.le_refl _, h1, hn⟩, fun r hr => ?_⟩, fun hc => ⟨n, k, ⟨h1, hn, h7, by omega⟩, fun r hr => ⟨p, k, ⟨q_i2l h2, hp, h7, by omega⟩, fun r2 hr2 => ⟨10 - p, n - k, ⟨q_i2l (q_subN (a := 10) rfl h2 (by omega) (by omega)), by omega, q_subN h1 h7 (by omega) (by omega), by omega⟩, fun r3 hr3 y hy => ?_⟩⟩⟩⟩
    · have hr : r.toInt = ((10 ^ n : Nat) : Int) := hr
      have heq := he (by omega)
      rw [heq] at h5 hu
      refine ⟨us n p m (n + 1), 10 ^ n, ⟨h5, hr⟩, fun g hg => ?_⟩
      have hg : g.toInt = ((Nat.gcd (us n p m (n + 1)) (10 ^ n) : Nat) : Int) := hg
      have ce := ch_end (c := 0) hu (Nat.pow_pos (by decide)) (p10_le hn) h5 hr hg
      have z1l : (1 : Int64).toInt = 1 := rfl
      rw [lg_cmp_ge, Int64.le_iff_toInt_le, z1l, hg, q_l0 hg, fa_eq p4, z0]
      refine ⟨fun _ => ⟨fun q => ⟨by omega, hQ _ ?_⟩, fun q => ⟨by omega, hQ _ ?_⟩⟩, fun q => absurd q (by omega)⟩
      · rw [if_pos q]; exact ce.2.1
      · rw [if_neg q]; exact ce.2.2
    · have hr : r.toInt = ((vR n k : Nat) : Int) := hr
      have hr2 : r2.toInt = ((p ^ k : Nat) : Int) := hr2
      have hr3 : r3.toInt = (((10 - p) ^ (n - k) : Nat) : Int) := hr3
      have hpq := pq_le hp (show k ≤ n by omega)
      have h10 := p10_le hn
      have hnx := us_le hn hp m (k := k + 1) (by omega)
      have heq : us n p m (k + 1) = us n p m k + vR n k * (p ^ k * (10 - p) ^ (n - k)) := by rw [us, if_pos hm]
      have e1 := q_lmulN hr2 hr3 (by omega)
      have e2 := q_lmulN hr e1 (by omega)
      have e3 := q_laddN h5 e2 (by omega)
      refine sX8_chance_40 n p m p1 p2 p3 p4 h1 hn h2 hp Q hQ f (k + 1) y _ ?_ (q_1 h7 (by omega)) (by omega) (by omega) (by omega) hnx (fun z => ?_)
      · rw [hy, heq]; exact e3
      · rw [show k + 1 = n + 1 by omega]
abbrev preX8_chance (p1 : Int32) (p2 : Int32) (p3 : Int32) (p4 : Int32) : Prop := True
abbrev postX8_chance (p1 : Int32) (p2 : Int32) (p3 : Int32) (p4 : Int32) (r : Int64) : Prop := r.toInt = spChance p1.toInt p2.toInt p3.toInt p4.toInt
theorem sX8_chance (p1 : Int32) (p2 : Int32) (p3 : Int32) (p4 : Int32) (H : preX8_chance p1 p2 p3 p4) : vX8_chance p1 p2 p3 p4 (postX8_chance p1 p2 p3 p4) := by
  have no : ¬ ((0 ≤ p1.toInt ∧ p1.toInt ≤ 18) ∧ (0 ≤ p2.toInt ∧ p2.toInt ≤ 10) ∧ (0 ≤ p3.toInt ∧ p3.toInt ≤ 18)) → (-1 : Int64).toInt = spChance p1.toInt p2.toInt p3.toInt p4.toInt := fun q => by
    unfold spChance; rw [if_neg q]; rfl
  unfold vX8_chance
  rw [fa_lt p1, z0, fa_lt _ p1, z18, fa_lt p2, z0, fa_lt _ p2, z10, fa_lt p3, z0, fa_le p3, z18]
  refine ⟨fun a => no (fun q => by omega), fun a => ⟨fun b => no (fun q => by omega), fun b => ⟨fun c => no (fun q => by omega), fun c => ⟨fun d => no (fun q => by omega), fun d => ⟨fun e => no (fun q => by omega), fun e => ⟨fun g => ?_, fun g => no (fun q => by omega)⟩⟩⟩⟩⟩⟩
  have hc : (0 ≤ p1.toInt ∧ p1.toInt ≤ 18) ∧ (0 ≤ p2.toInt ∧ p2.toInt ≤ 10) ∧ (0 ≤ p3.toInt ∧ p3.toInt ≤ 18) := ⟨⟨by omega, by omega⟩, ⟨by omega, by omega⟩, by omega, by omega⟩
  refine ⟨20, sX8_chance_40 p1.toInt.toNat p2.toInt.toNat p3.toInt.toNat p1 p2 p3 p4 (by omega) (by omega) (by omega) (by omega) _ (fun r hr => ?_) 20 p3.toInt.toNat 0 p3 ?_ (by omega) (Nat.le_refl _) (by omega) (by omega) ?_ (fun z => ?_)⟩
  · show r.toInt = spChance p1.toInt p2.toInt p3.toInt p4.toInt
    unfold spChance; rw [if_pos hc]; exact hr
  · rw [us_0 _ _ _ _ (Nat.le_refl _)]; rfl
  · rw [us_0 _ _ _ _ (Nat.le_refl _)]; omega
  · rw [us_0 _ _ _ _ (Nat.le_refl _), us_0 _ _ _ _ z]
set_option maxRecDepth 20000 in
theorem ggX8_bar_X8_power : GoodIn wsX8_bar wsX8_power := goodIn_r _ [6] (by decide +kernel) (by decide +kernel)
set_option maxRecDepth 20000 in
theorem gX8_bar_X8_power : GoodIn wsX8_bar (va_wsS RX8 292 yX8_power wsX8_power) := goodIn_app (goodIn_of _ (by decide +kernel)) ggX8_bar_X8_power
set_option maxRecDepth 20000 in
theorem ggX8_bar_X8_ways : GoodIn wsX8_bar wsX8_ways := goodIn_r _ [9] (by decide +kernel) (by decide +kernel)
set_option maxRecDepth 20000 in
theorem gX8_bar_X8_ways : GoodIn wsX8_bar (va_wsS RX8 288 yX8_ways wsX8_ways) := goodIn_app (goodIn_of _ (by decide +kernel)) ggX8_bar_X8_ways
theorem dX8_bar_0 : decode cX8_bar 0 = .ok (.iload_n 1, 1) := by decide +kernel
theorem dX8_bar_1 : decode cX8_bar 1 = .ok (.iconst 1, 1) := by decide +kernel
theorem dX8_bar_2 : decode cX8_bar 2 = .ok (.if_icmp .lt 20, 3) := by decide +kernel
theorem dX8_bar_5 : decode cX8_bar 5 = .ok (.iload_n 1, 1) := by decide +kernel
theorem dX8_bar_6 : decode cX8_bar 6 = .ok (.bipush 18, 2) := by decide +kernel
theorem dX8_bar_8 : decode cX8_bar 8 = .ok (.if_icmp .gt 14, 3) := by decide +kernel
theorem dX8_bar_11 : decode cX8_bar 11 = .ok (.iload_n 2, 1) := by decide +kernel
theorem dX8_bar_12 : decode cX8_bar 12 = .ok (.ifCond .lt 10, 3) := by decide +kernel
theorem dX8_bar_15 : decode cX8_bar 15 = .ok (.iload_n 2, 1) := by decide +kernel
theorem dX8_bar_16 : decode cX8_bar 16 = .ok (.sipush 1000, 3) := by decide +kernel
theorem dX8_bar_19 : decode cX8_bar 19 = .ok (.if_icmp .le 5, 3) := by decide +kernel
theorem dX8_bar_22 : decode cX8_bar 22 = .ok (.iconst (-1), 1) := by decide +kernel
theorem dX8_bar_23 : decode cX8_bar 23 = .ok (.ireturn, 1) := by decide +kernel
theorem dX8_bar_24 : decode cX8_bar 24 = .ok (.iload_n 2, 1) := by decide +kernel
theorem dX8_bar_25 : decode cX8_bar 25 = .ok (.i2l, 1) := by decide +kernel
theorem dX8_bar_26 : decode cX8_bar 26 = .ok (.ldc2_w 302, 3) := by decide +kernel
theorem dX8_bar_29 : decode cX8_bar 29 = .ok (.iload_n 1, 1) := by decide +kernel
theorem dX8_bar_30 : decode cX8_bar 30 = .ok (.invokestatic 292, 3) := by decide +kernel
theorem dX8_bar_33 : decode cX8_bar 33 = .ok (.lmul, 1) := by decide +kernel
theorem dX8_bar_34 : decode cX8_bar 34 = .ok (.lstore_n 3, 1) := by decide +kernel
theorem dX8_bar_35 : decode cX8_bar 35 = .ok (.lconst 0, 1) := by decide +kernel
theorem dX8_bar_36 : decode cX8_bar 36 = .ok (.lstore 5, 2) := by decide +kernel
theorem dX8_bar_38 : decode cX8_bar 38 = .ok (.iload_n 1, 1) := by decide +kernel
theorem dX8_bar_39 : decode cX8_bar 39 = .ok (.iconst 1, 1) := by decide +kernel
theorem dX8_bar_40 : decode cX8_bar 40 = .ok (.iadd, 1) := by decide +kernel
theorem dX8_bar_41 : decode cX8_bar 41 = .ok (.istore 7, 2) := by decide +kernel
theorem dX8_bar_43 : decode cX8_bar 43 = .ok (.iload 7, 2) := by decide +kernel
theorem dX8_bar_45 : decode cX8_bar 45 = .ok (.ifCond .le 40, 3) := by decide +kernel
theorem dX8_bar_48 : decode cX8_bar 48 = .ok (.lload 5, 2) := by decide +kernel
theorem dX8_bar_50 : decode cX8_bar 50 = .ok (.iload_n 1, 1) := by decide +kernel
theorem dX8_bar_51 : decode cX8_bar 51 = .ok (.iload 7, 2) := by decide +kernel
theorem dX8_bar_53 : decode cX8_bar 53 = .ok (.iconst 1, 1) := by decide +kernel
theorem dX8_bar_54 : decode cX8_bar 54 = .ok (.isub, 1) := by decide +kernel
theorem dX8_bar_55 : decode cX8_bar 55 = .ok (.invokestatic 288, 3) := by decide +kernel
theorem dX8_bar_58 : decode cX8_bar 58 = .ok (.ladd, 1) := by decide +kernel
theorem dX8_bar_59 : decode cX8_bar 59 = .ok (.ldc2_w 304, 3) := by decide +kernel
theorem dX8_bar_62 : decode cX8_bar 62 = .ok (.lmul, 1) := by decide +kernel
theorem dX8_bar_63 : decode cX8_bar 63 = .ok (.lload_n 3, 1) := by decide +kernel
theorem dX8_bar_64 : decode cX8_bar 64 = .ok (.lcmp, 1) := by decide +kernel
theorem dX8_bar_65 : decode cX8_bar 65 = .ok (.ifCond .gt 20, 3) := by decide +kernel
theorem dX8_bar_68 : decode cX8_bar 68 = .ok (.iinc 7 (-1), 3) := by decide +kernel
theorem dX8_bar_71 : decode cX8_bar 71 = .ok (.lload 5, 2) := by decide +kernel
theorem dX8_bar_73 : decode cX8_bar 73 = .ok (.iload_n 1, 1) := by decide +kernel
theorem dX8_bar_74 : decode cX8_bar 74 = .ok (.iload 7, 2) := by decide +kernel
theorem dX8_bar_76 : decode cX8_bar 76 = .ok (.invokestatic 288, 3) := by decide +kernel
theorem dX8_bar_79 : decode cX8_bar 79 = .ok (.ladd, 1) := by decide +kernel
theorem dX8_bar_80 : decode cX8_bar 80 = .ok (.lstore 5, 2) := by decide +kernel
theorem dX8_bar_82 : decode cX8_bar 82 = .ok (.goto (-39), 3) := by decide +kernel
theorem dX8_bar_85 : decode cX8_bar 85 = .ok (.iload 7, 2) := by decide +kernel
theorem dX8_bar_87 : decode cX8_bar 87 = .ok (.ireturn, 1) := by decide +kernel
abbrev rmX8_bar : Room := { frames := 1, cells := 0, slots := 0, locals := 25 }
def vX8_bar_c43 (p1 : Int32) (p2 : Int32) (Q : Int32 → Prop) : Nat → Int64 → Int64 → Int32 → Prop
  | 0, _, _, _ => False
  | n + 1, x3, x5, x7 => ((x7 ≤ 0 → (Q x7)) ∧ (¬ x7 ≤ 0 → (∃ (n_55 : Nat) (k_55 : Nat), preX8_ways n_55 k_55 p1 (x7 - (1 : Int32)) ∧ (∀ r_55 : Int64, postX8_ways n_55 k_55 p1 (x7 - (1 : Int32)) r_55 → ((0 < (lg_cmp ((x5 + r_55) * (1000 : Int64)) x3) → (Q x7)) ∧ (¬ 0 < (lg_cmp ((x5 + r_55) * (1000 : Int64)) x3) → (∃ (n_76 : Nat) (k_76 : Nat), preX8_ways n_76 k_76 p1 (x7 + (-1 : Int32)) ∧ (∀ r_76 : Int64, postX8_ways n_76 k_76 p1 (x7 + (-1 : Int32)) r_76 → (vX8_bar_c43 p1 p2 Q n x3 (x5 + r_76) (x7 + (-1 : Int32)))))))))))
set_option maxHeartbeats 4000000 in
set_option maxRecDepth 100000 in
theorem kX8_bar_c43 {p : Program} {l : Launch} {e : Env} {s : State} {m : MethodId} {args : Array Value} {below : List Frame} {meth : Method} {c : Code} {g : GP} {qX : Nat} {qP : Nat} {qI : Nat} {qt : Nat} {qd : Nat} {qe : Nat} {qsp : Nat} {qrk : Nat} {qty : Nat}  {p1 : Int32} {p2 : Int32} {Q : Int32 → Prop} (S : CallFix p m c cX8_bar 8 s args wsX8_bar RX8) (hr : meth.sig.returnType = (some .int)) (hlocks : meth.locks = false) (hG : GK g s) (hP : va_P g.1 vwCl [(qX, .inr (8, [.ref qP, .ref qI, .ref qt, .ref qd, .ref qe, .ref qsp, .ref qrk, .ref qty]))] s.heap) : ∀ (n : Nat), ∀ (x3 : Int64) (x5 : Int64) (x7 : Int32), vX8_bar_c43 p1 p2 Q n x3 x5 x7 → ∀ (ls : Array Slot), lv_has ls 8 [(1, .int p1), (3, .long x3), (5, .long x5), (7, .int x7)] → W p l e (headSpec wsX8_bar rmX8_bar).room s m args below meth c s.heap [] 0 0 (MQ below (vp_Si Q) args s 0 0 (fun _ => False)) (F0 m 43 ls []) := by
  obtain ⟨hx, hb, hml, hown, hts⟩ := id S
  have hK := hG.1
  intro n
  induction n with
  | zero => intro x3 x5 x7 hv; exact hv.elim
  | succ n ih =>
    intro x3 x5 x7 hv ls hl
    refine lv_iload hx hb dX8_bar_43 (lv_at hl 3 rfl) ?_
    obtain ⟨hvt, hvf⟩ := hv
    refine lv_if_le (tgt := 85) hx hb dX8_bar_45 (by decide) (fun hc => ?_) (fun hc => ?_)
    · have hv := hvt hc
      refine lv_iload hx hb dX8_bar_85 (lv_at hl 3 rfl) ?_
      exact W.iret (v := x7) hx hb hr (fun t ht hW => ⟨_, rfl, hv, ht⟩) (fun _ h => by cases h) dX8_bar_87
    · have hv := hvf hc
      refine lv_lload hx hb dX8_bar_48 (lv_at hl 2 rfl) ?_
      refine lv_iload_n hx hb dX8_bar_50 rfl (lv_at hl 0 rfl) ?_
      refine lv_iload hx hb dX8_bar_51 (lv_at hl 3 rfl) ?_
      refine lv_iconst (v := (1 : Int32)) hx hb dX8_bar_53 (by decide) ?_
      refine lv_isub hx hb dX8_bar_54 ?_
      obtain ⟨n_55, k_55, ho_1, hv⟩ := hv
      refine vp_callSl (W.runS (As := [.int p1, .int (x7 - (1 : Int32))]) (rest := [.long x5]) S (wX8_ways l g p1 (x7 - (1 : Int32)) (sX8_ways n_55 k_55 p1 (x7 - (1 : Int32)) ho_1)) (va_cwS 2 hts gX8_bar_X8_ways rfl rfl rfl (by decide +kernel) ⟨Nat.le_of_ble_eq_true rfl, Nat.le_of_ble_eq_true rfl⟩) ⟨blindRO, fun U hU hW => ⟨rfl, by rw [hU]; exact hP.sub (ws' := []) [] rfl, hG.warm hW⟩⟩ rfl rfl hl.1 rfl (lv_room (Nat.le_of_ble_eq_true rfl)) dX8_bar_55 ⟨Nat.le_of_ble_eq_true rfl, Nat.le_of_ble_eq_true rfl⟩) (fun r_55 hr_55 => ?_)
      have hv := hv r_55 hr_55
      refine lv_ladd hx hb dX8_bar_58 ?_
      refine lv_ldc2 (v := (1000 : Int64)) hx hb hown (hts (.constantLong RX8 304 (1000)) (List.mem_of_getElem? (i := 2) rfl)) dX8_bar_59 ?_
      refine lv_lmul hx hb dX8_bar_62 ?_
      refine lv_lload_n hx hb dX8_bar_63 rfl (lv_at hl 1 rfl) ?_
      refine W.lcmp hx hb dX8_bar_64 ?_
      obtain ⟨hvt, hvf⟩ := hv
      refine lv_if_gt (tgt := 85) hx hb dX8_bar_65 (by decide) (fun hc => ?_) (fun hc => ?_)
      · have hv := hvt hc
        refine lv_iload hx hb dX8_bar_85 (lv_at hl 3 rfl) ?_
        exact W.iret (v := x7) hx hb hr (fun t ht hW => ⟨_, rfl, hv, ht⟩) (fun _ h => by cases h) dX8_bar_87
      · have hv := hvf hc
        refine lv_iinc (v := (x7 + (-1 : Int32))) (lv' := [(7, .int (x7 + (-1 : Int32))), (1, .int p1), (3, .long x3), (5, .long x5)]) hx hb dX8_bar_68 hl (k := 3) rfl rfl (by decide) rfl (fun ls hl => ?_)
        refine lv_lload hx hb dX8_bar_71 (lv_at hl 3 rfl) ?_
        refine lv_iload_n hx hb dX8_bar_73 rfl (lv_at hl 1 rfl) ?_
        refine lv_iload hx hb dX8_bar_74 (lv_at hl 0 rfl) ?_
        obtain ⟨n_76, k_76, ho_2, hv⟩ := hv
        refine vp_callSl (W.runS (As := [.int p1, .int (x7 + (-1 : Int32))]) (rest := [.long x5]) S (wX8_ways l g p1 (x7 + (-1 : Int32)) (sX8_ways n_76 k_76 p1 (x7 + (-1 : Int32)) ho_2)) (va_cwS 2 hts gX8_bar_X8_ways rfl rfl rfl (by decide +kernel) ⟨Nat.le_of_ble_eq_true rfl, Nat.le_of_ble_eq_true rfl⟩) ⟨blindRO, fun U hU hW => ⟨rfl, by rw [hU]; exact hP.sub (ws' := []) [] rfl, hG.warm hW⟩⟩ rfl rfl hl.1 rfl (lv_room (Nat.le_of_ble_eq_true rfl)) dX8_bar_76 ⟨Nat.le_of_ble_eq_true rfl, Nat.le_of_ble_eq_true rfl⟩) (fun r_76 hr_76 => ?_)
        have hv := hv r_76 hr_76
        refine lv_ladd hx hb dX8_bar_79 ?_
        refine lv_lstore (lv' := [(5, .long (x5 + r_76)), (7, .int (x7 + (-1 : Int32))), (1, .int p1), (3, .long x3)]) hx hb dX8_bar_80 hl (by decide) rfl (fun ls hl => ?_)
        refine lv_goto (tgt := 43) hx hb dX8_bar_82 (by decide) ?_
        exact ih _ _ _ hv ls (lv_sub hl [2, 3, 0, 1] rfl)
def vX8_bar (p1 : Int32) (p2 : Int32) (Q : Int32 → Prop) : Prop := ((p1 < (1 : Int32) → (Q (-1 : Int32))) ∧ (¬ p1 < (1 : Int32) → (((18 : Int32) < p1 → (Q (-1 : Int32))) ∧ (¬ (18 : Int32) < p1 → ((p2 < 0 → (Q (-1 : Int32))) ∧ (¬ p2 < 0 → ((p2 ≤ (1000 : Int32) → (∃ (b_30 : Nat) (k_30 : Nat), preX8_power b_30 k_30 (2 : Int64) p1 ∧ (∀ r_30 : Int64, postX8_power b_30 k_30 (2 : Int64) p1 r_30 → (∃ nn, vX8_bar_c43 p1 p2 Q nn ((p2.toInt64) * r_30) (0 : Int64) (p1 + (1 : Int32)))))) ∧ (¬ p2 ≤ (1000 : Int32) → (Q (-1 : Int32))))))))))
set_option maxHeartbeats 4000000 in
set_option maxRecDepth 100000 in
theorem wX8_bar (l : Launch) (g : GP) (qX : Nat) (qP : Nat) (qI : Nat) (qt : Nat) (qd : Nat) (qe : Nat) (qsp : Nat) (qrk : Nat) (qty : Nat) (p1 : Int32) (p2 : Int32) {Q : Int32 → Prop} (hv : vX8_bar p1 p2 Q) : Met l yX8_bar wsX8_bar rmX8_bar (va_Pc [.ref qX, .int p1, .int p2] (fun U => va_P g.1 vwCl [(qX, .inr (8, [.ref qP, .ref qI, .ref qt, .ref qd, .ref qe, .ref qsp, .ref qrk, .ref qty]))] U.heap ∧ GK g U)) (vp_Si Q) 0 0 (fun _ => False) := by
  refine Met.ofW (cc := cX8_bar) (maxL := 8) (ret := (some .int)) (by decide) rfl ?_
  intro p e s m args below meth c s₁ B hml hv'
  obtain ⟨rfl, hP, hG⟩ := hv'
  have S : CallFix p m c cX8_bar 8 s _ wsX8_bar RX8 := ⟨B.exec, B.bytes, hml, findClass_of_methodNamed B.named, atoms_spec (ws := wsX8_bar) B.pre⟩
  obtain ⟨hx, hb, hml, hown, hts⟩ := id S
  have hK := hG.1
  have hr := B.returns
  have hlocks := B.notSynchronized
  have hl := lv_entry ([.ref qX, .int p1, .int p2]) (n := 8) (Nat.le_of_ble_eq_true rfl)
  rw [lg_entry_eq]
  generalize (lg_sl ([.ref qX, .int p1, .int p2]) ++ List.replicate (8 - (lg_sl ([.ref qX, .int p1, .int p2])).length) Slot.unset).toArray = ls at hl ⊢
  have hl : lv_has ls 8 [(0, .ref qX), (1, .int p1), (2, .int p2)] := hl
  unfold vX8_bar at hv
  refine lv_iload_n hx hb dX8_bar_0 rfl (lv_at hl 1 rfl) ?_
  refine lv_iconst (v := (1 : Int32)) hx hb dX8_bar_1 (by decide) ?_
  obtain ⟨hvt, hvf⟩ := hv
  refine lv_icmp_lt (tgt := 22) hx hb dX8_bar_2 (by decide) (fun hc => ?_) (fun hc => ?_)
  · have hv := hvt hc
    refine lv_iconst (v := (-1 : Int32)) hx hb dX8_bar_22 (by decide) ?_
    exact W.iret (v := (-1 : Int32)) hx hb hr (fun t ht hW => ⟨_, rfl, hv, ht⟩) (fun _ h => by cases h) dX8_bar_23
  · have hv := hvf hc
    refine lv_iload_n hx hb dX8_bar_5 rfl (lv_at hl 1 rfl) ?_
    refine lv_bipush (v := (18 : Int32)) hx hb dX8_bar_6 (by decide) ?_
    obtain ⟨hvt, hvf⟩ := hv
    refine lv_icmp_gt (tgt := 22) hx hb dX8_bar_8 (by decide) (fun hc => ?_) (fun hc => ?_)
    · have hv := hvt hc
      refine lv_iconst (v := (-1 : Int32)) hx hb dX8_bar_22 (by decide) ?_
      exact W.iret (v := (-1 : Int32)) hx hb hr (fun t ht hW => ⟨_, rfl, hv, ht⟩) (fun _ h => by cases h) dX8_bar_23
    · have hv := hvf hc
      refine lv_iload_n hx hb dX8_bar_11 rfl (lv_at hl 2 rfl) ?_
      obtain ⟨hvt, hvf⟩ := hv
      refine lv_if_lt (tgt := 22) hx hb dX8_bar_12 (by decide) (fun hc => ?_) (fun hc => ?_)
      · have hv := hvt hc
        refine lv_iconst (v := (-1 : Int32)) hx hb dX8_bar_22 (by decide) ?_
        exact W.iret (v := (-1 : Int32)) hx hb hr (fun t ht hW => ⟨_, rfl, hv, ht⟩) (fun _ h => by cases h) dX8_bar_23
      · have hv := hvf hc
        refine lv_iload_n hx hb dX8_bar_15 rfl (lv_at hl 2 rfl) ?_
        refine lv_sipush (v := (1000 : Int32)) hx hb dX8_bar_16 (by decide) ?_
        obtain ⟨hvt, hvf⟩ := hv
        refine lv_icmp_le (tgt := 24) hx hb dX8_bar_19 (by decide) (fun hc => ?_) (fun hc => ?_)
        · have hv := hvt hc
          refine lv_iload_n hx hb dX8_bar_24 rfl (lv_at hl 2 rfl) ?_
          refine lv_i2l (v := (p2.toInt64)) hx hb dX8_bar_25 rfl ?_
          refine lv_ldc2 (v := (2 : Int64)) hx hb hown (hts (.constantLong RX8 302 (2)) (List.mem_of_getElem? (i := 1) rfl)) dX8_bar_26 ?_
          refine lv_iload_n hx hb dX8_bar_29 rfl (lv_at hl 1 rfl) ?_
          obtain ⟨b_30, k_30, ho_1, hv⟩ := hv
          refine vp_callSl (W.runS (As := [.long (2 : Int64), .int p1]) (rest := [.long (p2.toInt64)]) S (wX8_power l g (2 : Int64) p1 (sX8_power b_30 k_30 (2 : Int64) p1 ho_1)) (va_cwS 2 hts gX8_bar_X8_power rfl rfl rfl (by decide +kernel) ⟨Nat.le_of_ble_eq_true rfl, Nat.le_of_ble_eq_true rfl⟩) ⟨blindRO, fun U hU hW => ⟨rfl, by rw [hU]; exact hP.sub (ws' := []) [] rfl, hG.warm hW⟩⟩ rfl rfl hl.1 rfl (lv_room (Nat.le_of_ble_eq_true rfl)) dX8_bar_30 ⟨Nat.le_of_ble_eq_true rfl, Nat.le_of_ble_eq_true rfl⟩) (fun r_30 hr_30 => ?_)
          have hv := hv r_30 hr_30
          refine lv_lmul hx hb dX8_bar_33 ?_
          refine lv_lstore_n (lv' := [(3, .long ((p2.toInt64) * r_30)), (0, .ref qX), (1, .int p1), (2, .int p2)]) hx hb dX8_bar_34 rfl hl (by decide) rfl (fun ls hl => ?_)
          refine lv_lconst (v := (0 : Int64)) hx hb dX8_bar_35 (by decide) ?_
          refine lv_lstore (lv' := [(5, .long (0 : Int64)), (3, .long ((p2.toInt64) * r_30)), (0, .ref qX), (1, .int p1), (2, .int p2)]) hx hb dX8_bar_36 hl (by decide) rfl (fun ls hl => ?_)
          refine lv_iload_n hx hb dX8_bar_38 rfl (lv_at hl 3 rfl) ?_
          refine lv_iconst (v := (1 : Int32)) hx hb dX8_bar_39 (by decide) ?_
          refine lv_iadd hx hb dX8_bar_40 ?_
          refine lv_istore (lv' := [(7, .int (p1 + (1 : Int32))), (5, .long (0 : Int64)), (3, .long ((p2.toInt64) * r_30)), (0, .ref qX), (1, .int p1), (2, .int p2)]) hx hb dX8_bar_41 hl (by decide) rfl (fun ls hl => ?_)
          obtain ⟨nn, hv⟩ := hv
          exact kX8_bar_c43 S hr hlocks hG hP nn _ _ _ hv ls (lv_sub hl [4, 2, 1, 0] rfl)
        · have hv := hvf hc
          refine lv_iconst (v := (-1 : Int32)) hx hb dX8_bar_22 (by decide) ?_
          exact W.iret (v := (-1 : Int32)) hx hb hr (fun t ht hW => ⟨_, rfl, hv, ht⟩) (fun _ h => by cases h) dX8_bar_23
theorem ba_t {n j : Nat} (hn : n ≤ 18) (hj : j ≤ n + 1) : tpW n j ≤ 1900000 := Nat.le_trans (tpW_le hn j hj) (Nat.mul_le_mul_left 100000 (show j ≤ 19 from Nat.le_trans hj (Nat.succ_le_succ hn)))
theorem ba_v {n j : Nat} (hn : n ≤ 18) : vR n (n - j) ≤ 100000 := vR_le n (Nat.lt_succ_of_le hn) (n - j) (Nat.lt_of_le_of_lt (Nat.sub_le n j) (Nat.lt_of_le_of_lt hn (by decide)))
theorem ba_k {n j : Nat} (hn : n ≤ 18) : n - j ≤ 18 ∧ n - j ≤ n := ⟨by omega, by omega⟩
theorem ba_e {n j : Nat} : ((n - j : Nat) : Int) = ((n + 1 - (j + 1) : Nat) : Int) := by omega
theorem ba_1 {t v : Nat} (ht : t ≤ 1900000) (hv : v ≤ 100000) : t + v < 9223372036854775808 ∧ (t + v) * 1000 < 9223372036854775808 := by omega
theorem sX8_bar_43 (n A : Nat) (p1 p2 : Int32) (h1 : p1.toInt = (n : Int)) (hn : n ≤ 18) (Q : Int32 → Prop) (hQ : ∀ r : Int32, r.toInt = ((n + 1 - fa_first (baB n A) (n + 1) : Nat) : Int) → Q r) (x3 : Int64) (h3 : x3.toInt = (A : Int)) : ∀ (f j : Nat) (x5 : Int64) (x7 : Int32), x5.toInt = ((tpW n j : Nat) : Int) → x7.toInt = ((n + 1 - j : Nat) : Int) → (∀ i, i < j → baB n A i = false) → j ≤ n + 1 → n + 2 ≤ j + f → vX8_bar_c43 p1 p2 Q f x3 x5 x7
  | 0, j, x5, x7, _, _, _, hj, hf => absurd hf (by omega)
  | f + 1, j, x5, x7, h5, h7, hb, hj, hf => by
    rw [vX8_bar_c43, fa_le x7, z0, h7]
    refine ⟨fun hc => ?_, fun hc => ?_⟩
    · have : j = n + 1 := by omega
      subst this
      refine hQ _ ?_
      rw [ff_none hb]; exact h7
    · have h71 : (x7 - (1 : Int32)).toInt = ((n - j : Nat) : Int) := by rw [q_sub h7 z1 (by omega) (by omega)]; omega
      have h72 : (x7 + (-1 : Int32)).toInt = ((n - j : Nat) : Int) := by rw [q_add h7 zm1 (by omega) (by omega)]; omega
      have hk : n - j ≤ 18 ∧ n - j ≤ n := ba_k hn
      have hov := ba_1 (ba_t hn hj) (ba_v (j := j) hn)
      refine ⟨n, n - j, ⟨h1, hn, h71, hk.2⟩, fun r hr => ?_⟩
      have hr : r.toInt = ((vR n (n - j) : Nat) : Int) := hr
      have e1 := q_laddN h5 hr hov.1
      have e2 := q_lmulN (y := (1000 : Int64)) (b := 1000) e1 rfl hov.2
      have htp : tpW n (j + 1) = tpW n j + vR n (n - j) := rfl
      rw [lg_cmp_gt, Int64.lt_iff_toInt_lt, h3, e2]
      refine ⟨fun hz => hQ _ ?_, fun hz => ⟨n, n - j, ⟨h1, hn, h72, hk.2⟩, fun r2 hr2 => ?_⟩⟩
      · rw [ff_eq (k := j) (by omega) (decide_eq_true (by rw [htp]; omega)) hb]; exact h7
      · have hr2 : r2.toInt = ((vR n (n - j) : Nat) : Int) := hr2
        have e3 := q_laddN h5 hr2 hov.1
        clear hov
        refine sX8_bar_43 n A p1 p2 h1 hn Q hQ x3 h3 f (j + 1) _ _ (by rw [htp]; exact e3) (h72.trans ba_e) (fun i hi => ?_) (by omega) (by omega)
        by_cases e : i = j
        · subst e; exact decide_eq_false (fun z => z (by rw [htp]; omega))
        · exact hb i (by omega)
abbrev preX8_bar (p1 : Int32) (p2 : Int32) : Prop := True
abbrev postX8_bar (p1 : Int32) (p2 : Int32) (r : Int32) : Prop := r.toInt = spBar p1.toInt p2.toInt
theorem sX8_bar (p1 : Int32) (p2 : Int32) (H : preX8_bar p1 p2) : vX8_bar p1 p2 (postX8_bar p1 p2) := by
  have no : ¬ ((1 ≤ p1.toInt ∧ p1.toInt ≤ 18) ∧ (0 ≤ p2.toInt ∧ p2.toInt ≤ 1000)) → (-1 : Int32).toInt = spBar p1.toInt p2.toInt := fun q => by
    unfold spBar; rw [if_neg q]; rfl
  unfold vX8_bar
  rw [fa_lt p1, z1, fa_lt _ p1, z18, fa_lt p2, z0, fa_le p2, z1000]
  refine ⟨fun a => no (fun q => by omega), fun a => ⟨fun b => no (fun q => by omega), fun b => ⟨fun c => no (fun q => by omega), fun c => ⟨fun d => ?_, fun d => no (fun q => by omega)⟩⟩⟩⟩
  have hc : (1 ≤ p1.toInt ∧ p1.toInt ≤ 18) ∧ (0 ≤ p2.toInt ∧ p2.toInt ≤ 1000) := ⟨⟨by omega, by omega⟩, by omega, by omega⟩
  have e1 : p1.toInt = (p1.toInt.toNat : Int) := by omega
  have e2 : p2.toInt = (p2.toInt.toNat : Int) := by omega
  refine ⟨2, p1.toInt.toNat, ⟨rfl, by omega, e1, by omega⟩, fun r hr => ?_⟩
  have hr : r.toInt = ((2 ^ p1.toInt.toNat : Nat) : Int) := hr
  have hp2 : 2 ^ p1.toInt.toNat ≤ 262144 := Nat.pow_le_pow_right (n := 2) (by decide) (show p1.toInt.toNat ≤ 18 by omega)
  have hm : p2.toInt.toNat * 2 ^ p1.toInt.toNat ≤ 1000 * 262144 := Nat.mul_le_mul (by omega) hp2
  refine ⟨p1.toInt.toNat + 2, sX8_bar_43 p1.toInt.toNat (p2.toInt.toNat * 2 ^ p1.toInt.toNat) p1 p2 e1 (by omega) _ (fun r2 hr2 => ?_) _ (q_lmulN (q_i2l e2) hr (by omega)) _ 0 0 _ rfl (by rw [q_1 e1 (by omega)]; omega) (fun i hi => absurd hi (by omega)) (by omega) (by omega)⟩
  clear hm hp2 hr
  have hfl := fa_first_le (baB p1.toInt.toNat (p2.toInt.toNat * 2 ^ p1.toInt.toNat)) (p1.toInt.toNat + 1)
  show r2.toInt = spBar p1.toInt p2.toInt
  unfold spBar
  rw [if_pos hc, hr2]
  generalize fa_first (baB p1.toInt.toNat (p2.toInt.toNat * 2 ^ p1.toInt.toNat)) (p1.toInt.toNat + 1) = z at hfl ⊢
  clear hr2 hc e2
  omega
