-- odds in whole numbers
theorem q_lmulN {x y : Int64} {a b : Nat} (hx : x.toInt = (a : Int)) (hy : y.toInt = (b : Int)) (h : a * b < 9223372036854775808) : (x * y).toInt = ((a * b : Nat) : Int) := by
  rw [Int64.toInt_mul, hx, hy, ← Int.natCast_mul]
  exact fb_bmodL (by omega) (by omega)
theorem q_laddN {x y : Int64} {a b : Nat} (hx : x.toInt = (a : Int)) (hy : y.toInt = (b : Int)) (h : a + b < 9223372036854775808) : (x + y).toInt = ((a + b : Nat) : Int) := by
  rw [Int64.toInt_add, hx, hy, ← Int.natCast_add]
  exact fb_bmodL (by omega) (by omega)
theorem lN_mul (a b : Nat) : lN a * lN b = lN (a * b) := (Int64.ofNat_mul a b).symm
def wyC (n k : Nat) : Nat → Nat
  | 0 => 1
  | j + 1 => wyC n k j * (n - k + (j + 1)) / (j + 1)
def vR (n : Nat) : Nat → Nat
  | 0 => 1
  | k + 1 => vR n k * (n - k) / (k + 1)
/-- the upper number of a chance, of the first so many k -/
def us (n p m : Nat) : Nat → Nat
  | 0 => 0
  | k + 1 => us n p m k + if m ≤ k then vR n k * (p ^ k * (10 - p) ^ (n - k)) else 0
theorem wy_vR : ∀ n, n < 19 → ∀ k, k < n + 1 → wyC n k k = vR n k := by decide +kernel
theorem vR_le : ∀ n, n < 19 → ∀ k, k < 20 → vR n k ≤ 100000 := by decide +kernel
theorem wy_le : ∀ n, n < 19 → ∀ k, k < n + 1 → ∀ j, j < k + 1 → wyC n k j ≤ 1000000 := by decide +kernel
theorem us_all : ∀ n, n < 19 → ∀ p, p < 11 → us n p 0 (n + 1) = 10 ^ n := by decide +kernel
theorem us_m (n p m : Nat) : ∀ k, us n p m k ≤ us n p 0 k
  | 0 => Nat.le_refl 0
  | k + 1 => by
    have := us_m n p m k
    rw [us, us, if_pos (Nat.zero_le k)]
    split <;> omega
theorem us_k (n p m : Nat) : ∀ k j, k ≤ j → us n p m k ≤ us n p m j
  | k, 0, h => by
    have : k = 0 := by omega
    subst this; exact Nat.le_refl _
  | k, j + 1, h => by
    rcases Nat.lt_or_ge k (j + 1) with z | z
    · have := us_k n p m k j (by omega)
      rw [us]; omega
    · have : k = j + 1 := by omega
      subst this; exact Nat.le_refl _
theorem us_0 (n p m : Nat) : ∀ k, k ≤ m → us n p m k = 0
  | 0, _ => rfl
  | k + 1, h => by rw [us, us_0 n p m k (by omega), if_neg (by omega)]
theorem p10_le {n : Nat} (h : n ≤ 18) : 10 ^ n ≤ 1000000000000000000 := Nat.pow_le_pow_right (n := 10) (by decide) h
theorem us_le {n p : Nat} (hn : n ≤ 18) (hp : p ≤ 10) (m : Nat) {k : Nat} (hk : k ≤ n + 1) : us n p m k ≤ 1000000000000000000 := by
  have h1 := us_k n p m k (n + 1) hk
  have h2 := us_m n p m (n + 1)
  rw [us_all n (by omega) p (by omega)] at h2
  have := p10_le hn
  omega
theorem pw_le {b : Nat} (hb : b ≤ 10) (k : Nat) : b ^ k ≤ 10 ^ k := Nat.pow_le_pow_left hb k
theorem pq_le {p n k : Nat} (hp : p ≤ 10) (hk : k ≤ n) : p ^ k * (10 - p) ^ (n - k) ≤ 10 ^ n := by
  have h := Nat.mul_le_mul (pw_le hp k) (pw_le (b := 10 - p) (by omega) (n - k))
  rw [← Nat.pow_add, show k + (n - k) = n by omega] at h
  exact h
noncomputable section
def spChance (n p m c : Int) : Int := if (0 ≤ n ∧ n ≤ 18) ∧ (0 ≤ p ∧ p ≤ 10) ∧ (0 ≤ m ∧ m ≤ 18) then ((if c = 0 then us n.toNat p.toNat m.toNat (n.toNat + 1) / Nat.gcd (us n.toNat p.toNat m.toNat (n.toNat + 1)) (10 ^ n.toNat) else 10 ^ n.toNat / Nat.gcd (us n.toNat p.toNat m.toNat (n.toNat + 1)) (10 ^ n.toNat) : Nat) : Int) else -1
end
/-- the topmost so many ways, summed up -/
def tpW (n : Nat) : Nat → Nat
  | 0 => 0
  | j + 1 => tpW n j + vR n (n - j)
theorem tpW_k (n : Nat) : ∀ k j, k ≤ j → tpW n k ≤ tpW n j
  | k, 0, h => by
    have : k = 0 := by omega
    subst this; exact Nat.le_refl _
  | k, j + 1, h => by
    rcases Nat.lt_or_ge k (j + 1) with z | z
    · have := tpW_k n k j (by omega)
      rw [tpW]; omega
    · have : k = j + 1 := by omega
      subst this; exact Nat.le_refl _
theorem tpW_le {n : Nat} (hn : n ≤ 18) : ∀ j, j ≤ n + 1 → tpW n j ≤ 100000 * j
  | 0, _ => Nat.le_refl 0
  | j + 1, h => by
    have := tpW_le hn j (by omega)
    have := vR_le n (by omega) (n - j) (by omega)
    rw [tpW]; omega
def baB (n q j : Nat) : Bool := decide (¬ tpW n (j + 1) * 1000 ≤ q * 2 ^ n)
noncomputable section
def spBar (n q : Int) : Int := if (1 ≤ n ∧ n ≤ 18) ∧ (0 ≤ q ∧ q ≤ 1000) then (n + 1 - (fa_first (baB n.toNat q.toNat) (n.toNat + 1) : Int)) else -1
end
/-- the upper number at one half -/
theorem us_5 {n : Nat} : ∀ (j : Nat), j ≤ n + 1 → us n 5 (n + 1 - j) (n + 1) = tpW n j * 5 ^ n
  | 0, _ => by rw [us_0 _ _ _ _ (by omega), tpW, Nat.zero_mul]
  | j + 1, h => by
    have ih := us_5 (n := n) j (by omega)
    have key : ∀ k, n - j < k → us n 5 (n - j) k = us n 5 (n - j + 1) k + vR n (n - j) * 5 ^ n := by
      intro k
      induction k with
      | zero => intro h; omega
      | succ k ihk =>
        intro hk
        rw [us, us]
        by_cases e : k = n - j
        · subst e
          rw [us_0 _ _ _ _ (Nat.le_refl _), us_0 _ _ _ _ (by omega), if_pos (Nat.le_refl _), if_neg (by omega), show (10 - 5 : Nat) = 5 from rfl, ← Nat.pow_add, show n - j + (n - (n - j)) = n by omega]
          omega
        · rw [ihk (by omega), if_pos (by omega), if_pos (by omega)]; omega
    have hk := key (n + 1) (by omega)
    rw [show n + 1 - (j + 1) = n - j by omega, hk, show n - j + 1 = n + 1 - j by omega, ih, tpW, Nat.add_mul]
theorem dX8_power_0 : decode cX8_power 0 = .ok (.lconst 1, 1) := by decide +kernel
theorem dX8_power_1 : decode cX8_power 1 = .ok (.lstore_n 3, 1) := by decide +kernel
theorem dX8_power_2 : decode cX8_power 2 = .ok (.iconst 0, 1) := by decide +kernel
theorem dX8_power_3 : decode cX8_power 3 = .ok (.istore 5, 2) := by decide +kernel
theorem dX8_power_5 : decode cX8_power 5 = .ok (.iload 5, 2) := by decide +kernel
theorem dX8_power_7 : decode cX8_power 7 = .ok (.iload_n 2, 1) := by decide +kernel
theorem dX8_power_8 : decode cX8_power 8 = .ok (.if_icmp .ge 13, 3) := by decide +kernel
theorem dX8_power_11 : decode cX8_power 11 = .ok (.lload_n 3, 1) := by decide +kernel
theorem dX8_power_12 : decode cX8_power 12 = .ok (.lload_n 0, 1) := by decide +kernel
theorem dX8_power_13 : decode cX8_power 13 = .ok (.lmul, 1) := by decide +kernel
theorem dX8_power_14 : decode cX8_power 14 = .ok (.lstore_n 3, 1) := by decide +kernel
theorem dX8_power_15 : decode cX8_power 15 = .ok (.iinc 5 1, 3) := by decide +kernel
theorem dX8_power_18 : decode cX8_power 18 = .ok (.goto (-13), 3) := by decide +kernel
theorem dX8_power_21 : decode cX8_power 21 = .ok (.lload_n 3, 1) := by decide +kernel
theorem dX8_power_22 : decode cX8_power 22 = .ok (.lreturn, 1) := by decide +kernel
abbrev rmX8_power : Room := { frames := 0, cells := 0, slots := 0, locals := 0 }
def vX8_power_c5 (p1 : Int64) (p2 : Int32) (Q : Int64 → Prop) : Nat → Int64 → Int32 → Prop
  | 0, _, _ => False
  | n + 1, x3, x5 => ((p2 ≤ x5 → (Q x3)) ∧ (¬ p2 ≤ x5 → (vX8_power_c5 p1 p2 Q n (x3 * p1) (x5 + (1 : Int32)))))
set_option maxHeartbeats 4000000 in
set_option maxRecDepth 100000 in
theorem kX8_power_c5 {p : Program} {l : Launch} {e : Env} {s : State} {m : MethodId} {args : Array Value} {below : List Frame} {meth : Method} {c : Code} {g : GP}  {p1 : Int64} {p2 : Int32} {Q : Int64 → Prop} (S : CallFix p m c cX8_power 6 s args wsX8_power RX8) (hr : meth.sig.returnType = (some .long)) (hlocks : meth.locks = false) (hG : GK g s) (hP : va_P g.1 vwCl [] s.heap) : ∀ (n : Nat), ∀ (x3 : Int64) (x5 : Int32), vX8_power_c5 p1 p2 Q n x3 x5 → ∀ (ls : Array Slot), lv_has ls 6 [(0, .long p1), (2, .int p2), (3, .long x3), (5, .int x5)] → W p l e (headSpec wsX8_power rmX8_power).room s m args below meth c s.heap [] 0 0 (MQ below (vp_Sl Q) args s 0 0 (fun _ => False)) (F0 m 5 ls []) := by
  obtain ⟨hx, hb, hml, hown, hts⟩ := id S
  have hK := hG.1
  intro n
  induction n with
  | zero => intro x3 x5 hv; exact hv.elim
  | succ n ih =>
    intro x3 x5 hv ls hl
    refine lv_iload hx hb dX8_power_5 (lv_at hl 3 rfl) ?_
    refine lv_iload_n hx hb dX8_power_7 rfl (lv_at hl 1 rfl) ?_
    obtain ⟨hvt, hvf⟩ := hv
    refine lv_icmp_ge (tgt := 21) hx hb dX8_power_8 (by decide) (fun hc => ?_) (fun hc => ?_)
    · have hv := hvt hc
      refine lv_lload_n hx hb dX8_power_21 rfl (lv_at hl 2 rfl) ?_
      exact W.lret (v := x3) hx hb hr (fun t ht hW => ⟨_, rfl, hv, ht⟩) (fun _ h => by cases h) dX8_power_22
    · have hv := hvf hc
      refine lv_lload_n hx hb dX8_power_11 rfl (lv_at hl 2 rfl) ?_
      refine lv_lload_n hx hb dX8_power_12 rfl (lv_at hl 0 rfl) ?_
      refine lv_lmul hx hb dX8_power_13 ?_
      refine lv_lstore_n (lv' := [(3, .long (x3 * p1)), (0, .long p1), (2, .int p2), (5, .int x5)]) hx hb dX8_power_14 rfl hl (by decide) rfl (fun ls hl => ?_)
      refine lv_iinc (v := (x5 + (1 : Int32))) (lv' := [(5, .int (x5 + (1 : Int32))), (3, .long (x3 * p1)), (0, .long p1), (2, .int p2)]) hx hb dX8_power_15 hl (k := 3) rfl rfl (by decide) rfl (fun ls hl => ?_)
      refine lv_goto (tgt := 5) hx hb dX8_power_18 (by decide) ?_
      exact ih _ _ hv ls (lv_sub hl [2, 3, 1, 0] rfl)
def vX8_power (p1 : Int64) (p2 : Int32) (Q : Int64 → Prop) : Prop := (∃ nn, vX8_power_c5 p1 p2 Q nn (1 : Int64) (0 : Int32))
set_option maxHeartbeats 4000000 in
set_option maxRecDepth 100000 in
theorem wX8_power (l : Launch) (g : GP)  (p1 : Int64) (p2 : Int32) {Q : Int64 → Prop} (hv : vX8_power p1 p2 Q) : Met l yX8_power wsX8_power rmX8_power (va_Pc [.long p1, .int p2] (fun U => va_P g.1 vwCl [] U.heap ∧ GK g U)) (vp_Sl Q) 0 0 (fun _ => False) := by
  refine Met.ofW (cc := cX8_power) (maxL := 6) (ret := (some .long)) (by decide) rfl ?_
  intro p e s m args below meth c s₁ B hml hv'
  obtain ⟨rfl, hP, hG⟩ := hv'
  have S : CallFix p m c cX8_power 6 s _ wsX8_power RX8 := ⟨B.exec, B.bytes, hml, findClass_of_methodNamed B.named, atoms_spec (ws := wsX8_power) B.pre⟩
  obtain ⟨hx, hb, hml, hown, hts⟩ := id S
  have hK := hG.1
  have hr := B.returns
  have hlocks := B.notSynchronized
  have hl := lv_entry ([.long p1, .int p2]) (n := 6) (Nat.le_of_ble_eq_true rfl)
  rw [lg_entry_eq]
  generalize (lg_sl ([.long p1, .int p2]) ++ List.replicate (6 - (lg_sl ([.long p1, .int p2])).length) Slot.unset).toArray = ls at hl ⊢
  have hl : lv_has ls 6 [(0, .long p1), (2, .int p2)] := hl
  unfold vX8_power at hv
  refine lv_lconst (v := (1 : Int64)) hx hb dX8_power_0 (by decide) ?_
  refine lv_lstore_n (lv' := [(3, .long (1 : Int64)), (0, .long p1), (2, .int p2)]) hx hb dX8_power_1 rfl hl (by decide) rfl (fun ls hl => ?_)
  refine lv_iconst (v := (0 : Int32)) hx hb dX8_power_2 (by decide) ?_
  refine lv_istore (lv' := [(5, .int (0 : Int32)), (3, .long (1 : Int64)), (0, .long p1), (2, .int p2)]) hx hb dX8_power_3 hl (by decide) rfl (fun ls hl => ?_)
  obtain ⟨nn, hv⟩ := hv
  exact kX8_power_c5 S hr hlocks hG hP nn _ _ hv ls (lv_sub hl [2, 3, 1, 0] rfl)
abbrev preX8_power (b k : Nat) (p1 : Int64) (p2 : Int32) : Prop := p1.toInt = (b : Int) ∧ b ≤ 10 ∧ p2.toInt = (k : Int) ∧ k ≤ 18
abbrev postX8_power (b k : Nat) (_ : Int64) (_ : Int32) (r : Int64) : Prop := r.toInt = ((b ^ k : Nat) : Int)
theorem sX8_power_5 (b k : Nat) (p1 : Int64) (p2 : Int32) (H : preX8_power b k p1 p2) : ∀ (n i : Nat) (x3 : Int64) (x5 : Int32), x3.toInt = ((b ^ i : Nat) : Int) → x5.toInt = (i : Int) → i ≤ k → k + 1 ≤ i + n → vX8_power_c5 p1 p2 (postX8_power b k p1 p2) n x3 x5
  | 0, i, x3, x5, _, _, hi, hn => absurd hn (by omega)
  | n + 1, i, x3, x5, h3, h5, hi, hn => by
    obtain ⟨h1, hb, h2, hk⟩ := id H
    rw [vX8_power_c5, q_le h2 h5]
    refine ⟨fun hc => ?_, fun hc => sX8_power_5 b k p1 p2 H n (i + 1) _ _ ?_ (q_1 h5 (by omega)) (by omega) (by omega)⟩
    · have : i = k := by omega
      subst this
      exact h3
    · have hl := pw_le hb (i + 1)
      have hl2 := p10_le (n := i + 1) (by omega)
      rw [Nat.pow_succ] at hl ⊢
      rw [Nat.pow_succ] at hl2
      exact q_lmulN h3 h1 (by omega)
theorem sX8_power (b k : Nat) (p1 : Int64) (p2 : Int32) (H : preX8_power b k p1 p2) : vX8_power p1 p2 (postX8_power b k p1 p2) := ⟨k + 1, sX8_power_5 b k p1 p2 H (k + 1) 0 1 0 rfl rfl (by omega) (by omega)⟩
theorem dX8_ways_0 : decode cX8_ways 0 = .ok (.lconst 1, 1) := by decide +kernel
theorem dX8_ways_1 : decode cX8_ways 1 = .ok (.lstore_n 2, 1) := by decide +kernel
theorem dX8_ways_2 : decode cX8_ways 2 = .ok (.iconst 1, 1) := by decide +kernel
theorem dX8_ways_3 : decode cX8_ways 3 = .ok (.istore 4, 2) := by decide +kernel
theorem dX8_ways_5 : decode cX8_ways 5 = .ok (.iload 4, 2) := by decide +kernel
theorem dX8_ways_7 : decode cX8_ways 7 = .ok (.iload_n 1, 1) := by decide +kernel
theorem dX8_ways_8 : decode cX8_ways 8 = .ok (.if_icmp .gt 23, 3) := by decide +kernel
theorem dX8_ways_11 : decode cX8_ways 11 = .ok (.lload_n 2, 1) := by decide +kernel
theorem dX8_ways_12 : decode cX8_ways 12 = .ok (.iload_n 0, 1) := by decide +kernel
theorem dX8_ways_13 : decode cX8_ways 13 = .ok (.iload_n 1, 1) := by decide +kernel
theorem dX8_ways_14 : decode cX8_ways 14 = .ok (.isub, 1) := by decide +kernel
theorem dX8_ways_15 : decode cX8_ways 15 = .ok (.iload 4, 2) := by decide +kernel
theorem dX8_ways_17 : decode cX8_ways 17 = .ok (.iadd, 1) := by decide +kernel
theorem dX8_ways_18 : decode cX8_ways 18 = .ok (.i2l, 1) := by decide +kernel
theorem dX8_ways_19 : decode cX8_ways 19 = .ok (.lmul, 1) := by decide +kernel
theorem dX8_ways_20 : decode cX8_ways 20 = .ok (.iload 4, 2) := by decide +kernel
theorem dX8_ways_22 : decode cX8_ways 22 = .ok (.i2l, 1) := by decide +kernel
theorem dX8_ways_23 : decode cX8_ways 23 = .ok (.ldiv, 1) := by decide +kernel
theorem dX8_ways_24 : decode cX8_ways 24 = .ok (.lstore_n 2, 1) := by decide +kernel
theorem dX8_ways_25 : decode cX8_ways 25 = .ok (.iinc 4 1, 3) := by decide +kernel
theorem dX8_ways_28 : decode cX8_ways 28 = .ok (.goto (-23), 3) := by decide +kernel
theorem dX8_ways_31 : decode cX8_ways 31 = .ok (.lload_n 2, 1) := by decide +kernel
theorem dX8_ways_32 : decode cX8_ways 32 = .ok (.lreturn, 1) := by decide +kernel
abbrev rmX8_ways : Room := { frames := 0, cells := 0, slots := 0, locals := 0 }
def vX8_ways_c5 (p1 : Int32) (p2 : Int32) (Q : Int64 → Prop) : Nat → Int64 → Int32 → Prop
  | 0, _, _ => False
  | n + 1, x2, x4 => ((p2 < x4 → (Q x2)) ∧ (¬ p2 < x4 → (¬ (x4.toInt64) = 0 ∧ (∀ y_24 : Int64, y_24 = ((x2 * (((p1 - p2) + x4).toInt64)) / (x4.toInt64)) → (vX8_ways_c5 p1 p2 Q n y_24 (x4 + (1 : Int32)))))))
set_option maxHeartbeats 4000000 in
set_option maxRecDepth 100000 in
theorem kX8_ways_c5 {p : Program} {l : Launch} {e : Env} {s : State} {m : MethodId} {args : Array Value} {below : List Frame} {meth : Method} {c : Code} {g : GP}  {p1 : Int32} {p2 : Int32} {Q : Int64 → Prop} (S : CallFix p m c cX8_ways 5 s args wsX8_ways RX8) (hr : meth.sig.returnType = (some .long)) (hlocks : meth.locks = false) (hG : GK g s) (hP : va_P g.1 vwCl [] s.heap) : ∀ (n : Nat), ∀ (x2 : Int64) (x4 : Int32), vX8_ways_c5 p1 p2 Q n x2 x4 → ∀ (ls : Array Slot), lv_has ls 5 [(0, .int p1), (1, .int p2), (2, .long x2), (4, .int x4)] → W p l e (headSpec wsX8_ways rmX8_ways).room s m args below meth c s.heap [] 0 0 (MQ below (vp_Sl Q) args s 0 0 (fun _ => False)) (F0 m 5 ls []) := by
  obtain ⟨hx, hb, hml, hown, hts⟩ := id S
  have hK := hG.1
  intro n
  induction n with
  | zero => intro x2 x4 hv; exact hv.elim
  | succ n ih =>
    intro x2 x4 hv ls hl
    refine lv_iload hx hb dX8_ways_5 (lv_at hl 3 rfl) ?_
    refine lv_iload_n hx hb dX8_ways_7 rfl (lv_at hl 1 rfl) ?_
    obtain ⟨hvt, hvf⟩ := hv
    refine lv_icmp_gt (tgt := 31) hx hb dX8_ways_8 (by decide) (fun hc => ?_) (fun hc => ?_)
    · have hv := hvt hc
      refine lv_lload_n hx hb dX8_ways_31 rfl (lv_at hl 2 rfl) ?_
      exact W.lret (v := x2) hx hb hr (fun t ht hW => ⟨_, rfl, hv, ht⟩) (fun _ h => by cases h) dX8_ways_32
    · have hv := hvf hc
      refine lv_lload_n hx hb dX8_ways_11 rfl (lv_at hl 2 rfl) ?_
      refine lv_iload_n hx hb dX8_ways_12 rfl (lv_at hl 0 rfl) ?_
      refine lv_iload_n hx hb dX8_ways_13 rfl (lv_at hl 1 rfl) ?_
      refine lv_isub hx hb dX8_ways_14 ?_
      refine lv_iload hx hb dX8_ways_15 (lv_at hl 3 rfl) ?_
      refine lv_iadd hx hb dX8_ways_17 ?_
      refine lv_i2l (v := (((p1 - p2) + x4).toInt64)) hx hb dX8_ways_18 rfl ?_
      refine lv_lmul hx hb dX8_ways_19 ?_
      refine lv_iload hx hb dX8_ways_20 (lv_at hl 3 rfl) ?_
      refine lv_i2l (v := (x4.toInt64)) hx hb dX8_ways_22 rfl ?_
      obtain ⟨ho_1, hv⟩ := hv
      refine lv_ldiv hx hb dX8_ways_23 ho_1 ?_
      refine lv_topl (fun y_24 ey_24 => ?_)
      have hv := hv y_24 ey_24
      refine lv_lstore_n (lv' := [(2, .long y_24), (0, .int p1), (1, .int p2), (4, .int x4)]) hx hb dX8_ways_24 rfl hl (by decide) rfl (fun ls hl => ?_)
      refine lv_iinc (v := (x4 + (1 : Int32))) (lv' := [(4, .int (x4 + (1 : Int32))), (2, .long y_24), (0, .int p1), (1, .int p2)]) hx hb dX8_ways_25 hl (k := 3) rfl rfl (by decide) rfl (fun ls hl => ?_)
      refine lv_goto (tgt := 5) hx hb dX8_ways_28 (by decide) ?_
      exact ih _ _ hv ls (lv_sub hl [2, 3, 1, 0] rfl)
def vX8_ways (p1 : Int32) (p2 : Int32) (Q : Int64 → Prop) : Prop := (∃ nn, vX8_ways_c5 p1 p2 Q nn (1 : Int64) (1 : Int32))
set_option maxHeartbeats 4000000 in
set_option maxRecDepth 100000 in
theorem wX8_ways (l : Launch) (g : GP)  (p1 : Int32) (p2 : Int32) {Q : Int64 → Prop} (hv : vX8_ways p1 p2 Q) : Met l yX8_ways wsX8_ways rmX8_ways (va_Pc [.int p1, .int p2] (fun U => va_P g.1 vwCl [] U.heap ∧ GK g U)) (vp_Sl Q) 0 0 (fun _ => False) := by
  refine Met.ofW (cc := cX8_ways) (maxL := 5) (ret := (some .long)) (by decide) rfl ?_
  intro p e s m args below meth c s₁ B hml hv'
  obtain ⟨rfl, hP, hG⟩ := hv'
  have S : CallFix p m c cX8_ways 5 s _ wsX8_ways RX8 := ⟨B.exec, B.bytes, hml, findClass_of_methodNamed B.named, atoms_spec (ws := wsX8_ways) B.pre⟩
  obtain ⟨hx, hb, hml, hown, hts⟩ := id S
  have hK := hG.1
  have hr := B.returns
  have hlocks := B.notSynchronized
  have hl := lv_entry ([.int p1, .int p2]) (n := 5) (Nat.le_of_ble_eq_true rfl)
  rw [lg_entry_eq]
  generalize (lg_sl ([.int p1, .int p2]) ++ List.replicate (5 - (lg_sl ([.int p1, .int p2])).length) Slot.unset).toArray = ls at hl ⊢
  have hl : lv_has ls 5 [(0, .int p1), (1, .int p2)] := hl
  unfold vX8_ways at hv
  refine lv_lconst (v := (1 : Int64)) hx hb dX8_ways_0 (by decide) ?_
  refine lv_lstore_n (lv' := [(2, .long (1 : Int64)), (0, .int p1), (1, .int p2)]) hx hb dX8_ways_1 rfl hl (by decide) rfl (fun ls hl => ?_)
  refine lv_iconst (v := (1 : Int32)) hx hb dX8_ways_2 (by decide) ?_
  refine lv_istore (lv' := [(4, .int (1 : Int32)), (2, .long (1 : Int64)), (0, .int p1), (1, .int p2)]) hx hb dX8_ways_3 hl (by decide) rfl (fun ls hl => ?_)
  obtain ⟨nn, hv⟩ := hv
  exact kX8_ways_c5 S hr hlocks hG hP nn _ _ hv ls (lv_sub hl [2, 3, 1, 0] rfl)
abbrev preX8_ways (n k : Nat) (p1 p2 : Int32) : Prop := p1.toInt = (n : Int) ∧ n ≤ 18 ∧ p2.toInt = (k : Int) ∧ k ≤ n
abbrev postX8_ways (n k : Nat) (_ _ : Int32) (r : Int64) : Prop := r.toInt = ((vR n k : Nat) : Int)
theorem sX8_ways_5 (n k : Nat) (p1 p2 : Int32) (H : preX8_ways n k p1 p2) : ∀ (f i : Nat) (x2 : Int64) (x4 : Int32), x2.toInt = ((wyC n k i : Nat) : Int) → x4.toInt = ((i + 1 : Nat) : Int) → i ≤ k → k + 1 ≤ i + f → vX8_ways_c5 p1 p2 (postX8_ways n k p1 p2) f x2 x4
  | 0, i, x2, x4, _, _, hi, hn => absurd hn (by omega)
  | f + 1, i, x2, x4, h2, h4, hi, hn => by
    obtain ⟨h1, hn18, hp2, hk⟩ := id H
    have hw := wy_le n (by omega) k (by omega) i (by omega)
    rw [vX8_ways_c5, q_lt hp2 h4]
    refine ⟨fun hc => ?_, fun hc => ?_⟩
    · have : i = k := by omega
      subst this
      show x2.toInt = ((vR n i : Nat) : Int)
      rw [h2, wy_vR n (by omega) i (by omega)]
    · have e4 := q_i2l h4
      have e1 := q_i2l (q_addN (q_subN h1 hp2 (by omega) (by omega)) h4 (by omega))
      have hm : wyC n k i * (n - k + (i + 1)) ≤ 1000000 * 40 := Nat.mul_le_mul hw (by omega)
      refine ⟨by rw [q_l0 e4]; omega, fun y hy => sX8_ways_5 n k p1 p2 H f (i + 1) _ _ ?_ (q_1 h4 (by omega)) (by omega) (by omega)⟩
      rw [hy, wyC]
      exact q_ldiv (q_lmulN h2 e1 (by omega)) e4 (by omega)
theorem sX8_ways (n k : Nat) (p1 p2 : Int32) (H : preX8_ways n k p1 p2) : vX8_ways p1 p2 (postX8_ways n k p1 p2) := ⟨k + 1, sX8_ways_5 n k p1 p2 H (k + 1) 0 1 1 rfl rfl (by omega) (by omega)⟩
set_option maxRecDepth 20000 in
theorem ggX8_chance_X8_ways : GoodIn wsX8_chance wsX8_ways := goodIn_r _ [6] (by decide +kernel) (by decide +kernel)
set_option maxRecDepth 20000 in
theorem gX8_chance_X8_ways : GoodIn wsX8_chance (va_wsS RX8 288 yX8_ways wsX8_ways) := goodIn_app (goodIn_of _ (by decide +kernel)) ggX8_chance_X8_ways
set_option maxRecDepth 20000 in
theorem ggX8_chance_X8_power : GoodIn wsX8_chance wsX8_power := goodIn_r _ [9] (by decide +kernel) (by decide +kernel)
set_option maxRecDepth 20000 in
theorem gX8_chance_X8_power : GoodIn wsX8_chance (va_wsS RX8 292 yX8_power wsX8_power) := goodIn_app (goodIn_of _ (by decide +kernel)) ggX8_chance_X8_power
set_option maxRecDepth 20000 in
theorem ggX8_chance_X8_commonDivisor : GoodIn wsX8_chance wsX8_commonDivisor := goodIn_r _ [12] (by decide +kernel) (by decide +kernel)
set_option maxRecDepth 20000 in
theorem gX8_chance_X8_commonDivisor : GoodIn wsX8_chance (va_wsS RX8 298 yX8_commonDivisor wsX8_commonDivisor) := goodIn_app (goodIn_of _ (by decide +kernel)) ggX8_chance_X8_commonDivisor
theorem dX8_chance_0 : decode cX8_chance 0 = .ok (.iload_n 1, 1) := by decide +kernel
theorem dX8_chance_1 : decode cX8_chance 1 = .ok (.ifCond .lt 29, 3) := by decide +kernel
theorem dX8_chance_4 : decode cX8_chance 4 = .ok (.iload_n 1, 1) := by decide +kernel
theorem dX8_chance_5 : decode cX8_chance 5 = .ok (.bipush 18, 2) := by decide +kernel
theorem dX8_chance_7 : decode cX8_chance 7 = .ok (.if_icmp .gt 23, 3) := by decide +kernel
theorem dX8_chance_10 : decode cX8_chance 10 = .ok (.iload_n 2, 1) := by decide +kernel
theorem dX8_chance_11 : decode cX8_chance 11 = .ok (.ifCond .lt 19, 3) := by decide +kernel
theorem dX8_chance_14 : decode cX8_chance 14 = .ok (.iload_n 2, 1) := by decide +kernel
theorem dX8_chance_15 : decode cX8_chance 15 = .ok (.bipush 10, 2) := by decide +kernel
theorem dX8_chance_17 : decode cX8_chance 17 = .ok (.if_icmp .gt 13, 3) := by decide +kernel
theorem dX8_chance_20 : decode cX8_chance 20 = .ok (.iload_n 3, 1) := by decide +kernel
theorem dX8_chance_21 : decode cX8_chance 21 = .ok (.ifCond .lt 9, 3) := by decide +kernel
theorem dX8_chance_24 : decode cX8_chance 24 = .ok (.iload_n 3, 1) := by decide +kernel
theorem dX8_chance_25 : decode cX8_chance 25 = .ok (.bipush 18, 2) := by decide +kernel
theorem dX8_chance_27 : decode cX8_chance 27 = .ok (.if_icmp .le 7, 3) := by decide +kernel
theorem dX8_chance_30 : decode cX8_chance 30 = .ok (.ldc2_w 286, 3) := by decide +kernel
theorem dX8_chance_33 : decode cX8_chance 33 = .ok (.lreturn, 1) := by decide +kernel
theorem dX8_chance_34 : decode cX8_chance 34 = .ok (.lconst 0, 1) := by decide +kernel
theorem dX8_chance_35 : decode cX8_chance 35 = .ok (.lstore 5, 2) := by decide +kernel
theorem dX8_chance_37 : decode cX8_chance 37 = .ok (.iload_n 3, 1) := by decide +kernel
theorem dX8_chance_38 : decode cX8_chance 38 = .ok (.istore 7, 2) := by decide +kernel
theorem dX8_chance_40 : decode cX8_chance 40 = .ok (.iload 7, 2) := by decide +kernel
theorem dX8_chance_42 : decode cX8_chance 42 = .ok (.iload_n 1, 1) := by decide +kernel
theorem dX8_chance_43 : decode cX8_chance 43 = .ok (.if_icmp .gt 41, 3) := by decide +kernel
theorem dX8_chance_46 : decode cX8_chance 46 = .ok (.lload 5, 2) := by decide +kernel
theorem dX8_chance_48 : decode cX8_chance 48 = .ok (.iload_n 1, 1) := by decide +kernel
theorem dX8_chance_49 : decode cX8_chance 49 = .ok (.iload 7, 2) := by decide +kernel
theorem dX8_chance_51 : decode cX8_chance 51 = .ok (.invokestatic 288, 3) := by decide +kernel
theorem dX8_chance_54 : decode cX8_chance 54 = .ok (.iload_n 2, 1) := by decide +kernel
theorem dX8_chance_55 : decode cX8_chance 55 = .ok (.i2l, 1) := by decide +kernel
theorem dX8_chance_56 : decode cX8_chance 56 = .ok (.iload 7, 2) := by decide +kernel
theorem dX8_chance_58 : decode cX8_chance 58 = .ok (.invokestatic 292, 3) := by decide +kernel
theorem dX8_chance_61 : decode cX8_chance 61 = .ok (.bipush 10, 2) := by decide +kernel
theorem dX8_chance_63 : decode cX8_chance 63 = .ok (.iload_n 2, 1) := by decide +kernel
theorem dX8_chance_64 : decode cX8_chance 64 = .ok (.isub, 1) := by decide +kernel
theorem dX8_chance_65 : decode cX8_chance 65 = .ok (.i2l, 1) := by decide +kernel
theorem dX8_chance_66 : decode cX8_chance 66 = .ok (.iload_n 1, 1) := by decide +kernel
theorem dX8_chance_67 : decode cX8_chance 67 = .ok (.iload 7, 2) := by decide +kernel
theorem dX8_chance_69 : decode cX8_chance 69 = .ok (.isub, 1) := by decide +kernel
theorem dX8_chance_70 : decode cX8_chance 70 = .ok (.invokestatic 292, 3) := by decide +kernel
theorem dX8_chance_73 : decode cX8_chance 73 = .ok (.lmul, 1) := by decide +kernel
theorem dX8_chance_74 : decode cX8_chance 74 = .ok (.lmul, 1) := by decide +kernel
theorem dX8_chance_75 : decode cX8_chance 75 = .ok (.ladd, 1) := by decide +kernel
theorem dX8_chance_76 : decode cX8_chance 76 = .ok (.lstore 5, 2) := by decide +kernel
theorem dX8_chance_78 : decode cX8_chance 78 = .ok (.iinc 7 1, 3) := by decide +kernel
theorem dX8_chance_81 : decode cX8_chance 81 = .ok (.goto (-41), 3) := by decide +kernel
theorem dX8_chance_84 : decode cX8_chance 84 = .ok (.ldc2_w 296, 3) := by decide +kernel
theorem dX8_chance_87 : decode cX8_chance 87 = .ok (.iload_n 1, 1) := by decide +kernel
theorem dX8_chance_88 : decode cX8_chance 88 = .ok (.invokestatic 292, 3) := by decide +kernel
theorem dX8_chance_91 : decode cX8_chance 91 = .ok (.lstore 7, 2) := by decide +kernel
theorem dX8_chance_93 : decode cX8_chance 93 = .ok (.lload 5, 2) := by decide +kernel
theorem dX8_chance_95 : decode cX8_chance 95 = .ok (.lload 7, 2) := by decide +kernel
theorem dX8_chance_97 : decode cX8_chance 97 = .ok (.invokestatic 298, 3) := by decide +kernel
theorem dX8_chance_100 : decode cX8_chance 100 = .ok (.lstore 9, 2) := by decide +kernel
theorem dX8_chance_102 : decode cX8_chance 102 = .ok (.lload 9, 2) := by decide +kernel
theorem dX8_chance_104 : decode cX8_chance 104 = .ok (.lconst 1, 1) := by decide +kernel
theorem dX8_chance_105 : decode cX8_chance 105 = .ok (.lcmp, 1) := by decide +kernel
theorem dX8_chance_106 : decode cX8_chance 106 = .ok (.ifCond .ge 7, 3) := by decide +kernel
theorem dX8_chance_109 : decode cX8_chance 109 = .ok (.ldc2_w 286, 3) := by decide +kernel
theorem dX8_chance_112 : decode cX8_chance 112 = .ok (.lreturn, 1) := by decide +kernel
theorem dX8_chance_113 : decode cX8_chance 113 = .ok (.iload 4, 2) := by decide +kernel
theorem dX8_chance_115 : decode cX8_chance 115 = .ok (.ifCond .eq 8, 3) := by decide +kernel
theorem dX8_chance_118 : decode cX8_chance 118 = .ok (.lload 7, 2) := by decide +kernel
theorem dX8_chance_120 : decode cX8_chance 120 = .ok (.goto 5, 3) := by decide +kernel
theorem dX8_chance_123 : decode cX8_chance 123 = .ok (.lload 5, 2) := by decide +kernel
theorem dX8_chance_125 : decode cX8_chance 125 = .ok (.lload 9, 2) := by decide +kernel
theorem dX8_chance_127 : decode cX8_chance 127 = .ok (.ldiv, 1) := by decide +kernel
theorem dX8_chance_128 : decode cX8_chance 128 = .ok (.lreturn, 1) := by decide +kernel
abbrev rmX8_chance : Room := { frames := 1, cells := 0, slots := 0, locals := 30 }
def vX8_chance_c40 (p1 : Int32) (p2 : Int32) (p3 : Int32) (p4 : Int32) (Q : Int64 → Prop) : Nat → Int64 → Int32 → Prop
  | 0, _, _ => False
  | n + 1, x5, x7 => ((p1 < x7 → (∃ (b_88 : Nat) (k_88 : Nat), preX8_power b_88 k_88 (10 : Int64) p1 ∧ (∀ r_88 : Int64, postX8_power b_88 k_88 (10 : Int64) p1 r_88 → (∃ (a_97 : Nat) (b_97 : Nat), preX8_commonDivisor a_97 b_97 x5 r_88 ∧ (∀ r_97 : Int64, postX8_commonDivisor a_97 b_97 x5 r_88 r_97 → ((0 ≤ (lg_cmp r_97 (1 : Int64)) → ((p4 = 0 → (¬ r_97 = 0 ∧ (Q (x5 / r_97)))) ∧ (¬ p4 = 0 → (¬ r_97 = 0 ∧ (Q (r_88 / r_97)))))) ∧ (¬ 0 ≤ (lg_cmp r_97 (1 : Int64)) → (Q (-1 : Int64))))))))) ∧ (¬ p1 < x7 → (∃ (n_51 : Nat) (k_51 : Nat), preX8_ways n_51 k_51 p1 x7 ∧ (∀ r_51 : Int64, postX8_ways n_51 k_51 p1 x7 r_51 → (∃ (b_58 : Nat) (k_58 : Nat), preX8_power b_58 k_58 (p2.toInt64) x7 ∧ (∀ r_58 : Int64, postX8_power b_58 k_58 (p2.toInt64) x7 r_58 → (∃ (b_70 : Nat) (k_70 : Nat), preX8_power b_70 k_70 (((10 : Int32) - p2).toInt64) (p1 - x7) ∧ (∀ r_70 : Int64, postX8_power b_70 k_70 (((10 : Int32) - p2).toInt64) (p1 - x7) r_70 → (∀ y_76 : Int64, y_76 = (x5 + (r_51 * (r_58 * r_70))) → (vX8_chance_c40 p1 p2 p3 p4 Q n y_76 (x7 + (1 : Int32))))))))))))
set_option maxHeartbeats 4000000 in
set_option maxRecDepth 100000 in
theorem kX8_chance_c40 {p : Program} {l : Launch} {e : Env} {s : State} {m : MethodId} {args : Array Value} {below : List Frame} {meth : Method} {c : Code} {g : GP} {qX : Nat} {qP : Nat} {qI : Nat} {qt : Nat} {qd : Nat} {qe : Nat} {qsp : Nat} {qrk : Nat} {qty : Nat}  {p1 : Int32} {p2 : Int32} {p3 : Int32} {p4 : Int32} {Q : Int64 → Prop} (S : CallFix p m c cX8_chance 11 s args wsX8_chance RX8) (hr : meth.sig.returnType = (some .long)) (hlocks : meth.locks = false) (hG : GK g s) (hP : va_P g.1 vwCl [(qX, .inr (8, [.ref qP, .ref qI, .ref qt, .ref qd, .ref qe, .ref qsp, .ref qrk, .ref qty]))] s.heap) : ∀ (n : Nat), ∀ (x5 : Int64) (x7 : Int32), vX8_chance_c40 p1 p2 p3 p4 Q n x5 x7 → ∀ (ls : Array Slot), lv_has ls 11 [(1, .int p1), (2, .int p2), (4, .int p4), (5, .long x5), (7, .int x7)] → W p l e (headSpec wsX8_chance rmX8_chance).room s m args below meth c s.heap [] 0 0 (MQ below (vp_Sl Q) args s 0 0 (fun _ => False)) (F0 m 40 ls []) := by
  obtain ⟨hx, hb, hml, hown, hts⟩ := id S
  have hK := hG.1
  intro n
  induction n with
  | zero => intro x5 x7 hv; exact hv.elim
  | succ n ih =>
    intro x5 x7 hv ls hl
    refine lv_iload hx hb dX8_chance_40 (lv_at hl 4 rfl) ?_
    refine lv_iload_n hx hb dX8_chance_42 rfl (lv_at hl 0 rfl) ?_
    obtain ⟨hvt, hvf⟩ := hv
    refine lv_icmp_gt (tgt := 84) hx hb dX8_chance_43 (by decide) (fun hc => ?_) (fun hc => ?_)
    · have hv := hvt hc
      refine lv_ldc2 (v := (10 : Int64)) hx hb hown (hts (.constantLong RX8 296 (10)) (List.mem_of_getElem? (i := 2) rfl)) dX8_chance_84 ?_
      refine lv_iload_n hx hb dX8_chance_87 rfl (lv_at hl 0 rfl) ?_
      obtain ⟨b_88, k_88, ho_1, hv⟩ := hv
      refine vp_callSl (W.runS (As := [.long (10 : Int64), .int p1]) (rest := []) S (wX8_power l g (10 : Int64) p1 (sX8_power b_88 k_88 (10 : Int64) p1 ho_1)) (va_cwS 2 hts gX8_chance_X8_power rfl rfl rfl (by decide +kernel) ⟨Nat.le_of_ble_eq_true rfl, Nat.le_of_ble_eq_true rfl⟩) ⟨blindRO, fun U hU hW => ⟨rfl, by rw [hU]; exact hP.sub (ws' := []) [] rfl, hG.warm hW⟩⟩ rfl rfl hl.1 rfl (lv_room (Nat.le_of_ble_eq_true rfl)) dX8_chance_88 ⟨Nat.le_of_ble_eq_true rfl, Nat.le_of_ble_eq_true rfl⟩) (fun r_88 hr_88 => ?_)
      have hv := hv r_88 hr_88
      refine lv_lstore (lv' := [(7, .long r_88), (1, .int p1), (2, .int p2), (4, .int p4), (5, .long x5)]) hx hb dX8_chance_91 hl (by decide) rfl (fun ls hl => ?_)
      refine lv_lload hx hb dX8_chance_93 (lv_at hl 4 rfl) ?_
      refine lv_lload hx hb dX8_chance_95 (lv_at hl 0 rfl) ?_
      obtain ⟨a_97, b_97, ho_2, hv⟩ := hv
      refine vp_callSl (W.runS (As := [.long x5, .long r_88]) (rest := []) S (wX8_commonDivisor l g x5 r_88 (sX8_commonDivisor a_97 b_97 x5 r_88 ho_2)) (va_cwS 2 hts gX8_chance_X8_commonDivisor rfl rfl rfl (by decide +kernel) ⟨Nat.le_of_ble_eq_true rfl, Nat.le_of_ble_eq_true rfl⟩) ⟨blindRO, fun U hU hW => ⟨rfl, by rw [hU]; exact hP.sub (ws' := []) [] rfl, hG.warm hW⟩⟩ rfl rfl hl.1 rfl (lv_room (Nat.le_of_ble_eq_true rfl)) dX8_chance_97 ⟨Nat.le_of_ble_eq_true rfl, Nat.le_of_ble_eq_true rfl⟩) (fun r_97 hr_97 => ?_)
      have hv := hv r_97 hr_97
      refine lv_lstore (lv' := [(9, .long r_97), (7, .long r_88), (1, .int p1), (2, .int p2), (4, .int p4), (5, .long x5)]) hx hb dX8_chance_100 hl (by decide) rfl (fun ls hl => ?_)
      refine lv_lload hx hb dX8_chance_102 (lv_at hl 0 rfl) ?_
      refine lv_lconst (v := (1 : Int64)) hx hb dX8_chance_104 (by decide) ?_
      refine W.lcmp hx hb dX8_chance_105 ?_
      obtain ⟨hvt, hvf⟩ := hv
      refine lv_if_ge (tgt := 113) hx hb dX8_chance_106 (by decide) (fun hc => ?_) (fun hc => ?_)
      · have hv := hvt hc
        refine lv_iload hx hb dX8_chance_113 (lv_at hl 4 rfl) ?_
        obtain ⟨hvt, hvf⟩ := hv
        refine lv_if_eq (tgt := 123) hx hb dX8_chance_115 (by decide) (fun hc => ?_) (fun hc => ?_)
        · have hv := hvt hc
          refine lv_lload hx hb dX8_chance_123 (lv_at hl 5 rfl) ?_
          refine lv_lload hx hb dX8_chance_125 (lv_at hl 0 rfl) ?_
          obtain ⟨ho_3, hv⟩ := hv
          refine lv_ldiv hx hb dX8_chance_127 ho_3 ?_
          exact W.lret (v := (x5 / r_97)) hx hb hr (fun t ht hW => ⟨_, rfl, hv, ht⟩) (fun _ h => by cases h) dX8_chance_128
        · have hv := hvf hc
          refine lv_lload hx hb dX8_chance_118 (lv_at hl 1 rfl) ?_
          refine lv_goto (tgt := 125) hx hb dX8_chance_120 (by decide) ?_
          refine lv_lload hx hb dX8_chance_125 (lv_at hl 0 rfl) ?_
          obtain ⟨ho_4, hv⟩ := hv
          refine lv_ldiv hx hb dX8_chance_127 ho_4 ?_
          exact W.lret (v := (r_88 / r_97)) hx hb hr (fun t ht hW => ⟨_, rfl, hv, ht⟩) (fun _ h => by cases h) dX8_chance_128
      · have hv := hvf hc
        refine lv_ldc2 (v := (-1 : Int64)) hx hb hown (hts (.constantLong RX8 286 (-1)) (List.mem_of_getElem? (i := 1) rfl)) dX8_chance_109 ?_
        exact W.lret (v := (-1 : Int64)) hx hb hr (fun t ht hW => ⟨_, rfl, hv, ht⟩) (fun _ h => by cases h) dX8_chance_112
    · have hv := hvf hc
      refine lv_lload hx hb dX8_chance_46 (lv_at hl 3 rfl) ?_
      refine lv_iload_n hx hb dX8_chance_48 rfl (lv_at hl 0 rfl) ?_
      refine lv_iload hx hb dX8_chance_49 (lv_at hl 4 rfl) ?_
      obtain ⟨n_51, k_51, ho_5, hv⟩ := hv
      refine vp_callSl (W.runS (As := [.int p1, .int x7]) (rest := [.long x5]) S (wX8_ways l g p1 x7 (sX8_ways n_51 k_51 p1 x7 ho_5)) (va_cwS 2 hts gX8_chance_X8_ways rfl rfl rfl (by decide +kernel) ⟨Nat.le_of_ble_eq_true rfl, Nat.le_of_ble_eq_true rfl⟩) ⟨blindRO, fun U hU hW => ⟨rfl, by rw [hU]; exact hP.sub (ws' := []) [] rfl, hG.warm hW⟩⟩ rfl rfl hl.1 rfl (lv_room (Nat.le_of_ble_eq_true rfl)) dX8_chance_51 ⟨Nat.le_of_ble_eq_true rfl, Nat.le_of_ble_eq_true rfl⟩) (fun r_51 hr_51 => ?_)
      have hv := hv r_51 hr_51
      refine lv_iload_n hx hb dX8_chance_54 rfl (lv_at hl 1 rfl) ?_
      refine lv_i2l (v := (p2.toInt64)) hx hb dX8_chance_55 rfl ?_
      refine lv_iload hx hb dX8_chance_56 (lv_at hl 4 rfl) ?_
      obtain ⟨b_58, k_58, ho_6, hv⟩ := hv
      refine vp_callSl (W.runS (As := [.long (p2.toInt64), .int x7]) (rest := [.long r_51, .long x5]) S (wX8_power l g (p2.toInt64) x7 (sX8_power b_58 k_58 (p2.toInt64) x7 ho_6)) (va_cwS 2 hts gX8_chance_X8_power rfl rfl rfl (by decide +kernel) ⟨Nat.le_of_ble_eq_true rfl, Nat.le_of_ble_eq_true rfl⟩) ⟨blindRO, fun U hU hW => ⟨rfl, by rw [hU]; exact hP.sub (ws' := []) [] rfl, hG.warm hW⟩⟩ rfl rfl hl.1 rfl (lv_room (Nat.le_of_ble_eq_true rfl)) dX8_chance_58 ⟨Nat.le_of_ble_eq_true rfl, Nat.le_of_ble_eq_true rfl⟩) (fun r_58 hr_58 => ?_)
      have hv := hv r_58 hr_58
      refine lv_bipush (v := (10 : Int32)) hx hb dX8_chance_61 (by decide) ?_
      refine lv_iload_n hx hb dX8_chance_63 rfl (lv_at hl 1 rfl) ?_
      refine lv_isub hx hb dX8_chance_64 ?_
      refine lv_i2l (v := (((10 : Int32) - p2).toInt64)) hx hb dX8_chance_65 rfl ?_
      refine lv_iload_n hx hb dX8_chance_66 rfl (lv_at hl 0 rfl) ?_
      refine lv_iload hx hb dX8_chance_67 (lv_at hl 4 rfl) ?_
      refine lv_isub hx hb dX8_chance_69 ?_
      obtain ⟨b_70, k_70, ho_7, hv⟩ := hv
      refine vp_callSl (W.runS (As := [.long (((10 : Int32) - p2).toInt64), .int (p1 - x7)]) (rest := [.long r_58, .long r_51, .long x5]) S (wX8_power l g (((10 : Int32) - p2).toInt64) (p1 - x7) (sX8_power b_70 k_70 (((10 : Int32) - p2).toInt64) (p1 - x7) ho_7)) (va_cwS 2 hts gX8_chance_X8_power rfl rfl rfl (by decide +kernel) ⟨Nat.le_of_ble_eq_true rfl, Nat.le_of_ble_eq_true rfl⟩) ⟨blindRO, fun U hU hW => ⟨rfl, by rw [hU]; exact hP.sub (ws' := []) [] rfl, hG.warm hW⟩⟩ rfl rfl hl.1 rfl (lv_room (Nat.le_of_ble_eq_true rfl)) dX8_chance_70 ⟨Nat.le_of_ble_eq_true rfl, Nat.le_of_ble_eq_true rfl⟩) (fun r_70 hr_70 => ?_)
      have hv := hv r_70 hr_70
      refine lv_lmul hx hb dX8_chance_73 ?_
      refine lv_lmul hx hb dX8_chance_74 ?_
      refine lv_ladd hx hb dX8_chance_75 ?_
      refine lv_topl (fun y_76 ey_76 => ?_)
      have hv := hv y_76 ey_76
      refine lv_lstore (lv' := [(5, .long y_76), (1, .int p1), (2, .int p2), (4, .int p4), (7, .int x7)]) hx hb dX8_chance_76 hl (by decide) rfl (fun ls hl => ?_)
      refine lv_iinc (v := (x7 + (1 : Int32))) (lv' := [(7, .int (x7 + (1 : Int32))), (5, .long y_76), (1, .int p1), (2, .int p2), (4, .int p4)]) hx hb dX8_chance_78 hl (k := 4) rfl rfl (by decide) rfl (fun ls hl => ?_)
      refine lv_goto (tgt := 40) hx hb dX8_chance_81 (by decide) ?_
      exact ih _ _ hv ls (lv_sub hl [2, 3, 4, 1, 0] rfl)
def vX8_chance (p1 : Int32) (p2 : Int32) (p3 : Int32) (p4 : Int32) (Q : Int64 → Prop) : Prop := ((p1 < 0 → (Q (-1 : Int64))) ∧ (¬ p1 < 0 → (((18 : Int32) < p1 → (Q (-1 : Int64))) ∧ (¬ (18 : Int32) < p1 → ((p2 < 0 → (Q (-1 : Int64))) ∧ (¬ p2 < 0 → (((10 : Int32) < p2 → (Q (-1 : Int64))) ∧ (¬ (10 : Int32) < p2 → ((p3 < 0 → (Q (-1 : Int64))) ∧ (¬ p3 < 0 → ((p3 ≤ (18 : Int32) → (∃ nn, vX8_chance_c40 p1 p2 p3 p4 Q nn (0 : Int64) p3)) ∧ (¬ p3 ≤ (18 : Int32) → (Q (-1 : Int64))))))))))))))
set_option maxHeartbeats 4000000 in
set_option maxRecDepth 100000 in
theorem wX8_chance (l : Launch) (g : GP) (qX : Nat) (qP : Nat) (qI : Nat) (qt : Nat) (qd : Nat) (qe : Nat) (qsp : Nat) (qrk : Nat) (qty : Nat) (p1 : Int32) (p2 : Int32) (p3 : Int32) (p4 : Int32) {Q : Int64 → Prop} (hv : vX8_chance p1 p2 p3 p4 Q) : Met l yX8_chance wsX8_chance rmX8_chance (va_Pc [.ref qX, .int p1, .int p2, .int p3, .int p4] (fun U => va_P g.1 vwCl [(qX, .inr (8, [.ref qP, .ref qI, .ref qt, .ref qd, .ref qe, .ref qsp, .ref qrk, .ref qty]))] U.heap ∧ GK g U)) (vp_Sl Q) 0 0 (fun _ => False) := by
  refine Met.ofW (cc := cX8_chance) (maxL := 11) (ret := (some .long)) (by decide) rfl ?_
  intro p e s m args below meth c s₁ B hml hv'
  obtain ⟨rfl, hP, hG⟩ := hv'
  have S : CallFix p m c cX8_chance 11 s _ wsX8_chance RX8 := ⟨B.exec, B.bytes, hml, findClass_of_methodNamed B.named, atoms_spec (ws := wsX8_chance) B.pre⟩
  obtain ⟨hx, hb, hml, hown, hts⟩ := id S
  have hK := hG.1
  have hr := B.returns
  have hlocks := B.notSynchronized
  have hl := lv_entry ([.ref qX, .int p1, .int p2, .int p3, .int p4]) (n := 11) (Nat.le_of_ble_eq_true rfl)
  rw [lg_entry_eq]
  generalize (lg_sl ([.ref qX, .int p1, .int p2, .int p3, .int p4]) ++ List.replicate (11 - (lg_sl ([.ref qX, .int p1, .int p2, .int p3, .int p4])).length) Slot.unset).toArray = ls at hl ⊢
  have hl : lv_has ls 11 [(0, .ref qX), (1, .int p1), (2, .int p2), (3, .int p3), (4, .int p4)] := hl
  unfold vX8_chance at hv
  refine lv_iload_n hx hb dX8_chance_0 rfl (lv_at hl 1 rfl) ?_
  obtain ⟨hvt, hvf⟩ := hv
  refine lv_if_lt (tgt := 30) hx hb dX8_chance_1 (by decide) (fun hc => ?_) (fun hc => ?_)
  · have hv := hvt hc
    refine lv_ldc2 (v := (-1 : Int64)) hx hb hown (hts (.constantLong RX8 286 (-1)) (List.mem_of_getElem? (i := 1) rfl)) dX8_chance_30 ?_
    exact W.lret (v := (-1 : Int64)) hx hb hr (fun t ht hW => ⟨_, rfl, hv, ht⟩) (fun _ h => by cases h) dX8_chance_33
  · have hv := hvf hc
    refine lv_iload_n hx hb dX8_chance_4 rfl (lv_at hl 1 rfl) ?_
    refine lv_bipush (v := (18 : Int32)) hx hb dX8_chance_5 (by decide) ?_
    obtain ⟨hvt, hvf⟩ := hv
    refine lv_icmp_gt (tgt := 30) hx hb dX8_chance_7 (by decide) (fun hc => ?_) (fun hc => ?_)
    · have hv := hvt hc
      refine lv_ldc2 (v := (-1 : Int64)) hx hb hown (hts (.constantLong RX8 286 (-1)) (List.mem_of_getElem? (i := 1) rfl)) dX8_chance_30 ?_
      exact W.lret (v := (-1 : Int64)) hx hb hr (fun t ht hW => ⟨_, rfl, hv, ht⟩) (fun _ h => by cases h) dX8_chance_33
    · have hv := hvf hc
      refine lv_iload_n hx hb dX8_chance_10 rfl (lv_at hl 2 rfl) ?_
      obtain ⟨hvt, hvf⟩ := hv
      refine lv_if_lt (tgt := 30) hx hb dX8_chance_11 (by decide) (fun hc => ?_) (fun hc => ?_)
      · have hv := hvt hc
        refine lv_ldc2 (v := (-1 : Int64)) hx hb hown (hts (.constantLong RX8 286 (-1)) (List.mem_of_getElem? (i := 1) rfl)) dX8_chance_30 ?_
        exact W.lret (v := (-1 : Int64)) hx hb hr (fun t ht hW => ⟨_, rfl, hv, ht⟩) (fun _ h => by cases h) dX8_chance_33
      · have hv := hvf hc
        refine lv_iload_n hx hb dX8_chance_14 rfl (lv_at hl 2 rfl) ?_
        refine lv_bipush (v := (10 : Int32)) hx hb dX8_chance_15 (by decide) ?_
        obtain ⟨hvt, hvf⟩ := hv
        refine lv_icmp_gt (tgt := 30) hx hb dX8_chance_17 (by decide) (fun hc => ?_) (fun hc => ?_)
        · have hv := hvt hc
          refine lv_ldc2 (v := (-1 : Int64)) hx hb hown (hts (.constantLong RX8 286 (-1)) (List.mem_of_getElem? (i := 1) rfl)) dX8_chance_30 ?_
          exact W.lret (v := (-1 : Int64)) hx hb hr (fun t ht hW => ⟨_, rfl, hv, ht⟩) (fun _ h => by cases h) dX8_chance_33
        · have hv := hvf hc
          refine lv_iload_n hx hb dX8_chance_20 rfl (lv_at hl 3 rfl) ?_
          obtain ⟨hvt, hvf⟩ := hv
          refine lv_if_lt (tgt := 30) hx hb dX8_chance_21 (by decide) (fun hc => ?_) (fun hc => ?_)
          · have hv := hvt hc
            refine lv_ldc2 (v := (-1 : Int64)) hx hb hown (hts (.constantLong RX8 286 (-1)) (List.mem_of_getElem? (i := 1) rfl)) dX8_chance_30 ?_
            exact W.lret (v := (-1 : Int64)) hx hb hr (fun t ht hW => ⟨_, rfl, hv, ht⟩) (fun _ h => by cases h) dX8_chance_33
          · have hv := hvf hc
            refine lv_iload_n hx hb dX8_chance_24 rfl (lv_at hl 3 rfl) ?_
            refine lv_bipush (v := (18 : Int32)) hx hb dX8_chance_25 (by decide) ?_
            obtain ⟨hvt, hvf⟩ := hv
            refine lv_icmp_le (tgt := 34) hx hb dX8_chance_27 (by decide) (fun hc => ?_) (fun hc => ?_)
            · have hv := hvt hc
              refine lv_lconst (v := (0 : Int64)) hx hb dX8_chance_34 (by decide) ?_
              refine lv_lstore (lv' := [(5, .long (0 : Int64)), (0, .ref qX), (1, .int p1), (2, .int p2), (3, .int p3), (4, .int p4)]) hx hb dX8_chance_35 hl (by decide) rfl (fun ls hl => ?_)
              refine lv_iload_n hx hb dX8_chance_37 rfl (lv_at hl 4 rfl) ?_
              refine lv_istore (lv' := [(7, .int p3), (5, .long (0 : Int64)), (0, .ref qX), (1, .int p1), (2, .int p2), (3, .int p3), (4, .int p4)]) hx hb dX8_chance_38 hl (by decide) rfl (fun ls hl => ?_)
              obtain ⟨nn, hv⟩ := hv
              exact kX8_chance_c40 S hr hlocks hG hP nn _ _ hv ls (lv_sub hl [3, 4, 6, 1, 0] rfl)
            · have hv := hvf hc
              refine lv_ldc2 (v := (-1 : Int64)) hx hb hown (hts (.constantLong RX8 286 (-1)) (List.mem_of_getElem? (i := 1) rfl)) dX8_chance_30 ?_
              exact W.lret (v := (-1 : Int64)) hx hb hr (fun t ht hW => ⟨_, rfl, hv, ht⟩) (fun _ h => by cases h) dX8_chance_33
theorem ch_end {u w c : Nat} (hu : u ≤ 1000000000000000000) (hw : 0 < w) (hw2 : w ≤ 1000000000000000000) {x y g : Int64} (hx : x.toInt = (u : Int)) (hy : y.toInt = (w : Int)) (hg : g.toInt = ((Nat.gcd u w : Nat) : Int)) : 0 < Nat.gcd u w ∧ (x / g).toInt = ((u / Nat.gcd u w : Nat) : Int) ∧ (y / g).toInt = ((w / Nat.gcd u w : Nat) : Int) := by
  have h0 := Nat.gcd_pos_of_pos_right u hw
  exact ⟨h0, q_ldiv hx hg h0, q_ldiv hy hg h0⟩
theorem sX8_chance_40 (n p m : Nat) (p1 p2 p3 p4 : Int32) (h1 : p1.toInt = (n : Int)) (hn : n ≤ 18) (h2 : p2.toInt = (p : Int)) (hp : p ≤ 10) (Q : Int64 → Prop) (hQ : ∀ r : Int64, r.toInt = ((if p4.toInt = 0 then us n p m (n + 1) / Nat.gcd (us n p m (n + 1)) (10 ^ n) else 10 ^ n / Nat.gcd (us n p m (n + 1)) (10 ^ n) : Nat) : Int) → Q r) : ∀ (f k : Nat) (x5 : Int64) (x7 : Int32), x5.toInt = ((us n p m k : Nat) : Int) → x7.toInt = (k : Int) → m ≤ k → k ≤ 19 → 20 ≤ k + f → us n p m k ≤ 1000000000000000000 → (n + 1 ≤ k → us n p m k = us n p m (n + 1)) → vX8_chance_c40 p1 p2 p3 p4 Q f x5 x7
  | 0, k, x5, x7, _, _, _, hk, hf, _, _ => absurd hf (by omega)
  | f + 1, k, x5, x7, h5, h7, hm, hk, hf, hu, he => by
    rw [vX8_chance_c40, q_lt h1 h7]
    refine ⟨fun hc => ⟨10, n, ⟨rfl, Nat.le_refl _, h1, hn⟩, fun r hr => ?_⟩, fun hc => ⟨n, k, ⟨h1, hn, h7, by omega⟩, fun r hr => ⟨p, k, ⟨q_i2l h2, hp, h7, by omega⟩, fun r2 hr2 => ⟨10 - p, n - k, ⟨q_i2l (q_subN (a := 10) rfl h2 (by omega) (by omega)), by omega, q_subN h1 h7 (by omega) (by omega), by omega⟩, fun r3 hr3 y hy => ?_⟩⟩⟩⟩
    · have hr : r.toInt = ((10 ^ n : Nat) : Int) := hr
      have heq := he (by omega)
      rw [heq] at h5 hu
      refine ⟨us n p m (n + 1), 10 ^ n, ⟨h5, hr⟩, fun g hg => ?_⟩
      have hg : g.toInt = ((Nat.gcd (us n p m (n + 1)) (10 ^ n) : Nat) : Int) := hg
      have ce := ch_end (c := 0) hu (Nat.pow_pos (by decide)) (p10_le hn) h5 hr hg
      have z1l : (1 : Int64).toInt = 1 := rfl
      rw [lg_cmp_ge, Int64.le_iff_toInt_le, z1l, hg, q_l0 hg, fa_eq p4, z0]
      refine ⟨fun _ => ⟨fun q => ⟨by omega, hQ _ ?_⟩, fun q => ⟨by omega, hQ _ ?_⟩⟩, fun q => absurd q (by omega)⟩
      · rw [if_pos q]; exact ce.2.1
      · rw [if_neg q]; exact ce.2.2
    · have hr : r.toInt = ((vR n k : Nat) : Int) := hr
      have hr2 : r2.toInt = ((p ^ k : Nat) : Int) := hr2
      have hr3 : r3.toInt = (((10 - p) ^ (n - k) : Nat) : Int) := hr3
      have hpq := pq_le hp (show k ≤ n by omega)
      have h10 := p10_le hn
      have hnx := us_le hn hp m (k := k + 1) (by omega)
      have heq : us n p m (k + 1) = us n p m k + vR n k * (p ^ k * (10 - p) ^ (n - k)) := by rw [us, if_pos hm]
      have e1 := q_lmulN hr2 hr3 (by omega)
      have e2 := q_lmulN hr e1 (by omega)
      have e3 := q_laddN h5 e2 (by omega)
      refine sX8_chance_40 n p m p1 p2 p3 p4 h1 hn h2 hp Q hQ f (k + 1) y _ ?_ (q_1 h7 (by omega)) (by omega) (by omega) (by omega) hnx (fun z => ?_)
      · rw [hy, heq]; exact e3
      · rw [show k + 1 = n + 1 by omega]
abbrev preX8_chance (p1 : Int32) (p2 : Int32) (p3 : Int32) (p4 : Int32) : Prop := True
abbrev postX8_chance (p1 : Int32) (p2 : Int32) (p3 : Int32) (p4 : Int32) (r : Int64) : Prop := r.toInt = spChance p1.toInt p2.toInt p3.toInt p4.toInt
theorem sX8_chance (p1 : Int32) (p2 : Int32) (p3 : Int32) (p4 : Int32) (H : preX8_chance p1 p2 p3 p4) : vX8_chance p1 p2 p3 p4 (postX8_chance p1 p2 p3 p4) := by
  have no : ¬ ((0 ≤ p1.toInt ∧ p1.toInt ≤ 18) ∧ (0 ≤ p2.toInt ∧ p2.toInt ≤ 10) ∧ (0 ≤ p3.toInt ∧ p3.toInt ≤ 18)) → (-1 : Int64).toInt = spChance p1.toInt p2.toInt p3.toInt p4.toInt := fun q => by
    unfold spChance; rw [if_neg q]; rfl
  unfold vX8_chance
  rw [fa_lt p1, z0, fa_lt _ p1, z18, fa_lt p2, z0, fa_lt _ p2, z10, fa_lt p3, z0, fa_le p3, z18]
  refine ⟨fun a => no (fun q => by omega), fun a => ⟨fun b => no (fun q => by omega), fun b => ⟨fun c => no (fun q => by omega), fun c => ⟨fun d => no (fun q => by omega), fun d => ⟨fun e => no (fun q => by omega), fun e => ⟨fun g => ?_, fun g => no (fun q => by omega)⟩⟩⟩⟩⟩⟩
  have hc : (0 ≤ p1.toInt ∧ p1.toInt ≤ 18) ∧ (0 ≤ p2.toInt ∧ p2.toInt ≤ 10) ∧ (0 ≤ p3.toInt ∧ p3.toInt ≤ 18) := ⟨⟨by omega, by omega⟩, ⟨by omega, by omega⟩, by omega, by omega⟩
  refine ⟨20, sX8_chance_40 p1.toInt.toNat p2.toInt.toNat p3.toInt.toNat p1 p2 p3 p4 (by omega) (by omega) (by omega) (by omega) _ (fun r hr => ?_) 20 p3.toInt.toNat 0 p3 ?_ (by omega) (Nat.le_refl _) (by omega) (by omega) ?_ (fun z => ?_)⟩
  · show r.toInt = spChance p1.toInt p2.toInt p3.toInt p4.toInt
    unfold spChance; rw [if_pos hc]; exact hr
  · rw [us_0 _ _ _ _ (Nat.le_refl _)]; rfl
  · rw [us_0 _ _ _ _ (Nat.le_refl _)]; omega
  · rw [us_0 _ _ _ _ (Nat.le_refl _), us_0 _ _ _ _ z]
set_option maxRecDepth 20000 in
theorem ggX8_bar_X8_power : GoodIn wsX8_bar wsX8_power := goodIn_r _ [6] (by decide +kernel) (by decide +kernel)
set_option maxRecDepth 20000 in
theorem gX8_bar_X8_power : GoodIn wsX8_bar (va_wsS RX8 292 yX8_power wsX8_power) := goodIn_app (goodIn_of _ (by decide +kernel)) ggX8_bar_X8_power
set_option maxRecDepth 20000 in
theorem ggX8_bar_X8_ways : GoodIn wsX8_bar wsX8_ways := goodIn_r _ [9] (by decide +kernel) (by decide +kernel)
set_option maxRecDepth 20000 in
theorem gX8_bar_X8_ways : GoodIn wsX8_bar (va_wsS RX8 288 yX8_ways wsX8_ways) := goodIn_app (goodIn_of _ (by decide +kernel)) ggX8_bar_X8_ways
theorem dX8_bar_0 : decode cX8_bar 0 = .ok (.iload_n 1, 1) := by decide +kernel
theorem dX8_bar_1 : decode cX8_bar 1 = .ok (.iconst 1, 1) := by decide +kernel
theorem dX8_bar_2 : decode cX8_bar 2 = .ok (.if_icmp .lt 20, 3) := by decide +kernel
theorem dX8_bar_5 : decode cX8_bar 5 = .ok (.iload_n 1, 1) := by decide +kernel
theorem dX8_bar_6 : decode cX8_bar 6 = .ok (.bipush 18, 2) := by decide +kernel
theorem dX8_bar_8 : decode cX8_bar 8 = .ok (.if_icmp .gt 14, 3) := by decide +kernel
theorem dX8_bar_11 : decode cX8_bar 11 = .ok (.iload_n 2, 1) := by decide +kernel
theorem dX8_bar_12 : decode cX8_bar 12 = .ok (.ifCond .lt 10, 3) := by decide +kernel
theorem dX8_bar_15 : decode cX8_bar 15 = .ok (.iload_n 2, 1) := by decide +kernel
theorem dX8_bar_16 : decode cX8_bar 16 = .ok (.sipush 1000, 3) := by decide +kernel
theorem dX8_bar_19 : decode cX8_bar 19 = .ok (.if_icmp .le 5, 3) := by decide +kernel
theorem dX8_bar_22 : decode cX8_bar 22 = .ok (.iconst (-1), 1) := by decide +kernel
theorem dX8_bar_23 : decode cX8_bar 23 = .ok (.ireturn, 1) := by decide +kernel
theorem dX8_bar_24 : decode cX8_bar 24 = .ok (.iload_n 2, 1) := by decide +kernel
theorem dX8_bar_25 : decode cX8_bar 25 = .ok (.i2l, 1) := by decide +kernel
theorem dX8_bar_26 : decode cX8_bar 26 = .ok (.ldc2_w 302, 3) := by decide +kernel
theorem dX8_bar_29 : decode cX8_bar 29 = .ok (.iload_n 1, 1) := by decide +kernel
theorem dX8_bar_30 : decode cX8_bar 30 = .ok (.invokestatic 292, 3) := by decide +kernel
theorem dX8_bar_33 : decode cX8_bar 33 = .ok (.lmul, 1) := by decide +kernel
theorem dX8_bar_34 : decode cX8_bar 34 = .ok (.lstore_n 3, 1) := by decide +kernel
theorem dX8_bar_35 : decode cX8_bar 35 = .ok (.lconst 0, 1) := by decide +kernel
theorem dX8_bar_36 : decode cX8_bar 36 = .ok (.lstore 5, 2) := by decide +kernel
theorem dX8_bar_38 : decode cX8_bar 38 = .ok (.iload_n 1, 1) := by decide +kernel
theorem dX8_bar_39 : decode cX8_bar 39 = .ok (.iconst 1, 1) := by decide +kernel
theorem dX8_bar_40 : decode cX8_bar 40 = .ok (.iadd, 1) := by decide +kernel
theorem dX8_bar_41 : decode cX8_bar 41 = .ok (.istore 7, 2) := by decide +kernel
theorem dX8_bar_43 : decode cX8_bar 43 = .ok (.iload 7, 2) := by decide +kernel
theorem dX8_bar_45 : decode cX8_bar 45 = .ok (.ifCond .le 40, 3) := by decide +kernel
theorem dX8_bar_48 : decode cX8_bar 48 = .ok (.lload 5, 2) := by decide +kernel
theorem dX8_bar_50 : decode cX8_bar 50 = .ok (.iload_n 1, 1) := by decide +kernel
theorem dX8_bar_51 : decode cX8_bar 51 = .ok (.iload 7, 2) := by decide +kernel
theorem dX8_bar_53 : decode cX8_bar 53 = .ok (.iconst 1, 1) := by decide +kernel
theorem dX8_bar_54 : decode cX8_bar 54 = .ok (.isub, 1) := by decide +kernel
theorem dX8_bar_55 : decode cX8_bar 55 = .ok (.invokestatic 288, 3) := by decide +kernel
theorem dX8_bar_58 : decode cX8_bar 58 = .ok (.ladd, 1) := by decide +kernel
theorem dX8_bar_59 : decode cX8_bar 59 = .ok (.ldc2_w 304, 3) := by decide +kernel
theorem dX8_bar_62 : decode cX8_bar 62 = .ok (.lmul, 1) := by decide +kernel
theorem dX8_bar_63 : decode cX8_bar 63 = .ok (.lload_n 3, 1) := by decide +kernel
theorem dX8_bar_64 : decode cX8_bar 64 = .ok (.lcmp, 1) := by decide +kernel
theorem dX8_bar_65 : decode cX8_bar 65 = .ok (.ifCond .gt 20, 3) := by decide +kernel
theorem dX8_bar_68 : decode cX8_bar 68 = .ok (.iinc 7 (-1), 3) := by decide +kernel
theorem dX8_bar_71 : decode cX8_bar 71 = .ok (.lload 5, 2) := by decide +kernel
theorem dX8_bar_73 : decode cX8_bar 73 = .ok (.iload_n 1, 1) := by decide +kernel
theorem dX8_bar_74 : decode cX8_bar 74 = .ok (.iload 7, 2) := by decide +kernel
theorem dX8_bar_76 : decode cX8_bar 76 = .ok (.invokestatic 288, 3) := by decide +kernel
theorem dX8_bar_79 : decode cX8_bar 79 = .ok (.ladd, 1) := by decide +kernel
theorem dX8_bar_80 : decode cX8_bar 80 = .ok (.lstore 5, 2) := by decide +kernel
theorem dX8_bar_82 : decode cX8_bar 82 = .ok (.goto (-39), 3) := by decide +kernel
theorem dX8_bar_85 : decode cX8_bar 85 = .ok (.iload 7, 2) := by decide +kernel
theorem dX8_bar_87 : decode cX8_bar 87 = .ok (.ireturn, 1) := by decide +kernel
abbrev rmX8_bar : Room := { frames := 1, cells := 0, slots := 0, locals := 25 }
def vX8_bar_c43 (p1 : Int32) (p2 : Int32) (Q : Int32 → Prop) : Nat → Int64 → Int64 → Int32 → Prop
  | 0, _, _, _ => False
  | n + 1, x3, x5, x7 => ((x7 ≤ 0 → (Q x7)) ∧ (¬ x7 ≤ 0 → (∃ (n_55 : Nat) (k_55 : Nat), preX8_ways n_55 k_55 p1 (x7 - (1 : Int32)) ∧ (∀ r_55 : Int64, postX8_ways n_55 k_55 p1 (x7 - (1 : Int32)) r_55 → ((0 < (lg_cmp ((x5 + r_55) * (1000 : Int64)) x3) → (Q x7)) ∧ (¬ 0 < (lg_cmp ((x5 + r_55) * (1000 : Int64)) x3) → (∃ (n_76 : Nat) (k_76 : Nat), preX8_ways n_76 k_76 p1 (x7 + (-1 : Int32)) ∧ (∀ r_76 : Int64, postX8_ways n_76 k_76 p1 (x7 + (-1 : Int32)) r_76 → (vX8_bar_c43 p1 p2 Q n x3 (x5 + r_76) (x7 + (-1 : Int32)))))))))))
set_option maxHeartbeats 4000000 in
set_option maxRecDepth 100000 in
theorem kX8_bar_c43 {p : Program} {l : Launch} {e : Env} {s : State} {m : MethodId} {args : Array Value} {below : List Frame} {meth : Method} {c : Code} {g : GP} {qX : Nat} {qP : Nat} {qI : Nat} {qt : Nat} {qd : Nat} {qe : Nat} {qsp : Nat} {qrk : Nat} {qty : Nat}  {p1 : Int32} {p2 : Int32} {Q : Int32 → Prop} (S : CallFix p m c cX8_bar 8 s args wsX8_bar RX8) (hr : meth.sig.returnType = (some .int)) (hlocks : meth.locks = false) (hG : GK g s) (hP : va_P g.1 vwCl [(qX, .inr (8, [.ref qP, .ref qI, .ref qt, .ref qd, .ref qe, .ref qsp, .ref qrk, .ref qty]))] s.heap) : ∀ (n : Nat), ∀ (x3 : Int64) (x5 : Int64) (x7 : Int32), vX8_bar_c43 p1 p2 Q n x3 x5 x7 → ∀ (ls : Array Slot), lv_has ls 8 [(1, .int p1), (3, .long x3), (5, .long x5), (7, .int x7)] → W p l e (headSpec wsX8_bar rmX8_bar).room s m args below meth c s.heap [] 0 0 (MQ below (vp_Si Q) args s 0 0 (fun _ => False)) (F0 m 43 ls []) := by
  obtain ⟨hx, hb, hml, hown, hts⟩ := id S
  have hK := hG.1
  intro n
  induction n with
  | zero => intro x3 x5 x7 hv; exact hv.elim
  | succ n ih =>
    intro x3 x5 x7 hv ls hl
    refine lv_iload hx hb dX8_bar_43 (lv_at hl 3 rfl) ?_
    obtain ⟨hvt, hvf⟩ := hv
    refine lv_if_le (tgt := 85) hx hb dX8_bar_45 (by decide) (fun hc => ?_) (fun hc => ?_)
    · have hv := hvt hc
      refine lv_iload hx hb dX8_bar_85 (lv_at hl 3 rfl) ?_
      exact W.iret (v := x7) hx hb hr (fun t ht hW => ⟨_, rfl, hv, ht⟩) (fun _ h => by cases h) dX8_bar_87
    · have hv := hvf hc
      refine lv_lload hx hb dX8_bar_48 (lv_at hl 2 rfl) ?_
      refine lv_iload_n hx hb dX8_bar_50 rfl (lv_at hl 0 rfl) ?_
      refine lv_iload hx hb dX8_bar_51 (lv_at hl 3 rfl) ?_
      refine lv_iconst (v := (1 : Int32)) hx hb dX8_bar_53 (by decide) ?_
      refine lv_isub hx hb dX8_bar_54 ?_
      obtain ⟨n_55, k_55, ho_1, hv⟩ := hv
      refine vp_callSl (W.runS (As := [.int p1, .int (x7 - (1 : Int32))]) (rest := [.long x5]) S (wX8_ways l g p1 (x7 - (1 : Int32)) (sX8_ways n_55 k_55 p1 (x7 - (1 : Int32)) ho_1)) (va_cwS 2 hts gX8_bar_X8_ways rfl rfl rfl (by decide +kernel) ⟨Nat.le_of_ble_eq_true rfl, Nat.le_of_ble_eq_true rfl⟩) ⟨blindRO, fun U hU hW => ⟨rfl, by rw [hU]; exact hP.sub (ws' := []) [] rfl, hG.warm hW⟩⟩ rfl rfl hl.1 rfl (lv_room (Nat.le_of_ble_eq_true rfl)) dX8_bar_55 ⟨Nat.le_of_ble_eq_true rfl, Nat.le_of_ble_eq_true rfl⟩) (fun r_55 hr_55 => ?_)
      have hv := hv r_55 hr_55
      refine lv_ladd hx hb dX8_bar_58 ?_
      refine lv_ldc2 (v := (1000 : Int64)) hx hb hown (hts (.constantLong RX8 304 (1000)) (List.mem_of_getElem? (i := 2) rfl)) dX8_bar_59 ?_
      refine lv_lmul hx hb dX8_bar_62 ?_
      refine lv_lload_n hx hb dX8_bar_63 rfl (lv_at hl 1 rfl) ?_
      refine W.lcmp hx hb dX8_bar_64 ?_
      obtain ⟨hvt, hvf⟩ := hv
      refine lv_if_gt (tgt := 85) hx hb dX8_bar_65 (by decide) (fun hc => ?_) (fun hc => ?_)
      · have hv := hvt hc
        refine lv_iload hx hb dX8_bar_85 (lv_at hl 3 rfl) ?_
        exact W.iret (v := x7) hx hb hr (fun t ht hW => ⟨_, rfl, hv, ht⟩) (fun _ h => by cases h) dX8_bar_87
      · have hv := hvf hc
        refine lv_iinc (v := (x7 + (-1 : Int32))) (lv' := [(7, .int (x7 + (-1 : Int32))), (1, .int p1), (3, .long x3), (5, .long x5)]) hx hb dX8_bar_68 hl (k := 3) rfl rfl (by decide) rfl (fun ls hl => ?_)
        refine lv_lload hx hb dX8_bar_71 (lv_at hl 3 rfl) ?_
        refine lv_iload_n hx hb dX8_bar_73 rfl (lv_at hl 1 rfl) ?_
        refine lv_iload hx hb dX8_bar_74 (lv_at hl 0 rfl) ?_
        obtain ⟨n_76, k_76, ho_2, hv⟩ := hv
        refine vp_callSl (W.runS (As := [.int p1, .int (x7 + (-1 : Int32))]) (rest := [.long x5]) S (wX8_ways l g p1 (x7 + (-1 : Int32)) (sX8_ways n_76 k_76 p1 (x7 + (-1 : Int32)) ho_2)) (va_cwS 2 hts gX8_bar_X8_ways rfl rfl rfl (by decide +kernel) ⟨Nat.le_of_ble_eq_true rfl, Nat.le_of_ble_eq_true rfl⟩) ⟨blindRO, fun U hU hW => ⟨rfl, by rw [hU]; exact hP.sub (ws' := []) [] rfl, hG.warm hW⟩⟩ rfl rfl hl.1 rfl (lv_room (Nat.le_of_ble_eq_true rfl)) dX8_bar_76 ⟨Nat.le_of_ble_eq_true rfl, Nat.le_of_ble_eq_true rfl⟩) (fun r_76 hr_76 => ?_)
        have hv := hv r_76 hr_76
        refine lv_ladd hx hb dX8_bar_79 ?_
        refine lv_lstore (lv' := [(5, .long (x5 + r_76)), (7, .int (x7 + (-1 : Int32))), (1, .int p1), (3, .long x3)]) hx hb dX8_bar_80 hl (by decide) rfl (fun ls hl => ?_)
        refine lv_goto (tgt := 43) hx hb dX8_bar_82 (by decide) ?_
        exact ih _ _ _ hv ls (lv_sub hl [2, 3, 0, 1] rfl)
def vX8_bar (p1 : Int32) (p2 : Int32) (Q : Int32 → Prop) : Prop := ((p1 < (1 : Int32) → (Q (-1 : Int32))) ∧ (¬ p1 < (1 : Int32) → (((18 : Int32) < p1 → (Q (-1 : Int32))) ∧ (¬ (18 : Int32) < p1 → ((p2 < 0 → (Q (-1 : Int32))) ∧ (¬ p2 < 0 → ((p2 ≤ (1000 : Int32) → (∃ (b_30 : Nat) (k_30 : Nat), preX8_power b_30 k_30 (2 : Int64) p1 ∧ (∀ r_30 : Int64, postX8_power b_30 k_30 (2 : Int64) p1 r_30 → (∃ nn, vX8_bar_c43 p1 p2 Q nn ((p2.toInt64) * r_30) (0 : Int64) (p1 + (1 : Int32)))))) ∧ (¬ p2 ≤ (1000 : Int32) → (Q (-1 : Int32))))))))))
set_option maxHeartbeats 4000000 in
set_option maxRecDepth 100000 in
theorem wX8_bar (l : Launch) (g : GP) (qX : Nat) (qP : Nat) (qI : Nat) (qt : Nat) (qd : Nat) (qe : Nat) (qsp : Nat) (qrk : Nat) (qty : Nat) (p1 : Int32) (p2 : Int32) {Q : Int32 → Prop} (hv : vX8_bar p1 p2 Q) : Met l yX8_bar wsX8_bar rmX8_bar (va_Pc [.ref qX, .int p1, .int p2] (fun U => va_P g.1 vwCl [(qX, .inr (8, [.ref qP, .ref qI, .ref qt, .ref qd, .ref qe, .ref qsp, .ref qrk, .ref qty]))] U.heap ∧ GK g U)) (vp_Si Q) 0 0 (fun _ => False) := by
  refine Met.ofW (cc := cX8_bar) (maxL := 8) (ret := (some .int)) (by decide) rfl ?_
  intro p e s m args below meth c s₁ B hml hv'
  obtain ⟨rfl, hP, hG⟩ := hv'
  have S : CallFix p m c cX8_bar 8 s _ wsX8_bar RX8 := ⟨B.exec, B.bytes, hml, findClass_of_methodNamed B.named, atoms_spec (ws := wsX8_bar) B.pre⟩
  obtain ⟨hx, hb, hml, hown, hts⟩ := id S
  have hK := hG.1
  have hr := B.returns
  have hlocks := B.notSynchronized
  have hl := lv_entry ([.ref qX, .int p1, .int p2]) (n := 8) (Nat.le_of_ble_eq_true rfl)
  rw [lg_entry_eq]
  generalize (lg_sl ([.ref qX, .int p1, .int p2]) ++ List.replicate (8 - (lg_sl ([.ref qX, .int p1, .int p2])).length) Slot.unset).toArray = ls at hl ⊢
  have hl : lv_has ls 8 [(0, .ref qX), (1, .int p1), (2, .int p2)] := hl
  unfold vX8_bar at hv
  refine lv_iload_n hx hb dX8_bar_0 rfl (lv_at hl 1 rfl) ?_
  refine lv_iconst (v := (1 : Int32)) hx hb dX8_bar_1 (by decide) ?_
  obtain ⟨hvt, hvf⟩ := hv
  refine lv_icmp_lt (tgt := 22) hx hb dX8_bar_2 (by decide) (fun hc => ?_) (fun hc => ?_)
  · have hv := hvt hc
    refine lv_iconst (v := (-1 : Int32)) hx hb dX8_bar_22 (by decide) ?_
    exact W.iret (v := (-1 : Int32)) hx hb hr (fun t ht hW => ⟨_, rfl, hv, ht⟩) (fun _ h => by cases h) dX8_bar_23
  · have hv := hvf hc
    refine lv_iload_n hx hb dX8_bar_5 rfl (lv_at hl 1 rfl) ?_
    refine lv_bipush (v := (18 : Int32)) hx hb dX8_bar_6 (by decide) ?_
    obtain ⟨hvt, hvf⟩ := hv
    refine lv_icmp_gt (tgt := 22) hx hb dX8_bar_8 (by decide) (fun hc => ?_) (fun hc => ?_)
    · have hv := hvt hc
      refine lv_iconst (v := (-1 : Int32)) hx hb dX8_bar_22 (by decide) ?_
      exact W.iret (v := (-1 : Int32)) hx hb hr (fun t ht hW => ⟨_, rfl, hv, ht⟩) (fun _ h => by cases h) dX8_bar_23
    · have hv := hvf hc
      refine lv_iload_n hx hb dX8_bar_11 rfl (lv_at hl 2 rfl) ?_
      obtain ⟨hvt, hvf⟩ := hv
      refine lv_if_lt (tgt := 22) hx hb dX8_bar_12 (by decide) (fun hc => ?_) (fun hc => ?_)
      · have hv := hvt hc
        refine lv_iconst (v := (-1 : Int32)) hx hb dX8_bar_22 (by decide) ?_
        exact W.iret (v := (-1 : Int32)) hx hb hr (fun t ht hW => ⟨_, rfl, hv, ht⟩) (fun _ h => by cases h) dX8_bar_23
      · have hv := hvf hc
        refine lv_iload_n hx hb dX8_bar_15 rfl (lv_at hl 2 rfl) ?_
        refine lv_sipush (v := (1000 : Int32)) hx hb dX8_bar_16 (by decide) ?_
        obtain ⟨hvt, hvf⟩ := hv
        refine lv_icmp_le (tgt := 24) hx hb dX8_bar_19 (by decide) (fun hc => ?_) (fun hc => ?_)
        · have hv := hvt hc
          refine lv_iload_n hx hb dX8_bar_24 rfl (lv_at hl 2 rfl) ?_
          refine lv_i2l (v := (p2.toInt64)) hx hb dX8_bar_25 rfl ?_
          refine lv_ldc2 (v := (2 : Int64)) hx hb hown (hts (.constantLong RX8 302 (2)) (List.mem_of_getElem? (i := 1) rfl)) dX8_bar_26 ?_
          refine lv_iload_n hx hb dX8_bar_29 rfl (lv_at hl 1 rfl) ?_
          obtain ⟨b_30, k_30, ho_1, hv⟩ := hv
          refine vp_callSl (W.runS (As := [.long (2 : Int64), .int p1]) (rest := [.long (p2.toInt64)]) S (wX8_power l g (2 : Int64) p1 (sX8_power b_30 k_30 (2 : Int64) p1 ho_1)) (va_cwS 2 hts gX8_bar_X8_power rfl rfl rfl (by decide +kernel) ⟨Nat.le_of_ble_eq_true rfl, Nat.le_of_ble_eq_true rfl⟩) ⟨blindRO, fun U hU hW => ⟨rfl, by rw [hU]; exact hP.sub (ws' := []) [] rfl, hG.warm hW⟩⟩ rfl rfl hl.1 rfl (lv_room (Nat.le_of_ble_eq_true rfl)) dX8_bar_30 ⟨Nat.le_of_ble_eq_true rfl, Nat.le_of_ble_eq_true rfl⟩) (fun r_30 hr_30 => ?_)
          have hv := hv r_30 hr_30
          refine lv_lmul hx hb dX8_bar_33 ?_
          refine lv_lstore_n (lv' := [(3, .long ((p2.toInt64) * r_30)), (0, .ref qX), (1, .int p1), (2, .int p2)]) hx hb dX8_bar_34 rfl hl (by decide) rfl (fun ls hl => ?_)
          refine lv_lconst (v := (0 : Int64)) hx hb dX8_bar_35 (by decide) ?_
          refine lv_lstore (lv' := [(5, .long (0 : Int64)), (3, .long ((p2.toInt64) * r_30)), (0, .ref qX), (1, .int p1), (2, .int p2)]) hx hb dX8_bar_36 hl (by decide) rfl (fun ls hl => ?_)
          refine lv_iload_n hx hb dX8_bar_38 rfl (lv_at hl 3 rfl) ?_
          refine lv_iconst (v := (1 : Int32)) hx hb dX8_bar_39 (by decide) ?_
          refine lv_iadd hx hb dX8_bar_40 ?_
          refine lv_istore (lv' := [(7, .int (p1 + (1 : Int32))), (5, .long (0 : Int64)), (3, .long ((p2.toInt64) * r_30)), (0, .ref qX), (1, .int p1), (2, .int p2)]) hx hb dX8_bar_41 hl (by decide) rfl (fun ls hl => ?_)
          obtain ⟨nn, hv⟩ := hv
          exact kX8_bar_c43 S hr hlocks hG hP nn _ _ _ hv ls (lv_sub hl [4, 2, 1, 0] rfl)
        · have hv := hvf hc
          refine lv_iconst (v := (-1 : Int32)) hx hb dX8_bar_22 (by decide) ?_
          exact W.iret (v := (-1 : Int32)) hx hb hr (fun t ht hW => ⟨_, rfl, hv, ht⟩) (fun _ h => by cases h) dX8_bar_23
theorem sX8_bar_43 (n q : Nat) (p1 p2 : Int32) (h1 : p1.toInt = (n : Int)) (hn : n ≤ 18) (hq : q ≤ 1000) (Q : Int32 → Prop) (hQ : ∀ r : Int32, r.toInt = ((n + 1 - fa_first (baB n q) (n + 1) : Nat) : Int) → Q r) (x3 : Int64) (h3 : x3.toInt = ((q * 2 ^ n : Nat) : Int)) : ∀ (f j : Nat) (x5 : Int64) (x7 : Int32), x5.toInt = ((tpW n j : Nat) : Int) → x7.toInt = ((n + 1 - j : Nat) : Int) → (∀ i, i < j → baB n q i = false) → j ≤ n + 1 → n + 2 ≤ j + f → vX8_bar_c43 p1 p2 Q f x3 x5 x7
  | 0, j, x5, x7, _, _, _, hj, hf => absurd hf (by omega)
  | f + 1, j, x5, x7, h5, h7, hb, hj, hf => by
    have htl := tpW_le hn j hj
    rw [vX8_bar_c43, fa_le x7, z0, h7]
    refine ⟨fun hc => ?_, fun hc => ?_⟩
    · have : j = n + 1 := by omega
      subst this
      refine hQ _ ?_
      rw [ff_none hb]; exact h7
    · have h71 : (x7 - (1 : Int32)).toInt = ((n - j : Nat) : Int) := by rw [q_sub h7 z1 (by omega) (by omega)]; omega
      have h72 : (x7 + (-1 : Int32)).toInt = ((n - j : Nat) : Int) := by rw [q_add h7 zm1 (by omega) (by omega)]; omega
      have hv := vR_le n (by omega) (n - j) (by omega)
      refine ⟨n, n - j, ⟨h1, hn, h71, by omega⟩, fun r hr => ?_⟩
      have hr : r.toInt = ((vR n (n - j) : Nat) : Int) := hr
      have e1 := q_laddN h5 hr (by omega)
      have e2 := q_lmulN (b := 1000) e1 rfl (by omega)
      have htp : tpW n (j + 1) = tpW n j + vR n (n - j) := rfl
      rw [lg_cmp_gt, Int64.lt_iff_toInt_lt, h3, e2]
      refine ⟨fun hz => hQ _ ?_, fun hz => ⟨n, n - j, ⟨h1, hn, h72, by omega⟩, fun r2 hr2 => ?_⟩⟩
      · rw [ff_eq (k := j) (by omega) (decide_eq_true (by rw [htp]; omega)) hb]; exact h7
      · have hr2 : r2.toInt = ((vR n (n - j) : Nat) : Int) := hr2
        have e3 := q_laddN h5 hr2 (by omega)
        refine sX8_bar_43 n q p1 p2 h1 hn hq Q hQ x3 h3 f (j + 1) _ _ (by rw [htp]; exact e3) (by rw [h72]; omega) (fun i hi => ?_) (by omega) (by omega)
        by_cases e : i = j
        · subst e; exact decide_eq_false (fun z => z (by rw [htp]; omega))
        · exact hb i (by omega)
abbrev preX8_bar (p1 : Int32) (p2 : Int32) : Prop := True
abbrev postX8_bar (p1 : Int32) (p2 : Int32) (r : Int32) : Prop := r.toInt = spBar p1.toInt p2.toInt
theorem sX8_bar (p1 : Int32) (p2 : Int32) (H : preX8_bar p1 p2) : vX8_bar p1 p2 (postX8_bar p1 p2) := by
  have no : ¬ ((1 ≤ p1.toInt ∧ p1.toInt ≤ 18) ∧ (0 ≤ p2.toInt ∧ p2.toInt ≤ 1000)) → (-1 : Int32).toInt = spBar p1.toInt p2.toInt := fun q => by
    unfold spBar; rw [if_neg q]; rfl
  unfold vX8_bar
  rw [fa_lt p1, z1, fa_lt _ p1, z18, fa_lt p2, z0, fa_le p2, z1000]
  refine ⟨fun a => no (fun q => by omega), fun a => ⟨fun b => no (fun q => by omega), fun b => ⟨fun c => no (fun q => by omega), fun c => ⟨fun d => ?_, fun d => no (fun q => by omega)⟩⟩⟩⟩
  have hc : (1 ≤ p1.toInt ∧ p1.toInt ≤ 18) ∧ (0 ≤ p2.toInt ∧ p2.toInt ≤ 1000) := ⟨⟨by omega, by omega⟩, by omega, by omega⟩
  have e1 : p1.toInt = (p1.toInt.toNat : Int) := by omega
  have e2 : p2.toInt = (p2.toInt.toNat : Int) := by omega
  refine ⟨2, p1.toInt.toNat, ⟨rfl, by omega, e1, by omega⟩, fun r hr => ?_⟩
  have hr : r.toInt = ((2 ^ p1.toInt.toNat : Nat) : Int) := hr
  have hp2 : 2 ^ p1.toInt.toNat ≤ 262144 := Nat.pow_le_pow_right (n := 2) (by decide) (show p1.toInt.toNat ≤ 18 by omega)
  have hm : p2.toInt.toNat * 2 ^ p1.toInt.toNat ≤ 1000 * 262144 := Nat.mul_le_mul (by omega) hp2
  refine ⟨p1.toInt.toNat + 2, sX8_bar_43 p1.toInt.toNat p2.toInt.toNat p1 p2 e1 (by omega) (by omega) _ (fun r2 hr2 => ?_) _ (q_lmulN (q_i2l e2) hr (by omega)) _ 0 0 _ rfl (by rw [q_1 e1 (by omega)]; omega) (fun i hi => absurd hi (by omega)) (by omega) (by omega)⟩
  have hfl := fa_first_le (baB p1.toInt.toNat p2.toInt.toNat) (p1.toInt.toNat + 1)
  show r2.toInt = spBar p1.toInt p2.toInt
  unfold spBar
  rw [if_pos hc, hr2]; omega
theorem dX9_upper_0 : decode cX9_upper 0 = .ok (.lconst 0, 1) := by decide +kernel
theorem dX9_upper_1 : decode cX9_upper 1 = .ok (.lstore 4, 2) := by decide +kernel
theorem dX9_upper_3 : decode cX9_upper 3 = .ok (.aload_n 0, 1) := by decide +kernel
theorem dX9_upper_4 : decode cX9_upper 4 = .ok (.lconst 1, 1) := by decide +kernel
theorem dX9_upper_5 : decode cX9_upper 5 = .ok (.putfield 315, 3) := by decide +kernel
theorem dX9_upper_8 : decode cX9_upper 8 = .ok (.iconst 0, 1) := by decide +kernel
theorem dX9_upper_9 : decode cX9_upper 9 = .ok (.istore 6, 2) := by decide +kernel
theorem dX9_upper_11 : decode cX9_upper 11 = .ok (.iload 6, 2) := by decide +kernel
theorem dX9_upper_13 : decode cX9_upper 13 = .ok (.iload_n 1, 1) := by decide +kernel
theorem dX9_upper_14 : decode cX9_upper 14 = .ok (.if_icmp .ge 21, 3) := by decide +kernel
theorem dX9_upper_17 : decode cX9_upper 17 = .ok (.aload_n 0, 1) := by decide +kernel
theorem dX9_upper_18 : decode cX9_upper 18 = .ok (.dup, 1) := by decide +kernel
theorem dX9_upper_19 : decode cX9_upper 19 = .ok (.getfield 315, 3) := by decide +kernel
theorem dX9_upper_22 : decode cX9_upper 22 = .ok (.ldc2_w 318, 3) := by decide +kernel
theorem dX9_upper_25 : decode cX9_upper 25 = .ok (.lmul, 1) := by decide +kernel
theorem dX9_upper_26 : decode cX9_upper 26 = .ok (.putfield 315, 3) := by decide +kernel
theorem dX9_upper_29 : decode cX9_upper 29 = .ok (.iinc 6 1, 3) := by decide +kernel
theorem dX9_upper_32 : decode cX9_upper 32 = .ok (.goto (-21), 3) := by decide +kernel
theorem dX9_upper_35 : decode cX9_upper 35 = .ok (.lconst 1, 1) := by decide +kernel
theorem dX9_upper_36 : decode cX9_upper 36 = .ok (.lstore 6, 2) := by decide +kernel
theorem dX9_upper_38 : decode cX9_upper 38 = .ok (.iconst 0, 1) := by decide +kernel
theorem dX9_upper_39 : decode cX9_upper 39 = .ok (.istore 8, 2) := by decide +kernel
theorem dX9_upper_41 : decode cX9_upper 41 = .ok (.iload 8, 2) := by decide +kernel
theorem dX9_upper_43 : decode cX9_upper 43 = .ok (.iload_n 1, 1) := by decide +kernel
theorem dX9_upper_44 : decode cX9_upper 44 = .ok (.if_icmp .gt 83, 3) := by decide +kernel
theorem dX9_upper_47 : decode cX9_upper 47 = .ok (.lload 6, 2) := by decide +kernel
theorem dX9_upper_49 : decode cX9_upper 49 = .ok (.lstore 9, 2) := by decide +kernel
theorem dX9_upper_51 : decode cX9_upper 51 = .ok (.iconst 0, 1) := by decide +kernel
theorem dX9_upper_52 : decode cX9_upper 52 = .ok (.istore 11, 2) := by decide +kernel
theorem dX9_upper_54 : decode cX9_upper 54 = .ok (.iload 11, 2) := by decide +kernel
theorem dX9_upper_56 : decode cX9_upper 56 = .ok (.iload_n 1, 1) := by decide +kernel
theorem dX9_upper_57 : decode cX9_upper 57 = .ok (.if_icmp .ge 31, 3) := by decide +kernel
theorem dX9_upper_60 : decode cX9_upper 60 = .ok (.lload 9, 2) := by decide +kernel
theorem dX9_upper_62 : decode cX9_upper 62 = .ok (.iload 11, 2) := by decide +kernel
theorem dX9_upper_64 : decode cX9_upper 64 = .ok (.iload 8, 2) := by decide +kernel
theorem dX9_upper_66 : decode cX9_upper 66 = .ok (.if_icmp .ge 8, 3) := by decide +kernel
theorem dX9_upper_69 : decode cX9_upper 69 = .ok (.iload_n 2, 1) := by decide +kernel
theorem dX9_upper_70 : decode cX9_upper 70 = .ok (.i2l, 1) := by decide +kernel
theorem dX9_upper_71 : decode cX9_upper 71 = .ok (.goto 8, 3) := by decide +kernel
theorem dX9_upper_74 : decode cX9_upper 74 = .ok (.bipush 10, 2) := by decide +kernel
theorem dX9_upper_76 : decode cX9_upper 76 = .ok (.iload_n 2, 1) := by decide +kernel
theorem dX9_upper_77 : decode cX9_upper 77 = .ok (.isub, 1) := by decide +kernel
theorem dX9_upper_78 : decode cX9_upper 78 = .ok (.i2l, 1) := by decide +kernel
theorem dX9_upper_79 : decode cX9_upper 79 = .ok (.lmul, 1) := by decide +kernel
theorem dX9_upper_80 : decode cX9_upper 80 = .ok (.lstore 9, 2) := by decide +kernel
theorem dX9_upper_82 : decode cX9_upper 82 = .ok (.iinc 11 1, 3) := by decide +kernel
theorem dX9_upper_85 : decode cX9_upper 85 = .ok (.goto (-31), 3) := by decide +kernel
theorem dX9_upper_88 : decode cX9_upper 88 = .ok (.lload 4, 2) := by decide +kernel
theorem dX9_upper_90 : decode cX9_upper 90 = .ok (.iload 8, 2) := by decide +kernel
theorem dX9_upper_92 : decode cX9_upper 92 = .ok (.iload_n 3, 1) := by decide +kernel
theorem dX9_upper_93 : decode cX9_upper 93 = .ok (.if_icmp .lt 8, 3) := by decide +kernel
theorem dX9_upper_96 : decode cX9_upper 96 = .ok (.lload 9, 2) := by decide +kernel
theorem dX9_upper_98 : decode cX9_upper 98 = .ok (.goto 4, 3) := by decide +kernel
theorem dX9_upper_101 : decode cX9_upper 101 = .ok (.lconst 0, 1) := by decide +kernel
theorem dX9_upper_102 : decode cX9_upper 102 = .ok (.ladd, 1) := by decide +kernel
theorem dX9_upper_103 : decode cX9_upper 103 = .ok (.lstore 4, 2) := by decide +kernel
theorem dX9_upper_105 : decode cX9_upper 105 = .ok (.lload 6, 2) := by decide +kernel
theorem dX9_upper_107 : decode cX9_upper 107 = .ok (.iload_n 1, 1) := by decide +kernel
theorem dX9_upper_108 : decode cX9_upper 108 = .ok (.iload 8, 2) := by decide +kernel
theorem dX9_upper_110 : decode cX9_upper 110 = .ok (.isub, 1) := by decide +kernel
theorem dX9_upper_111 : decode cX9_upper 111 = .ok (.i2l, 1) := by decide +kernel
theorem dX9_upper_112 : decode cX9_upper 112 = .ok (.lmul, 1) := by decide +kernel
theorem dX9_upper_113 : decode cX9_upper 113 = .ok (.iload 8, 2) := by decide +kernel
theorem dX9_upper_115 : decode cX9_upper 115 = .ok (.iconst 1, 1) := by decide +kernel
theorem dX9_upper_116 : decode cX9_upper 116 = .ok (.iadd, 1) := by decide +kernel
theorem dX9_upper_117 : decode cX9_upper 117 = .ok (.i2l, 1) := by decide +kernel
theorem dX9_upper_118 : decode cX9_upper 118 = .ok (.ldiv, 1) := by decide +kernel
theorem dX9_upper_119 : decode cX9_upper 119 = .ok (.lstore 6, 2) := by decide +kernel
theorem dX9_upper_121 : decode cX9_upper 121 = .ok (.iinc 8 1, 3) := by decide +kernel
theorem dX9_upper_124 : decode cX9_upper 124 = .ok (.goto (-83), 3) := by decide +kernel
theorem dX9_upper_127 : decode cX9_upper 127 = .ok (.lload 4, 2) := by decide +kernel
theorem dX9_upper_129 : decode cX9_upper 129 = .ok (.lreturn, 1) := by decide +kernel
abbrev rmX9_upper : Room := { frames := 0, cells := 0, slots := 0, locals := 0 }
theorem inX9_upper_9 : ∀ w ∈ wsX90, w ∈ wsX9_upper := by decide +kernel
def vX9_upper_c102 (F : Nat → Int32) (p1 : Int32) (p2 : Int32) (p3 : Int32) (Q : Int64 → (Nat → Int64) → Prop) (K41 : Int64 → Int64 → Int32 → (Nat → Int64) → Prop) (x6 : Int64) (x8 : Int32) (s0 : Int64) (s1 : Int64) (J : Nat → Int64) : Prop := (¬ ((x8 + (1 : Int32)).toInt64) = 0 ∧ (∀ y_119 : Int64, y_119 = ((x6 * ((p1 - x8).toInt64)) / ((x8 + (1 : Int32)).toInt64)) → (K41 (s1 + s0) y_119 (x8 + (1 : Int32)) J)))
set_option maxHeartbeats 4000000 in
set_option maxRecDepth 100000 in
theorem kX9_upper_c102 {p : Program} {l : Launch} {e : Env} {s : State} {m : MethodId} {args : Array Value} {below : List Frame} {meth : Method} {c : Code} {g : GP} {qM : Nat} {q1 : Nat} {q2 : Nat} {q3 : Nat} {q4 : Nat} {q5 : Nat} {q6 : Nat} {q7 : Nat} {q8 : Nat} {q9 : Nat} {q10 : Nat} {q11 : Nat} {F : Nat → Int32} {p1 : Int32} {p2 : Int32} {p3 : Int32} {Q : Int64 → (Nat → Int64) → Prop} {A : Nat → Prop} {K41 : Int64 → Int64 → Int32 → (Nat → Int64) → Prop} (S : CallFix p m c cX9_upper 12 s args wsX9_upper RX9) (hr : meth.sig.returnType = (some .long)) (hlocks : meth.locks = false) (hG : GK g s) (hA : ∀ q : Nat, s.heap.size ≤ q → A q) (kk41 : ∀ (x4 : Int64) (x6 : Int64) (x8 : Int32) (J : Nat → Int64), K41 x4 x6 x8 J → ∀ (H : Heap) (locs : List Loc), va_P g.1 vwCl [(qM, .inr (9, [.int (F 0), .ref q1, .ref q2, .ref q3, .int (F 4), .int (F 5), .int (F 6), .int (F 7), .int (F 8), .int (F 9), .long (J 10), .int (F 11), .int (F 12), .int (F 13), .ref q4, .int (F 15), .ref q5, .ref q6, .ref q7, .int (F 19), .ref q8, .int (F 21), .int (F 22), .int (F 23), .int (F 24), .ref q9, .ref q10, .ref q11, .long (J 28)]))] H → va_D A [(qM, .inr (9, [.int (F 0), .ref q1, .ref q2, .ref q3, .int (F 4), .int (F 5), .int (F 6), .int (F 7), .int (F 8), .int (F 9), .long (J 10), .int (F 11), .int (F 12), .int (F 13), .ref q4, .int (F 15), .ref q5, .ref q6, .ref q7, .int (F 19), .ref q8, .int (F 21), .int (F 22), .int (F 23), .int (F 24), .ref q9, .ref q10, .ref q11, .long (J 28)]))] → va_S A s.heap H locs → ∀ (ls : Array Slot), lv_has ls 12 [(1, .int p1), (2, .int p2), (3, .int p3), (4, .long x4), (6, .long x6), (8, .int x8)] → W p l e (headSpec wsX9_upper rmX9_upper).room s m args below meth c H locs 0 0 (MQ below (va_Ql (fun (r : Int64) (u : (Nat → Int64)) => Q r u) (fun (u : (Nat → Int64)) t => va_P g.1 vwCl [(qM, .inr (9, [.int (F 0), .ref q1, .ref q2, .ref q3, .int (F 4), .int (F 5), .int (F 6), .int (F 7), .int (F 8), .int (F 9), .long (u 10), .int (F 11), .int (F 12), .int (F 13), .ref q4, .int (F 15), .ref q5, .ref q6, .ref q7, .int (F 19), .ref q8, .int (F 21), .int (F 22), .int (F 23), .int (F 24), .ref q9, .ref q10, .ref q11, .long (u 28)]))] t.heap ∧ va_D A [(qM, .inr (9, [.int (F 0), .ref q1, .ref q2, .ref q3, .int (F 4), .int (F 5), .int (F 6), .int (F 7), .int (F 8), .int (F 9), .long (u 10), .int (F 11), .int (F 12), .int (F 13), .ref q4, .int (F 15), .ref q5, .ref q6, .ref q7, .int (F 19), .ref q8, .int (F 21), .int (F 22), .int (F 23), .int (F 24), .ref q9, .ref q10, .ref q11, .long (u 28)]))]) A) args s 0 0 A) (F0 m 41 ls [])) : ∀ (x6 : Int64) (x8 : Int32) (s0 : Int64) (s1 : Int64) (J : Nat → Int64), vX9_upper_c102 F p1 p2 p3 Q K41 x6 x8 s0 s1 J → ∀ (H : Heap) (locs : List Loc), va_P g.1 vwCl [(qM, .inr (9, [.int (F 0), .ref q1, .ref q2, .ref q3, .int (F 4), .int (F 5), .int (F 6), .int (F 7), .int (F 8), .int (F 9), .long (J 10), .int (F 11), .int (F 12), .int (F 13), .ref q4, .int (F 15), .ref q5, .ref q6, .ref q7, .int (F 19), .ref q8, .int (F 21), .int (F 22), .int (F 23), .int (F 24), .ref q9, .ref q10, .ref q11, .long (J 28)]))] H → va_D A [(qM, .inr (9, [.int (F 0), .ref q1, .ref q2, .ref q3, .int (F 4), .int (F 5), .int (F 6), .int (F 7), .int (F 8), .int (F 9), .long (J 10), .int (F 11), .int (F 12), .int (F 13), .ref q4, .int (F 15), .ref q5, .ref q6, .ref q7, .int (F 19), .ref q8, .int (F 21), .int (F 22), .int (F 23), .int (F 24), .ref q9, .ref q10, .ref q11, .long (J 28)]))] → va_S A s.heap H locs → ∀ (ls : Array Slot), lv_has ls 12 [(1, .int p1), (2, .int p2), (3, .int p3), (6, .long x6), (8, .int x8)] → W p l e (headSpec wsX9_upper rmX9_upper).room s m args below meth c H locs 0 0 (MQ below (va_Ql (fun (r : Int64) (u : (Nat → Int64)) => Q r u) (fun (u : (Nat → Int64)) t => va_P g.1 vwCl [(qM, .inr (9, [.int (F 0), .ref q1, .ref q2, .ref q3, .int (F 4), .int (F 5), .int (F 6), .int (F 7), .int (F 8), .int (F 9), .long (u 10), .int (F 11), .int (F 12), .int (F 13), .ref q4, .int (F 15), .ref q5, .ref q6, .ref q7, .int (F 19), .ref q8, .int (F 21), .int (F 22), .int (F 23), .int (F 24), .ref q9, .ref q10, .ref q11, .long (u 28)]))] t.heap ∧ va_D A [(qM, .inr (9, [.int (F 0), .ref q1, .ref q2, .ref q3, .int (F 4), .int (F 5), .int (F 6), .int (F 7), .int (F 8), .int (F 9), .long (u 10), .int (F 11), .int (F 12), .int (F 13), .ref q4, .int (F 15), .ref q5, .ref q6, .ref q7, .int (F 19), .ref q8, .int (F 21), .int (F 22), .int (F 23), .int (F 24), .ref q9, .ref q10, .ref q11, .long (u 28)]))]) A) args s 0 0 A) (F0 m 102 ls [.long s0, .long s1]) := by
  obtain ⟨hx, hb, hml, hown, hts⟩ := id S
  have hK := hG.1
  intro x6 x8 s0 s1 J hv H locs hP hD hS ls hl
  unfold vX9_upper_c102 at hv
  refine lv_ladd hx hb dX9_upper_102 ?_
  refine lv_lstore (lv' := [(4, .long (s1 + s0)), (1, .int p1), (2, .int p2), (3, .int p3), (6, .long x6), (8, .int x8)]) hx hb dX9_upper_103 hl (by decide) rfl (fun ls hl => ?_)
  refine lv_lload hx hb dX9_upper_105 (lv_at hl 4 rfl) ?_
  refine lv_iload_n hx hb dX9_upper_107 rfl (lv_at hl 1 rfl) ?_
  refine lv_iload hx hb dX9_upper_108 (lv_at hl 5 rfl) ?_
  refine lv_isub hx hb dX9_upper_110 ?_
  refine lv_i2l (v := ((p1 - x8).toInt64)) hx hb dX9_upper_111 rfl ?_
  refine lv_lmul hx hb dX9_upper_112 ?_
  refine lv_iload hx hb dX9_upper_113 (lv_at hl 5 rfl) ?_
  refine lv_iconst (v := (1 : Int32)) hx hb dX9_upper_115 (by decide) ?_
  refine lv_iadd hx hb dX9_upper_116 ?_
  refine lv_i2l (v := ((x8 + (1 : Int32)).toInt64)) hx hb dX9_upper_117 rfl ?_
  obtain ⟨ho_1, hv⟩ := hv
  refine lv_ldiv hx hb dX9_upper_118 ho_1 ?_
  refine lv_topl (fun y_119 ey_119 => ?_)
  have hv := hv y_119 ey_119
  refine lv_lstore (lv' := [(6, .long y_119), (4, .long (s1 + s0)), (1, .int p1), (2, .int p2), (3, .int p3), (8, .int x8)]) hx hb dX9_upper_119 hl (by decide) rfl (fun ls hl => ?_)
  refine lv_iinc (v := (x8 + (1 : Int32))) (lv' := [(8, .int (x8 + (1 : Int32))), (6, .long y_119), (4, .long (s1 + s0)), (1, .int p1), (2, .int p2), (3, .int p3)]) hx hb dX9_upper_121 hl (k := 5) rfl rfl (by decide) rfl (fun ls hl => ?_)
  refine lv_goto (tgt := 41) hx hb dX9_upper_124 (by decide) ?_
  exact kk41 _ _ _ _ hv _ _ (hP.sub (ws' := [(qM, .inr (9, [.int (F 0), .ref q1, .ref q2, .ref q3, .int (F 4), .int (F 5), .int (F 6), .int (F 7), .int (F 8), .int (F 9), .long (J 10), .int (F 11), .int (F 12), .int (F 13), .ref q4, .int (F 15), .ref q5, .ref q6, .ref q7, .int (F 19), .ref q8, .int (F 21), .int (F 22), .int (F 23), .int (F 24), .ref q9, .ref q10, .ref q11, .long (J 28)]))]) [0] rfl) (hD.sub (ws' := [(qM, .inr (9, [.int (F 0), .ref q1, .ref q2, .ref q3, .int (F 4), .int (F 5), .int (F 6), .int (F 7), .int (F 8), .int (F 9), .long (J 10), .int (F 11), .int (F 12), .int (F 13), .ref q4, .int (F 15), .ref q5, .ref q6, .ref q7, .int (F 19), .ref q8, .int (F 21), .int (F 22), .int (F 23), .int (F 24), .ref q9, .ref q10, .ref q11, .long (J 28)]))]) [0] (by decide) rfl) hS ls (lv_sub hl [3, 4, 5, 2, 1, 0] rfl)
def vX9_upper_c54 (F : Nat → Int32) (p1 : Int32) (p2 : Int32) (p3 : Int32) (Q : Int64 → (Nat → Int64) → Prop) (K41 : Int64 → Int64 → Int32 → (Nat → Int64) → Prop) : Nat → Int64 → Int64 → Int32 → Int64 → Int32 → (Nat → Int64) → Prop
  | 0, _, _, _, _, _, _ => False
  | n + 1, x4, x6, x8, x9, x11, J => ((p1 ≤ x11 → ((x8 < p3 → (vX9_upper_c102 F p1 p2 p3 Q K41 x6 x8 (0 : Int64) x4 J)) ∧ (¬ x8 < p3 → (vX9_upper_c102 F p1 p2 p3 Q K41 x6 x8 x9 x4 J)))) ∧ (¬ p1 ≤ x11 → ((x8 ≤ x11 → (∀ y_80 : Int64, y_80 = (x9 * (((10 : Int32) - p2).toInt64)) → (vX9_upper_c54 F p1 p2 p3 Q K41 n x4 x6 x8 y_80 (x11 + (1 : Int32)) J))) ∧ (¬ x8 ≤ x11 → (vX9_upper_c54 F p1 p2 p3 Q K41 n x4 x6 x8 (x9 * (p2.toInt64)) (x11 + (1 : Int32)) J)))))
set_option maxHeartbeats 4000000 in
set_option maxRecDepth 100000 in
theorem kX9_upper_c54 {p : Program} {l : Launch} {e : Env} {s : State} {m : MethodId} {args : Array Value} {below : List Frame} {meth : Method} {c : Code} {g : GP} {qM : Nat} {q1 : Nat} {q2 : Nat} {q3 : Nat} {q4 : Nat} {q5 : Nat} {q6 : Nat} {q7 : Nat} {q8 : Nat} {q9 : Nat} {q10 : Nat} {q11 : Nat} {F : Nat → Int32} {p1 : Int32} {p2 : Int32} {p3 : Int32} {Q : Int64 → (Nat → Int64) → Prop} {A : Nat → Prop} {K41 : Int64 → Int64 → Int32 → (Nat → Int64) → Prop} (S : CallFix p m c cX9_upper 12 s args wsX9_upper RX9) (hr : meth.sig.returnType = (some .long)) (hlocks : meth.locks = false) (hG : GK g s) (hA : ∀ q : Nat, s.heap.size ≤ q → A q) (kk41 : ∀ (x4 : Int64) (x6 : Int64) (x8 : Int32) (J : Nat → Int64), K41 x4 x6 x8 J → ∀ (H : Heap) (locs : List Loc), va_P g.1 vwCl [(qM, .inr (9, [.int (F 0), .ref q1, .ref q2, .ref q3, .int (F 4), .int (F 5), .int (F 6), .int (F 7), .int (F 8), .int (F 9), .long (J 10), .int (F 11), .int (F 12), .int (F 13), .ref q4, .int (F 15), .ref q5, .ref q6, .ref q7, .int (F 19), .ref q8, .int (F 21), .int (F 22), .int (F 23), .int (F 24), .ref q9, .ref q10, .ref q11, .long (J 28)]))] H → va_D A [(qM, .inr (9, [.int (F 0), .ref q1, .ref q2, .ref q3, .int (F 4), .int (F 5), .int (F 6), .int (F 7), .int (F 8), .int (F 9), .long (J 10), .int (F 11), .int (F 12), .int (F 13), .ref q4, .int (F 15), .ref q5, .ref q6, .ref q7, .int (F 19), .ref q8, .int (F 21), .int (F 22), .int (F 23), .int (F 24), .ref q9, .ref q10, .ref q11, .long (J 28)]))] → va_S A s.heap H locs → ∀ (ls : Array Slot), lv_has ls 12 [(1, .int p1), (2, .int p2), (3, .int p3), (4, .long x4), (6, .long x6), (8, .int x8)] → W p l e (headSpec wsX9_upper rmX9_upper).room s m args below meth c H locs 0 0 (MQ below (va_Ql (fun (r : Int64) (u : (Nat → Int64)) => Q r u) (fun (u : (Nat → Int64)) t => va_P g.1 vwCl [(qM, .inr (9, [.int (F 0), .ref q1, .ref q2, .ref q3, .int (F 4), .int (F 5), .int (F 6), .int (F 7), .int (F 8), .int (F 9), .long (u 10), .int (F 11), .int (F 12), .int (F 13), .ref q4, .int (F 15), .ref q5, .ref q6, .ref q7, .int (F 19), .ref q8, .int (F 21), .int (F 22), .int (F 23), .int (F 24), .ref q9, .ref q10, .ref q11, .long (u 28)]))] t.heap ∧ va_D A [(qM, .inr (9, [.int (F 0), .ref q1, .ref q2, .ref q3, .int (F 4), .int (F 5), .int (F 6), .int (F 7), .int (F 8), .int (F 9), .long (u 10), .int (F 11), .int (F 12), .int (F 13), .ref q4, .int (F 15), .ref q5, .ref q6, .ref q7, .int (F 19), .ref q8, .int (F 21), .int (F 22), .int (F 23), .int (F 24), .ref q9, .ref q10, .ref q11, .long (u 28)]))]) A) args s 0 0 A) (F0 m 41 ls [])) : ∀ (n : Nat), ∀ (x4 : Int64) (x6 : Int64) (x8 : Int32) (x9 : Int64) (x11 : Int32) (J : Nat → Int64), vX9_upper_c54 F p1 p2 p3 Q K41 n x4 x6 x8 x9 x11 J → ∀ (H : Heap) (locs : List Loc), va_P g.1 vwCl [(qM, .inr (9, [.int (F 0), .ref q1, .ref q2, .ref q3, .int (F 4), .int (F 5), .int (F 6), .int (F 7), .int (F 8), .int (F 9), .long (J 10), .int (F 11), .int (F 12), .int (F 13), .ref q4, .int (F 15), .ref q5, .ref q6, .ref q7, .int (F 19), .ref q8, .int (F 21), .int (F 22), .int (F 23), .int (F 24), .ref q9, .ref q10, .ref q11, .long (J 28)]))] H → va_D A [(qM, .inr (9, [.int (F 0), .ref q1, .ref q2, .ref q3, .int (F 4), .int (F 5), .int (F 6), .int (F 7), .int (F 8), .int (F 9), .long (J 10), .int (F 11), .int (F 12), .int (F 13), .ref q4, .int (F 15), .ref q5, .ref q6, .ref q7, .int (F 19), .ref q8, .int (F 21), .int (F 22), .int (F 23), .int (F 24), .ref q9, .ref q10, .ref q11, .long (J 28)]))] → va_S A s.heap H locs → ∀ (ls : Array Slot), lv_has ls 12 [(1, .int p1), (2, .int p2), (3, .int p3), (4, .long x4), (6, .long x6), (8, .int x8), (9, .long x9), (11, .int x11)] → W p l e (headSpec wsX9_upper rmX9_upper).room s m args below meth c H locs 0 0 (MQ below (va_Ql (fun (r : Int64) (u : (Nat → Int64)) => Q r u) (fun (u : (Nat → Int64)) t => va_P g.1 vwCl [(qM, .inr (9, [.int (F 0), .ref q1, .ref q2, .ref q3, .int (F 4), .int (F 5), .int (F 6), .int (F 7), .int (F 8), .int (F 9), .long (u 10), .int (F 11), .int (F 12), .int (F 13), .ref q4, .int (F 15), .ref q5, .ref q6, .ref q7, .int (F 19), .ref q8, .int (F 21), .int (F 22), .int (F 23), .int (F 24), .ref q9, .ref q10, .ref q11, .long (u 28)]))] t.heap ∧ va_D A [(qM, .inr (9, [.int (F 0), .ref q1, .ref q2, .ref q3, .int (F 4), .int (F 5), .int (F 6), .int (F 7), .int (F 8), .int (F 9), .long (u 10), .int (F 11), .int (F 12), .int (F 13), .ref q4, .int (F 15), .ref q5, .ref q6, .ref q7, .int (F 19), .ref q8, .int (F 21), .int (F 22), .int (F 23), .int (F 24), .ref q9, .ref q10, .ref q11, .long (u 28)]))]) A) args s 0 0 A) (F0 m 54 ls []) := by
  obtain ⟨hx, hb, hml, hown, hts⟩ := id S
  have hK := hG.1
  intro n
  induction n with
  | zero => intro x4 x6 x8 x9 x11 J hv; exact hv.elim
  | succ n ih =>
    intro x4 x6 x8 x9 x11 J hv H locs hP hD hS ls hl
    refine lv_iload hx hb dX9_upper_54 (lv_at hl 7 rfl) ?_
    refine lv_iload_n hx hb dX9_upper_56 rfl (lv_at hl 0 rfl) ?_
    obtain ⟨hvt, hvf⟩ := hv
    refine lv_icmp_ge (tgt := 88) hx hb dX9_upper_57 (by decide) (fun hc => ?_) (fun hc => ?_)
    · have hv := hvt hc
      refine lv_lload hx hb dX9_upper_88 (lv_at hl 3 rfl) ?_
      refine lv_iload hx hb dX9_upper_90 (lv_at hl 5 rfl) ?_
      refine lv_iload_n hx hb dX9_upper_92 rfl (lv_at hl 2 rfl) ?_
      obtain ⟨hvt, hvf⟩ := hv
      refine lv_icmp_lt (tgt := 101) hx hb dX9_upper_93 (by decide) (fun hc => ?_) (fun hc => ?_)
      · have hv := hvt hc
        refine lv_lconst (v := (0 : Int64)) hx hb dX9_upper_101 (by decide) ?_
        exact kX9_upper_c102 S hr hlocks hG hA kk41 _ _ _ _ _ hv _ _ (hP.sub (ws' := [(qM, .inr (9, [.int (F 0), .ref q1, .ref q2, .ref q3, .int (F 4), .int (F 5), .int (F 6), .int (F 7), .int (F 8), .int (F 9), .long (J 10), .int (F 11), .int (F 12), .int (F 13), .ref q4, .int (F 15), .ref q5, .ref q6, .ref q7, .int (F 19), .ref q8, .int (F 21), .int (F 22), .int (F 23), .int (F 24), .ref q9, .ref q10, .ref q11, .long (J 28)]))]) [0] rfl) (hD.sub (ws' := [(qM, .inr (9, [.int (F 0), .ref q1, .ref q2, .ref q3, .int (F 4), .int (F 5), .int (F 6), .int (F 7), .int (F 8), .int (F 9), .long (J 10), .int (F 11), .int (F 12), .int (F 13), .ref q4, .int (F 15), .ref q5, .ref q6, .ref q7, .int (F 19), .ref q8, .int (F 21), .int (F 22), .int (F 23), .int (F 24), .ref q9, .ref q10, .ref q11, .long (J 28)]))]) [0] (by decide) rfl) hS ls (lv_sub hl [0, 1, 2, 4, 5] rfl)
      · have hv := hvf hc
        refine lv_lload hx hb dX9_upper_96 (lv_at hl 6 rfl) ?_
        refine lv_goto (tgt := 102) hx hb dX9_upper_98 (by decide) ?_
        exact kX9_upper_c102 S hr hlocks hG hA kk41 _ _ _ _ _ hv _ _ (hP.sub (ws' := [(qM, .inr (9, [.int (F 0), .ref q1, .ref q2, .ref q3, .int (F 4), .int (F 5), .int (F 6), .int (F 7), .int (F 8), .int (F 9), .long (J 10), .int (F 11), .int (F 12), .int (F 13), .ref q4, .int (F 15), .ref q5, .ref q6, .ref q7, .int (F 19), .ref q8, .int (F 21), .int (F 22), .int (F 23), .int (F 24), .ref q9, .ref q10, .ref q11, .long (J 28)]))]) [0] rfl) (hD.sub (ws' := [(qM, .inr (9, [.int (F 0), .ref q1, .ref q2, .ref q3, .int (F 4), .int (F 5), .int (F 6), .int (F 7), .int (F 8), .int (F 9), .long (J 10), .int (F 11), .int (F 12), .int (F 13), .ref q4, .int (F 15), .ref q5, .ref q6, .ref q7, .int (F 19), .ref q8, .int (F 21), .int (F 22), .int (F 23), .int (F 24), .ref q9, .ref q10, .ref q11, .long (J 28)]))]) [0] (by decide) rfl) hS ls (lv_sub hl [0, 1, 2, 4, 5] rfl)
    · have hv := hvf hc
      refine lv_lload hx hb dX9_upper_60 (lv_at hl 6 rfl) ?_
      refine lv_iload hx hb dX9_upper_62 (lv_at hl 7 rfl) ?_
      refine lv_iload hx hb dX9_upper_64 (lv_at hl 5 rfl) ?_
      obtain ⟨hvt, hvf⟩ := hv
      refine lv_icmp_ge (tgt := 74) hx hb dX9_upper_66 (by decide) (fun hc => ?_) (fun hc => ?_)
      · have hv := hvt hc
        refine lv_bipush (v := (10 : Int32)) hx hb dX9_upper_74 (by decide) ?_
        refine lv_iload_n hx hb dX9_upper_76 rfl (lv_at hl 1 rfl) ?_
        refine lv_isub hx hb dX9_upper_77 ?_
        refine lv_i2l (v := (((10 : Int32) - p2).toInt64)) hx hb dX9_upper_78 rfl ?_
        refine lv_lmul hx hb dX9_upper_79 ?_
        refine lv_topl (fun y_80 ey_80 => ?_)
        have hv := hv y_80 ey_80
        refine lv_lstore (lv' := [(9, .long y_80), (1, .int p1), (2, .int p2), (3, .int p3), (4, .long x4), (6, .long x6), (8, .int x8), (11, .int x11)]) hx hb dX9_upper_80 hl (by decide) rfl (fun ls hl => ?_)
        refine lv_iinc (v := (x11 + (1 : Int32))) (lv' := [(11, .int (x11 + (1 : Int32))), (9, .long y_80), (1, .int p1), (2, .int p2), (3, .int p3), (4, .long x4), (6, .long x6), (8, .int x8)]) hx hb dX9_upper_82 hl (k := 7) rfl rfl (by decide) rfl (fun ls hl => ?_)
        refine lv_goto (tgt := 54) hx hb dX9_upper_85 (by decide) ?_
        exact ih _ _ _ _ _ _ hv _ _ (hP.sub (ws' := [(qM, .inr (9, [.int (F 0), .ref q1, .ref q2, .ref q3, .int (F 4), .int (F 5), .int (F 6), .int (F 7), .int (F 8), .int (F 9), .long (J 10), .int (F 11), .int (F 12), .int (F 13), .ref q4, .int (F 15), .ref q5, .ref q6, .ref q7, .int (F 19), .ref q8, .int (F 21), .int (F 22), .int (F 23), .int (F 24), .ref q9, .ref q10, .ref q11, .long (J 28)]))]) [0] rfl) (hD.sub (ws' := [(qM, .inr (9, [.int (F 0), .ref q1, .ref q2, .ref q3, .int (F 4), .int (F 5), .int (F 6), .int (F 7), .int (F 8), .int (F 9), .long (J 10), .int (F 11), .int (F 12), .int (F 13), .ref q4, .int (F 15), .ref q5, .ref q6, .ref q7, .int (F 19), .ref q8, .int (F 21), .int (F 22), .int (F 23), .int (F 24), .ref q9, .ref q10, .ref q11, .long (J 28)]))]) [0] (by decide) rfl) hS ls (lv_sub hl [2, 3, 4, 5, 6, 7, 1, 0] rfl)
      · have hv := hvf hc
        refine lv_iload_n hx hb dX9_upper_69 rfl (lv_at hl 1 rfl) ?_
        refine lv_i2l (v := (p2.toInt64)) hx hb dX9_upper_70 rfl ?_
        refine lv_goto (tgt := 79) hx hb dX9_upper_71 (by decide) ?_
        refine lv_lmul hx hb dX9_upper_79 ?_
        refine lv_lstore (lv' := [(9, .long (x9 * (p2.toInt64))), (1, .int p1), (2, .int p2), (3, .int p3), (4, .long x4), (6, .long x6), (8, .int x8), (11, .int x11)]) hx hb dX9_upper_80 hl (by decide) rfl (fun ls hl => ?_)
        refine lv_iinc (v := (x11 + (1 : Int32))) (lv' := [(11, .int (x11 + (1 : Int32))), (9, .long (x9 * (p2.toInt64))), (1, .int p1), (2, .int p2), (3, .int p3), (4, .long x4), (6, .long x6), (8, .int x8)]) hx hb dX9_upper_82 hl (k := 7) rfl rfl (by decide) rfl (fun ls hl => ?_)
        refine lv_goto (tgt := 54) hx hb dX9_upper_85 (by decide) ?_
        exact ih _ _ _ _ _ _ hv _ _ (hP.sub (ws' := [(qM, .inr (9, [.int (F 0), .ref q1, .ref q2, .ref q3, .int (F 4), .int (F 5), .int (F 6), .int (F 7), .int (F 8), .int (F 9), .long (J 10), .int (F 11), .int (F 12), .int (F 13), .ref q4, .int (F 15), .ref q5, .ref q6, .ref q7, .int (F 19), .ref q8, .int (F 21), .int (F 22), .int (F 23), .int (F 24), .ref q9, .ref q10, .ref q11, .long (J 28)]))]) [0] rfl) (hD.sub (ws' := [(qM, .inr (9, [.int (F 0), .ref q1, .ref q2, .ref q3, .int (F 4), .int (F 5), .int (F 6), .int (F 7), .int (F 8), .int (F 9), .long (J 10), .int (F 11), .int (F 12), .int (F 13), .ref q4, .int (F 15), .ref q5, .ref q6, .ref q7, .int (F 19), .ref q8, .int (F 21), .int (F 22), .int (F 23), .int (F 24), .ref q9, .ref q10, .ref q11, .long (J 28)]))]) [0] (by decide) rfl) hS ls (lv_sub hl [2, 3, 4, 5, 6, 7, 1, 0] rfl)
def vX9_upper_c41 (F : Nat → Int32) (p1 : Int32) (p2 : Int32) (p3 : Int32) (Q : Int64 → (Nat → Int64) → Prop) : Nat → Int64 → Int64 → Int32 → (Nat → Int64) → Prop
  | 0, _, _, _, _ => False
  | n + 1, x4, x6, x8, J => ((p1 < x8 → (Q x4 J)) ∧ (¬ p1 < x8 → (∃ nn, vX9_upper_c54 F p1 p2 p3 Q (vX9_upper_c41 F p1 p2 p3 Q n) nn x4 x6 x8 x6 (0 : Int32) J)))
set_option maxHeartbeats 4000000 in
set_option maxRecDepth 100000 in
theorem kX9_upper_c41 {p : Program} {l : Launch} {e : Env} {s : State} {m : MethodId} {args : Array Value} {below : List Frame} {meth : Method} {c : Code} {g : GP} {qM : Nat} {q1 : Nat} {q2 : Nat} {q3 : Nat} {q4 : Nat} {q5 : Nat} {q6 : Nat} {q7 : Nat} {q8 : Nat} {q9 : Nat} {q10 : Nat} {q11 : Nat} {F : Nat → Int32} {p1 : Int32} {p2 : Int32} {p3 : Int32} {Q : Int64 → (Nat → Int64) → Prop} {A : Nat → Prop} (S : CallFix p m c cX9_upper 12 s args wsX9_upper RX9) (hr : meth.sig.returnType = (some .long)) (hlocks : meth.locks = false) (hG : GK g s) (hA : ∀ q : Nat, s.heap.size ≤ q → A q) : ∀ (n : Nat), ∀ (x4 : Int64) (x6 : Int64) (x8 : Int32) (J : Nat → Int64), vX9_upper_c41 F p1 p2 p3 Q n x4 x6 x8 J → ∀ (H : Heap) (locs : List Loc), va_P g.1 vwCl [(qM, .inr (9, [.int (F 0), .ref q1, .ref q2, .ref q3, .int (F 4), .int (F 5), .int (F 6), .int (F 7), .int (F 8), .int (F 9), .long (J 10), .int (F 11), .int (F 12), .int (F 13), .ref q4, .int (F 15), .ref q5, .ref q6, .ref q7, .int (F 19), .ref q8, .int (F 21), .int (F 22), .int (F 23), .int (F 24), .ref q9, .ref q10, .ref q11, .long (J 28)]))] H → va_D A [(qM, .inr (9, [.int (F 0), .ref q1, .ref q2, .ref q3, .int (F 4), .int (F 5), .int (F 6), .int (F 7), .int (F 8), .int (F 9), .long (J 10), .int (F 11), .int (F 12), .int (F 13), .ref q4, .int (F 15), .ref q5, .ref q6, .ref q7, .int (F 19), .ref q8, .int (F 21), .int (F 22), .int (F 23), .int (F 24), .ref q9, .ref q10, .ref q11, .long (J 28)]))] → va_S A s.heap H locs → ∀ (ls : Array Slot), lv_has ls 12 [(1, .int p1), (2, .int p2), (3, .int p3), (4, .long x4), (6, .long x6), (8, .int x8)] → W p l e (headSpec wsX9_upper rmX9_upper).room s m args below meth c H locs 0 0 (MQ below (va_Ql (fun (r : Int64) (u : (Nat → Int64)) => Q r u) (fun (u : (Nat → Int64)) t => va_P g.1 vwCl [(qM, .inr (9, [.int (F 0), .ref q1, .ref q2, .ref q3, .int (F 4), .int (F 5), .int (F 6), .int (F 7), .int (F 8), .int (F 9), .long (u 10), .int (F 11), .int (F 12), .int (F 13), .ref q4, .int (F 15), .ref q5, .ref q6, .ref q7, .int (F 19), .ref q8, .int (F 21), .int (F 22), .int (F 23), .int (F 24), .ref q9, .ref q10, .ref q11, .long (u 28)]))] t.heap ∧ va_D A [(qM, .inr (9, [.int (F 0), .ref q1, .ref q2, .ref q3, .int (F 4), .int (F 5), .int (F 6), .int (F 7), .int (F 8), .int (F 9), .long (u 10), .int (F 11), .int (F 12), .int (F 13), .ref q4, .int (F 15), .ref q5, .ref q6, .ref q7, .int (F 19), .ref q8, .int (F 21), .int (F 22), .int (F 23), .int (F 24), .ref q9, .ref q10, .ref q11, .long (u 28)]))]) A) args s 0 0 A) (F0 m 41 ls []) := by
  obtain ⟨hx, hb, hml, hown, hts⟩ := id S
  have hK := hG.1
  intro n
  induction n with
  | zero => intro x4 x6 x8 J hv; exact hv.elim
  | succ n ih =>
    intro x4 x6 x8 J hv H locs hP hD hS ls hl
    refine lv_iload hx hb dX9_upper_41 (lv_at hl 5 rfl) ?_
    refine lv_iload_n hx hb dX9_upper_43 rfl (lv_at hl 0 rfl) ?_
    obtain ⟨hvt, hvf⟩ := hv
    refine lv_icmp_gt (tgt := 127) hx hb dX9_upper_44 (by decide) (fun hc => ?_) (fun hc => ?_)
    · have hv := hvt hc
      refine lv_lload hx hb dX9_upper_127 (lv_at hl 3 rfl) ?_
      have hP9 := hP.sub (ws' := [(qM, .inr (9, [.int (F 0), .ref q1, .ref q2, .ref q3, .int (F 4), .int (F 5), .int (F 6), .int (F 7), .int (F 8), .int (F 9), .long (J 10), .int (F 11), .int (F 12), .int (F 13), .ref q4, .int (F 15), .ref q5, .ref q6, .ref q7, .int (F 19), .ref q8, .int (F 21), .int (F 22), .int (F 23), .int (F 24), .ref q9, .ref q10, .ref q11, .long (J 28)]))]) [0] rfl
      have hD9 := hD.sub (ws' := [(qM, .inr (9, [.int (F 0), .ref q1, .ref q2, .ref q3, .int (F 4), .int (F 5), .int (F 6), .int (F 7), .int (F 8), .int (F 9), .long (J 10), .int (F 11), .int (F 12), .int (F 13), .ref q4, .int (F 15), .ref q5, .ref q6, .ref q7, .int (F 19), .ref q8, .int (F 21), .int (F 22), .int (F 23), .int (F 24), .ref q9, .ref q10, .ref q11, .long (J 28)]))]) [0] (by decide) rfl
      exact W.lret (v := x4) hx hb hr (fun t ht hW => ⟨⟨_, (J), rfl, hv, by rw [ht]; exact hP9, hD9⟩, hS.F ht⟩) hS.2.2 dX9_upper_129
    · have hv := hvf hc
      refine lv_lload hx hb dX9_upper_47 (lv_at hl 4 rfl) ?_
      refine lv_lstore (lv' := [(9, .long x6), (1, .int p1), (2, .int p2), (3, .int p3), (4, .long x4), (6, .long x6), (8, .int x8)]) hx hb dX9_upper_49 hl (by decide) rfl (fun ls hl => ?_)
      refine lv_iconst (v := (0 : Int32)) hx hb dX9_upper_51 (by decide) ?_
      refine lv_istore (lv' := [(11, .int (0 : Int32)), (9, .long x6), (1, .int p1), (2, .int p2), (3, .int p3), (4, .long x4), (6, .long x6), (8, .int x8)]) hx hb dX9_upper_52 hl (by decide) rfl (fun ls hl => ?_)
      obtain ⟨nn, hv⟩ := hv
      exact kX9_upper_c54 S hr hlocks hG hA ih nn _ _ _ _ _ _ hv _ _ (hP.sub (ws' := [(qM, .inr (9, [.int (F 0), .ref q1, .ref q2, .ref q3, .int (F 4), .int (F 5), .int (F 6), .int (F 7), .int (F 8), .int (F 9), .long (J 10), .int (F 11), .int (F 12), .int (F 13), .ref q4, .int (F 15), .ref q5, .ref q6, .ref q7, .int (F 19), .ref q8, .int (F 21), .int (F 22), .int (F 23), .int (F 24), .ref q9, .ref q10, .ref q11, .long (J 28)]))]) [0] rfl) (hD.sub (ws' := [(qM, .inr (9, [.int (F 0), .ref q1, .ref q2, .ref q3, .int (F 4), .int (F 5), .int (F 6), .int (F 7), .int (F 8), .int (F 9), .long (J 10), .int (F 11), .int (F 12), .int (F 13), .ref q4, .int (F 15), .ref q5, .ref q6, .ref q7, .int (F 19), .ref q8, .int (F 21), .int (F 22), .int (F 23), .int (F 24), .ref q9, .ref q10, .ref q11, .long (J 28)]))]) [0] (by decide) rfl) hS ls (lv_sub hl [2, 3, 4, 5, 6, 7, 1, 0] rfl)
def vX9_upper_c11 (F : Nat → Int32) (p1 : Int32) (p2 : Int32) (p3 : Int32) (Q : Int64 → (Nat → Int64) → Prop) : Nat → Int64 → Int32 → (Nat → Int64) → Prop
  | 0, _, _, _ => False
  | n + 1, x4, x6, J => ((p1 ≤ x6 → (∃ nn, vX9_upper_c41 F p1 p2 p3 Q nn x4 (1 : Int64) (0 : Int32) J)) ∧ (¬ p1 ≤ x6 → (vX9_upper_c11 F p1 p2 p3 Q n x4 (x6 + (1 : Int32)) (vp_updL J 28 ((J 28) * (10 : Int64))))))
set_option maxHeartbeats 4000000 in
set_option maxRecDepth 100000 in
theorem kX9_upper_c11 {p : Program} {l : Launch} {e : Env} {s : State} {m : MethodId} {args : Array Value} {below : List Frame} {meth : Method} {c : Code} {g : GP} {qM : Nat} {q1 : Nat} {q2 : Nat} {q3 : Nat} {q4 : Nat} {q5 : Nat} {q6 : Nat} {q7 : Nat} {q8 : Nat} {q9 : Nat} {q10 : Nat} {q11 : Nat} {F : Nat → Int32} {p1 : Int32} {p2 : Int32} {p3 : Int32} {Q : Int64 → (Nat → Int64) → Prop} {A : Nat → Prop} (S : CallFix p m c cX9_upper 12 s args wsX9_upper RX9) (hr : meth.sig.returnType = (some .long)) (hlocks : meth.locks = false) (hG : GK g s) (hA : ∀ q : Nat, s.heap.size ≤ q → A q) : ∀ (n : Nat), ∀ (x4 : Int64) (x6 : Int32) (J : Nat → Int64), vX9_upper_c11 F p1 p2 p3 Q n x4 x6 J → ∀ (H : Heap) (locs : List Loc), va_P g.1 vwCl [(qM, .inr (9, [.int (F 0), .ref q1, .ref q2, .ref q3, .int (F 4), .int (F 5), .int (F 6), .int (F 7), .int (F 8), .int (F 9), .long (J 10), .int (F 11), .int (F 12), .int (F 13), .ref q4, .int (F 15), .ref q5, .ref q6, .ref q7, .int (F 19), .ref q8, .int (F 21), .int (F 22), .int (F 23), .int (F 24), .ref q9, .ref q10, .ref q11, .long (J 28)]))] H → va_D A [(qM, .inr (9, [.int (F 0), .ref q1, .ref q2, .ref q3, .int (F 4), .int (F 5), .int (F 6), .int (F 7), .int (F 8), .int (F 9), .long (J 10), .int (F 11), .int (F 12), .int (F 13), .ref q4, .int (F 15), .ref q5, .ref q6, .ref q7, .int (F 19), .ref q8, .int (F 21), .int (F 22), .int (F 23), .int (F 24), .ref q9, .ref q10, .ref q11, .long (J 28)]))] → va_S A s.heap H locs → ∀ (ls : Array Slot), lv_has ls 12 [(0, .ref qM), (1, .int p1), (2, .int p2), (3, .int p3), (4, .long x4), (6, .int x6)] → W p l e (headSpec wsX9_upper rmX9_upper).room s m args below meth c H locs 0 0 (MQ below (va_Ql (fun (r : Int64) (u : (Nat → Int64)) => Q r u) (fun (u : (Nat → Int64)) t => va_P g.1 vwCl [(qM, .inr (9, [.int (F 0), .ref q1, .ref q2, .ref q3, .int (F 4), .int (F 5), .int (F 6), .int (F 7), .int (F 8), .int (F 9), .long (u 10), .int (F 11), .int (F 12), .int (F 13), .ref q4, .int (F 15), .ref q5, .ref q6, .ref q7, .int (F 19), .ref q8, .int (F 21), .int (F 22), .int (F 23), .int (F 24), .ref q9, .ref q10, .ref q11, .long (u 28)]))] t.heap ∧ va_D A [(qM, .inr (9, [.int (F 0), .ref q1, .ref q2, .ref q3, .int (F 4), .int (F 5), .int (F 6), .int (F 7), .int (F 8), .int (F 9), .long (u 10), .int (F 11), .int (F 12), .int (F 13), .ref q4, .int (F 15), .ref q5, .ref q6, .ref q7, .int (F 19), .ref q8, .int (F 21), .int (F 22), .int (F 23), .int (F 24), .ref q9, .ref q10, .ref q11, .long (u 28)]))]) A) args s 0 0 A) (F0 m 11 ls []) := by
  obtain ⟨hx, hb, hml, hown, hts⟩ := id S
  have hK := hG.1
  intro n
  induction n with
  | zero => intro x4 x6 J hv; exact hv.elim
  | succ n ih =>
    intro x4 x6 J hv H locs hP hD hS ls hl
    refine lv_iload hx hb dX9_upper_11 (lv_at hl 5 rfl) ?_
    refine lv_iload_n hx hb dX9_upper_13 rfl (lv_at hl 1 rfl) ?_
    obtain ⟨hvt, hvf⟩ := hv
    refine lv_icmp_ge (tgt := 35) hx hb dX9_upper_14 (by decide) (fun hc => ?_) (fun hc => ?_)
    · have hv := hvt hc
      refine lv_lconst (v := (1 : Int64)) hx hb dX9_upper_35 (by decide) ?_
      refine lv_lstore (lv' := [(6, .long (1 : Int64)), (0, .ref qM), (1, .int p1), (2, .int p2), (3, .int p3), (4, .long x4)]) hx hb dX9_upper_36 hl (by decide) rfl (fun ls hl => ?_)
      refine lv_iconst (v := (0 : Int32)) hx hb dX9_upper_38 (by decide) ?_
      refine lv_istore (lv' := [(8, .int (0 : Int32)), (6, .long (1 : Int64)), (0, .ref qM), (1, .int p1), (2, .int p2), (3, .int p3), (4, .long x4)]) hx hb dX9_upper_39 hl (by decide) rfl (fun ls hl => ?_)
      obtain ⟨nn, hv⟩ := hv
      exact kX9_upper_c41 S hr hlocks hG hA nn _ _ _ _ hv _ _ (hP.sub (ws' := [(qM, .inr (9, [.int (F 0), .ref q1, .ref q2, .ref q3, .int (F 4), .int (F 5), .int (F 6), .int (F 7), .int (F 8), .int (F 9), .long (J 10), .int (F 11), .int (F 12), .int (F 13), .ref q4, .int (F 15), .ref q5, .ref q6, .ref q7, .int (F 19), .ref q8, .int (F 21), .int (F 22), .int (F 23), .int (F 24), .ref q9, .ref q10, .ref q11, .long (J 28)]))]) [0] rfl) (hD.sub (ws' := [(qM, .inr (9, [.int (F 0), .ref q1, .ref q2, .ref q3, .int (F 4), .int (F 5), .int (F 6), .int (F 7), .int (F 8), .int (F 9), .long (J 10), .int (F 11), .int (F 12), .int (F 13), .ref q4, .int (F 15), .ref q5, .ref q6, .ref q7, .int (F 19), .ref q8, .int (F 21), .int (F 22), .int (F 23), .int (F 24), .ref q9, .ref q10, .ref q11, .long (J 28)]))]) [0] (by decide) rfl) hS ls (lv_sub hl [3, 4, 5, 6, 1, 0] rfl)
    · have hv := hvf hc
      refine lv_aload_n hx hb dX9_upper_17 rfl (lv_at hl 0 rfl) ?_
      refine lv_dup hx hb dX9_upper_18 rfl ?_
      refine va_get (D := g.1) (ci := 9) (v := .long (J 28)) (C := RX9) (T := TX9) (N := 29) hx hb hts inX9_upper_9 hown hK hP 0 rfl rfl 28 (by decide) (hts (.fieldLink RX9 315 "RangeCodesModel" "under" "J") (List.mem_of_getElem? (i := 1) rfl)) (fun _ h9 => h9) rfl dX9_upper_19 ?_
      refine lv_ldc2 (v := (10 : Int64)) hx hb hown (hts (.constantLong RX9 318 (10)) (List.mem_of_getElem? (i := 2) rfl)) dX9_upper_22 ?_
      refine lv_lmul hx hb dX9_upper_25 ?_
      refine va_put (D := g.1) (ci := 9) (v := .long ((J 28) * (10 : Int64))) (ty := .long) (C := RX9) (T := TX9) (N := 29) hx hb hts inX9_upper_9 tyX9 tyX9_ok nmX9 hown hK hP hD hS 0 rfl rfl 28 (by decide) (hts (.fieldLink RX9 315 "RangeCodesModel" "under" "J") (List.mem_of_getElem? (i := 1) rfl)) (fun _ h9 => h9) rfl (by decide +kernel) rfl rfl (Nat.le_of_ble_eq_true rfl) dX9_upper_26 (fun H locs hP hD hS => ?_)
      have hP : va_P g.1 vwCl [(qM, .inr (9, [.int (F 0), .ref q1, .ref q2, .ref q3, .int (F 4), .int (F 5), .int (F 6), .int (F 7), .int (F 8), .int (F 9), .long (J 10), .int (F 11), .int (F 12), .int (F 13), .ref q4, .int (F 15), .ref q5, .ref q6, .ref q7, .int (F 19), .ref q8, .int (F 21), .int (F 22), .int (F 23), .int (F 24), .ref q9, .ref q10, .ref q11, .long ((J 28) * (10 : Int64))]))] H := hP
      have hD : va_D A [(qM, .inr (9, [.int (F 0), .ref q1, .ref q2, .ref q3, .int (F 4), .int (F 5), .int (F 6), .int (F 7), .int (F 8), .int (F 9), .long (J 10), .int (F 11), .int (F 12), .int (F 13), .ref q4, .int (F 15), .ref q5, .ref q6, .ref q7, .int (F 19), .ref q8, .int (F 21), .int (F 22), .int (F 23), .int (F 24), .ref q9, .ref q10, .ref q11, .long ((J 28) * (10 : Int64))]))] := hD
      refine lv_iinc (v := (x6 + (1 : Int32))) (lv' := [(6, .int (x6 + (1 : Int32))), (0, .ref qM), (1, .int p1), (2, .int p2), (3, .int p3), (4, .long x4)]) hx hb dX9_upper_29 hl (k := 5) rfl rfl (by decide) rfl (fun ls hl => ?_)
      refine lv_goto (tgt := 11) hx hb dX9_upper_32 (by decide) ?_
      exact ih _ _ _ hv _ _ (hP.sub (ws' := [(qM, .inr (9, [.int (F 0), .ref q1, .ref q2, .ref q3, .int (F 4), .int (F 5), .int (F 6), .int (F 7), .int (F 8), .int (F 9), .long ((vp_updL J 28 ((J 28) * (10 : Int64))) 10), .int (F 11), .int (F 12), .int (F 13), .ref q4, .int (F 15), .ref q5, .ref q6, .ref q7, .int (F 19), .ref q8, .int (F 21), .int (F 22), .int (F 23), .int (F 24), .ref q9, .ref q10, .ref q11, .long ((vp_updL J 28 ((J 28) * (10 : Int64))) 28)]))]) [0] rfl) (hD.sub (ws' := [(qM, .inr (9, [.int (F 0), .ref q1, .ref q2, .ref q3, .int (F 4), .int (F 5), .int (F 6), .int (F 7), .int (F 8), .int (F 9), .long ((vp_updL J 28 ((J 28) * (10 : Int64))) 10), .int (F 11), .int (F 12), .int (F 13), .ref q4, .int (F 15), .ref q5, .ref q6, .ref q7, .int (F 19), .ref q8, .int (F 21), .int (F 22), .int (F 23), .int (F 24), .ref q9, .ref q10, .ref q11, .long ((vp_updL J 28 ((J 28) * (10 : Int64))) 28)]))]) [0] (by decide) rfl) hS ls (lv_sub hl [1, 2, 3, 4, 5, 0] rfl)
def vX9_upper (F : Nat → Int32) (J : Nat → Int64) (p1 : Int32) (p2 : Int32) (p3 : Int32) (Q : Int64 → (Nat → Int64) → Prop) : Prop := (∃ nn, vX9_upper_c11 F p1 p2 p3 Q nn (0 : Int64) (0 : Int32) (vp_updL J 28 (1 : Int64)))
set_option maxHeartbeats 4000000 in
set_option maxRecDepth 100000 in
theorem wX9_upper (l : Launch) (g : GP) (qM : Nat) (q1 : Nat) (q2 : Nat) (q3 : Nat) (q4 : Nat) (q5 : Nat) (q6 : Nat) (q7 : Nat) (q8 : Nat) (q9 : Nat) (q10 : Nat) (q11 : Nat) (sz : Nat) (F : Nat → Int32) (J : Nat → Int64) (p1 : Int32) (p2 : Int32) (p3 : Int32) {Q : Int64 → (Nat → Int64) → Prop} (hv : vX9_upper F J p1 p2 p3 Q) : Met l yX9_upper wsX9_upper rmX9_upper (va_Pc [.ref qM, .int p1, .int p2, .int p3] (fun U => U.heap.size = sz ∧ va_P g.1 vwCl [(qM, .inr (9, [.int (F 0), .ref q1, .ref q2, .ref q3, .int (F 4), .int (F 5), .int (F 6), .int (F 7), .int (F 8), .int (F 9), .long (J 10), .int (F 11), .int (F 12), .int (F 13), .ref q4, .int (F 15), .ref q5, .ref q6, .ref q7, .int (F 19), .ref q8, .int (F 21), .int (F 22), .int (F 23), .int (F 24), .ref q9, .ref q10, .ref q11, .long (J 28)]))] U.heap ∧ GK g U ∧ va_D (fun _ => True) [(qM, .inr (9, [.int (F 0), .ref q1, .ref q2, .ref q3, .int (F 4), .int (F 5), .int (F 6), .int (F 7), .int (F 8), .int (F 9), .long (J 10), .int (F 11), .int (F 12), .int (F 13), .ref q4, .int (F 15), .ref q5, .ref q6, .ref q7, .int (F 19), .ref q8, .int (F 21), .int (F 22), .int (F 23), .int (F 24), .ref q9, .ref q10, .ref q11, .long (J 28)]))])) (va_Ql (fun (r : Int64) (u : (Nat → Int64)) => Q r u) (fun (u : (Nat → Int64)) t => va_P g.1 vwCl [(qM, .inr (9, [.int (F 0), .ref q1, .ref q2, .ref q3, .int (F 4), .int (F 5), .int (F 6), .int (F 7), .int (F 8), .int (F 9), .long (u 10), .int (F 11), .int (F 12), .int (F 13), .ref q4, .int (F 15), .ref q5, .ref q6, .ref q7, .int (F 19), .ref q8, .int (F 21), .int (F 22), .int (F 23), .int (F 24), .ref q9, .ref q10, .ref q11, .long (u 28)]))] t.heap ∧ va_D (va_A [(qM, .inr (9, [.int (F 0), .ref q1, .ref q2, .ref q3, .int (F 4), .int (F 5), .int (F 6), .int (F 7), .int (F 8), .int (F 9), .long (J 10), .int (F 11), .int (F 12), .int (F 13), .ref q4, .int (F 15), .ref q5, .ref q6, .ref q7, .int (F 19), .ref q8, .int (F 21), .int (F 22), .int (F 23), .int (F 24), .ref q9, .ref q10, .ref q11, .long (J 28)]))] sz) [(qM, .inr (9, [.int (F 0), .ref q1, .ref q2, .ref q3, .int (F 4), .int (F 5), .int (F 6), .int (F 7), .int (F 8), .int (F 9), .long (u 10), .int (F 11), .int (F 12), .int (F 13), .ref q4, .int (F 15), .ref q5, .ref q6, .ref q7, .int (F 19), .ref q8, .int (F 21), .int (F 22), .int (F 23), .int (F 24), .ref q9, .ref q10, .ref q11, .long (u 28)]))]) (va_A [(qM, .inr (9, [.int (F 0), .ref q1, .ref q2, .ref q3, .int (F 4), .int (F 5), .int (F 6), .int (F 7), .int (F 8), .int (F 9), .long (J 10), .int (F 11), .int (F 12), .int (F 13), .ref q4, .int (F 15), .ref q5, .ref q6, .ref q7, .int (F 19), .ref q8, .int (F 21), .int (F 22), .int (F 23), .int (F 24), .ref q9, .ref q10, .ref q11, .long (J 28)]))] sz)) 0 0 (va_A [(qM, .inr (9, [.int (F 0), .ref q1, .ref q2, .ref q3, .int (F 4), .int (F 5), .int (F 6), .int (F 7), .int (F 8), .int (F 9), .long (J 10), .int (F 11), .int (F 12), .int (F 13), .ref q4, .int (F 15), .ref q5, .ref q6, .ref q7, .int (F 19), .ref q8, .int (F 21), .int (F 22), .int (F 23), .int (F 24), .ref q9, .ref q10, .ref q11, .long (J 28)]))] sz) := by
  refine Met.ofW (cc := cX9_upper) (maxL := 12) (ret := (some .long)) (by decide) rfl ?_
  intro p e s m args below meth c s₁ B hml hv'
  obtain ⟨rfl, hsz, hP, hG, hD0⟩ := hv'
  have S : CallFix p m c cX9_upper 12 s _ wsX9_upper RX9 := ⟨B.exec, B.bytes, hml, findClass_of_methodNamed B.named, atoms_spec (ws := wsX9_upper) B.pre⟩
  obtain ⟨hx, hb, hml, hown, hts⟩ := id S
  have hK := hG.1
  have hr := B.returns
  have hlocks := B.notSynchronized
  subst hsz
  have hD := hD0.self (sz := s.heap.size)
  generalize hAe : va_A [(qM, .inr (9, [.int (F 0), .ref q1, .ref q2, .ref q3, .int (F 4), .int (F 5), .int (F 6), .int (F 7), .int (F 8), .int (F 9), .long (J 10), .int (F 11), .int (F 12), .int (F 13), .ref q4, .int (F 15), .ref q5, .ref q6, .ref q7, .int (F 19), .ref q8, .int (F 21), .int (F 22), .int (F 23), .int (F 24), .ref q9, .ref q10, .ref q11, .long (J 28)]))] s.heap.size = A at hD ⊢
  have hA : ∀ q : Nat, s.heap.size ≤ q → A q := fun q h => by rw [← hAe]; exact Or.inr h
  have hS : va_S A s.heap s.heap [] := va_S.rf
  clear hD0 hAe
  have hl := lv_entry ([.ref qM, .int p1, .int p2, .int p3]) (n := 12) (Nat.le_of_ble_eq_true rfl)
  rw [lg_entry_eq]
  generalize (lg_sl ([.ref qM, .int p1, .int p2, .int p3]) ++ List.replicate (12 - (lg_sl ([.ref qM, .int p1, .int p2, .int p3])).length) Slot.unset).toArray = ls at hl ⊢
  have hl : lv_has ls 12 [(0, .ref qM), (1, .int p1), (2, .int p2), (3, .int p3)] := hl
  unfold vX9_upper at hv
  refine lv_lconst (v := (0 : Int64)) hx hb dX9_upper_0 (by decide) ?_
  refine lv_lstore (lv' := [(4, .long (0 : Int64)), (0, .ref qM), (1, .int p1), (2, .int p2), (3, .int p3)]) hx hb dX9_upper_1 hl (by decide) rfl (fun ls hl => ?_)
  refine lv_aload_n hx hb dX9_upper_3 rfl (lv_at hl 1 rfl) ?_
  refine lv_lconst (v := (1 : Int64)) hx hb dX9_upper_4 (by decide) ?_
  refine va_put (D := g.1) (ci := 9) (v := .long (1 : Int64)) (ty := .long) (C := RX9) (T := TX9) (N := 29) hx hb hts inX9_upper_9 tyX9 tyX9_ok nmX9 hown hK hP hD hS 0 rfl rfl 28 (by decide) (hts (.fieldLink RX9 315 "RangeCodesModel" "under" "J") (List.mem_of_getElem? (i := 1) rfl)) (fun _ h9 => h9) rfl (by decide +kernel) rfl rfl (Nat.le_of_ble_eq_true rfl) dX9_upper_5 (fun H locs hP hD hS => ?_)
  have hP : va_P g.1 vwCl [(qM, .inr (9, [.int (F 0), .ref q1, .ref q2, .ref q3, .int (F 4), .int (F 5), .int (F 6), .int (F 7), .int (F 8), .int (F 9), .long (J 10), .int (F 11), .int (F 12), .int (F 13), .ref q4, .int (F 15), .ref q5, .ref q6, .ref q7, .int (F 19), .ref q8, .int (F 21), .int (F 22), .int (F 23), .int (F 24), .ref q9, .ref q10, .ref q11, .long (1 : Int64)]))] H := hP
  have hD : va_D A [(qM, .inr (9, [.int (F 0), .ref q1, .ref q2, .ref q3, .int (F 4), .int (F 5), .int (F 6), .int (F 7), .int (F 8), .int (F 9), .long (J 10), .int (F 11), .int (F 12), .int (F 13), .ref q4, .int (F 15), .ref q5, .ref q6, .ref q7, .int (F 19), .ref q8, .int (F 21), .int (F 22), .int (F 23), .int (F 24), .ref q9, .ref q10, .ref q11, .long (1 : Int64)]))] := hD
  refine lv_iconst (v := (0 : Int32)) hx hb dX9_upper_8 (by decide) ?_
  refine lv_istore (lv' := [(6, .int (0 : Int32)), (4, .long (0 : Int64)), (0, .ref qM), (1, .int p1), (2, .int p2), (3, .int p3)]) hx hb dX9_upper_9 hl (by decide) rfl (fun ls hl => ?_)
  obtain ⟨nn, hv⟩ := hv
  exact kX9_upper_c11 S hr hlocks hG hA nn _ _ _ hv _ _ (hP.sub (ws' := [(qM, .inr (9, [.int (F 0), .ref q1, .ref q2, .ref q3, .int (F 4), .int (F 5), .int (F 6), .int (F 7), .int (F 8), .int (F 9), .long ((vp_updL J 28 (1 : Int64)) 10), .int (F 11), .int (F 12), .int (F 13), .ref q4, .int (F 15), .ref q5, .ref q6, .ref q7, .int (F 19), .ref q8, .int (F 21), .int (F 22), .int (F 23), .int (F 24), .ref q9, .ref q10, .ref q11, .long ((vp_updL J 28 (1 : Int64)) 28)]))]) [0] rfl) (hD.sub (ws' := [(qM, .inr (9, [.int (F 0), .ref q1, .ref q2, .ref q3, .int (F 4), .int (F 5), .int (F 6), .int (F 7), .int (F 8), .int (F 9), .long ((vp_updL J 28 (1 : Int64)) 10), .int (F 11), .int (F 12), .int (F 13), .ref q4, .int (F 15), .ref q5, .ref q6, .ref q7, .int (F 19), .ref q8, .int (F 21), .int (F 22), .int (F 23), .int (F 24), .ref q9, .ref q10, .ref q11, .long ((vp_updL J 28 (1 : Int64)) 28)]))]) [0] (by decide) rfl) hS ls (lv_sub hl [2, 3, 4, 5, 1, 0] rfl)
def ppN (p k : Nat) : Nat → Nat
  | 0 => 1
  | i + 1 => ppN p k i * (if i < k then p else 10 - p)
theorem ppN_k (p k : Nat) : ∀ j, j ≤ k → ppN p k j = p ^ j
  | 0, _ => rfl
  | j + 1, h => by rw [ppN, ppN_k p k j (by omega), if_pos (by omega), Nat.pow_succ]
theorem ppN_n (p k : Nat) : ∀ j, ppN p k (k + j) = p ^ k * (10 - p) ^ j
  | 0 => by rw [Nat.add_zero, ppN_k p k k (Nat.le_refl _), Nat.pow_zero, Nat.mul_one]
  | j + 1 => by rw [show k + (j + 1) = k + j + 1 by omega, ppN, ppN_n p k j, if_neg (by omega), Nat.pow_succ, Nat.mul_assoc]
theorem uL_eq (J : Nat → Int64) (k : Nat) (v : Int64) : vp_updL J k v k = v := by unfold vp_updL; rw [if_pos rfl]
theorem q_lNi {x : Int32} {a : Nat} (h : x.toInt = (a : Int)) : x.toInt64 = lN a := q_lc (q_i2l h)
abbrev preX9_upper (n : Nat) (p : Nat) (m : Nat) (F : Nat → Int32) (J : Nat → Int64) (p1 : Int32) (p2 : Int32) (p3 : Int32) : Prop := p1.toInt = (n : Int) ∧ n ≤ 18 ∧ p2.toInt = (p : Int) ∧ p ≤ 10 ∧ p3.toInt = (m : Int)
abbrev postX9_upper (n : Nat) (p : Nat) (m : Nat) (F : Nat → Int32) (J : Nat → Int64) (p1 : Int32) (p2 : Int32) (p3 : Int32) (r : Int64) (J' : Nat → Int64) : Prop := r.toInt = ((us n p m (n + 1) : Nat) : Int) ∧ (J' 28).toInt = ((10 ^ n : Nat) : Int)
theorem sX9_upper_54 (n : Nat) (p : Nat) (m : Nat) (F : Nat → Int32) (J : Nat → Int64) (p1 : Int32) (p2 : Int32) (p3 : Int32) (H : preX9_upper n p m F J p1 p2 p3) (Q : Int64 → (Nat → Int64) → Prop) (K : Int64 → Int64 → Int32 → (Nat → Int64) → Prop) (k : Nat) (hk : k ≤ n) (x4 x6 : Int64) (x8 : Int32) (h4 : x4.toInt = ((us n p m k : Nat) : Int)) (h6 : x6.toInt = ((vR n k : Nat) : Int)) (h8 : x8.toInt = (k : Int)) (hK : ∀ (a b : Int64), a.toInt = ((us n p m (k + 1) : Nat) : Int) → b.toInt = ((vR n (k + 1) : Nat) : Int) → K a b (x8 + (1 : Int32)) J) : ∀ (f i : Nat) (x9 : Int64) (x11 : Int32), x9 = lN (vR n k * ppN p k i) → x11.toInt = (i : Int) → i ≤ n → n + 1 ≤ i + f → vX9_upper_c54 F p1 p2 p3 Q K f x4 x6 x8 x9 x11 J
  | 0, i, x9, x11, _, _, hi, hf => absurd hf (by omega)
  | f + 1, i, x9, x11, h9, h11, hi, hf => by
    obtain ⟨h1, hn, h2, hp, h3⟩ := id H
    have h11s := q_1 h11 (by omega)
    rw [vX9_upper_c54, q_le h1 h11]
    refine ⟨fun hc => ?_, fun hc => ?_⟩
    · have : i = n := by omega
      subst this
      have hpp : ppN p k i = p ^ k * (10 - p) ^ (i - k) := by
        have := ppN_n p k (i - k)
        rw [show k + (i - k) = i by omega] at this; exact this
      rw [hpp] at h9
      have hv := vR_le i (by omega) k (by omega)
      have hnx := us_le hn hp m (k := k + 1) (by omega)
      have fin : ∀ s0 : Int64, s0.toInt = ((if m ≤ k then vR i k * (p ^ k * (10 - p) ^ (i - k)) else 0 : Nat) : Int) → vX9_upper_c102 F p1 p2 p3 Q K x6 x8 s0 x4 J := by
        intro s0 hs0
        have h8s := q_1 h8 (by omega)
        have e8 := q_i2l h8s
        have e18 := q_i2l (q_subN h1 h8 hk (by omega))
        refine ⟨by rw [q_l0 e8]; omega, fun y hy => hK _ _ ?_ ?_⟩
        · rw [us] at hnx ⊢
          exact q_laddN h4 hs0 (by omega)
        · have hmm : vR i k * (i - k) ≤ 100000 * 18 := Nat.mul_le_mul hv (by omega)
          rw [hy, vR]
          exact q_ldiv (q_lmulN h6 e18 (by omega)) e8 (by omega)
      rw [q_lt h8 h3]
      refine ⟨fun hz => fin _ (by rw [if_neg (by omega)]; rfl), fun hz => fin _ ?_⟩
      rw [if_pos (by omega), h9]
      rw [us, if_pos (by omega)] at hnx
      exact pk_lT (by omega)
    · rw [q_le h8 h11]
      refine ⟨fun hz y hy => sX9_upper_54 n p m F J p1 p2 p3 H Q K k hk x4 x6 x8 h4 h6 h8 hK f (i + 1) _ _ ?_ h11s (by omega) (by omega), fun hz => sX9_upper_54 n p m F J p1 p2 p3 H Q K k hk x4 x6 x8 h4 h6 h8 hK f (i + 1) _ _ ?_ h11s (by omega) (by omega)⟩
      · rw [hy, h9, q_lNi (q_subN (a := 10) rfl h2 (by omega) (by omega)), lN_mul, ppN, if_neg (by omega), Nat.mul_assoc]
      · rw [h9, q_lNi h2, lN_mul, ppN, if_pos (by omega), Nat.mul_assoc]
theorem sX9_upper_41 (n : Nat) (p : Nat) (m : Nat) (F : Nat → Int32) (J : Nat → Int64) (p1 : Int32) (p2 : Int32) (p3 : Int32) (H : preX9_upper n p m F J p1 p2 p3) (h28 : (J 28).toInt = ((10 ^ n : Nat) : Int)) (Q : Int64 → (Nat → Int64) → Prop) (hQ : ∀ (r : Int64), r.toInt = ((us n p m (n + 1) : Nat) : Int) → Q r J) : ∀ (f k : Nat) (x4 x6 : Int64) (x8 : Int32), x4.toInt = ((us n p m k : Nat) : Int) → x6.toInt = ((vR n k : Nat) : Int) → x8.toInt = (k : Int) → k ≤ n + 1 → n + 2 ≤ k + f → vX9_upper_c41 F p1 p2 p3 Q f x4 x6 x8 J
  | 0, k, x4, x6, x8, _, _, _, hk, hf => absurd hf (by omega)
  | f + 1, k, x4, x6, x8, h4, h6, h8, hk, hf => by
    obtain ⟨h1, hn, h2, hp, h3⟩ := id H
    rw [vX9_upper_c41, q_lt h1 h8]
    refine ⟨fun hc => ?_, fun hc => ⟨n + 1, sX9_upper_54 n p m F J p1 p2 p3 H Q _ k (by omega) x4 x6 x8 h4 h6 h8 (fun a b ha hb => sX9_upper_41 n p m F J p1 p2 p3 H h28 Q hQ f (k + 1) a b _ ha hb (q_1 h8 (by omega)) (by omega) (by omega)) _ 0 _ _ ?_ rfl (by omega) (by omega)⟩⟩
    · have : k = n + 1 := by omega
      subst this
      exact hQ _ h4
    · rw [ppN, Nat.mul_one]; exact q_lc h6
theorem sX9_upper_11 (n p m : Nat) (F : Nat → Int32) (p1 p2 p3 : Int32) (H : p1.toInt = (n : Int) ∧ n ≤ 18 ∧ p2.toInt = (p : Int) ∧ p ≤ 10 ∧ p3.toInt = (m : Int)) (Q : Int64 → (Nat → Int64) → Prop) (hQ : ∀ (r : Int64) (J' : Nat → Int64), r.toInt = ((us n p m (n + 1) : Nat) : Int) → (J' 28).toInt = ((10 ^ n : Nat) : Int) → Q r J') : ∀ (f i : Nat) (x6 : Int32) (J : Nat → Int64), x6.toInt = (i : Int) → (J 28).toInt = ((10 ^ i : Nat) : Int) → i ≤ n → n + 1 ≤ i + f → vX9_upper_c11 F p1 p2 p3 Q f (0 : Int64) x6 J
  | 0, i, x6, J, _, _, hi, hf => absurd hf (by omega)
  | f + 1, i, x6, J, h6, hJ, hi, hf => by
    obtain ⟨h1, hn, h2, hp, h3⟩ := id H
    rw [vX9_upper_c11, q_le h1 h6]
    refine ⟨fun hc => ?_, fun hc => sX9_upper_11 n p m F p1 p2 p3 H Q hQ f (i + 1) _ _ (q_1 h6 (by omega)) ?_ (by omega) (by omega)⟩
    · have : i = n := by omega
      subst this
      exact ⟨i + 2, sX9_upper_41 i p m F J p1 p2 p3 H hJ Q (fun r hr => hQ r J hr hJ) _ 0 _ _ _ rfl rfl rfl (by omega) (by omega)⟩
    · have h10 := p10_le (n := i + 1) (by omega)
      rw [uL_eq, Nat.pow_succ]
      rw [Nat.pow_succ] at h10
      exact q_lmulN (b := 10) hJ rfl (by omega)
theorem sX9_upper (n : Nat) (p : Nat) (m : Nat) (F : Nat → Int32) (J : Nat → Int64) (p1 : Int32) (p2 : Int32) (p3 : Int32) (H : preX9_upper n p m F J p1 p2 p3) : vX9_upper F J p1 p2 p3 (postX9_upper n p m F J p1 p2 p3) := ⟨n + 1, sX9_upper_11 n p m F p1 p2 p3 H _ (fun r J' h1 h2 => ⟨h1, h2⟩) _ 0 0 _ rfl (by rw [uL_eq]; rfl) (by omega) (by omega)⟩
set_option maxRecDepth 20000 in
theorem ggX9_chance_X9_in : GoodIn wsX9_chance wsX9_in := goodIn_r _ [7] (by decide +kernel) (by decide +kernel)
set_option maxRecDepth 20000 in
theorem gX9_chance_X9_in : GoodIn wsX9_chance (va_wsS RX9 63 yX9_in wsX9_in) := goodIn_app (goodIn_of _ (by decide +kernel)) ggX9_chance_X9_in
set_option maxRecDepth 20000 in
theorem ggX9_chance_X9_upper : GoodIn wsX9_chance wsX9_upper := goodIn_r _ [11, 3, 12, 16, 17, 18, 19, 20, 21, 22, 23, 24, 25, 26, 27, 28, 29, 30, 31, 32, 33, 34, 35, 36, 37, 38, 39, 40, 41, 42, 43, 44] (by decide +kernel) (by decide +kernel)
set_option maxRecDepth 20000 in
theorem gX9_chance_X9_upper : GoodIn wsX9_chance (wsV RX9 322 RX9 yX9_upper wsX9_upper) := goodIn_app (goodIn_of _ (by decide +kernel)) ggX9_chance_X9_upper
set_option maxRecDepth 20000 in
theorem ggX9_chance_X9_measure : GoodIn wsX9_chance wsX9_measure := goodIn_r _ [15] (by decide +kernel) (by decide +kernel)
set_option maxRecDepth 20000 in
theorem gX9_chance_X9_measure : GoodIn wsX9_chance (va_wsS RX9 59 yX9_measure wsX9_measure) := goodIn_app (goodIn_of _ (by decide +kernel)) ggX9_chance_X9_measure
theorem dX9_chance_0 : decode cX9_chance 0 = .ok (.aload_n 0, 1) := by decide +kernel
theorem dX9_chance_1 : decode cX9_chance 1 = .ok (.iconst 0, 1) := by decide +kernel
theorem dX9_chance_2 : decode cX9_chance 2 = .ok (.putfield 51, 3) := by decide +kernel
theorem dX9_chance_5 : decode cX9_chance 5 = .ok (.iload_n 1, 1) := by decide +kernel
theorem dX9_chance_6 : decode cX9_chance 6 = .ok (.iconst 0, 1) := by decide +kernel
theorem dX9_chance_7 : decode cX9_chance 7 = .ok (.bipush 18, 2) := by decide +kernel
theorem dX9_chance_9 : decode cX9_chance 9 = .ok (.invokestatic 63, 3) := by decide +kernel
theorem dX9_chance_12 : decode cX9_chance 12 = .ok (.ifCond .eq 23, 3) := by decide +kernel
theorem dX9_chance_15 : decode cX9_chance 15 = .ok (.iload_n 2, 1) := by decide +kernel
theorem dX9_chance_16 : decode cX9_chance 16 = .ok (.iconst 0, 1) := by decide +kernel
theorem dX9_chance_17 : decode cX9_chance 17 = .ok (.bipush 10, 2) := by decide +kernel
theorem dX9_chance_19 : decode cX9_chance 19 = .ok (.invokestatic 63, 3) := by decide +kernel
theorem dX9_chance_22 : decode cX9_chance 22 = .ok (.ifCond .eq 13, 3) := by decide +kernel
theorem dX9_chance_25 : decode cX9_chance 25 = .ok (.iload_n 3, 1) := by decide +kernel
theorem dX9_chance_26 : decode cX9_chance 26 = .ok (.iconst 0, 1) := by decide +kernel
theorem dX9_chance_27 : decode cX9_chance 27 = .ok (.bipush 18, 2) := by decide +kernel
theorem dX9_chance_29 : decode cX9_chance 29 = .ok (.invokestatic 63, 3) := by decide +kernel
theorem dX9_chance_32 : decode cX9_chance 32 = .ok (.ifCond .ne 7, 3) := by decide +kernel
theorem dX9_chance_35 : decode cX9_chance 35 = .ok (.ldc2_w 320, 3) := by decide +kernel
theorem dX9_chance_38 : decode cX9_chance 38 = .ok (.lreturn, 1) := by decide +kernel
theorem dX9_chance_39 : decode cX9_chance 39 = .ok (.aload_n 0, 1) := by decide +kernel
theorem dX9_chance_40 : decode cX9_chance 40 = .ok (.iload_n 1, 1) := by decide +kernel
theorem dX9_chance_41 : decode cX9_chance 41 = .ok (.iload_n 2, 1) := by decide +kernel
theorem dX9_chance_42 : decode cX9_chance 42 = .ok (.iload_n 3, 1) := by decide +kernel
theorem dX9_chance_43 : decode cX9_chance 43 = .ok (.invokevirtual 322, 3) := by decide +kernel
theorem dX9_chance_46 : decode cX9_chance 46 = .ok (.lstore 5, 2) := by decide +kernel
theorem dX9_chance_48 : decode cX9_chance 48 = .ok (.lload 5, 2) := by decide +kernel
theorem dX9_chance_50 : decode cX9_chance 50 = .ok (.aload_n 0, 1) := by decide +kernel
theorem dX9_chance_51 : decode cX9_chance 51 = .ok (.getfield 315, 3) := by decide +kernel
theorem dX9_chance_54 : decode cX9_chance 54 = .ok (.invokestatic 59, 3) := by decide +kernel
theorem dX9_chance_57 : decode cX9_chance 57 = .ok (.lstore 7, 2) := by decide +kernel
theorem dX9_chance_59 : decode cX9_chance 59 = .ok (.iload 4, 2) := by decide +kernel
theorem dX9_chance_61 : decode cX9_chance 61 = .ok (.ifCond .eq 10, 3) := by decide +kernel
theorem dX9_chance_64 : decode cX9_chance 64 = .ok (.aload_n 0, 1) := by decide +kernel
theorem dX9_chance_65 : decode cX9_chance 65 = .ok (.getfield 315, 3) := by decide +kernel
theorem dX9_chance_68 : decode cX9_chance 68 = .ok (.goto 5, 3) := by decide +kernel
theorem dX9_chance_71 : decode cX9_chance 71 = .ok (.lload 5, 2) := by decide +kernel
theorem dX9_chance_73 : decode cX9_chance 73 = .ok (.lload 7, 2) := by decide +kernel
theorem dX9_chance_75 : decode cX9_chance 75 = .ok (.ldiv, 1) := by decide +kernel
theorem dX9_chance_76 : decode cX9_chance 76 = .ok (.lreturn, 1) := by decide +kernel
abbrev rmX9_chance : Room := { frames := 1, cells := 0, slots := 0, locals := 31 }
theorem inX9_chance_9 : ∀ w ∈ wsX90, w ∈ wsX9_chance := by decide +kernel
def vX9_chance (F : Nat → Int32) (J : Nat → Int64) (p1 : Int32) (p2 : Int32) (p3 : Int32) (p4 : Int32) (Q : Int64 → (Nat → Int32) → (Nat → Int64) → Prop) : Prop := (preX9_in p1 (0 : Int32) (18 : Int32) ∧ (∀ r_9 : Int32, postX9_in p1 (0 : Int32) (18 : Int32) r_9 → ((r_9 = 0 → (Q (-1 : Int64) (upd F 0 (0 : Int32)) J)) ∧ (¬ r_9 = 0 → (preX9_in p2 (0 : Int32) (10 : Int32) ∧ (∀ r_19 : Int32, postX9_in p2 (0 : Int32) (10 : Int32) r_19 → ((r_19 = 0 → (Q (-1 : Int64) (upd F 0 (0 : Int32)) J)) ∧ (¬ r_19 = 0 → (preX9_in p3 (0 : Int32) (18 : Int32) ∧ (∀ r_29 : Int32, postX9_in p3 (0 : Int32) (18 : Int32) r_29 → ((¬ r_29 = 0 → (∃ (n_43 : Nat) (p_43 : Nat) (m_43 : Nat), preX9_upper n_43 p_43 m_43 (upd F 0 (0 : Int32)) J p1 p2 p3 ∧ (∀ (r_43 : Int64) (J_43 : Nat → Int64), postX9_upper n_43 p_43 m_43 (upd F 0 (0 : Int32)) J p1 p2 p3 r_43 J_43 → (∃ (a_54 : Nat) (b_54 : Nat), preX9_measure a_54 b_54 r_43 (J_43 28) ∧ (∀ r_54 : Int64, postX9_measure a_54 b_54 r_43 (J_43 28) r_54 → ((p4 = 0 → (¬ r_54 = 0 ∧ (Q (r_43 / r_54) (upd F 0 (0 : Int32)) J_43))) ∧ (¬ p4 = 0 → (¬ r_54 = 0 ∧ (Q ((J_43 28) / r_54) (upd F 0 (0 : Int32)) J_43))))))))) ∧ (r_29 = 0 → (Q (-1 : Int64) (upd F 0 (0 : Int32)) J)))))))))))))
set_option maxHeartbeats 4000000 in
set_option maxRecDepth 100000 in
theorem wX9_chance (l : Launch) (g : GP) (qM : Nat) (q1 : Nat) (q2 : Nat) (q3 : Nat) (q4 : Nat) (q5 : Nat) (q6 : Nat) (q7 : Nat) (q8 : Nat) (q9 : Nat) (q10 : Nat) (q11 : Nat) (sz : Nat) (F : Nat → Int32) (J : Nat → Int64) (p1 : Int32) (p2 : Int32) (p3 : Int32) (p4 : Int32) {Q : Int64 → (Nat → Int32) → (Nat → Int64) → Prop} (hv : vX9_chance F J p1 p2 p3 p4 Q) : Met l yX9_chance wsX9_chance rmX9_chance (va_Pc [.ref qM, .int p1, .int p2, .int p3, .int p4] (fun U => U.heap.size = sz ∧ va_P g.1 vwCl [(qM, .inr (9, [.int (F 0), .ref q1, .ref q2, .ref q3, .int (F 4), .int (F 5), .int (F 6), .int (F 7), .int (F 8), .int (F 9), .long (J 10), .int (F 11), .int (F 12), .int (F 13), .ref q4, .int (F 15), .ref q5, .ref q6, .ref q7, .int (F 19), .ref q8, .int (F 21), .int (F 22), .int (F 23), .int (F 24), .ref q9, .ref q10, .ref q11, .long (J 28)]))] U.heap ∧ GK g U ∧ va_D (fun _ => True) [(qM, .inr (9, [.int (F 0), .ref q1, .ref q2, .ref q3, .int (F 4), .int (F 5), .int (F 6), .int (F 7), .int (F 8), .int (F 9), .long (J 10), .int (F 11), .int (F 12), .int (F 13), .ref q4, .int (F 15), .ref q5, .ref q6, .ref q7, .int (F 19), .ref q8, .int (F 21), .int (F 22), .int (F 23), .int (F 24), .ref q9, .ref q10, .ref q11, .long (J 28)]))])) (va_Ql (fun (r : Int64) (u : (Nat → Int32) × (Nat → Int64)) => Q r u.1 u.2) (fun (u : (Nat → Int32) × (Nat → Int64)) t => va_P g.1 vwCl [(qM, .inr (9, [.int (u.1 0), .ref q1, .ref q2, .ref q3, .int (u.1 4), .int (u.1 5), .int (u.1 6), .int (u.1 7), .int (u.1 8), .int (u.1 9), .long (u.2 10), .int (u.1 11), .int (u.1 12), .int (u.1 13), .ref q4, .int (u.1 15), .ref q5, .ref q6, .ref q7, .int (u.1 19), .ref q8, .int (u.1 21), .int (u.1 22), .int (u.1 23), .int (u.1 24), .ref q9, .ref q10, .ref q11, .long (u.2 28)]))] t.heap ∧ va_D (va_A [(qM, .inr (9, [.int (F 0), .ref q1, .ref q2, .ref q3, .int (F 4), .int (F 5), .int (F 6), .int (F 7), .int (F 8), .int (F 9), .long (J 10), .int (F 11), .int (F 12), .int (F 13), .ref q4, .int (F 15), .ref q5, .ref q6, .ref q7, .int (F 19), .ref q8, .int (F 21), .int (F 22), .int (F 23), .int (F 24), .ref q9, .ref q10, .ref q11, .long (J 28)]))] sz) [(qM, .inr (9, [.int (u.1 0), .ref q1, .ref q2, .ref q3, .int (u.1 4), .int (u.1 5), .int (u.1 6), .int (u.1 7), .int (u.1 8), .int (u.1 9), .long (u.2 10), .int (u.1 11), .int (u.1 12), .int (u.1 13), .ref q4, .int (u.1 15), .ref q5, .ref q6, .ref q7, .int (u.1 19), .ref q8, .int (u.1 21), .int (u.1 22), .int (u.1 23), .int (u.1 24), .ref q9, .ref q10, .ref q11, .long (u.2 28)]))]) (va_A [(qM, .inr (9, [.int (F 0), .ref q1, .ref q2, .ref q3, .int (F 4), .int (F 5), .int (F 6), .int (F 7), .int (F 8), .int (F 9), .long (J 10), .int (F 11), .int (F 12), .int (F 13), .ref q4, .int (F 15), .ref q5, .ref q6, .ref q7, .int (F 19), .ref q8, .int (F 21), .int (F 22), .int (F 23), .int (F 24), .ref q9, .ref q10, .ref q11, .long (J 28)]))] sz)) 0 0 (va_A [(qM, .inr (9, [.int (F 0), .ref q1, .ref q2, .ref q3, .int (F 4), .int (F 5), .int (F 6), .int (F 7), .int (F 8), .int (F 9), .long (J 10), .int (F 11), .int (F 12), .int (F 13), .ref q4, .int (F 15), .ref q5, .ref q6, .ref q7, .int (F 19), .ref q8, .int (F 21), .int (F 22), .int (F 23), .int (F 24), .ref q9, .ref q10, .ref q11, .long (J 28)]))] sz) := by
  refine Met.ofW (cc := cX9_chance) (maxL := 9) (ret := (some .long)) (by decide) rfl ?_
  intro p e s m args below meth c s₁ B hml hv'
  obtain ⟨rfl, hsz, hP, hG, hD0⟩ := hv'
  have S : CallFix p m c cX9_chance 9 s _ wsX9_chance RX9 := ⟨B.exec, B.bytes, hml, findClass_of_methodNamed B.named, atoms_spec (ws := wsX9_chance) B.pre⟩
  obtain ⟨hx, hb, hml, hown, hts⟩ := id S
  have hK := hG.1
  have hr := B.returns
  have hlocks := B.notSynchronized
  subst hsz
  have hD := hD0.self (sz := s.heap.size)
  generalize hAe : va_A [(qM, .inr (9, [.int (F 0), .ref q1, .ref q2, .ref q3, .int (F 4), .int (F 5), .int (F 6), .int (F 7), .int (F 8), .int (F 9), .long (J 10), .int (F 11), .int (F 12), .int (F 13), .ref q4, .int (F 15), .ref q5, .ref q6, .ref q7, .int (F 19), .ref q8, .int (F 21), .int (F 22), .int (F 23), .int (F 24), .ref q9, .ref q10, .ref q11, .long (J 28)]))] s.heap.size = A at hD ⊢
  have hA : ∀ q : Nat, s.heap.size ≤ q → A q := fun q h => by rw [← hAe]; exact Or.inr h
  have hS : va_S A s.heap s.heap [] := va_S.rf
  clear hD0 hAe
  have hl := lv_entry ([.ref qM, .int p1, .int p2, .int p3, .int p4]) (n := 9) (Nat.le_of_ble_eq_true rfl)
  rw [lg_entry_eq]
  generalize (lg_sl ([.ref qM, .int p1, .int p2, .int p3, .int p4]) ++ List.replicate (9 - (lg_sl ([.ref qM, .int p1, .int p2, .int p3, .int p4])).length) Slot.unset).toArray = ls at hl ⊢
  have hl : lv_has ls 9 [(0, .ref qM), (1, .int p1), (2, .int p2), (3, .int p3), (4, .int p4)] := hl
  unfold vX9_chance at hv
  refine lv_aload_n hx hb dX9_chance_0 rfl (lv_at hl 0 rfl) ?_
  refine lv_iconst (v := (0 : Int32)) hx hb dX9_chance_1 (by decide) ?_
  refine va_put (D := g.1) (ci := 9) (v := .int (0 : Int32)) (ty := .int) (C := RX9) (T := TX9) (N := 29) hx hb hts inX9_chance_9 tyX9 tyX9_ok nmX9 hown hK hP hD hS 0 rfl rfl 0 (by decide) (hts (.fieldLink RX9 51 "RangeCodesModel" "raised" "I") (List.mem_of_getElem? (i := 1) rfl)) (fun _ h9 => h9) rfl (by decide +kernel) rfl rfl (Nat.le_of_ble_eq_true rfl) dX9_chance_2 (fun H locs hP hD hS => ?_)
  have hP : va_P g.1 vwCl [(qM, .inr (9, [.int (0 : Int32), .ref q1, .ref q2, .ref q3, .int (F 4), .int (F 5), .int (F 6), .int (F 7), .int (F 8), .int (F 9), .long (J 10), .int (F 11), .int (F 12), .int (F 13), .ref q4, .int (F 15), .ref q5, .ref q6, .ref q7, .int (F 19), .ref q8, .int (F 21), .int (F 22), .int (F 23), .int (F 24), .ref q9, .ref q10, .ref q11, .long (J 28)]))] H := hP
  have hD : va_D A [(qM, .inr (9, [.int (0 : Int32), .ref q1, .ref q2, .ref q3, .int (F 4), .int (F 5), .int (F 6), .int (F 7), .int (F 8), .int (F 9), .long (J 10), .int (F 11), .int (F 12), .int (F 13), .ref q4, .int (F 15), .ref q5, .ref q6, .ref q7, .int (F 19), .ref q8, .int (F 21), .int (F 22), .int (F 23), .int (F 24), .ref q9, .ref q10, .ref q11, .long (J 28)]))] := hD
  refine lv_iload_n hx hb dX9_chance_5 rfl (lv_at hl 1 rfl) ?_
  refine lv_iconst (v := (0 : Int32)) hx hb dX9_chance_6 (by decide) ?_
  refine lv_bipush (v := (18 : Int32)) hx hb dX9_chance_7 (by decide) ?_
  obtain ⟨ho_1, hv⟩ := hv
  refine vp_callSi (W.runS (As := [.int p1, .int (0 : Int32), .int (18 : Int32)]) (rest := []) S (wX9_in l g p1 (0 : Int32) (18 : Int32) (sX9_in p1 (0 : Int32) (18 : Int32) ho_1)) (va_cwS 3 hts gX9_chance_X9_in rfl rfl rfl (by decide +kernel) ⟨Nat.le_of_ble_eq_true rfl, Nat.le_of_ble_eq_true rfl⟩) ⟨blindRO, fun U hU hW => ⟨rfl, by rw [hU]; exact hP.sub (ws' := []) [] rfl, hG.warm hW⟩⟩ rfl rfl hl.1 rfl (lv_room (Nat.le_of_ble_eq_true rfl)) dX9_chance_9 ⟨Nat.le_of_ble_eq_true rfl, Nat.le_of_ble_eq_true rfl⟩) (fun r_9 hr_9 => ?_)
  have hv := hv r_9 hr_9
  obtain ⟨hvt, hvf⟩ := hv
  refine lv_if_eq (tgt := 35) hx hb dX9_chance_12 (by decide) (fun hc => ?_) (fun hc => ?_)
  · have hv := hvt hc
    refine lv_ldc2 (v := (-1 : Int64)) hx hb hown (hts (.constantLong RX9 320 (-1)) (List.mem_of_getElem? (i := 2) rfl)) dX9_chance_35 ?_
    have hP9 := hP.sub (ws' := [(qM, .inr (9, [.int ((upd F 0 (0 : Int32)) 0), .ref q1, .ref q2, .ref q3, .int ((upd F 0 (0 : Int32)) 4), .int ((upd F 0 (0 : Int32)) 5), .int ((upd F 0 (0 : Int32)) 6), .int ((upd F 0 (0 : Int32)) 7), .int ((upd F 0 (0 : Int32)) 8), .int ((upd F 0 (0 : Int32)) 9), .long (J 10), .int ((upd F 0 (0 : Int32)) 11), .int ((upd F 0 (0 : Int32)) 12), .int ((upd F 0 (0 : Int32)) 13), .ref q4, .int ((upd F 0 (0 : Int32)) 15), .ref q5, .ref q6, .ref q7, .int ((upd F 0 (0 : Int32)) 19), .ref q8, .int ((upd F 0 (0 : Int32)) 21), .int ((upd F 0 (0 : Int32)) 22), .int ((upd F 0 (0 : Int32)) 23), .int ((upd F 0 (0 : Int32)) 24), .ref q9, .ref q10, .ref q11, .long (J 28)]))]) [0] rfl
    have hD9 := hD.sub (ws' := [(qM, .inr (9, [.int ((upd F 0 (0 : Int32)) 0), .ref q1, .ref q2, .ref q3, .int ((upd F 0 (0 : Int32)) 4), .int ((upd F 0 (0 : Int32)) 5), .int ((upd F 0 (0 : Int32)) 6), .int ((upd F 0 (0 : Int32)) 7), .int ((upd F 0 (0 : Int32)) 8), .int ((upd F 0 (0 : Int32)) 9), .long (J 10), .int ((upd F 0 (0 : Int32)) 11), .int ((upd F 0 (0 : Int32)) 12), .int ((upd F 0 (0 : Int32)) 13), .ref q4, .int ((upd F 0 (0 : Int32)) 15), .ref q5, .ref q6, .ref q7, .int ((upd F 0 (0 : Int32)) 19), .ref q8, .int ((upd F 0 (0 : Int32)) 21), .int ((upd F 0 (0 : Int32)) 22), .int ((upd F 0 (0 : Int32)) 23), .int ((upd F 0 (0 : Int32)) 24), .ref q9, .ref q10, .ref q11, .long (J 28)]))]) [0] (by decide) rfl
    exact W.lret (v := (-1 : Int64)) hx hb hr (fun t ht hW => ⟨⟨_, ((upd F 0 (0 : Int32)), J), rfl, hv, by rw [ht]; exact hP9, hD9⟩, hS.F ht⟩) hS.2.2 dX9_chance_38
  · have hv := hvf hc
    refine lv_iload_n hx hb dX9_chance_15 rfl (lv_at hl 2 rfl) ?_
    refine lv_iconst (v := (0 : Int32)) hx hb dX9_chance_16 (by decide) ?_
    refine lv_bipush (v := (10 : Int32)) hx hb dX9_chance_17 (by decide) ?_
    obtain ⟨ho_2, hv⟩ := hv
    refine vp_callSi (W.runS (As := [.int p2, .int (0 : Int32), .int (10 : Int32)]) (rest := []) S (wX9_in l g p2 (0 : Int32) (10 : Int32) (sX9_in p2 (0 : Int32) (10 : Int32) ho_2)) (va_cwS 3 hts gX9_chance_X9_in rfl rfl rfl (by decide +kernel) ⟨Nat.le_of_ble_eq_true rfl, Nat.le_of_ble_eq_true rfl⟩) ⟨blindRO, fun U hU hW => ⟨rfl, by rw [hU]; exact hP.sub (ws' := []) [] rfl, hG.warm hW⟩⟩ rfl rfl hl.1 rfl (lv_room (Nat.le_of_ble_eq_true rfl)) dX9_chance_19 ⟨Nat.le_of_ble_eq_true rfl, Nat.le_of_ble_eq_true rfl⟩) (fun r_19 hr_19 => ?_)
    have hv := hv r_19 hr_19
    obtain ⟨hvt, hvf⟩ := hv
    refine lv_if_eq (tgt := 35) hx hb dX9_chance_22 (by decide) (fun hc => ?_) (fun hc => ?_)
    · have hv := hvt hc
      refine lv_ldc2 (v := (-1 : Int64)) hx hb hown (hts (.constantLong RX9 320 (-1)) (List.mem_of_getElem? (i := 2) rfl)) dX9_chance_35 ?_
      have hP9 := hP.sub (ws' := [(qM, .inr (9, [.int ((upd F 0 (0 : Int32)) 0), .ref q1, .ref q2, .ref q3, .int ((upd F 0 (0 : Int32)) 4), .int ((upd F 0 (0 : Int32)) 5), .int ((upd F 0 (0 : Int32)) 6), .int ((upd F 0 (0 : Int32)) 7), .int ((upd F 0 (0 : Int32)) 8), .int ((upd F 0 (0 : Int32)) 9), .long (J 10), .int ((upd F 0 (0 : Int32)) 11), .int ((upd F 0 (0 : Int32)) 12), .int ((upd F 0 (0 : Int32)) 13), .ref q4, .int ((upd F 0 (0 : Int32)) 15), .ref q5, .ref q6, .ref q7, .int ((upd F 0 (0 : Int32)) 19), .ref q8, .int ((upd F 0 (0 : Int32)) 21), .int ((upd F 0 (0 : Int32)) 22), .int ((upd F 0 (0 : Int32)) 23), .int ((upd F 0 (0 : Int32)) 24), .ref q9, .ref q10, .ref q11, .long (J 28)]))]) [0] rfl
      have hD9 := hD.sub (ws' := [(qM, .inr (9, [.int ((upd F 0 (0 : Int32)) 0), .ref q1, .ref q2, .ref q3, .int ((upd F 0 (0 : Int32)) 4), .int ((upd F 0 (0 : Int32)) 5), .int ((upd F 0 (0 : Int32)) 6), .int ((upd F 0 (0 : Int32)) 7), .int ((upd F 0 (0 : Int32)) 8), .int ((upd F 0 (0 : Int32)) 9), .long (J 10), .int ((upd F 0 (0 : Int32)) 11), .int ((upd F 0 (0 : Int32)) 12), .int ((upd F 0 (0 : Int32)) 13), .ref q4, .int ((upd F 0 (0 : Int32)) 15), .ref q5, .ref q6, .ref q7, .int ((upd F 0 (0 : Int32)) 19), .ref q8, .int ((upd F 0 (0 : Int32)) 21), .int ((upd F 0 (0 : Int32)) 22), .int ((upd F 0 (0 : Int32)) 23), .int ((upd F 0 (0 : Int32)) 24), .ref q9, .ref q10, .ref q11, .long (J 28)]))]) [0] (by decide) rfl
      exact W.lret (v := (-1 : Int64)) hx hb hr (fun t ht hW => ⟨⟨_, ((upd F 0 (0 : Int32)), J), rfl, hv, by rw [ht]; exact hP9, hD9⟩, hS.F ht⟩) hS.2.2 dX9_chance_38
    · have hv := hvf hc
      refine lv_iload_n hx hb dX9_chance_25 rfl (lv_at hl 3 rfl) ?_
      refine lv_iconst (v := (0 : Int32)) hx hb dX9_chance_26 (by decide) ?_
      refine lv_bipush (v := (18 : Int32)) hx hb dX9_chance_27 (by decide) ?_
      obtain ⟨ho_3, hv⟩ := hv
      refine vp_callSi (W.runS (As := [.int p3, .int (0 : Int32), .int (18 : Int32)]) (rest := []) S (wX9_in l g p3 (0 : Int32) (18 : Int32) (sX9_in p3 (0 : Int32) (18 : Int32) ho_3)) (va_cwS 3 hts gX9_chance_X9_in rfl rfl rfl (by decide +kernel) ⟨Nat.le_of_ble_eq_true rfl, Nat.le_of_ble_eq_true rfl⟩) ⟨blindRO, fun U hU hW => ⟨rfl, by rw [hU]; exact hP.sub (ws' := []) [] rfl, hG.warm hW⟩⟩ rfl rfl hl.1 rfl (lv_room (Nat.le_of_ble_eq_true rfl)) dX9_chance_29 ⟨Nat.le_of_ble_eq_true rfl, Nat.le_of_ble_eq_true rfl⟩) (fun r_29 hr_29 => ?_)
      have hv := hv r_29 hr_29
      obtain ⟨hvt, hvf⟩ := hv
      refine lv_if_ne (tgt := 39) hx hb dX9_chance_32 (by decide) (fun hc => ?_) (fun hc => ?_)
      · have hv := hvt hc
        refine lv_aload_n hx hb dX9_chance_39 rfl (lv_at hl 0 rfl) ?_
        refine lv_iload_n hx hb dX9_chance_40 rfl (lv_at hl 1 rfl) ?_
        refine lv_iload_n hx hb dX9_chance_41 rfl (lv_at hl 2 rfl) ?_
        refine lv_iload_n hx hb dX9_chance_42 rfl (lv_at hl 3 rfl) ?_
        obtain ⟨n_43, p_43, m_43, ho_4, hv⟩ := hv
        have hPc := hP.sub (ws' := [(qM, .inr (9, [.int ((upd F 0 (0 : Int32)) 0), .ref q1, .ref q2, .ref q3, .int ((upd F 0 (0 : Int32)) 4), .int ((upd F 0 (0 : Int32)) 5), .int ((upd F 0 (0 : Int32)) 6), .int ((upd F 0 (0 : Int32)) 7), .int ((upd F 0 (0 : Int32)) 8), .int ((upd F 0 (0 : Int32)) 9), .long (J 10), .int ((upd F 0 (0 : Int32)) 11), .int ((upd F 0 (0 : Int32)) 12), .int ((upd F 0 (0 : Int32)) 13), .ref q4, .int ((upd F 0 (0 : Int32)) 15), .ref q5, .ref q6, .ref q7, .int ((upd F 0 (0 : Int32)) 19), .ref q8, .int ((upd F 0 (0 : Int32)) 21), .int ((upd F 0 (0 : Int32)) 22), .int ((upd F 0 (0 : Int32)) 23), .int ((upd F 0 (0 : Int32)) 24), .ref q9, .ref q10, .ref q11, .long (J 28)]))]) [0] rfl
        have hDc := hD.sub (ws' := [(qM, .inr (9, [.int ((upd F 0 (0 : Int32)) 0), .ref q1, .ref q2, .ref q3, .int ((upd F 0 (0 : Int32)) 4), .int ((upd F 0 (0 : Int32)) 5), .int ((upd F 0 (0 : Int32)) 6), .int ((upd F 0 (0 : Int32)) 7), .int ((upd F 0 (0 : Int32)) 8), .int ((upd F 0 (0 : Int32)) 9), .long (J 10), .int ((upd F 0 (0 : Int32)) 11), .int ((upd F 0 (0 : Int32)) 12), .int ((upd F 0 (0 : Int32)) 13), .ref q4, .int ((upd F 0 (0 : Int32)) 15), .ref q5, .ref q6, .ref q7, .int ((upd F 0 (0 : Int32)) 19), .ref q8, .int ((upd F 0 (0 : Int32)) 21), .int ((upd F 0 (0 : Int32)) 22), .int ((upd F 0 (0 : Int32)) 23), .int ((upd F 0 (0 : Int32)) 24), .ref q9, .ref q10, .ref q11, .long (J 28)]))]) [0] (by decide) rfl
        have hFc := va_free (wc := [(qM, .inr (9, [.int ((upd F 0 (0 : Int32)) 0), .ref q1, .ref q2, .ref q3, .int ((upd F 0 (0 : Int32)) 4), .int ((upd F 0 (0 : Int32)) 5), .int ((upd F 0 (0 : Int32)) 6), .int ((upd F 0 (0 : Int32)) 7), .int ((upd F 0 (0 : Int32)) 8), .int ((upd F 0 (0 : Int32)) 9), .long (J 10), .int ((upd F 0 (0 : Int32)) 11), .int ((upd F 0 (0 : Int32)) 12), .int ((upd F 0 (0 : Int32)) 13), .ref q4, .int ((upd F 0 (0 : Int32)) 15), .ref q5, .ref q6, .ref q7, .int ((upd F 0 (0 : Int32)) 19), .ref q8, .int ((upd F 0 (0 : Int32)) 21), .int ((upd F 0 (0 : Int32)) 22), .int ((upd F 0 (0 : Int32)) 23), .int ((upd F 0 (0 : Int32)) 24), .ref q9, .ref q10, .ref q11, .long (J 28)]))]) hD hS hA [0] rfl
        refine va_calll (va_runV (As := [.int p1, .int p2, .int p3]) (rest := []) S (wX9_upper l g qM q1 q2 q3 q4 q5 q6 q7 q8 q9 q10 q11 H.size (upd F 0 (0 : Int32)) J p1 p2 p3 (sX9_upper n_43 p_43 m_43 (upd F 0 (0 : Int32)) J p1 p2 p3 ho_4)) (cwV 3 hts gX9_chance_X9_upper rfl rfl rfl (by decide +kernel) ⟨Nat.le_of_ble_eq_true rfl, Nat.le_of_ble_eq_true rfl⟩) ⟨blindRW, va_recv hK hP (ci := 9) (q0 := 0) rfl rfl, fun U hU hW => ⟨rfl, by rw [hU], by rw [hU]; exact hPc, hG.warm hW, hDc.weaken (fun _ _ _ _ => trivial)⟩⟩ rfl rfl hl.1 rfl (lv_room (Nat.le_of_ble_eq_true rfl)) dX9_chance_43 ⟨Nat.le_of_ble_eq_true rfl, Nat.le_of_ble_eq_true rfl⟩) hS (fun q _ h => hFc q h) hFc (fun r_43 u t H1 locs ht hvm hw hB hz1 hk1 hS => ?_)
        obtain ⟨J_43, rfl⟩ : ∃ z, z = u := ⟨_, rfl⟩
        obtain ⟨hP1, hD1⟩ := hB
        rw [ht] at hP1
        have hv := hv r_43 J_43 hw
        obtain ⟨hP, hD⟩ := va_join (wr := []) (w1 := [(qM, .inr (9, [.int ((upd F 0 (0 : Int32)) 0), .ref q1, .ref q2, .ref q3, .int ((upd F 0 (0 : Int32)) 4), .int ((upd F 0 (0 : Int32)) 5), .int ((upd F 0 (0 : Int32)) 6), .int ((upd F 0 (0 : Int32)) 7), .int ((upd F 0 (0 : Int32)) 8), .int ((upd F 0 (0 : Int32)) 9), .long (J_43 10), .int ((upd F 0 (0 : Int32)) 11), .int ((upd F 0 (0 : Int32)) 12), .int ((upd F 0 (0 : Int32)) 13), .ref q4, .int ((upd F 0 (0 : Int32)) 15), .ref q5, .ref q6, .ref q7, .int ((upd F 0 (0 : Int32)) 19), .ref q8, .int ((upd F 0 (0 : Int32)) 21), .int ((upd F 0 (0 : Int32)) 22), .int ((upd F 0 (0 : Int32)) 23), .int ((upd F 0 (0 : Int32)) 24), .ref q9, .ref q10, .ref q11, .long (J_43 28)]))]) hP hD [0] [] rfl rfl (by decide) (by decide) hk1 hFc hP1 hD1
        clear hP1 hD1 hPc hDc hFc hk1
        generalize H1 = H at hP hS ⊢
        have hP : va_P g.1 vwCl [(qM, .inr (9, [.int ((upd F 0 (0 : Int32)) 0), .ref q1, .ref q2, .ref q3, .int ((upd F 0 (0 : Int32)) 4), .int ((upd F 0 (0 : Int32)) 5), .int ((upd F 0 (0 : Int32)) 6), .int ((upd F 0 (0 : Int32)) 7), .int ((upd F 0 (0 : Int32)) 8), .int ((upd F 0 (0 : Int32)) 9), .long (J_43 10), .int ((upd F 0 (0 : Int32)) 11), .int ((upd F 0 (0 : Int32)) 12), .int ((upd F 0 (0 : Int32)) 13), .ref q4, .int ((upd F 0 (0 : Int32)) 15), .ref q5, .ref q6, .ref q7, .int ((upd F 0 (0 : Int32)) 19), .ref q8, .int ((upd F 0 (0 : Int32)) 21), .int ((upd F 0 (0 : Int32)) 22), .int ((upd F 0 (0 : Int32)) 23), .int ((upd F 0 (0 : Int32)) 24), .ref q9, .ref q10, .ref q11, .long (J_43 28)]))] H := hP
        have hD : va_D A [(qM, .inr (9, [.int ((upd F 0 (0 : Int32)) 0), .ref q1, .ref q2, .ref q3, .int ((upd F 0 (0 : Int32)) 4), .int ((upd F 0 (0 : Int32)) 5), .int ((upd F 0 (0 : Int32)) 6), .int ((upd F 0 (0 : Int32)) 7), .int ((upd F 0 (0 : Int32)) 8), .int ((upd F 0 (0 : Int32)) 9), .long (J_43 10), .int ((upd F 0 (0 : Int32)) 11), .int ((upd F 0 (0 : Int32)) 12), .int ((upd F 0 (0 : Int32)) 13), .ref q4, .int ((upd F 0 (0 : Int32)) 15), .ref q5, .ref q6, .ref q7, .int ((upd F 0 (0 : Int32)) 19), .ref q8, .int ((upd F 0 (0 : Int32)) 21), .int ((upd F 0 (0 : Int32)) 22), .int ((upd F 0 (0 : Int32)) 23), .int ((upd F 0 (0 : Int32)) 24), .ref q9, .ref q10, .ref q11, .long (J_43 28)]))] := hD
        refine lv_lstore (lv' := [(5, .long r_43), (0, .ref qM), (1, .int p1), (2, .int p2), (3, .int p3), (4, .int p4)]) hx hb dX9_chance_46 hl (by decide) rfl (fun ls hl => ?_)
        refine lv_lload hx hb dX9_chance_48 (lv_at hl 0 rfl) ?_
        refine lv_aload_n hx hb dX9_chance_50 rfl (lv_at hl 1 rfl) ?_
        refine va_get (D := g.1) (ci := 9) (v := .long (J_43 28)) (C := RX9) (T := TX9) (N := 29) hx hb hts inX9_chance_9 hown hK hP 0 rfl rfl 28 (by decide) (hts (.fieldLink RX9 315 "RangeCodesModel" "under" "J") (List.mem_of_getElem? (i := 3) rfl)) (fun _ h9 => h9) rfl dX9_chance_51 ?_
        obtain ⟨a_54, b_54, ho_5, hv⟩ := hv
        refine vp_callSl (W.runS (As := [.long r_43, .long (J_43 28)]) (rest := []) S (wX9_measure l g r_43 (J_43 28) (sX9_measure a_54 b_54 r_43 (J_43 28) ho_5)) (va_cwS 2 hts gX9_chance_X9_measure rfl rfl rfl (by decide +kernel) ⟨Nat.le_of_ble_eq_true rfl, Nat.le_of_ble_eq_true rfl⟩) ⟨blindRO, fun U hU hW => ⟨rfl, by rw [hU]; exact hP.sub (ws' := []) [] rfl, hG.warm hW⟩⟩ rfl rfl hl.1 rfl (lv_room (Nat.le_of_ble_eq_true rfl)) dX9_chance_54 ⟨Nat.le_of_ble_eq_true rfl, Nat.le_of_ble_eq_true rfl⟩) (fun r_54 hr_54 => ?_)
        have hv := hv r_54 hr_54
        refine lv_lstore (lv' := [(7, .long r_54), (5, .long r_43), (0, .ref qM), (1, .int p1), (2, .int p2), (3, .int p3), (4, .int p4)]) hx hb dX9_chance_57 hl (by decide) rfl (fun ls hl => ?_)
        refine lv_iload hx hb dX9_chance_59 (lv_at hl 6 rfl) ?_
        obtain ⟨hvt, hvf⟩ := hv
        refine lv_if_eq (tgt := 71) hx hb dX9_chance_61 (by decide) (fun hc => ?_) (fun hc => ?_)
        · have hv := hvt hc
          refine lv_lload hx hb dX9_chance_71 (lv_at hl 1 rfl) ?_
          refine lv_lload hx hb dX9_chance_73 (lv_at hl 0 rfl) ?_
          obtain ⟨ho_6, hv⟩ := hv
          refine lv_ldiv hx hb dX9_chance_75 ho_6 ?_
          have hP9 := hP.sub (ws' := [(qM, .inr (9, [.int ((upd F 0 (0 : Int32)) 0), .ref q1, .ref q2, .ref q3, .int ((upd F 0 (0 : Int32)) 4), .int ((upd F 0 (0 : Int32)) 5), .int ((upd F 0 (0 : Int32)) 6), .int ((upd F 0 (0 : Int32)) 7), .int ((upd F 0 (0 : Int32)) 8), .int ((upd F 0 (0 : Int32)) 9), .long (J_43 10), .int ((upd F 0 (0 : Int32)) 11), .int ((upd F 0 (0 : Int32)) 12), .int ((upd F 0 (0 : Int32)) 13), .ref q4, .int ((upd F 0 (0 : Int32)) 15), .ref q5, .ref q6, .ref q7, .int ((upd F 0 (0 : Int32)) 19), .ref q8, .int ((upd F 0 (0 : Int32)) 21), .int ((upd F 0 (0 : Int32)) 22), .int ((upd F 0 (0 : Int32)) 23), .int ((upd F 0 (0 : Int32)) 24), .ref q9, .ref q10, .ref q11, .long (J_43 28)]))]) [0] rfl
          have hD9 := hD.sub (ws' := [(qM, .inr (9, [.int ((upd F 0 (0 : Int32)) 0), .ref q1, .ref q2, .ref q3, .int ((upd F 0 (0 : Int32)) 4), .int ((upd F 0 (0 : Int32)) 5), .int ((upd F 0 (0 : Int32)) 6), .int ((upd F 0 (0 : Int32)) 7), .int ((upd F 0 (0 : Int32)) 8), .int ((upd F 0 (0 : Int32)) 9), .long (J_43 10), .int ((upd F 0 (0 : Int32)) 11), .int ((upd F 0 (0 : Int32)) 12), .int ((upd F 0 (0 : Int32)) 13), .ref q4, .int ((upd F 0 (0 : Int32)) 15), .ref q5, .ref q6, .ref q7, .int ((upd F 0 (0 : Int32)) 19), .ref q8, .int ((upd F 0 (0 : Int32)) 21), .int ((upd F 0 (0 : Int32)) 22), .int ((upd F 0 (0 : Int32)) 23), .int ((upd F 0 (0 : Int32)) 24), .ref q9, .ref q10, .ref q11, .long (J_43 28)]))]) [0] (by decide) rfl
          exact W.lret (v := (r_43 / r_54)) hx hb hr (fun t ht hW => ⟨⟨_, ((upd F 0 (0 : Int32)), J_43), rfl, hv, by rw [ht]; exact hP9, hD9⟩, hS.F ht⟩) hS.2.2 dX9_chance_76
        · have hv := hvf hc
          refine lv_aload_n hx hb dX9_chance_64 rfl (lv_at hl 2 rfl) ?_
          refine va_get (D := g.1) (ci := 9) (v := .long (J_43 28)) (C := RX9) (T := TX9) (N := 29) hx hb hts inX9_chance_9 hown hK hP 0 rfl rfl 28 (by decide) (hts (.fieldLink RX9 315 "RangeCodesModel" "under" "J") (List.mem_of_getElem? (i := 3) rfl)) (fun _ h9 => h9) rfl dX9_chance_65 ?_
          refine lv_goto (tgt := 73) hx hb dX9_chance_68 (by decide) ?_
          refine lv_lload hx hb dX9_chance_73 (lv_at hl 0 rfl) ?_
          obtain ⟨ho_7, hv⟩ := hv
          refine lv_ldiv hx hb dX9_chance_75 ho_7 ?_
          have hP9 := hP.sub (ws' := [(qM, .inr (9, [.int ((upd F 0 (0 : Int32)) 0), .ref q1, .ref q2, .ref q3, .int ((upd F 0 (0 : Int32)) 4), .int ((upd F 0 (0 : Int32)) 5), .int ((upd F 0 (0 : Int32)) 6), .int ((upd F 0 (0 : Int32)) 7), .int ((upd F 0 (0 : Int32)) 8), .int ((upd F 0 (0 : Int32)) 9), .long (J_43 10), .int ((upd F 0 (0 : Int32)) 11), .int ((upd F 0 (0 : Int32)) 12), .int ((upd F 0 (0 : Int32)) 13), .ref q4, .int ((upd F 0 (0 : Int32)) 15), .ref q5, .ref q6, .ref q7, .int ((upd F 0 (0 : Int32)) 19), .ref q8, .int ((upd F 0 (0 : Int32)) 21), .int ((upd F 0 (0 : Int32)) 22), .int ((upd F 0 (0 : Int32)) 23), .int ((upd F 0 (0 : Int32)) 24), .ref q9, .ref q10, .ref q11, .long (J_43 28)]))]) [0] rfl
          have hD9 := hD.sub (ws' := [(qM, .inr (9, [.int ((upd F 0 (0 : Int32)) 0), .ref q1, .ref q2, .ref q3, .int ((upd F 0 (0 : Int32)) 4), .int ((upd F 0 (0 : Int32)) 5), .int ((upd F 0 (0 : Int32)) 6), .int ((upd F 0 (0 : Int32)) 7), .int ((upd F 0 (0 : Int32)) 8), .int ((upd F 0 (0 : Int32)) 9), .long (J_43 10), .int ((upd F 0 (0 : Int32)) 11), .int ((upd F 0 (0 : Int32)) 12), .int ((upd F 0 (0 : Int32)) 13), .ref q4, .int ((upd F 0 (0 : Int32)) 15), .ref q5, .ref q6, .ref q7, .int ((upd F 0 (0 : Int32)) 19), .ref q8, .int ((upd F 0 (0 : Int32)) 21), .int ((upd F 0 (0 : Int32)) 22), .int ((upd F 0 (0 : Int32)) 23), .int ((upd F 0 (0 : Int32)) 24), .ref q9, .ref q10, .ref q11, .long (J_43 28)]))]) [0] (by decide) rfl
          exact W.lret (v := ((J_43 28) / r_54)) hx hb hr (fun t ht hW => ⟨⟨_, ((upd F 0 (0 : Int32)), J_43), rfl, hv, by rw [ht]; exact hP9, hD9⟩, hS.F ht⟩) hS.2.2 dX9_chance_76
      · have hv := hvf hc
        refine lv_ldc2 (v := (-1 : Int64)) hx hb hown (hts (.constantLong RX9 320 (-1)) (List.mem_of_getElem? (i := 2) rfl)) dX9_chance_35 ?_
        have hP9 := hP.sub (ws' := [(qM, .inr (9, [.int ((upd F 0 (0 : Int32)) 0), .ref q1, .ref q2, .ref q3, .int ((upd F 0 (0 : Int32)) 4), .int ((upd F 0 (0 : Int32)) 5), .int ((upd F 0 (0 : Int32)) 6), .int ((upd F 0 (0 : Int32)) 7), .int ((upd F 0 (0 : Int32)) 8), .int ((upd F 0 (0 : Int32)) 9), .long (J 10), .int ((upd F 0 (0 : Int32)) 11), .int ((upd F 0 (0 : Int32)) 12), .int ((upd F 0 (0 : Int32)) 13), .ref q4, .int ((upd F 0 (0 : Int32)) 15), .ref q5, .ref q6, .ref q7, .int ((upd F 0 (0 : Int32)) 19), .ref q8, .int ((upd F 0 (0 : Int32)) 21), .int ((upd F 0 (0 : Int32)) 22), .int ((upd F 0 (0 : Int32)) 23), .int ((upd F 0 (0 : Int32)) 24), .ref q9, .ref q10, .ref q11, .long (J 28)]))]) [0] rfl
        have hD9 := hD.sub (ws' := [(qM, .inr (9, [.int ((upd F 0 (0 : Int32)) 0), .ref q1, .ref q2, .ref q3, .int ((upd F 0 (0 : Int32)) 4), .int ((upd F 0 (0 : Int32)) 5), .int ((upd F 0 (0 : Int32)) 6), .int ((upd F 0 (0 : Int32)) 7), .int ((upd F 0 (0 : Int32)) 8), .int ((upd F 0 (0 : Int32)) 9), .long (J 10), .int ((upd F 0 (0 : Int32)) 11), .int ((upd F 0 (0 : Int32)) 12), .int ((upd F 0 (0 : Int32)) 13), .ref q4, .int ((upd F 0 (0 : Int32)) 15), .ref q5, .ref q6, .ref q7, .int ((upd F 0 (0 : Int32)) 19), .ref q8, .int ((upd F 0 (0 : Int32)) 21), .int ((upd F 0 (0 : Int32)) 22), .int ((upd F 0 (0 : Int32)) 23), .int ((upd F 0 (0 : Int32)) 24), .ref q9, .ref q10, .ref q11, .long (J 28)]))]) [0] (by decide) rfl
        exact W.lret (v := (-1 : Int64)) hx hb hr (fun t ht hW => ⟨⟨_, ((upd F 0 (0 : Int32)), J), rfl, hv, by rw [ht]; exact hP9, hD9⟩, hS.F ht⟩) hS.2.2 dX9_chance_38
abbrev preX9_chance (F : Nat → Int32) (J : Nat → Int64) (p1 : Int32) (p2 : Int32) (p3 : Int32) (p4 : Int32) : Prop := True
abbrev postX9_chance (F : Nat → Int32) (J : Nat → Int64) (p1 : Int32) (p2 : Int32) (p3 : Int32) (p4 : Int32) (r : Int64) (F' : Nat → Int32) (J' : Nat → Int64) : Prop := r.toInt = spChance p1.toInt p2.toInt p3.toInt p4.toInt
theorem sX9_chance (F : Nat → Int32) (J : Nat → Int64) (p1 : Int32) (p2 : Int32) (p3 : Int32) (p4 : Int32) (H : preX9_chance F J p1 p2 p3 p4) : vX9_chance F J p1 p2 p3 p4 (postX9_chance F J p1 p2 p3 p4) := by
  have no : ¬ ((0 ≤ p1.toInt ∧ p1.toInt ≤ 18) ∧ (0 ≤ p2.toInt ∧ p2.toInt ≤ 10) ∧ (0 ≤ p3.toInt ∧ p3.toInt ≤ 18)) → (-1 : Int64).toInt = spChance p1.toInt p2.toInt p3.toInt p4.toInt := fun q => by
    unfold spChance; rw [if_neg q]; rfl
  refine ⟨trivial, fun r hr => ?_⟩
  have hr : r = if 0 ≤ p1.toInt ∧ p1.toInt ≤ 18 then 1 else 0 := hr
  rw [hr, q_if1]
  refine ⟨fun a => no (fun q => a q.1), fun a => ⟨trivial, fun r2 hr2 => ?_⟩⟩
  have a := Decidable.not_not.mp a
  have hr2 : r2 = if 0 ≤ p2.toInt ∧ p2.toInt ≤ 10 then 1 else 0 := hr2
  rw [hr2, q_if1]
  refine ⟨fun b => no (fun q => b q.2.1), fun b => ⟨trivial, fun r3 hr3 => ?_⟩⟩
  have b := Decidable.not_not.mp b
  have hr3 : r3 = if 0 ≤ p3.toInt ∧ p3.toInt ≤ 18 then 1 else 0 := hr3
  rw [hr3, q_if1]
  refine ⟨fun c => ?_, fun c => no (fun q => c q.2.2)⟩
  have c := Decidable.not_not.mp c
  refine ⟨p1.toInt.toNat, p2.toInt.toNat, p3.toInt.toNat, ⟨by omega, by omega, by omega, by omega, by omega⟩, fun u J2 hu => ?_⟩
  obtain ⟨hu, hJ⟩ := hu
  refine ⟨_, _, ⟨hu, hJ⟩, fun g hg => ?_⟩
  have hg : g.toInt = ((Nat.gcd (us p1.toInt.toNat p2.toInt.toNat p3.toInt.toNat (p1.toInt.toNat + 1)) (10 ^ p1.toInt.toNat) : Nat) : Int) := hg
  have ce := ch_end (c := 0) (us_le (show p1.toInt.toNat ≤ 18 by omega) (show p2.toInt.toNat ≤ 10 by omega) p3.toInt.toNat (Nat.le_refl _)) (Nat.pow_pos (by decide)) (p10_le (show p1.toInt.toNat ≤ 18 by omega)) hu hJ hg
  unfold postX9_chance spChance
  rw [if_pos ⟨a, b, c⟩, q_l0 hg, fa_eq p4, z0]
  refine ⟨fun q => ⟨by omega, ?_⟩, fun q => ⟨by omega, ?_⟩⟩
  · rw [if_pos q]; exact ce.2.1
  · rw [if_neg q]; exact ce.2.2
set_option maxRecDepth 20000 in
theorem ggX9_bar_X9_in : GoodIn wsX9_bar wsX9_in := goodIn_r _ [7] (by decide +kernel) (by decide +kernel)
set_option maxRecDepth 20000 in
theorem gX9_bar_X9_in : GoodIn wsX9_bar (va_wsS RX9 63 yX9_in wsX9_in) := goodIn_app (goodIn_of _ (by decide +kernel)) ggX9_bar_X9_in
set_option maxRecDepth 20000 in
theorem ggX9_bar_X9_upper : GoodIn wsX9_bar wsX9_upper := goodIn_r _ [11, 2, 12, 16, 17, 18, 19, 20, 21, 22, 23, 24, 25, 26, 27, 28, 29, 30, 31, 32, 33, 34, 35, 36, 37, 38, 39, 40, 41, 42, 43, 44] (by decide +kernel) (by decide +kernel)
set_option maxRecDepth 20000 in
theorem gX9_bar_X9_upper : GoodIn wsX9_bar (wsV RX9 322 RX9 yX9_upper wsX9_upper) := goodIn_app (goodIn_of _ (by decide +kernel)) ggX9_bar_X9_upper
set_option maxRecDepth 20000 in
theorem ggX9_bar_X9_measure : GoodIn wsX9_bar wsX9_measure := goodIn_r _ [15] (by decide +kernel) (by decide +kernel)
set_option maxRecDepth 20000 in
theorem gX9_bar_X9_measure : GoodIn wsX9_bar (va_wsS RX9 59 yX9_measure wsX9_measure) := goodIn_app (goodIn_of _ (by decide +kernel)) ggX9_bar_X9_measure
theorem dX9_bar_0 : decode cX9_bar 0 = .ok (.aload_n 0, 1) := by decide +kernel
theorem dX9_bar_1 : decode cX9_bar 1 = .ok (.iconst 0, 1) := by decide +kernel
theorem dX9_bar_2 : decode cX9_bar 2 = .ok (.putfield 51, 3) := by decide +kernel
theorem dX9_bar_5 : decode cX9_bar 5 = .ok (.iload_n 1, 1) := by decide +kernel
theorem dX9_bar_6 : decode cX9_bar 6 = .ok (.iconst 1, 1) := by decide +kernel
theorem dX9_bar_7 : decode cX9_bar 7 = .ok (.bipush 18, 2) := by decide +kernel
theorem dX9_bar_9 : decode cX9_bar 9 = .ok (.invokestatic 63, 3) := by decide +kernel
theorem dX9_bar_12 : decode cX9_bar 12 = .ok (.ifCond .eq 14, 3) := by decide +kernel
theorem dX9_bar_15 : decode cX9_bar 15 = .ok (.iload_n 2, 1) := by decide +kernel
theorem dX9_bar_16 : decode cX9_bar 16 = .ok (.iconst 0, 1) := by decide +kernel
theorem dX9_bar_17 : decode cX9_bar 17 = .ok (.sipush 1000, 3) := by decide +kernel
theorem dX9_bar_20 : decode cX9_bar 20 = .ok (.invokestatic 63, 3) := by decide +kernel
theorem dX9_bar_23 : decode cX9_bar 23 = .ok (.ifCond .ne 5, 3) := by decide +kernel
theorem dX9_bar_26 : decode cX9_bar 26 = .ok (.iconst (-1), 1) := by decide +kernel
theorem dX9_bar_27 : decode cX9_bar 27 = .ok (.ireturn, 1) := by decide +kernel
theorem dX9_bar_28 : decode cX9_bar 28 = .ok (.iconst 0, 1) := by decide +kernel
theorem dX9_bar_29 : decode cX9_bar 29 = .ok (.istore_n 3, 1) := by decide +kernel
theorem dX9_bar_30 : decode cX9_bar 30 = .ok (.iload_n 3, 1) := by decide +kernel
theorem dX9_bar_31 : decode cX9_bar 31 = .ok (.iload_n 1, 1) := by decide +kernel
theorem dX9_bar_32 : decode cX9_bar 32 = .ok (.if_icmp .gt 54, 3) := by decide +kernel
theorem dX9_bar_35 : decode cX9_bar 35 = .ok (.aload_n 0, 1) := by decide +kernel
theorem dX9_bar_36 : decode cX9_bar 36 = .ok (.iload_n 1, 1) := by decide +kernel
theorem dX9_bar_37 : decode cX9_bar 37 = .ok (.iconst 5, 1) := by decide +kernel
theorem dX9_bar_38 : decode cX9_bar 38 = .ok (.iload_n 3, 1) := by decide +kernel
theorem dX9_bar_39 : decode cX9_bar 39 = .ok (.invokevirtual 322, 3) := by decide +kernel
theorem dX9_bar_42 : decode cX9_bar 42 = .ok (.lstore 4, 2) := by decide +kernel
theorem dX9_bar_44 : decode cX9_bar 44 = .ok (.lload 4, 2) := by decide +kernel
theorem dX9_bar_46 : decode cX9_bar 46 = .ok (.aload_n 0, 1) := by decide +kernel
theorem dX9_bar_47 : decode cX9_bar 47 = .ok (.getfield 315, 3) := by decide +kernel
theorem dX9_bar_50 : decode cX9_bar 50 = .ok (.invokestatic 59, 3) := by decide +kernel
theorem dX9_bar_53 : decode cX9_bar 53 = .ok (.lstore 6, 2) := by decide +kernel
theorem dX9_bar_55 : decode cX9_bar 55 = .ok (.lload 4, 2) := by decide +kernel
theorem dX9_bar_57 : decode cX9_bar 57 = .ok (.lload 6, 2) := by decide +kernel
theorem dX9_bar_59 : decode cX9_bar 59 = .ok (.ldiv, 1) := by decide +kernel
theorem dX9_bar_60 : decode cX9_bar 60 = .ok (.ldc2_w 326, 3) := by decide +kernel
theorem dX9_bar_63 : decode cX9_bar 63 = .ok (.lmul, 1) := by decide +kernel
theorem dX9_bar_64 : decode cX9_bar 64 = .ok (.iload_n 2, 1) := by decide +kernel
theorem dX9_bar_65 : decode cX9_bar 65 = .ok (.i2l, 1) := by decide +kernel
theorem dX9_bar_66 : decode cX9_bar 66 = .ok (.aload_n 0, 1) := by decide +kernel
theorem dX9_bar_67 : decode cX9_bar 67 = .ok (.getfield 315, 3) := by decide +kernel
theorem dX9_bar_70 : decode cX9_bar 70 = .ok (.lload 6, 2) := by decide +kernel
theorem dX9_bar_72 : decode cX9_bar 72 = .ok (.ldiv, 1) := by decide +kernel
theorem dX9_bar_73 : decode cX9_bar 73 = .ok (.lmul, 1) := by decide +kernel
theorem dX9_bar_74 : decode cX9_bar 74 = .ok (.lcmp, 1) := by decide +kernel
theorem dX9_bar_75 : decode cX9_bar 75 = .ok (.ifCond .gt 5, 3) := by decide +kernel
theorem dX9_bar_78 : decode cX9_bar 78 = .ok (.iload_n 3, 1) := by decide +kernel
theorem dX9_bar_79 : decode cX9_bar 79 = .ok (.ireturn, 1) := by decide +kernel
theorem dX9_bar_80 : decode cX9_bar 80 = .ok (.iinc 3 1, 3) := by decide +kernel
theorem dX9_bar_83 : decode cX9_bar 83 = .ok (.goto (-53), 3) := by decide +kernel
theorem dX9_bar_86 : decode cX9_bar 86 = .ok (.iload_n 1, 1) := by decide +kernel
theorem dX9_bar_87 : decode cX9_bar 87 = .ok (.iconst 1, 1) := by decide +kernel
theorem dX9_bar_88 : decode cX9_bar 88 = .ok (.iadd, 1) := by decide +kernel
theorem dX9_bar_89 : decode cX9_bar 89 = .ok (.ireturn, 1) := by decide +kernel
abbrev rmX9_bar : Room := { frames := 1, cells := 0, slots := 0, locals := 31 }
theorem inX9_bar_9 : ∀ w ∈ wsX90, w ∈ wsX9_bar := by decide +kernel
def vX9_bar_c30 (p1 : Int32) (p2 : Int32) (Q : Int32 → (Nat → Int32) → (Nat → Int64) → Prop) : Nat → Int32 → (Nat → Int32) → (Nat → Int64) → Prop
  | 0, _, _, _ => False
  | n + 1, x3, F, J => ((p1 < x3 → (Q (p1 + (1 : Int32)) F J)) ∧ (¬ p1 < x3 → (∃ (n_39 : Nat) (p_39 : Nat) (m_39 : Nat), preX9_upper n_39 p_39 m_39 F J p1 (5 : Int32) x3 ∧ (∀ (r_39 : Int64) (J_39 : Nat → Int64), postX9_upper n_39 p_39 m_39 F J p1 (5 : Int32) x3 r_39 J_39 → (∃ (a_50 : Nat) (b_50 : Nat), preX9_measure a_50 b_50 r_39 (J_39 28) ∧ (∀ r_50 : Int64, postX9_measure a_50 b_50 r_39 (J_39 28) r_50 → (¬ r_50 = 0 ∧ (¬ r_50 = 0 ∧ ((0 < (lg_cmp ((r_39 / r_50) * (1000 : Int64)) ((p2.toInt64) * ((J_39 28) / r_50))) → (vX9_bar_c30 p1 p2 Q n (x3 + (1 : Int32)) F J_39)) ∧ (¬ 0 < (lg_cmp ((r_39 / r_50) * (1000 : Int64)) ((p2.toInt64) * ((J_39 28) / r_50))) → (Q x3 F J_39)))))))))))
set_option maxHeartbeats 4000000 in
set_option maxRecDepth 100000 in
theorem kX9_bar_c30 {p : Program} {l : Launch} {e : Env} {s : State} {m : MethodId} {args : Array Value} {below : List Frame} {meth : Method} {c : Code} {g : GP} {qM : Nat} {q1 : Nat} {q2 : Nat} {q3 : Nat} {q4 : Nat} {q5 : Nat} {q6 : Nat} {q7 : Nat} {q8 : Nat} {q9 : Nat} {q10 : Nat} {q11 : Nat}  {p1 : Int32} {p2 : Int32} {Q : Int32 → (Nat → Int32) → (Nat → Int64) → Prop} {A : Nat → Prop} (S : CallFix p m c cX9_bar 8 s args wsX9_bar RX9) (hr : meth.sig.returnType = (some .int)) (hlocks : meth.locks = false) (hG : GK g s) (hA : ∀ q : Nat, s.heap.size ≤ q → A q) : ∀ (n : Nat), ∀ (x3 : Int32) (F : Nat → Int32) (J : Nat → Int64), vX9_bar_c30 p1 p2 Q n x3 F J → ∀ (H : Heap) (locs : List Loc), va_P g.1 vwCl [(qM, .inr (9, [.int (F 0), .ref q1, .ref q2, .ref q3, .int (F 4), .int (F 5), .int (F 6), .int (F 7), .int (F 8), .int (F 9), .long (J 10), .int (F 11), .int (F 12), .int (F 13), .ref q4, .int (F 15), .ref q5, .ref q6, .ref q7, .int (F 19), .ref q8, .int (F 21), .int (F 22), .int (F 23), .int (F 24), .ref q9, .ref q10, .ref q11, .long (J 28)]))] H → va_D A [(qM, .inr (9, [.int (F 0), .ref q1, .ref q2, .ref q3, .int (F 4), .int (F 5), .int (F 6), .int (F 7), .int (F 8), .int (F 9), .long (J 10), .int (F 11), .int (F 12), .int (F 13), .ref q4, .int (F 15), .ref q5, .ref q6, .ref q7, .int (F 19), .ref q8, .int (F 21), .int (F 22), .int (F 23), .int (F 24), .ref q9, .ref q10, .ref q11, .long (J 28)]))] → va_S A s.heap H locs → ∀ (ls : Array Slot), lv_has ls 8 [(0, .ref qM), (1, .int p1), (2, .int p2), (3, .int x3)] → W p l e (headSpec wsX9_bar rmX9_bar).room s m args below meth c H locs 0 0 (MQ below (va_Qi (fun (r : Int32) (u : (Nat → Int32) × (Nat → Int64)) => Q r u.1 u.2) (fun (u : (Nat → Int32) × (Nat → Int64)) t => va_P g.1 vwCl [(qM, .inr (9, [.int (u.1 0), .ref q1, .ref q2, .ref q3, .int (u.1 4), .int (u.1 5), .int (u.1 6), .int (u.1 7), .int (u.1 8), .int (u.1 9), .long (u.2 10), .int (u.1 11), .int (u.1 12), .int (u.1 13), .ref q4, .int (u.1 15), .ref q5, .ref q6, .ref q7, .int (u.1 19), .ref q8, .int (u.1 21), .int (u.1 22), .int (u.1 23), .int (u.1 24), .ref q9, .ref q10, .ref q11, .long (u.2 28)]))] t.heap ∧ va_D A [(qM, .inr (9, [.int (u.1 0), .ref q1, .ref q2, .ref q3, .int (u.1 4), .int (u.1 5), .int (u.1 6), .int (u.1 7), .int (u.1 8), .int (u.1 9), .long (u.2 10), .int (u.1 11), .int (u.1 12), .int (u.1 13), .ref q4, .int (u.1 15), .ref q5, .ref q6, .ref q7, .int (u.1 19), .ref q8, .int (u.1 21), .int (u.1 22), .int (u.1 23), .int (u.1 24), .ref q9, .ref q10, .ref q11, .long (u.2 28)]))]) A) args s 0 0 A) (F0 m 30 ls []) := by
  obtain ⟨hx, hb, hml, hown, hts⟩ := id S
  have hK := hG.1
  intro n
  induction n with
  | zero => intro x3 F J hv; exact hv.elim
  | succ n ih =>
    intro x3 F J hv H locs hP hD hS ls hl
    refine lv_iload_n hx hb dX9_bar_30 rfl (lv_at hl 3 rfl) ?_
    refine lv_iload_n hx hb dX9_bar_31 rfl (lv_at hl 1 rfl) ?_
    obtain ⟨hvt, hvf⟩ := hv
    refine lv_icmp_gt (tgt := 86) hx hb dX9_bar_32 (by decide) (fun hc => ?_) (fun hc => ?_)
    · have hv := hvt hc
      refine lv_iload_n hx hb dX9_bar_86 rfl (lv_at hl 1 rfl) ?_
      refine lv_iconst (v := (1 : Int32)) hx hb dX9_bar_87 (by decide) ?_
      refine lv_iadd hx hb dX9_bar_88 ?_
      have hP9 := hP.sub (ws' := [(qM, .inr (9, [.int (F 0), .ref q1, .ref q2, .ref q3, .int (F 4), .int (F 5), .int (F 6), .int (F 7), .int (F 8), .int (F 9), .long (J 10), .int (F 11), .int (F 12), .int (F 13), .ref q4, .int (F 15), .ref q5, .ref q6, .ref q7, .int (F 19), .ref q8, .int (F 21), .int (F 22), .int (F 23), .int (F 24), .ref q9, .ref q10, .ref q11, .long (J 28)]))]) [0] rfl
      have hD9 := hD.sub (ws' := [(qM, .inr (9, [.int (F 0), .ref q1, .ref q2, .ref q3, .int (F 4), .int (F 5), .int (F 6), .int (F 7), .int (F 8), .int (F 9), .long (J 10), .int (F 11), .int (F 12), .int (F 13), .ref q4, .int (F 15), .ref q5, .ref q6, .ref q7, .int (F 19), .ref q8, .int (F 21), .int (F 22), .int (F 23), .int (F 24), .ref q9, .ref q10, .ref q11, .long (J 28)]))]) [0] (by decide) rfl
      exact W.iret (v := (p1 + (1 : Int32))) hx hb hr (fun t ht hW => ⟨⟨_, (F, J), rfl, hv, by rw [ht]; exact hP9, hD9⟩, hS.F ht⟩) hS.2.2 dX9_bar_89
    · have hv := hvf hc
      refine lv_aload_n hx hb dX9_bar_35 rfl (lv_at hl 0 rfl) ?_
      refine lv_iload_n hx hb dX9_bar_36 rfl (lv_at hl 1 rfl) ?_
      refine lv_iconst (v := (5 : Int32)) hx hb dX9_bar_37 (by decide) ?_
      refine lv_iload_n hx hb dX9_bar_38 rfl (lv_at hl 3 rfl) ?_
      obtain ⟨n_39, p_39, m_39, ho_1, hv⟩ := hv
      have hPc := hP.sub (ws' := [(qM, .inr (9, [.int (F 0), .ref q1, .ref q2, .ref q3, .int (F 4), .int (F 5), .int (F 6), .int (F 7), .int (F 8), .int (F 9), .long (J 10), .int (F 11), .int (F 12), .int (F 13), .ref q4, .int (F 15), .ref q5, .ref q6, .ref q7, .int (F 19), .ref q8, .int (F 21), .int (F 22), .int (F 23), .int (F 24), .ref q9, .ref q10, .ref q11, .long (J 28)]))]) [0] rfl
      have hDc := hD.sub (ws' := [(qM, .inr (9, [.int (F 0), .ref q1, .ref q2, .ref q3, .int (F 4), .int (F 5), .int (F 6), .int (F 7), .int (F 8), .int (F 9), .long (J 10), .int (F 11), .int (F 12), .int (F 13), .ref q4, .int (F 15), .ref q5, .ref q6, .ref q7, .int (F 19), .ref q8, .int (F 21), .int (F 22), .int (F 23), .int (F 24), .ref q9, .ref q10, .ref q11, .long (J 28)]))]) [0] (by decide) rfl
      have hFc := va_free (wc := [(qM, .inr (9, [.int (F 0), .ref q1, .ref q2, .ref q3, .int (F 4), .int (F 5), .int (F 6), .int (F 7), .int (F 8), .int (F 9), .long (J 10), .int (F 11), .int (F 12), .int (F 13), .ref q4, .int (F 15), .ref q5, .ref q6, .ref q7, .int (F 19), .ref q8, .int (F 21), .int (F 22), .int (F 23), .int (F 24), .ref q9, .ref q10, .ref q11, .long (J 28)]))]) hD hS hA [0] rfl
      refine va_calll (va_runV (As := [.int p1, .int (5 : Int32), .int x3]) (rest := []) S (wX9_upper l g qM q1 q2 q3 q4 q5 q6 q7 q8 q9 q10 q11 H.size F J p1 (5 : Int32) x3 (sX9_upper n_39 p_39 m_39 F J p1 (5 : Int32) x3 ho_1)) (cwV 3 hts gX9_bar_X9_upper rfl rfl rfl (by decide +kernel) ⟨Nat.le_of_ble_eq_true rfl, Nat.le_of_ble_eq_true rfl⟩) ⟨blindRW, va_recv hK hP (ci := 9) (q0 := 0) rfl rfl, fun U hU hW => ⟨rfl, by rw [hU], by rw [hU]; exact hPc, hG.warm hW, hDc.weaken (fun _ _ _ _ => trivial)⟩⟩ rfl rfl hl.1 rfl (lv_room (Nat.le_of_ble_eq_true rfl)) dX9_bar_39 ⟨Nat.le_of_ble_eq_true rfl, Nat.le_of_ble_eq_true rfl⟩) hS (fun q _ h => hFc q h) hFc (fun r_39 u t H1 locs ht hvm hw hB hz1 hk1 hS => ?_)
      obtain ⟨J_39, rfl⟩ : ∃ z, z = u := ⟨_, rfl⟩
      obtain ⟨hP1, hD1⟩ := hB
      rw [ht] at hP1
      have hv := hv r_39 J_39 hw
      obtain ⟨hP, hD⟩ := va_join (wr := []) (w1 := [(qM, .inr (9, [.int (F 0), .ref q1, .ref q2, .ref q3, .int (F 4), .int (F 5), .int (F 6), .int (F 7), .int (F 8), .int (F 9), .long (J_39 10), .int (F 11), .int (F 12), .int (F 13), .ref q4, .int (F 15), .ref q5, .ref q6, .ref q7, .int (F 19), .ref q8, .int (F 21), .int (F 22), .int (F 23), .int (F 24), .ref q9, .ref q10, .ref q11, .long (J_39 28)]))]) hP hD [0] [] rfl rfl (by decide) (by decide) hk1 hFc hP1 hD1
      clear hP1 hD1 hPc hDc hFc hk1
      generalize H1 = H at hP hS ⊢
      have hP : va_P g.1 vwCl [(qM, .inr (9, [.int (F 0), .ref q1, .ref q2, .ref q3, .int (F 4), .int (F 5), .int (F 6), .int (F 7), .int (F 8), .int (F 9), .long (J_39 10), .int (F 11), .int (F 12), .int (F 13), .ref q4, .int (F 15), .ref q5, .ref q6, .ref q7, .int (F 19), .ref q8, .int (F 21), .int (F 22), .int (F 23), .int (F 24), .ref q9, .ref q10, .ref q11, .long (J_39 28)]))] H := hP
      have hD : va_D A [(qM, .inr (9, [.int (F 0), .ref q1, .ref q2, .ref q3, .int (F 4), .int (F 5), .int (F 6), .int (F 7), .int (F 8), .int (F 9), .long (J_39 10), .int (F 11), .int (F 12), .int (F 13), .ref q4, .int (F 15), .ref q5, .ref q6, .ref q7, .int (F 19), .ref q8, .int (F 21), .int (F 22), .int (F 23), .int (F 24), .ref q9, .ref q10, .ref q11, .long (J_39 28)]))] := hD
      refine lv_lstore (lv' := [(4, .long r_39), (0, .ref qM), (1, .int p1), (2, .int p2), (3, .int x3)]) hx hb dX9_bar_42 hl (by decide) rfl (fun ls hl => ?_)
      refine lv_lload hx hb dX9_bar_44 (lv_at hl 0 rfl) ?_
      refine lv_aload_n hx hb dX9_bar_46 rfl (lv_at hl 1 rfl) ?_
      refine va_get (D := g.1) (ci := 9) (v := .long (J_39 28)) (C := RX9) (T := TX9) (N := 29) hx hb hts inX9_bar_9 hown hK hP 0 rfl rfl 28 (by decide) (hts (.fieldLink RX9 315 "RangeCodesModel" "under" "J") (List.mem_of_getElem? (i := 2) rfl)) (fun _ h9 => h9) rfl dX9_bar_47 ?_
      obtain ⟨a_50, b_50, ho_2, hv⟩ := hv
      refine vp_callSl (W.runS (As := [.long r_39, .long (J_39 28)]) (rest := []) S (wX9_measure l g r_39 (J_39 28) (sX9_measure a_50 b_50 r_39 (J_39 28) ho_2)) (va_cwS 2 hts gX9_bar_X9_measure rfl rfl rfl (by decide +kernel) ⟨Nat.le_of_ble_eq_true rfl, Nat.le_of_ble_eq_true rfl⟩) ⟨blindRO, fun U hU hW => ⟨rfl, by rw [hU]; exact hP.sub (ws' := []) [] rfl, hG.warm hW⟩⟩ rfl rfl hl.1 rfl (lv_room (Nat.le_of_ble_eq_true rfl)) dX9_bar_50 ⟨Nat.le_of_ble_eq_true rfl, Nat.le_of_ble_eq_true rfl⟩) (fun r_50 hr_50 => ?_)
      have hv := hv r_50 hr_50
      refine lv_lstore (lv' := [(6, .long r_50), (4, .long r_39), (0, .ref qM), (1, .int p1), (2, .int p2), (3, .int x3)]) hx hb dX9_bar_53 hl (by decide) rfl (fun ls hl => ?_)
      refine lv_lload hx hb dX9_bar_55 (lv_at hl 1 rfl) ?_
      refine lv_lload hx hb dX9_bar_57 (lv_at hl 0 rfl) ?_
      obtain ⟨ho_3, hv⟩ := hv
      refine lv_ldiv hx hb dX9_bar_59 ho_3 ?_
      refine lv_ldc2 (v := (1000 : Int64)) hx hb hown (hts (.constantLong RX9 326 (1000)) (List.mem_of_getElem? (i := 3) rfl)) dX9_bar_60 ?_
      refine lv_lmul hx hb dX9_bar_63 ?_
      refine lv_iload_n hx hb dX9_bar_64 rfl (lv_at hl 4 rfl) ?_
      refine lv_i2l (v := (p2.toInt64)) hx hb dX9_bar_65 rfl ?_
      refine lv_aload_n hx hb dX9_bar_66 rfl (lv_at hl 2 rfl) ?_
      refine va_get (D := g.1) (ci := 9) (v := .long (J_39 28)) (C := RX9) (T := TX9) (N := 29) hx hb hts inX9_bar_9 hown hK hP 0 rfl rfl 28 (by decide) (hts (.fieldLink RX9 315 "RangeCodesModel" "under" "J") (List.mem_of_getElem? (i := 2) rfl)) (fun _ h9 => h9) rfl dX9_bar_67 ?_
      refine lv_lload hx hb dX9_bar_70 (lv_at hl 0 rfl) ?_
      obtain ⟨ho_4, hv⟩ := hv
      refine lv_ldiv hx hb dX9_bar_72 ho_4 ?_
      refine lv_lmul hx hb dX9_bar_73 ?_
      refine W.lcmp hx hb dX9_bar_74 ?_
      obtain ⟨hvt, hvf⟩ := hv
      refine lv_if_gt (tgt := 80) hx hb dX9_bar_75 (by decide) (fun hc => ?_) (fun hc => ?_)
      · have hv := hvt hc
        refine lv_iinc (v := (x3 + (1 : Int32))) (lv' := [(3, .int (x3 + (1 : Int32))), (6, .long r_50), (4, .long r_39), (0, .ref qM), (1, .int p1), (2, .int p2)]) hx hb dX9_bar_80 hl (k := 5) rfl rfl (by decide) rfl (fun ls hl => ?_)
        refine lv_goto (tgt := 30) hx hb dX9_bar_83 (by decide) ?_
        exact ih _ _ _ hv _ _ (hP.sub (ws' := [(qM, .inr (9, [.int (F 0), .ref q1, .ref q2, .ref q3, .int (F 4), .int (F 5), .int (F 6), .int (F 7), .int (F 8), .int (F 9), .long (J_39 10), .int (F 11), .int (F 12), .int (F 13), .ref q4, .int (F 15), .ref q5, .ref q6, .ref q7, .int (F 19), .ref q8, .int (F 21), .int (F 22), .int (F 23), .int (F 24), .ref q9, .ref q10, .ref q11, .long (J_39 28)]))]) [0] rfl) (hD.sub (ws' := [(qM, .inr (9, [.int (F 0), .ref q1, .ref q2, .ref q3, .int (F 4), .int (F 5), .int (F 6), .int (F 7), .int (F 8), .int (F 9), .long (J_39 10), .int (F 11), .int (F 12), .int (F 13), .ref q4, .int (F 15), .ref q5, .ref q6, .ref q7, .int (F 19), .ref q8, .int (F 21), .int (F 22), .int (F 23), .int (F 24), .ref q9, .ref q10, .ref q11, .long (J_39 28)]))]) [0] (by decide) rfl) hS ls (lv_sub hl [3, 4, 5, 0] rfl)
      · have hv := hvf hc
        refine lv_iload_n hx hb dX9_bar_78 rfl (lv_at hl 5 rfl) ?_
        have hP9 := hP.sub (ws' := [(qM, .inr (9, [.int (F 0), .ref q1, .ref q2, .ref q3, .int (F 4), .int (F 5), .int (F 6), .int (F 7), .int (F 8), .int (F 9), .long (J_39 10), .int (F 11), .int (F 12), .int (F 13), .ref q4, .int (F 15), .ref q5, .ref q6, .ref q7, .int (F 19), .ref q8, .int (F 21), .int (F 22), .int (F 23), .int (F 24), .ref q9, .ref q10, .ref q11, .long (J_39 28)]))]) [0] rfl
        have hD9 := hD.sub (ws' := [(qM, .inr (9, [.int (F 0), .ref q1, .ref q2, .ref q3, .int (F 4), .int (F 5), .int (F 6), .int (F 7), .int (F 8), .int (F 9), .long (J_39 10), .int (F 11), .int (F 12), .int (F 13), .ref q4, .int (F 15), .ref q5, .ref q6, .ref q7, .int (F 19), .ref q8, .int (F 21), .int (F 22), .int (F 23), .int (F 24), .ref q9, .ref q10, .ref q11, .long (J_39 28)]))]) [0] (by decide) rfl
        exact W.iret (v := x3) hx hb hr (fun t ht hW => ⟨⟨_, (F, J_39), rfl, hv, by rw [ht]; exact hP9, hD9⟩, hS.F ht⟩) hS.2.2 dX9_bar_79
def vX9_bar (F : Nat → Int32) (J : Nat → Int64) (p1 : Int32) (p2 : Int32) (Q : Int32 → (Nat → Int32) → (Nat → Int64) → Prop) : Prop := (preX9_in p1 (1 : Int32) (18 : Int32) ∧ (∀ r_9 : Int32, postX9_in p1 (1 : Int32) (18 : Int32) r_9 → ((r_9 = 0 → (Q (-1 : Int32) (upd F 0 (0 : Int32)) J)) ∧ (¬ r_9 = 0 → (preX9_in p2 (0 : Int32) (1000 : Int32) ∧ (∀ r_20 : Int32, postX9_in p2 (0 : Int32) (1000 : Int32) r_20 → ((¬ r_20 = 0 → (∃ nn, vX9_bar_c30 p1 p2 Q nn (0 : Int32) (upd F 0 (0 : Int32)) J)) ∧ (r_20 = 0 → (Q (-1 : Int32) (upd F 0 (0 : Int32)) J)))))))))
set_option maxHeartbeats 4000000 in
set_option maxRecDepth 100000 in
theorem wX9_bar (l : Launch) (g : GP) (qM : Nat) (q1 : Nat) (q2 : Nat) (q3 : Nat) (q4 : Nat) (q5 : Nat) (q6 : Nat) (q7 : Nat) (q8 : Nat) (q9 : Nat) (q10 : Nat) (q11 : Nat) (sz : Nat) (F : Nat → Int32) (J : Nat → Int64) (p1 : Int32) (p2 : Int32) {Q : Int32 → (Nat → Int32) → (Nat → Int64) → Prop} (hv : vX9_bar F J p1 p2 Q) : Met l yX9_bar wsX9_bar rmX9_bar (va_Pc [.ref qM, .int p1, .int p2] (fun U => U.heap.size = sz ∧ va_P g.1 vwCl [(qM, .inr (9, [.int (F 0), .ref q1, .ref q2, .ref q3, .int (F 4), .int (F 5), .int (F 6), .int (F 7), .int (F 8), .int (F 9), .long (J 10), .int (F 11), .int (F 12), .int (F 13), .ref q4, .int (F 15), .ref q5, .ref q6, .ref q7, .int (F 19), .ref q8, .int (F 21), .int (F 22), .int (F 23), .int (F 24), .ref q9, .ref q10, .ref q11, .long (J 28)]))] U.heap ∧ GK g U ∧ va_D (fun _ => True) [(qM, .inr (9, [.int (F 0), .ref q1, .ref q2, .ref q3, .int (F 4), .int (F 5), .int (F 6), .int (F 7), .int (F 8), .int (F 9), .long (J 10), .int (F 11), .int (F 12), .int (F 13), .ref q4, .int (F 15), .ref q5, .ref q6, .ref q7, .int (F 19), .ref q8, .int (F 21), .int (F 22), .int (F 23), .int (F 24), .ref q9, .ref q10, .ref q11, .long (J 28)]))])) (va_Qi (fun (r : Int32) (u : (Nat → Int32) × (Nat → Int64)) => Q r u.1 u.2) (fun (u : (Nat → Int32) × (Nat → Int64)) t => va_P g.1 vwCl [(qM, .inr (9, [.int (u.1 0), .ref q1, .ref q2, .ref q3, .int (u.1 4), .int (u.1 5), .int (u.1 6), .int (u.1 7), .int (u.1 8), .int (u.1 9), .long (u.2 10), .int (u.1 11), .int (u.1 12), .int (u.1 13), .ref q4, .int (u.1 15), .ref q5, .ref q6, .ref q7, .int (u.1 19), .ref q8, .int (u.1 21), .int (u.1 22), .int (u.1 23), .int (u.1 24), .ref q9, .ref q10, .ref q11, .long (u.2 28)]))] t.heap ∧ va_D (va_A [(qM, .inr (9, [.int (F 0), .ref q1, .ref q2, .ref q3, .int (F 4), .int (F 5), .int (F 6), .int (F 7), .int (F 8), .int (F 9), .long (J 10), .int (F 11), .int (F 12), .int (F 13), .ref q4, .int (F 15), .ref q5, .ref q6, .ref q7, .int (F 19), .ref q8, .int (F 21), .int (F 22), .int (F 23), .int (F 24), .ref q9, .ref q10, .ref q11, .long (J 28)]))] sz) [(qM, .inr (9, [.int (u.1 0), .ref q1, .ref q2, .ref q3, .int (u.1 4), .int (u.1 5), .int (u.1 6), .int (u.1 7), .int (u.1 8), .int (u.1 9), .long (u.2 10), .int (u.1 11), .int (u.1 12), .int (u.1 13), .ref q4, .int (u.1 15), .ref q5, .ref q6, .ref q7, .int (u.1 19), .ref q8, .int (u.1 21), .int (u.1 22), .int (u.1 23), .int (u.1 24), .ref q9, .ref q10, .ref q11, .long (u.2 28)]))]) (va_A [(qM, .inr (9, [.int (F 0), .ref q1, .ref q2, .ref q3, .int (F 4), .int (F 5), .int (F 6), .int (F 7), .int (F 8), .int (F 9), .long (J 10), .int (F 11), .int (F 12), .int (F 13), .ref q4, .int (F 15), .ref q5, .ref q6, .ref q7, .int (F 19), .ref q8, .int (F 21), .int (F 22), .int (F 23), .int (F 24), .ref q9, .ref q10, .ref q11, .long (J 28)]))] sz)) 0 0 (va_A [(qM, .inr (9, [.int (F 0), .ref q1, .ref q2, .ref q3, .int (F 4), .int (F 5), .int (F 6), .int (F 7), .int (F 8), .int (F 9), .long (J 10), .int (F 11), .int (F 12), .int (F 13), .ref q4, .int (F 15), .ref q5, .ref q6, .ref q7, .int (F 19), .ref q8, .int (F 21), .int (F 22), .int (F 23), .int (F 24), .ref q9, .ref q10, .ref q11, .long (J 28)]))] sz) := by
  refine Met.ofW (cc := cX9_bar) (maxL := 8) (ret := (some .int)) (by decide) rfl ?_
  intro p e s m args below meth c s₁ B hml hv'
  obtain ⟨rfl, hsz, hP, hG, hD0⟩ := hv'
  have S : CallFix p m c cX9_bar 8 s _ wsX9_bar RX9 := ⟨B.exec, B.bytes, hml, findClass_of_methodNamed B.named, atoms_spec (ws := wsX9_bar) B.pre⟩
  obtain ⟨hx, hb, hml, hown, hts⟩ := id S
  have hK := hG.1
  have hr := B.returns
  have hlocks := B.notSynchronized
  subst hsz
  have hD := hD0.self (sz := s.heap.size)
  generalize hAe : va_A [(qM, .inr (9, [.int (F 0), .ref q1, .ref q2, .ref q3, .int (F 4), .int (F 5), .int (F 6), .int (F 7), .int (F 8), .int (F 9), .long (J 10), .int (F 11), .int (F 12), .int (F 13), .ref q4, .int (F 15), .ref q5, .ref q6, .ref q7, .int (F 19), .ref q8, .int (F 21), .int (F 22), .int (F 23), .int (F 24), .ref q9, .ref q10, .ref q11, .long (J 28)]))] s.heap.size = A at hD ⊢
  have hA : ∀ q : Nat, s.heap.size ≤ q → A q := fun q h => by rw [← hAe]; exact Or.inr h
  have hS : va_S A s.heap s.heap [] := va_S.rf
  clear hD0 hAe
  have hl := lv_entry ([.ref qM, .int p1, .int p2]) (n := 8) (Nat.le_of_ble_eq_true rfl)
  rw [lg_entry_eq]
  generalize (lg_sl ([.ref qM, .int p1, .int p2]) ++ List.replicate (8 - (lg_sl ([.ref qM, .int p1, .int p2])).length) Slot.unset).toArray = ls at hl ⊢
  have hl : lv_has ls 8 [(0, .ref qM), (1, .int p1), (2, .int p2)] := hl
  unfold vX9_bar at hv
  refine lv_aload_n hx hb dX9_bar_0 rfl (lv_at hl 0 rfl) ?_
  refine lv_iconst (v := (0 : Int32)) hx hb dX9_bar_1 (by decide) ?_
  refine va_put (D := g.1) (ci := 9) (v := .int (0 : Int32)) (ty := .int) (C := RX9) (T := TX9) (N := 29) hx hb hts inX9_bar_9 tyX9 tyX9_ok nmX9 hown hK hP hD hS 0 rfl rfl 0 (by decide) (hts (.fieldLink RX9 51 "RangeCodesModel" "raised" "I") (List.mem_of_getElem? (i := 1) rfl)) (fun _ h9 => h9) rfl (by decide +kernel) rfl rfl (Nat.le_of_ble_eq_true rfl) dX9_bar_2 (fun H locs hP hD hS => ?_)
  have hP : va_P g.1 vwCl [(qM, .inr (9, [.int (0 : Int32), .ref q1, .ref q2, .ref q3, .int (F 4), .int (F 5), .int (F 6), .int (F 7), .int (F 8), .int (F 9), .long (J 10), .int (F 11), .int (F 12), .int (F 13), .ref q4, .int (F 15), .ref q5, .ref q6, .ref q7, .int (F 19), .ref q8, .int (F 21), .int (F 22), .int (F 23), .int (F 24), .ref q9, .ref q10, .ref q11, .long (J 28)]))] H := hP
  have hD : va_D A [(qM, .inr (9, [.int (0 : Int32), .ref q1, .ref q2, .ref q3, .int (F 4), .int (F 5), .int (F 6), .int (F 7), .int (F 8), .int (F 9), .long (J 10), .int (F 11), .int (F 12), .int (F 13), .ref q4, .int (F 15), .ref q5, .ref q6, .ref q7, .int (F 19), .ref q8, .int (F 21), .int (F 22), .int (F 23), .int (F 24), .ref q9, .ref q10, .ref q11, .long (J 28)]))] := hD
  refine lv_iload_n hx hb dX9_bar_5 rfl (lv_at hl 1 rfl) ?_
  refine lv_iconst (v := (1 : Int32)) hx hb dX9_bar_6 (by decide) ?_
  refine lv_bipush (v := (18 : Int32)) hx hb dX9_bar_7 (by decide) ?_
  obtain ⟨ho_1, hv⟩ := hv
  refine vp_callSi (W.runS (As := [.int p1, .int (1 : Int32), .int (18 : Int32)]) (rest := []) S (wX9_in l g p1 (1 : Int32) (18 : Int32) (sX9_in p1 (1 : Int32) (18 : Int32) ho_1)) (va_cwS 3 hts gX9_bar_X9_in rfl rfl rfl (by decide +kernel) ⟨Nat.le_of_ble_eq_true rfl, Nat.le_of_ble_eq_true rfl⟩) ⟨blindRO, fun U hU hW => ⟨rfl, by rw [hU]; exact hP.sub (ws' := []) [] rfl, hG.warm hW⟩⟩ rfl rfl hl.1 rfl (lv_room (Nat.le_of_ble_eq_true rfl)) dX9_bar_9 ⟨Nat.le_of_ble_eq_true rfl, Nat.le_of_ble_eq_true rfl⟩) (fun r_9 hr_9 => ?_)
  have hv := hv r_9 hr_9
  obtain ⟨hvt, hvf⟩ := hv
  refine lv_if_eq (tgt := 26) hx hb dX9_bar_12 (by decide) (fun hc => ?_) (fun hc => ?_)
  · have hv := hvt hc
    refine lv_iconst (v := (-1 : Int32)) hx hb dX9_bar_26 (by decide) ?_
    have hP9 := hP.sub (ws' := [(qM, .inr (9, [.int ((upd F 0 (0 : Int32)) 0), .ref q1, .ref q2, .ref q3, .int ((upd F 0 (0 : Int32)) 4), .int ((upd F 0 (0 : Int32)) 5), .int ((upd F 0 (0 : Int32)) 6), .int ((upd F 0 (0 : Int32)) 7), .int ((upd F 0 (0 : Int32)) 8), .int ((upd F 0 (0 : Int32)) 9), .long (J 10), .int ((upd F 0 (0 : Int32)) 11), .int ((upd F 0 (0 : Int32)) 12), .int ((upd F 0 (0 : Int32)) 13), .ref q4, .int ((upd F 0 (0 : Int32)) 15), .ref q5, .ref q6, .ref q7, .int ((upd F 0 (0 : Int32)) 19), .ref q8, .int ((upd F 0 (0 : Int32)) 21), .int ((upd F 0 (0 : Int32)) 22), .int ((upd F 0 (0 : Int32)) 23), .int ((upd F 0 (0 : Int32)) 24), .ref q9, .ref q10, .ref q11, .long (J 28)]))]) [0] rfl
    have hD9 := hD.sub (ws' := [(qM, .inr (9, [.int ((upd F 0 (0 : Int32)) 0), .ref q1, .ref q2, .ref q3, .int ((upd F 0 (0 : Int32)) 4), .int ((upd F 0 (0 : Int32)) 5), .int ((upd F 0 (0 : Int32)) 6), .int ((upd F 0 (0 : Int32)) 7), .int ((upd F 0 (0 : Int32)) 8), .int ((upd F 0 (0 : Int32)) 9), .long (J 10), .int ((upd F 0 (0 : Int32)) 11), .int ((upd F 0 (0 : Int32)) 12), .int ((upd F 0 (0 : Int32)) 13), .ref q4, .int ((upd F 0 (0 : Int32)) 15), .ref q5, .ref q6, .ref q7, .int ((upd F 0 (0 : Int32)) 19), .ref q8, .int ((upd F 0 (0 : Int32)) 21), .int ((upd F 0 (0 : Int32)) 22), .int ((upd F 0 (0 : Int32)) 23), .int ((upd F 0 (0 : Int32)) 24), .ref q9, .ref q10, .ref q11, .long (J 28)]))]) [0] (by decide) rfl
    exact W.iret (v := (-1 : Int32)) hx hb hr (fun t ht hW => ⟨⟨_, ((upd F 0 (0 : Int32)), J), rfl, hv, by rw [ht]; exact hP9, hD9⟩, hS.F ht⟩) hS.2.2 dX9_bar_27
  · have hv := hvf hc
    refine lv_iload_n hx hb dX9_bar_15 rfl (lv_at hl 2 rfl) ?_
    refine lv_iconst (v := (0 : Int32)) hx hb dX9_bar_16 (by decide) ?_
    refine lv_sipush (v := (1000 : Int32)) hx hb dX9_bar_17 (by decide) ?_
    obtain ⟨ho_2, hv⟩ := hv
    refine vp_callSi (W.runS (As := [.int p2, .int (0 : Int32), .int (1000 : Int32)]) (rest := []) S (wX9_in l g p2 (0 : Int32) (1000 : Int32) (sX9_in p2 (0 : Int32) (1000 : Int32) ho_2)) (va_cwS 3 hts gX9_bar_X9_in rfl rfl rfl (by decide +kernel) ⟨Nat.le_of_ble_eq_true rfl, Nat.le_of_ble_eq_true rfl⟩) ⟨blindRO, fun U hU hW => ⟨rfl, by rw [hU]; exact hP.sub (ws' := []) [] rfl, hG.warm hW⟩⟩ rfl rfl hl.1 rfl (lv_room (Nat.le_of_ble_eq_true rfl)) dX9_bar_20 ⟨Nat.le_of_ble_eq_true rfl, Nat.le_of_ble_eq_true rfl⟩) (fun r_20 hr_20 => ?_)
    have hv := hv r_20 hr_20
    obtain ⟨hvt, hvf⟩ := hv
    refine lv_if_ne (tgt := 28) hx hb dX9_bar_23 (by decide) (fun hc => ?_) (fun hc => ?_)
    · have hv := hvt hc
      refine lv_iconst (v := (0 : Int32)) hx hb dX9_bar_28 (by decide) ?_
      refine lv_istore_n (lv' := [(3, .int (0 : Int32)), (0, .ref qM), (1, .int p1), (2, .int p2)]) hx hb dX9_bar_29 rfl hl (by decide) rfl (fun ls hl => ?_)
      obtain ⟨nn, hv⟩ := hv
      exact kX9_bar_c30 S hr hlocks hG hA nn _ _ _ hv _ _ (hP.sub (ws' := [(qM, .inr (9, [.int ((upd F 0 (0 : Int32)) 0), .ref q1, .ref q2, .ref q3, .int ((upd F 0 (0 : Int32)) 4), .int ((upd F 0 (0 : Int32)) 5), .int ((upd F 0 (0 : Int32)) 6), .int ((upd F 0 (0 : Int32)) 7), .int ((upd F 0 (0 : Int32)) 8), .int ((upd F 0 (0 : Int32)) 9), .long (J 10), .int ((upd F 0 (0 : Int32)) 11), .int ((upd F 0 (0 : Int32)) 12), .int ((upd F 0 (0 : Int32)) 13), .ref q4, .int ((upd F 0 (0 : Int32)) 15), .ref q5, .ref q6, .ref q7, .int ((upd F 0 (0 : Int32)) 19), .ref q8, .int ((upd F 0 (0 : Int32)) 21), .int ((upd F 0 (0 : Int32)) 22), .int ((upd F 0 (0 : Int32)) 23), .int ((upd F 0 (0 : Int32)) 24), .ref q9, .ref q10, .ref q11, .long (J 28)]))]) [0] rfl) (hD.sub (ws' := [(qM, .inr (9, [.int ((upd F 0 (0 : Int32)) 0), .ref q1, .ref q2, .ref q3, .int ((upd F 0 (0 : Int32)) 4), .int ((upd F 0 (0 : Int32)) 5), .int ((upd F 0 (0 : Int32)) 6), .int ((upd F 0 (0 : Int32)) 7), .int ((upd F 0 (0 : Int32)) 8), .int ((upd F 0 (0 : Int32)) 9), .long (J 10), .int ((upd F 0 (0 : Int32)) 11), .int ((upd F 0 (0 : Int32)) 12), .int ((upd F 0 (0 : Int32)) 13), .ref q4, .int ((upd F 0 (0 : Int32)) 15), .ref q5, .ref q6, .ref q7, .int ((upd F 0 (0 : Int32)) 19), .ref q8, .int ((upd F 0 (0 : Int32)) 21), .int ((upd F 0 (0 : Int32)) 22), .int ((upd F 0 (0 : Int32)) 23), .int ((upd F 0 (0 : Int32)) 24), .ref q9, .ref q10, .ref q11, .long (J 28)]))]) [0] (by decide) rfl) hS ls (lv_sub hl [1, 2, 3, 0] rfl)
    · have hv := hvf hc
      refine lv_iconst (v := (-1 : Int32)) hx hb dX9_bar_26 (by decide) ?_
      have hP9 := hP.sub (ws' := [(qM, .inr (9, [.int ((upd F 0 (0 : Int32)) 0), .ref q1, .ref q2, .ref q3, .int ((upd F 0 (0 : Int32)) 4), .int ((upd F 0 (0 : Int32)) 5), .int ((upd F 0 (0 : Int32)) 6), .int ((upd F 0 (0 : Int32)) 7), .int ((upd F 0 (0 : Int32)) 8), .int ((upd F 0 (0 : Int32)) 9), .long (J 10), .int ((upd F 0 (0 : Int32)) 11), .int ((upd F 0 (0 : Int32)) 12), .int ((upd F 0 (0 : Int32)) 13), .ref q4, .int ((upd F 0 (0 : Int32)) 15), .ref q5, .ref q6, .ref q7, .int ((upd F 0 (0 : Int32)) 19), .ref q8, .int ((upd F 0 (0 : Int32)) 21), .int ((upd F 0 (0 : Int32)) 22), .int ((upd F 0 (0 : Int32)) 23), .int ((upd F 0 (0 : Int32)) 24), .ref q9, .ref q10, .ref q11, .long (J 28)]))]) [0] rfl
      have hD9 := hD.sub (ws' := [(qM, .inr (9, [.int ((upd F 0 (0 : Int32)) 0), .ref q1, .ref q2, .ref q3, .int ((upd F 0 (0 : Int32)) 4), .int ((upd F 0 (0 : Int32)) 5), .int ((upd F 0 (0 : Int32)) 6), .int ((upd F 0 (0 : Int32)) 7), .int ((upd F 0 (0 : Int32)) 8), .int ((upd F 0 (0 : Int32)) 9), .long (J 10), .int ((upd F 0 (0 : Int32)) 11), .int ((upd F 0 (0 : Int32)) 12), .int ((upd F 0 (0 : Int32)) 13), .ref q4, .int ((upd F 0 (0 : Int32)) 15), .ref q5, .ref q6, .ref q7, .int ((upd F 0 (0 : Int32)) 19), .ref q8, .int ((upd F 0 (0 : Int32)) 21), .int ((upd F 0 (0 : Int32)) 22), .int ((upd F 0 (0 : Int32)) 23), .int ((upd F 0 (0 : Int32)) 24), .ref q9, .ref q10, .ref q11, .long (J 28)]))]) [0] (by decide) rfl
      exact W.iret (v := (-1 : Int32)) hx hb hr (fun t ht hW => ⟨⟨_, ((upd F 0 (0 : Int32)), J), rfl, hv, by rw [ht]; exact hP9, hD9⟩, hS.F ht⟩) hS.2.2 dX9_bar_27
theorem ba_red {u w a c g : Nat} (hg : 0 < g) (hu : g ∣ u) (hw : g ∣ w) : u / g * a ≤ c * (w / g) ↔ u * a ≤ c * w := by
  obtain ⟨x, rfl⟩ := hu
  obtain ⟨y, rfl⟩ := hw
  rw [Nat.mul_div_cancel_left x hg, Nat.mul_div_cancel_left y hg, Nat.mul_assoc, Nat.mul_left_comm c g y]
  exact (Nat.mul_le_mul_left_iff hg).symm
theorem ba_m {n q m : Nat} (hm : m ≤ n) : us n 5 m (n + 1) * 1000 ≤ q * 10 ^ n ↔ tpW n (n + 1 - m) * 1000 ≤ q * 2 ^ n := by
  have e := us_5 (n := n) (n + 1 - m) (by omega)
  rw [show n + 1 - (n + 1 - m) = m by omega] at e
  have e10 : 10 ^ n = 5 ^ n * 2 ^ n := by rw [← Nat.mul_pow]
  rw [e, e10, Nat.mul_comm (tpW n (n + 1 - m)), Nat.mul_assoc, Nat.mul_left_comm q]
  exact Nat.mul_le_mul_left_iff (Nat.pow_pos (by decide))
theorem sX9_bar_30 (n q : Nat) (p1 p2 : Int32) (h1 : p1.toInt = (n : Int)) (hn1 : 1 ≤ n) (hn : n ≤ 18) (h2 : p2.toInt = (q : Int)) (hq : q ≤ 1000) (Q : Int32 → (Nat → Int32) → (Nat → Int64) → Prop) (hQ : ∀ (r : Int32) F' J', r.toInt = ((n + 1 - fa_first (baB n q) (n + 1) : Nat) : Int) → Q r F' J') : ∀ (f m : Nat) (x3 : Int32) (F : Nat → Int32) (J : Nat → Int64), x3.toInt = (m : Int) → (∀ i, i < m → ¬ tpW n (n + 1 - i) * 1000 ≤ q * 2 ^ n) → m ≤ n + 1 → n + 2 ≤ m + f → vX9_bar_c30 p1 p2 Q f x3 F J
  | 0, m, x3, F, J, _, _, hm, hf => absurd hf (by omega)
  | f + 1, m, x3, F, J, h3, hb, hm, hf => by
    have h10 := p10_le hn
    have hff : ∀ k, k ≤ n + 1 → (∀ i, i < k → ¬ tpW n (n + 1 - i) * 1000 ≤ q * 2 ^ n) → (k = n + 1 ∨ tpW n (n + 1 - k) * 1000 ≤ q * 2 ^ n) → fa_first (baB n q) (n + 1) = n + 1 - k := by
      intro k hk hno hyes
      have ok : ∀ i, i < n + 1 - k → baB n q i = false := fun i hi => by
        rcases hyes with z | z
        · omega
        · have hmono := tpW_k n (i + 1) (n + 1 - k) (by omega)
          exact decide_eq_false (fun w => w (Nat.le_trans (Nat.mul_le_mul_right 1000 hmono) z))
      rcases Nat.eq_zero_or_pos k with z | z
      · subst z
        exact ff_none ok
      · refine ff_eq (by omega) (decide_eq_true ?_) ok
        have := hno (k - 1) (by omega)
        rw [show n + 1 - (k - 1) = n + 1 - k + 1 by omega] at this
        exact this
    rw [vX9_bar_c30, q_lt h1 h3]
    refine ⟨fun hc => hQ _ _ _ ?_, fun hc => ⟨n, 5, m, ⟨h1, hn, rfl, by omega, h3⟩, fun u J2 hu => ?_⟩⟩
    · have : m = n + 1 := by omega
      subst this
      rw [hff (n + 1) (Nat.le_refl _) hb (Or.inl rfl), q_1 h1 (by omega)]
      omega
    · obtain ⟨hu, hJ⟩ := hu
      refine ⟨_, _, ⟨hu, hJ⟩, fun g hg => ?_⟩
      have hg : g.toInt = ((Nat.gcd (us n 5 m (n + 1)) (10 ^ n) : Nat) : Int) := hg
      have hul := us_le hn (show 5 ≤ 10 by omega) m (Nat.le_refl (n + 1))
      have ce := ch_end (c := 0) hul (Nat.pow_pos (by decide)) h10 hu hJ hg
      have hul2 : us n 5 m (n + 1) / Nat.gcd (us n 5 m (n + 1)) (10 ^ n) * 1000 < 9223372036854775808 := by
        have e5 : us n 5 m (n + 1) = tpW n (n + 1 - m) * 5 ^ n := by
          have e := us_5 (n := n) (n + 1 - m) (by omega)
          rw [show n + 1 - (n + 1 - m) = m by omega] at e; exact e
        have h5 : 5 ^ n ∣ Nat.gcd (us n 5 m (n + 1)) (10 ^ n) := Nat.dvd_gcd (by rw [e5]; exact Nat.dvd_mul_left _ _) (by rw [show 10 ^ n = 5 ^ n * 2 ^ n by rw [← Nat.mul_pow]]; exact Nat.dvd_mul_right _ _)
        have h5l := Nat.le_of_dvd ce.1 h5
        have hdv : us n 5 m (n + 1) / Nat.gcd (us n 5 m (n + 1)) (10 ^ n) ≤ us n 5 m (n + 1) / 5 ^ n := Nat.div_le_div_left h5l (Nat.pow_pos (by decide))
        have hdv2 : us n 5 m (n + 1) / 5 ^ n = tpW n (n + 1 - m) := by rw [e5]; exact Nat.mul_div_cancel _ (Nat.pow_pos (by decide))
        have := tpW_le hn (n + 1 - m) (by omega)
        omega
      have hwl2 : q * (10 ^ n / Nat.gcd (us n 5 m (n + 1)) (10 ^ n)) < 9223372036854775808 := by
        have e5 : us n 5 m (n + 1) = tpW n (n + 1 - m) * 5 ^ n := by
          have e := us_5 (n := n) (n + 1 - m) (by omega)
          rw [show n + 1 - (n + 1 - m) = m by omega] at e; exact e
        have h5 : 5 ^ n ∣ Nat.gcd (us n 5 m (n + 1)) (10 ^ n) := Nat.dvd_gcd (by rw [e5]; exact Nat.dvd_mul_left _ _) (by rw [show 10 ^ n = 5 ^ n * 2 ^ n by rw [← Nat.mul_pow]]; exact Nat.dvd_mul_right _ _)
        have h5l := Nat.le_of_dvd ce.1 h5
        have hdv : 10 ^ n / Nat.gcd (us n 5 m (n + 1)) (10 ^ n) ≤ 10 ^ n / 5 ^ n := Nat.div_le_div_left h5l (Nat.pow_pos (by decide))
        have hdv2 : 10 ^ n / 5 ^ n = 2 ^ n := by rw [show 10 ^ n = 5 ^ n * 2 ^ n by rw [← Nat.mul_pow]]; exact Nat.mul_div_cancel_left _ (Nat.pow_pos (by decide))
        have hp2 : 2 ^ n ≤ 262144 := Nat.pow_le_pow_right (n := 2) (by decide) hn
        have := Nat.mul_le_mul hq (Nat.le_trans hdv (by rw [hdv2]; exact hp2))
        omega
      have e1 := q_lmulN (b := 1000) ce.2.1 rfl hul2
      have e2 := q_lmulN (q_i2l h2) ce.2.2 hwl2
      rw [q_l0 hg, lg_cmp_gt, Int64.lt_iff_toInt_lt, e1, e2]
      have hiff := (ba_red (a := 1000) (c := q) ce.1 (Nat.gcd_dvd_left (us n 5 m (n + 1)) (10 ^ n)) (Nat.gcd_dvd_right (us n 5 m (n + 1)) (10 ^ n))).trans (ba_m (q := q) (show m ≤ n by omega))
      refine ⟨by have := ce.1; omega, by have := ce.1; omega, fun hz => sX9_bar_30 n q p1 p2 h1 hn1 hn h2 hq Q hQ f (m + 1) _ _ _ (q_1 h3 (by omega)) (fun i hi => ?_) (by omega) (by omega), fun hz => hQ _ _ _ ?_⟩
      · by_cases e : i = m
        · subst e; exact fun w => by have := hiff.mpr w; omega
        · exact hb i (by omega)
      · rw [hff m hm hb (Or.inr (hiff.mp (by omega)))]
        rw [h3]; omega
abbrev preX9_bar (F : Nat → Int32) (J : Nat → Int64) (p1 : Int32) (p2 : Int32) : Prop := True
abbrev postX9_bar (F : Nat → Int32) (J : Nat → Int64) (p1 : Int32) (p2 : Int32) (r : Int32) (F' : Nat → Int32) (J' : Nat → Int64) : Prop := r.toInt = spBar p1.toInt p2.toInt
theorem sX9_bar (F : Nat → Int32) (J : Nat → Int64) (p1 : Int32) (p2 : Int32) (H : preX9_bar F J p1 p2) : vX9_bar F J p1 p2 (postX9_bar F J p1 p2) := by
  have no : ¬ ((1 ≤ p1.toInt ∧ p1.toInt ≤ 18) ∧ (0 ≤ p2.toInt ∧ p2.toInt ≤ 1000)) → (-1 : Int32).toInt = spBar p1.toInt p2.toInt := fun q => by
    unfold spBar; rw [if_neg q]; rfl
  refine ⟨trivial, fun r hr => ?_⟩
  have hr : r = if 1 ≤ p1.toInt ∧ p1.toInt ≤ 18 then 1 else 0 := hr
  rw [hr, q_if1]
  refine ⟨fun a => no (fun q => a q.1), fun a => ⟨trivial, fun r2 hr2 => ?_⟩⟩
  have a := Decidable.not_not.mp a
  have hr2 : r2 = if 0 ≤ p2.toInt ∧ p2.toInt ≤ 1000 then 1 else 0 := hr2
  rw [hr2, q_if1]
  refine ⟨fun b => ?_, fun b => no (fun q => b q.2)⟩
  have b := Decidable.not_not.mp b
  refine ⟨p1.toInt.toNat + 2, sX9_bar_30 p1.toInt.toNat p2.toInt.toNat p1 p2 (by omega) (by omega) (by omega) (by omega) (by omega) _ (fun r3 F' J' hr3 => ?_) _ 0 0 _ _ rfl (fun i hi => absurd hi (by omega)) (by omega) (by omega)⟩
  have hfl := fa_first_le (baB p1.toInt.toNat p2.toInt.toNat) (p1.toInt.toNat + 1)
  show r3.toInt = spBar p1.toInt p2.toInt
  unfold spBar
  rw [if_pos ⟨a, b⟩, hr3]; omega
