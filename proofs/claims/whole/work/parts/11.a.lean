-- remainders joined
theorem ff_iff (p : Nat → Bool) : ∀ n, (0 < fa_cnt p n) ↔ fa_first p n < n
  | 0 => by simp [fa_cnt, fa_first]
  | n + 1 => by
    have ih := ff_iff p n
    rw [fa_cnt, fa_first]
    have hle := fa_first_le p n
    by_cases h : fa_first p n < n
    · rw [if_pos h]; constructor <;> intro _ <;> (have := ih.mpr h) <;> omega
    · rw [if_neg h]
      have h0 : fa_cnt p n = 0 := by
        rcases Nat.eq_zero_or_pos (fa_cnt p n) with z | z
        · exact z
        · exact absurd (ih.mp z) h
      by_cases hp : p n = true
      · rw [if_pos hp, if_pos hp]; omega
      · rw [if_neg hp, if_neg hp]; omega
theorem ff_eq {p : Nat → Bool} {n k : Nat} (hk : k < n) (hp : p k = true) (hb : ∀ j, j < k → p j = false) : fa_first p n = k := by
  have hle := fa_first_le p n
  rcases Nat.lt_trichotomy (fa_first p n) k with h | h | h
  · have := fa_first_yes p n (by omega)
    rw [hb _ h] at this
    exact absurd this (by decide)
  · exact h
  · have := fa_first_no p n k h
    rw [hp] at this
    exact absurd this (by decide)
theorem ff_none {p : Nat → Bool} {n : Nat} (hb : ∀ j, j < n → p j = false) : fa_first p n = n := by
  have hle := fa_first_le p n
  rcases Nat.lt_or_ge (fa_first p n) n with h | h
  · have := fa_first_yes p n h
    rw [hb _ h] at this
    exact absurd this (by decide)
  · omega
theorem ff_grow {p : Nat → Bool} {n m : Nat} (h : fa_first p n < n) (hm : n ≤ m) : fa_first p m = fa_first p n := ff_eq (by omega) (fa_first_yes p n h) (fun j hj => fa_first_no p n j hj)
/-- what a set of parts is joined to, of the first so many -/
def joS (T : Cd) (b : Nat → Nat) (s : Nat) : Nat → Option Nat
  | 0 => some 0
  | p + 1 => match joS T b s p with
    | none => none
    | some n => if s.testBit p then (if fa_first (fun j => decide ((n + j * lcS T s p) % cL T p = b p)) (cL T p) < cL T p then some (n + fa_first (fun j => decide ((n + j * lcS T s p) % cL T p = b p)) (cL T p) * lcS T s p) else none) else some n
theorem jo_small {n per L b : Nat} (hn : n < per) (hL : 0 < L) (hj : fa_first (fun j => decide ((n + j * per) % L = b)) L < L) : n + fa_first (fun j => decide ((n + j * per) % L = b)) L * per < Nat.lcm per L := by
  generalize hf : (fun j => decide ((n + j * per) % L = b)) = f at hj ⊢
  have hy := fa_first_yes f L hj
  generalize hk : fa_first f L = k at hj hy ⊢
  have hg := Nat.gcd_pos_of_pos_right per hL
  have hgd := Nat.gcd_dvd_right per L
  have hd : Nat.lcm per L = (L / Nat.gcd per L) * per := by
    unfold Nat.lcm
    rw [Nat.mul_div_assoc per hgd, Nat.mul_comm]
  have hkd : k < L / Nat.gcd per L := by
    rcases Nat.lt_or_ge k (L / Nat.gcd per L) with z | z
    · exact z
    · exfalso
      have hpos : 0 < L / Nat.gcd per L := Nat.div_pos (Nat.le_of_dvd hL hgd) hg
      have hno := fa_first_no f L (k - L / Nat.gcd per L) (by omega)
      have hdv : L ∣ (L / Nat.gcd per L) * per := by rw [← hd]; exact Nat.dvd_lcm_right per L
      obtain ⟨q, hq⟩ := hdv
      have e : n + k * per = (n + (k - L / Nat.gcd per L) * per) + L * q := by
        rw [← hq, Nat.add_assoc, ← Nat.add_mul]
        congr 2
        omega
      rw [← hf] at hy hno
      simp only [decide_eq_true_eq, decide_eq_false_iff_not] at hy hno
      rw [e, Nat.add_mul_mod_self_left] at hy
      exact hno hy
  rw [hd]
  have : (k + 1) * per ≤ (L / Nat.gcd per L) * per := Nat.mul_le_mul_right per hkd
  rw [Nat.add_mul] at this
  omega
theorem joS_lt {T : Cd} (h : ∀ p, p < cn T → 2 ≤ cL T p) (b : Nat → Nat) (s : Nat) : ∀ k, k ≤ cn T → ∀ n, joS T b s k = some n → n < lcS T s k
  | 0, _, n, hn => by simp [joS] at hn; subst hn; simp [lcS]
  | k + 1, hk, n, hn => by
    have ih := joS_lt h b s k (by omega)
    have hL := h k (by omega)
    rw [joS] at hn
    rw [lcS]
    cases hj : joS T b s k with
    | none => rw [hj] at hn; cases hn
    | some q =>
      have hq := ih q hj
      rw [hj] at hn
      by_cases hb : s.testBit k = true
      · rw [if_pos hb]
        simp only [hb, if_true] at hn
        split at hn
        · rename_i hlt
          cases hn
          exact jo_small hq (by omega) hlt
        · cases hn
      · rw [if_neg hb]
        simp only [hb] at hn
        cases hn
        exact hq
/-- a set without which the others are joined to a number below the limit -/
def neB (T : Cd) (b : Nat → Nat) (lim s : Nat) : Bool := match joS T b s (cn T) with
  | none => false
  | some n => decide (n < lim)
def okW (T : Cd) (b : Nat → Nat) (lim few w : Nat) : Bool := decide (bcn w 13 = few) && neB T b lim (2 ^ cn T - 1 - w)
def moW (T : Cd) : Nat := if cn T = 0 then 0 else cn T - 1
def fewW (T : Cd) (b : Nat → Nat) (lim : Nat) : Nat := fa_first (fun f => decide (fa_first (okW T b lim f) (2 ^ cn T) < 2 ^ cn T)) (moW T + 1)
def wrW (T : Cd) (b : Nat → Nat) (lim : Nat) : Nat := fa_first (okW T b lim (fewW T b lim)) (2 ^ cn T)
def hasD (T : Cd) (b : Nat → Nat) (lim : Nat) : Prop := fewW T b lim < moW T + 1
/-- the distance -/
def dsO (T : Cd) (b : Nat → Nat) (lim : Nat) : Option Nat := if fewW T b lim < moW T + 1 then joS T b (2 ^ cn T - 1 - wrW T b lim) (cn T) else none
theorem dsO_some {T : Cd} {b : Nat → Nat} {lim : Nat} (h : hasD T b lim) : ∃ d, dsO T b lim = some d ∧ joS T b (2 ^ cn T - 1 - wrW T b lim) (cn T) = some d ∧ d < lim ∧ wrW T b lim < 2 ^ cn T := by
  have h1 := fa_first_yes _ _ h
  simp only [decide_eq_true_eq] at h1
  have h2 := fa_first_yes _ _ h1
  have h3 : okW T b lim (fewW T b lim) (wrW T b lim) = true := h2
  unfold okW at h3
  simp only [Bool.and_eq_true] at h3
  have h4 := h3.2
  unfold neB at h4
  cases hj : joS T b (2 ^ cn T - 1 - wrW T b lim) (cn T) with
  | none => rw [hj] at h4; cases h4
  | some d =>
    rw [hj] at h4
    exact ⟨d, by unfold dsO; rw [if_pos (show fewW T b lim < moW T + 1 from h), hj], rfl, by simpa using h4, h1⟩
theorem dsO_none {T : Cd} {b : Nat → Nat} {lim : Nat} (h : ¬ hasD T b lim) : dsO T b lim = none := by unfold dsO; rw [if_neg (show ¬ fewW T b lim < moW T + 1 from h)]
theorem dsO_lt {T : Cd} {b : Nat → Nat} {lim d : Nat} (h : dsO T b lim = some d) : d < lim := by
  by_cases q : hasD T b lim
  · obtain ⟨d2, e, -, hl, -⟩ := dsO_some q
    rw [h] at e; cases e; exact hl
  · rw [dsO_none q] at h; cases h
/-- distance, wrong, step, and how many sets: what they are -/
def isD (T : Cd) (b : Nat → Nat) (lim : Nat) (ds wr st se : Int32) : Prop :=
  (hasD T b lim ∧ (∃ d, dsO T b lim = some d ∧ ds.toInt = (d : Int)) ∧ wr.toInt = (wrW T b lim : Int) ∧ st.toInt = (lcS T (2 ^ cn T - 1 - wrW T b lim) (cn T) : Int) ∧ se.toInt = (fa_cnt (okW T b lim (fewW T b lim)) (2 ^ cn T) : Int))
  ∨ (¬ hasD T b lim ∧ ds.toInt = -1 ∧ wr.toInt = 0 ∧ st.toInt = 0 ∧ se.toInt = 0)
theorem isD_lt {T : Cd} {b : Nat → Nat} {lim : Nat} {ds wr st se : Int32} (h : isD T b lim ds wr st se) (hl : lim ≤ 100000) : isLt (dsO T b lim) ds := by
  rcases h with ⟨-, ⟨d, h2, h3⟩, -⟩ | ⟨h1, h2, -⟩
  · rw [h2]; have := dsO_lt h2; exact ⟨h3, by omega⟩
  · rw [dsO_none h1]; exact h2
def bOf (T : Cd) (m : Nat → Nat → Int) (p : Nat) : Nat := bst (m p) (cL T p)
def mOf (T : Cd) (h : Nat → Nat) (fr mn : Nat) (p w : Nat) : Int := mtZ T h fr p w mn
theorem q_restN : ∀ n, n ≤ 5 → ∀ w, w < 2 ^ n → (nI (2 ^ n - 1) &&& (nI w ^^^ (-1 : Int32))) = nI (2 ^ n - 1 - w) := by decide
theorem q_rest {x y : Int32} {n w : Nat} (hn : n ≤ 5) (hx : x.toInt = ((2 ^ n - 1 : Nat) : Int)) (hy : y.toInt = (w : Int)) (hw : w < 2 ^ n) : (x &&& (y ^^^ (-1 : Int32))).toInt = ((2 ^ n - 1 - w : Nat) : Int) := by
  have h32 := p32_le hn
  rw [q_eqN hx, q_eqN hy, q_restN n hn w hw, q_nI (by omega)]
set_option maxRecDepth 20000 in
theorem ggX9_joinedBy_X9_has : GoodIn wsX9_joinedBy wsX9_has := goodIn_r _ [5] (by decide +kernel) (by decide +kernel)
set_option maxRecDepth 20000 in
theorem gX9_joinedBy_X9_has : GoodIn wsX9_joinedBy (va_wsS RX9 201 yX9_has wsX9_has) := goodIn_app (goodIn_of _ (by decide +kernel)) ggX9_joinedBy_X9_has
set_option maxRecDepth 20000 in
theorem ggX9_joinedBy_X9_of : GoodIn wsX9_joinedBy wsX9_of := goodIn_r _ [9, 1, 21, 22, 23, 24, 25, 26, 27, 28, 29, 30, 31, 32, 33, 34, 35, 36, 37, 38, 39, 40, 41, 42, 43, 44, 45, 46, 47, 48, 49] (by decide +kernel) (by decide +kernel)
set_option maxRecDepth 20000 in
theorem gX9_joinedBy_X9_of : GoodIn wsX9_joinedBy (wsV RX9 195 RX9 yX9_of wsX9_of) := goodIn_app (goodIn_of _ (by decide +kernel)) ggX9_joinedBy_X9_of
set_option maxRecDepth 20000 in
theorem ggX9_joinedBy_X9_bestOf : GoodIn wsX9_joinedBy wsX9_bestOf := goodIn_r _ [13, 14, 6, 7, 8, 4, 9, 1, 21, 22, 23, 24, 25, 26, 27, 28, 29, 30, 31, 32, 33, 34, 35, 36, 37, 38, 39, 40, 41, 42, 43, 44, 45, 46, 47, 48, 49] (by decide +kernel) (by decide +kernel)
set_option maxRecDepth 20000 in
theorem gX9_joinedBy_X9_bestOf : GoodIn wsX9_joinedBy (wsV RX9 260 RX9 yX9_bestOf wsX9_bestOf) := goodIn_app (goodIn_of _ (by decide +kernel)) ggX9_joinedBy_X9_bestOf
set_option maxRecDepth 20000 in
theorem ggX9_joinedBy_X9_common : GoodIn wsX9_joinedBy wsX9_common := goodIn_r _ [17, 18, 19, 4, 20] (by decide +kernel) (by decide +kernel)
set_option maxRecDepth 20000 in
theorem gX9_joinedBy_X9_common : GoodIn wsX9_joinedBy (va_wsS RX9 204 yX9_common wsX9_common) := goodIn_app (goodIn_of _ (by decide +kernel)) ggX9_joinedBy_X9_common
theorem dX9_joinedBy_0 : decode cX9_joinedBy 0 = .ok (.iconst 0, 1) := by decide +kernel
theorem dX9_joinedBy_1 : decode cX9_joinedBy 1 = .ok (.istore_n 2, 1) := by decide +kernel
theorem dX9_joinedBy_2 : decode cX9_joinedBy 2 = .ok (.iconst 1, 1) := by decide +kernel
theorem dX9_joinedBy_3 : decode cX9_joinedBy 3 = .ok (.istore_n 3, 1) := by decide +kernel
theorem dX9_joinedBy_4 : decode cX9_joinedBy 4 = .ok (.iconst 0, 1) := by decide +kernel
theorem dX9_joinedBy_5 : decode cX9_joinedBy 5 = .ok (.istore 4, 2) := by decide +kernel
theorem dX9_joinedBy_7 : decode cX9_joinedBy 7 = .ok (.iload 4, 2) := by decide +kernel
theorem dX9_joinedBy_9 : decode cX9_joinedBy 9 = .ok (.aload_n 0, 1) := by decide +kernel
theorem dX9_joinedBy_10 : decode cX9_joinedBy 10 = .ok (.getfield 7, 3) := by decide +kernel
theorem dX9_joinedBy_13 : decode cX9_joinedBy 13 = .ok (.iconst 0, 1) := by decide +kernel
theorem dX9_joinedBy_14 : decode cX9_joinedBy 14 = .ok (.iaload, 1) := by decide +kernel
theorem dX9_joinedBy_15 : decode cX9_joinedBy 15 = .ok (.if_icmp .ge 100, 3) := by decide +kernel
theorem dX9_joinedBy_18 : decode cX9_joinedBy 18 = .ok (.iload_n 1, 1) := by decide +kernel
theorem dX9_joinedBy_19 : decode cX9_joinedBy 19 = .ok (.iload 4, 2) := by decide +kernel
theorem dX9_joinedBy_21 : decode cX9_joinedBy 21 = .ok (.invokestatic 201, 3) := by decide +kernel
theorem dX9_joinedBy_24 : decode cX9_joinedBy 24 = .ok (.ifCond .ne 6, 3) := by decide +kernel
theorem dX9_joinedBy_27 : decode cX9_joinedBy 27 = .ok (.goto 82, 3) := by decide +kernel
theorem dX9_joinedBy_30 : decode cX9_joinedBy 30 = .ok (.iconst 0, 1) := by decide +kernel
theorem dX9_joinedBy_31 : decode cX9_joinedBy 31 = .ok (.istore 5, 2) := by decide +kernel
theorem dX9_joinedBy_33 : decode cX9_joinedBy 33 = .ok (.iload 5, 2) := by decide +kernel
theorem dX9_joinedBy_35 : decode cX9_joinedBy 35 = .ok (.aload_n 0, 1) := by decide +kernel
theorem dX9_joinedBy_36 : decode cX9_joinedBy 36 = .ok (.iload 4, 2) := by decide +kernel
theorem dX9_joinedBy_38 : decode cX9_joinedBy 38 = .ok (.iconst 0, 1) := by decide +kernel
theorem dX9_joinedBy_39 : decode cX9_joinedBy 39 = .ok (.invokevirtual 195, 3) := by decide +kernel
theorem dX9_joinedBy_42 : decode cX9_joinedBy 42 = .ok (.if_icmp .ge 31, 3) := by decide +kernel
theorem dX9_joinedBy_45 : decode cX9_joinedBy 45 = .ok (.iload_n 2, 1) := by decide +kernel
theorem dX9_joinedBy_46 : decode cX9_joinedBy 46 = .ok (.aload_n 0, 1) := by decide +kernel
theorem dX9_joinedBy_47 : decode cX9_joinedBy 47 = .ok (.iload 4, 2) := by decide +kernel
theorem dX9_joinedBy_49 : decode cX9_joinedBy 49 = .ok (.iconst 0, 1) := by decide +kernel
theorem dX9_joinedBy_50 : decode cX9_joinedBy 50 = .ok (.invokevirtual 195, 3) := by decide +kernel
theorem dX9_joinedBy_53 : decode cX9_joinedBy 53 = .ok (.irem, 1) := by decide +kernel
theorem dX9_joinedBy_54 : decode cX9_joinedBy 54 = .ok (.aload_n 0, 1) := by decide +kernel
theorem dX9_joinedBy_55 : decode cX9_joinedBy 55 = .ok (.iload 4, 2) := by decide +kernel
theorem dX9_joinedBy_57 : decode cX9_joinedBy 57 = .ok (.invokevirtual 260, 3) := by decide +kernel
theorem dX9_joinedBy_60 : decode cX9_joinedBy 60 = .ok (.if_icmp .eq 13, 3) := by decide +kernel
theorem dX9_joinedBy_63 : decode cX9_joinedBy 63 = .ok (.iload_n 2, 1) := by decide +kernel
theorem dX9_joinedBy_64 : decode cX9_joinedBy 64 = .ok (.iload_n 3, 1) := by decide +kernel
theorem dX9_joinedBy_65 : decode cX9_joinedBy 65 = .ok (.iadd, 1) := by decide +kernel
theorem dX9_joinedBy_66 : decode cX9_joinedBy 66 = .ok (.istore_n 2, 1) := by decide +kernel
theorem dX9_joinedBy_67 : decode cX9_joinedBy 67 = .ok (.iinc 5 1, 3) := by decide +kernel
theorem dX9_joinedBy_70 : decode cX9_joinedBy 70 = .ok (.goto (-37), 3) := by decide +kernel
theorem dX9_joinedBy_73 : decode cX9_joinedBy 73 = .ok (.iload_n 2, 1) := by decide +kernel
theorem dX9_joinedBy_74 : decode cX9_joinedBy 74 = .ok (.aload_n 0, 1) := by decide +kernel
theorem dX9_joinedBy_75 : decode cX9_joinedBy 75 = .ok (.iload 4, 2) := by decide +kernel
theorem dX9_joinedBy_77 : decode cX9_joinedBy 77 = .ok (.iconst 0, 1) := by decide +kernel
theorem dX9_joinedBy_78 : decode cX9_joinedBy 78 = .ok (.invokevirtual 195, 3) := by decide +kernel
theorem dX9_joinedBy_81 : decode cX9_joinedBy 81 = .ok (.irem, 1) := by decide +kernel
theorem dX9_joinedBy_82 : decode cX9_joinedBy 82 = .ok (.aload_n 0, 1) := by decide +kernel
theorem dX9_joinedBy_83 : decode cX9_joinedBy 83 = .ok (.iload 4, 2) := by decide +kernel
theorem dX9_joinedBy_85 : decode cX9_joinedBy 85 = .ok (.invokevirtual 260, 3) := by decide +kernel
theorem dX9_joinedBy_88 : decode cX9_joinedBy 88 = .ok (.if_icmp .eq 5, 3) := by decide +kernel
theorem dX9_joinedBy_91 : decode cX9_joinedBy 91 = .ok (.iconst (-1), 1) := by decide +kernel
theorem dX9_joinedBy_92 : decode cX9_joinedBy 92 = .ok (.ireturn, 1) := by decide +kernel
theorem dX9_joinedBy_93 : decode cX9_joinedBy 93 = .ok (.iload_n 3, 1) := by decide +kernel
theorem dX9_joinedBy_94 : decode cX9_joinedBy 94 = .ok (.aload_n 0, 1) := by decide +kernel
theorem dX9_joinedBy_95 : decode cX9_joinedBy 95 = .ok (.iload 4, 2) := by decide +kernel
theorem dX9_joinedBy_97 : decode cX9_joinedBy 97 = .ok (.iconst 0, 1) := by decide +kernel
theorem dX9_joinedBy_98 : decode cX9_joinedBy 98 = .ok (.invokevirtual 195, 3) := by decide +kernel
theorem dX9_joinedBy_101 : decode cX9_joinedBy 101 = .ok (.invokestatic 204, 3) := by decide +kernel
theorem dX9_joinedBy_104 : decode cX9_joinedBy 104 = .ok (.istore_n 3, 1) := by decide +kernel
theorem dX9_joinedBy_105 : decode cX9_joinedBy 105 = .ok (.iload_n 2, 1) := by decide +kernel
theorem dX9_joinedBy_106 : decode cX9_joinedBy 106 = .ok (.iload_n 3, 1) := by decide +kernel
theorem dX9_joinedBy_107 : decode cX9_joinedBy 107 = .ok (.irem, 1) := by decide +kernel
theorem dX9_joinedBy_108 : decode cX9_joinedBy 108 = .ok (.istore_n 2, 1) := by decide +kernel
theorem dX9_joinedBy_109 : decode cX9_joinedBy 109 = .ok (.iinc 4 1, 3) := by decide +kernel
theorem dX9_joinedBy_112 : decode cX9_joinedBy 112 = .ok (.goto (-105), 3) := by decide +kernel
theorem dX9_joinedBy_115 : decode cX9_joinedBy 115 = .ok (.iload_n 2, 1) := by decide +kernel
theorem dX9_joinedBy_116 : decode cX9_joinedBy 116 = .ok (.ireturn, 1) := by decide +kernel
abbrev rmX9_joinedBy : Room := { frames := 2, cells := 0, slots := 0, locals := 50 }
theorem inX9_joinedBy_9 : ∀ w ∈ wsX90, w ∈ wsX9_joinedBy := by decide +kernel
def vX9_joinedBy_c73 (F : Nat → Int32) (J : Nat → Int64) (al : Nat → Int32) (ma : Nat → Int32) (p1 : Int32) (Q : Int32 → Prop) (K7 : Int32 → Int32 → Int32 → Prop) (x2 : Int32) (x3 : Int32) (x4 : Int32) : Prop := (∃ (p_78 : Nat) (w_78 : Nat), preX9_of p_78 w_78 F J al x4 (0 : Int32) ∧ (∀ r_78 : Int32, postX9_of p_78 w_78 F J al x4 (0 : Int32) r_78 → (¬ r_78 = 0 ∧ (∃ (T_85 : Cd) (p_85 : Nat) (m_85 : Nat → Nat → Int), preX9_bestOf T_85 p_85 m_85 F J al ma x4 ∧ (∀ r_85 : Int32, postX9_bestOf T_85 p_85 m_85 F J al ma x4 r_85 → (((x2 - x2 / r_78 * r_78) = r_85 → (∃ (p_98 : Nat) (w_98 : Nat), preX9_of p_98 w_98 F J al x4 (0 : Int32) ∧ (∀ r_98 : Int32, postX9_of p_98 w_98 F J al x4 (0 : Int32) r_98 → (∃ (a_101 : Nat) (b_101 : Nat), preX9_common a_101 b_101 x3 r_98 ∧ (∀ r_101 : Int32, postX9_common a_101 b_101 x3 r_98 r_101 → (¬ r_101 = 0 ∧ (∀ y_108 : Int32, y_108 = (x2 - x2 / r_101 * r_101) → (K7 y_108 r_101 (x4 + (1 : Int32)))))))))) ∧ (¬ (x2 - x2 / r_78 * r_78) = r_85 → (Q (-1 : Int32)))))))))
set_option maxHeartbeats 4000000 in
set_option maxRecDepth 100000 in
theorem kX9_joinedBy_c73 {p : Program} {l : Launch} {e : Env} {s : State} {m : MethodId} {args : Array Value} {below : List Frame} {meth : Method} {c : Code} {g : GP} {qM q1 q2 q3 q4 q5 q6 q7 q8 q9 q10 q11 : Nat} {F : Nat → Int32} {J : Nat → Int64} {al : Nat → Int32} {ma : Nat → Int32} {p1 : Int32} {Q : Int32 → Prop} {K7 : Int32 → Int32 → Int32 → Prop} (S : CallFix p m c cX9_joinedBy 6 s args wsX9_joinedBy RX9) (hr : meth.sig.returnType = (some .int)) (hlocks : meth.locks = false) (hG : GK g s) (hP : va_P g.1 vwCl [(qM, .inr (9, [.int (F 0), .ref q1, .ref q2, .ref q3, .int (F 4), .int (F 5), .int (F 6), .int (F 7), .int (F 8), .int (F 9), .long (J 10), .int (F 11), .int (F 12), .int (F 13), .ref q4, .int (F 15), .ref q5, .ref q6, .ref q7, .int (F 19), .ref q8, .int (F 21), .int (F 22), .int (F 23), .int (F 24), .ref q9, .ref q10, .ref q11, .long (J 28)])), (q1, .inl (g.2 0, 376, .inl al)), (q8, .inl (g.2 0, 65, .inl ma))] s.heap) (kk7 : ∀ (x2 : Int32) (x3 : Int32) (x4 : Int32), K7 x2 x3 x4 → ∀ (ls : Array Slot), lv_has ls 6 [(0, .ref qM), (1, .int p1), (2, .int x2), (3, .int x3), (4, .int x4)] → W p l e (headSpec wsX9_joinedBy rmX9_joinedBy).room s m args below meth c s.heap [] 0 0 (MQ below (vp_Si Q) args s 0 0 (fun _ => False)) (F0 m 7 ls [])) : ∀ (x2 : Int32) (x3 : Int32) (x4 : Int32), vX9_joinedBy_c73 F J al ma p1 Q K7 x2 x3 x4 → ∀ (ls : Array Slot), lv_has ls 6 [(0, .ref qM), (1, .int p1), (2, .int x2), (3, .int x3), (4, .int x4)] → W p l e (headSpec wsX9_joinedBy rmX9_joinedBy).room s m args below meth c s.heap [] 0 0 (MQ below (vp_Si Q) args s 0 0 (fun _ => False)) (F0 m 73 ls []) := by
  obtain ⟨hx, hb, hml, hown, hts⟩ := id S
  have hK := hG.1
  intro x2 x3 x4 hv ls hl
  unfold vX9_joinedBy_c73 at hv
  refine lv_iload_n hx hb dX9_joinedBy_73 rfl (lv_at hl 2 rfl) ?_
  refine lv_aload_n hx hb dX9_joinedBy_74 rfl (lv_at hl 0 rfl) ?_
  refine lv_iload hx hb dX9_joinedBy_75 (lv_at hl 4 rfl) ?_
  refine lv_iconst (v := (0 : Int32)) hx hb dX9_joinedBy_77 (by decide) ?_
  obtain ⟨p_78, w_78, ho_1, hv⟩ := hv
  refine vp_callSi (W.runV (As := [.int x4, .int (0 : Int32)]) (rest := [.int x2]) S (wX9_of l g qM q1 q2 q3 q4 q5 q6 q7 q8 q9 q10 q11 F J al x4 (0 : Int32) (sX9_of p_78 w_78 F J al x4 (0 : Int32) ho_1)) (cwV 2 hts gX9_joinedBy_X9_of rfl rfl rfl (by decide +kernel) ⟨Nat.le_of_ble_eq_true rfl, Nat.le_of_ble_eq_true rfl⟩) ⟨blindRO, va_recv hK hP (ci := 9) (q0 := 0) rfl rfl, fun U hU hW => ⟨rfl, by rw [hU]; exact hP.sub (ws' := [(qM, .inr (9, [.int (F 0), .ref q1, .ref q2, .ref q3, .int (F 4), .int (F 5), .int (F 6), .int (F 7), .int (F 8), .int (F 9), .long (J 10), .int (F 11), .int (F 12), .int (F 13), .ref q4, .int (F 15), .ref q5, .ref q6, .ref q7, .int (F 19), .ref q8, .int (F 21), .int (F 22), .int (F 23), .int (F 24), .ref q9, .ref q10, .ref q11, .long (J 28)])), (q1, .inl (g.2 0, 376, .inl al))]) [0, 1] rfl, hG.warm hW⟩⟩ rfl rfl hl.1 rfl (lv_room (Nat.le_of_ble_eq_true rfl)) dX9_joinedBy_78 ⟨Nat.le_of_ble_eq_true rfl, Nat.le_of_ble_eq_true rfl⟩) (fun r_78 hr_78 => ?_)
  have hv := hv r_78 hr_78
  obtain ⟨ho_2, hv⟩ := hv
  refine lv_irem hx hb dX9_joinedBy_81 ho_2 ?_
  refine lv_aload_n hx hb dX9_joinedBy_82 rfl (lv_at hl 0 rfl) ?_
  refine lv_iload hx hb dX9_joinedBy_83 (lv_at hl 4 rfl) ?_
  obtain ⟨T_85, p_85, m_85, ho_3, hv⟩ := hv
  refine vp_callSi (W.runV (As := [.int x4]) (rest := [.int (x2 - x2 / r_78 * r_78)]) S (wX9_bestOf l g qM q1 q2 q3 q4 q5 q6 q7 q8 q9 q10 q11 F J al ma x4 (sX9_bestOf T_85 p_85 m_85 F J al ma x4 ho_3)) (cwV 1 hts gX9_joinedBy_X9_bestOf rfl rfl rfl (by decide +kernel) ⟨Nat.le_of_ble_eq_true rfl, Nat.le_of_ble_eq_true rfl⟩) ⟨blindRO, va_recv hK hP (ci := 9) (q0 := 0) rfl rfl, fun U hU hW => ⟨rfl, by rw [hU]; exact hP.sub (ws' := [(qM, .inr (9, [.int (F 0), .ref q1, .ref q2, .ref q3, .int (F 4), .int (F 5), .int (F 6), .int (F 7), .int (F 8), .int (F 9), .long (J 10), .int (F 11), .int (F 12), .int (F 13), .ref q4, .int (F 15), .ref q5, .ref q6, .ref q7, .int (F 19), .ref q8, .int (F 21), .int (F 22), .int (F 23), .int (F 24), .ref q9, .ref q10, .ref q11, .long (J 28)])), (q1, .inl (g.2 0, 376, .inl al)), (q8, .inl (g.2 0, 65, .inl ma))]) [0, 1, 2] rfl, hG.warm hW⟩⟩ rfl rfl hl.1 rfl (lv_room (Nat.le_of_ble_eq_true rfl)) dX9_joinedBy_85 ⟨Nat.le_of_ble_eq_true rfl, Nat.le_of_ble_eq_true rfl⟩) (fun r_85 hr_85 => ?_)
  have hv := hv r_85 hr_85
  obtain ⟨hvt, hvf⟩ := hv
  refine lv_icmp_eq (tgt := 93) hx hb dX9_joinedBy_88 (by decide) (fun hc => ?_) (fun hc => ?_)
  · have hv := hvt hc
    refine lv_iload_n hx hb dX9_joinedBy_93 rfl (lv_at hl 3 rfl) ?_
    refine lv_aload_n hx hb dX9_joinedBy_94 rfl (lv_at hl 0 rfl) ?_
    refine lv_iload hx hb dX9_joinedBy_95 (lv_at hl 4 rfl) ?_
    refine lv_iconst (v := (0 : Int32)) hx hb dX9_joinedBy_97 (by decide) ?_
    obtain ⟨p_98, w_98, ho_4, hv⟩ := hv
    refine vp_callSi (W.runV (As := [.int x4, .int (0 : Int32)]) (rest := [.int x3]) S (wX9_of l g qM q1 q2 q3 q4 q5 q6 q7 q8 q9 q10 q11 F J al x4 (0 : Int32) (sX9_of p_98 w_98 F J al x4 (0 : Int32) ho_4)) (cwV 2 hts gX9_joinedBy_X9_of rfl rfl rfl (by decide +kernel) ⟨Nat.le_of_ble_eq_true rfl, Nat.le_of_ble_eq_true rfl⟩) ⟨blindRO, va_recv hK hP (ci := 9) (q0 := 0) rfl rfl, fun U hU hW => ⟨rfl, by rw [hU]; exact hP.sub (ws' := [(qM, .inr (9, [.int (F 0), .ref q1, .ref q2, .ref q3, .int (F 4), .int (F 5), .int (F 6), .int (F 7), .int (F 8), .int (F 9), .long (J 10), .int (F 11), .int (F 12), .int (F 13), .ref q4, .int (F 15), .ref q5, .ref q6, .ref q7, .int (F 19), .ref q8, .int (F 21), .int (F 22), .int (F 23), .int (F 24), .ref q9, .ref q10, .ref q11, .long (J 28)])), (q1, .inl (g.2 0, 376, .inl al))]) [0, 1] rfl, hG.warm hW⟩⟩ rfl rfl hl.1 rfl (lv_room (Nat.le_of_ble_eq_true rfl)) dX9_joinedBy_98 ⟨Nat.le_of_ble_eq_true rfl, Nat.le_of_ble_eq_true rfl⟩) (fun r_98 hr_98 => ?_)
    have hv := hv r_98 hr_98
    obtain ⟨a_101, b_101, ho_5, hv⟩ := hv
    refine vp_callSi (W.runS (As := [.int x3, .int r_98]) (rest := []) S (wX9_common l g x3 r_98 (sX9_common a_101 b_101 x3 r_98 ho_5)) (va_cwS 2 hts gX9_joinedBy_X9_common rfl rfl rfl (by decide +kernel) ⟨Nat.le_of_ble_eq_true rfl, Nat.le_of_ble_eq_true rfl⟩) ⟨blindRO, fun U hU hW => ⟨rfl, by rw [hU]; exact hP.sub (ws' := []) [] rfl, hG.warm hW⟩⟩ rfl rfl hl.1 rfl (lv_room (Nat.le_of_ble_eq_true rfl)) dX9_joinedBy_101 ⟨Nat.le_of_ble_eq_true rfl, Nat.le_of_ble_eq_true rfl⟩) (fun r_101 hr_101 => ?_)
    have hv := hv r_101 hr_101
    refine lv_istore_n (lv' := [(3, .int r_101), (0, .ref qM), (1, .int p1), (2, .int x2), (4, .int x4)]) hx hb dX9_joinedBy_104 rfl hl (by decide) rfl (fun ls hl => ?_)
    refine lv_iload_n hx hb dX9_joinedBy_105 rfl (lv_at hl 3 rfl) ?_
    refine lv_iload_n hx hb dX9_joinedBy_106 rfl (lv_at hl 0 rfl) ?_
    obtain ⟨ho_6, hv⟩ := hv
    refine lv_irem hx hb dX9_joinedBy_107 ho_6 ?_
    refine lv_topi (fun y_108 ey_108 => ?_)
    have hv := hv y_108 ey_108
    refine lv_istore_n (lv' := [(2, .int y_108), (3, .int r_101), (0, .ref qM), (1, .int p1), (4, .int x4)]) hx hb dX9_joinedBy_108 rfl hl (by decide) rfl (fun ls hl => ?_)
    refine lv_iinc (v := (x4 + (1 : Int32))) (lv' := [(4, .int (x4 + (1 : Int32))), (2, .int y_108), (3, .int r_101), (0, .ref qM), (1, .int p1)]) hx hb dX9_joinedBy_109 hl (k := 4) rfl rfl (by decide) rfl (fun ls hl => ?_)
    refine lv_goto (tgt := 7) hx hb dX9_joinedBy_112 (by decide) ?_
    exact kk7 _ _ _ hv ls (lv_sub hl [3, 4, 1, 2, 0] rfl)
  · have hv := hvf hc
    refine lv_iconst (v := (-1 : Int32)) hx hb dX9_joinedBy_91 (by decide) ?_
    exact W.iret (v := (-1 : Int32)) hx hb hr (fun t ht hW => ⟨_, rfl, hv, ht⟩) (fun _ h => by cases h) dX9_joinedBy_92
def vX9_joinedBy_c33 (F : Nat → Int32) (J : Nat → Int64) (al : Nat → Int32) (ma : Nat → Int32) (p1 : Int32) (Q : Int32 → Prop) (K7 : Int32 → Int32 → Int32 → Prop) : Nat → Int32 → Int32 → Int32 → Int32 → Prop
  | 0, _, _, _, _ => False
  | n + 1, x2, x3, x4, x5 => (∃ (p_39 : Nat) (w_39 : Nat), preX9_of p_39 w_39 F J al x4 (0 : Int32) ∧ (∀ r_39 : Int32, postX9_of p_39 w_39 F J al x4 (0 : Int32) r_39 → ((r_39 ≤ x5 → (vX9_joinedBy_c73 F J al ma p1 Q K7 x2 x3 x4)) ∧ (¬ r_39 ≤ x5 → (∃ (p_50 : Nat) (w_50 : Nat), preX9_of p_50 w_50 F J al x4 (0 : Int32) ∧ (∀ r_50 : Int32, postX9_of p_50 w_50 F J al x4 (0 : Int32) r_50 → (¬ r_50 = 0 ∧ (∃ (T_57 : Cd) (p_57 : Nat) (m_57 : Nat → Nat → Int), preX9_bestOf T_57 p_57 m_57 F J al ma x4 ∧ (∀ r_57 : Int32, postX9_bestOf T_57 p_57 m_57 F J al ma x4 r_57 → (((x2 - x2 / r_50 * r_50) = r_57 → (vX9_joinedBy_c73 F J al ma p1 Q K7 x2 x3 x4)) ∧ (¬ (x2 - x2 / r_50 * r_50) = r_57 → (vX9_joinedBy_c33 F J al ma p1 Q K7 n (x2 + x3) x3 x4 (x5 + (1 : Int32))))))))))))))
set_option maxHeartbeats 4000000 in
set_option maxRecDepth 100000 in
theorem kX9_joinedBy_c33 {p : Program} {l : Launch} {e : Env} {s : State} {m : MethodId} {args : Array Value} {below : List Frame} {meth : Method} {c : Code} {g : GP} {qM q1 q2 q3 q4 q5 q6 q7 q8 q9 q10 q11 : Nat} {F : Nat → Int32} {J : Nat → Int64} {al : Nat → Int32} {ma : Nat → Int32} {p1 : Int32} {Q : Int32 → Prop} {K7 : Int32 → Int32 → Int32 → Prop} (S : CallFix p m c cX9_joinedBy 6 s args wsX9_joinedBy RX9) (hr : meth.sig.returnType = (some .int)) (hlocks : meth.locks = false) (hG : GK g s) (hP : va_P g.1 vwCl [(qM, .inr (9, [.int (F 0), .ref q1, .ref q2, .ref q3, .int (F 4), .int (F 5), .int (F 6), .int (F 7), .int (F 8), .int (F 9), .long (J 10), .int (F 11), .int (F 12), .int (F 13), .ref q4, .int (F 15), .ref q5, .ref q6, .ref q7, .int (F 19), .ref q8, .int (F 21), .int (F 22), .int (F 23), .int (F 24), .ref q9, .ref q10, .ref q11, .long (J 28)])), (q1, .inl (g.2 0, 376, .inl al)), (q8, .inl (g.2 0, 65, .inl ma))] s.heap) (kk7 : ∀ (x2 : Int32) (x3 : Int32) (x4 : Int32), K7 x2 x3 x4 → ∀ (ls : Array Slot), lv_has ls 6 [(0, .ref qM), (1, .int p1), (2, .int x2), (3, .int x3), (4, .int x4)] → W p l e (headSpec wsX9_joinedBy rmX9_joinedBy).room s m args below meth c s.heap [] 0 0 (MQ below (vp_Si Q) args s 0 0 (fun _ => False)) (F0 m 7 ls [])) : ∀ (n : Nat), ∀ (x2 : Int32) (x3 : Int32) (x4 : Int32) (x5 : Int32), vX9_joinedBy_c33 F J al ma p1 Q K7 n x2 x3 x4 x5 → ∀ (ls : Array Slot), lv_has ls 6 [(0, .ref qM), (1, .int p1), (2, .int x2), (3, .int x3), (4, .int x4), (5, .int x5)] → W p l e (headSpec wsX9_joinedBy rmX9_joinedBy).room s m args below meth c s.heap [] 0 0 (MQ below (vp_Si Q) args s 0 0 (fun _ => False)) (F0 m 33 ls []) := by
  obtain ⟨hx, hb, hml, hown, hts⟩ := id S
  have hK := hG.1
  intro n
  induction n with
  | zero => intro x2 x3 x4 x5 hv; exact hv.elim
  | succ n ih =>
    intro x2 x3 x4 x5 hv ls hl
    refine lv_iload hx hb dX9_joinedBy_33 (lv_at hl 5 rfl) ?_
    refine lv_aload_n hx hb dX9_joinedBy_35 rfl (lv_at hl 0 rfl) ?_
    refine lv_iload hx hb dX9_joinedBy_36 (lv_at hl 4 rfl) ?_
    refine lv_iconst (v := (0 : Int32)) hx hb dX9_joinedBy_38 (by decide) ?_
    obtain ⟨p_39, w_39, ho_1, hv⟩ := hv
    refine vp_callSi (W.runV (As := [.int x4, .int (0 : Int32)]) (rest := [.int x5]) S (wX9_of l g qM q1 q2 q3 q4 q5 q6 q7 q8 q9 q10 q11 F J al x4 (0 : Int32) (sX9_of p_39 w_39 F J al x4 (0 : Int32) ho_1)) (cwV 2 hts gX9_joinedBy_X9_of rfl rfl rfl (by decide +kernel) ⟨Nat.le_of_ble_eq_true rfl, Nat.le_of_ble_eq_true rfl⟩) ⟨blindRO, va_recv hK hP (ci := 9) (q0 := 0) rfl rfl, fun U hU hW => ⟨rfl, by rw [hU]; exact hP.sub (ws' := [(qM, .inr (9, [.int (F 0), .ref q1, .ref q2, .ref q3, .int (F 4), .int (F 5), .int (F 6), .int (F 7), .int (F 8), .int (F 9), .long (J 10), .int (F 11), .int (F 12), .int (F 13), .ref q4, .int (F 15), .ref q5, .ref q6, .ref q7, .int (F 19), .ref q8, .int (F 21), .int (F 22), .int (F 23), .int (F 24), .ref q9, .ref q10, .ref q11, .long (J 28)])), (q1, .inl (g.2 0, 376, .inl al))]) [0, 1] rfl, hG.warm hW⟩⟩ rfl rfl hl.1 rfl (lv_room (Nat.le_of_ble_eq_true rfl)) dX9_joinedBy_39 ⟨Nat.le_of_ble_eq_true rfl, Nat.le_of_ble_eq_true rfl⟩) (fun r_39 hr_39 => ?_)
    have hv := hv r_39 hr_39
    obtain ⟨hvt, hvf⟩ := hv
    refine lv_icmp_ge (tgt := 73) hx hb dX9_joinedBy_42 (by decide) (fun hc => ?_) (fun hc => ?_)
    · have hv := hvt hc
      exact kX9_joinedBy_c73 S hr hlocks hG hP kk7 _ _ _ hv ls (lv_sub hl [0, 1, 2, 3, 4] rfl)
    · have hv := hvf hc
      refine lv_iload_n hx hb dX9_joinedBy_45 rfl (lv_at hl 2 rfl) ?_
      refine lv_aload_n hx hb dX9_joinedBy_46 rfl (lv_at hl 0 rfl) ?_
      refine lv_iload hx hb dX9_joinedBy_47 (lv_at hl 4 rfl) ?_
      refine lv_iconst (v := (0 : Int32)) hx hb dX9_joinedBy_49 (by decide) ?_
      obtain ⟨p_50, w_50, ho_2, hv⟩ := hv
      refine vp_callSi (W.runV (As := [.int x4, .int (0 : Int32)]) (rest := [.int x2]) S (wX9_of l g qM q1 q2 q3 q4 q5 q6 q7 q8 q9 q10 q11 F J al x4 (0 : Int32) (sX9_of p_50 w_50 F J al x4 (0 : Int32) ho_2)) (cwV 2 hts gX9_joinedBy_X9_of rfl rfl rfl (by decide +kernel) ⟨Nat.le_of_ble_eq_true rfl, Nat.le_of_ble_eq_true rfl⟩) ⟨blindRO, va_recv hK hP (ci := 9) (q0 := 0) rfl rfl, fun U hU hW => ⟨rfl, by rw [hU]; exact hP.sub (ws' := [(qM, .inr (9, [.int (F 0), .ref q1, .ref q2, .ref q3, .int (F 4), .int (F 5), .int (F 6), .int (F 7), .int (F 8), .int (F 9), .long (J 10), .int (F 11), .int (F 12), .int (F 13), .ref q4, .int (F 15), .ref q5, .ref q6, .ref q7, .int (F 19), .ref q8, .int (F 21), .int (F 22), .int (F 23), .int (F 24), .ref q9, .ref q10, .ref q11, .long (J 28)])), (q1, .inl (g.2 0, 376, .inl al))]) [0, 1] rfl, hG.warm hW⟩⟩ rfl rfl hl.1 rfl (lv_room (Nat.le_of_ble_eq_true rfl)) dX9_joinedBy_50 ⟨Nat.le_of_ble_eq_true rfl, Nat.le_of_ble_eq_true rfl⟩) (fun r_50 hr_50 => ?_)
      have hv := hv r_50 hr_50
      obtain ⟨ho_3, hv⟩ := hv
      refine lv_irem hx hb dX9_joinedBy_53 ho_3 ?_
      refine lv_aload_n hx hb dX9_joinedBy_54 rfl (lv_at hl 0 rfl) ?_
      refine lv_iload hx hb dX9_joinedBy_55 (lv_at hl 4 rfl) ?_
      obtain ⟨T_57, p_57, m_57, ho_4, hv⟩ := hv
      refine vp_callSi (W.runV (As := [.int x4]) (rest := [.int (x2 - x2 / r_50 * r_50)]) S (wX9_bestOf l g qM q1 q2 q3 q4 q5 q6 q7 q8 q9 q10 q11 F J al ma x4 (sX9_bestOf T_57 p_57 m_57 F J al ma x4 ho_4)) (cwV 1 hts gX9_joinedBy_X9_bestOf rfl rfl rfl (by decide +kernel) ⟨Nat.le_of_ble_eq_true rfl, Nat.le_of_ble_eq_true rfl⟩) ⟨blindRO, va_recv hK hP (ci := 9) (q0 := 0) rfl rfl, fun U hU hW => ⟨rfl, by rw [hU]; exact hP.sub (ws' := [(qM, .inr (9, [.int (F 0), .ref q1, .ref q2, .ref q3, .int (F 4), .int (F 5), .int (F 6), .int (F 7), .int (F 8), .int (F 9), .long (J 10), .int (F 11), .int (F 12), .int (F 13), .ref q4, .int (F 15), .ref q5, .ref q6, .ref q7, .int (F 19), .ref q8, .int (F 21), .int (F 22), .int (F 23), .int (F 24), .ref q9, .ref q10, .ref q11, .long (J 28)])), (q1, .inl (g.2 0, 376, .inl al)), (q8, .inl (g.2 0, 65, .inl ma))]) [0, 1, 2] rfl, hG.warm hW⟩⟩ rfl rfl hl.1 rfl (lv_room (Nat.le_of_ble_eq_true rfl)) dX9_joinedBy_57 ⟨Nat.le_of_ble_eq_true rfl, Nat.le_of_ble_eq_true rfl⟩) (fun r_57 hr_57 => ?_)
      have hv := hv r_57 hr_57
      obtain ⟨hvt, hvf⟩ := hv
      refine lv_icmp_eq (tgt := 73) hx hb dX9_joinedBy_60 (by decide) (fun hc => ?_) (fun hc => ?_)
      · have hv := hvt hc
        exact kX9_joinedBy_c73 S hr hlocks hG hP kk7 _ _ _ hv ls (lv_sub hl [0, 1, 2, 3, 4] rfl)
      · have hv := hvf hc
        refine lv_iload_n hx hb dX9_joinedBy_63 rfl (lv_at hl 2 rfl) ?_
        refine lv_iload_n hx hb dX9_joinedBy_64 rfl (lv_at hl 3 rfl) ?_
        refine lv_iadd hx hb dX9_joinedBy_65 ?_
        refine lv_istore_n (lv' := [(2, .int (x2 + x3)), (0, .ref qM), (1, .int p1), (3, .int x3), (4, .int x4), (5, .int x5)]) hx hb dX9_joinedBy_66 rfl hl (by decide) rfl (fun ls hl => ?_)
        refine lv_iinc (v := (x5 + (1 : Int32))) (lv' := [(5, .int (x5 + (1 : Int32))), (2, .int (x2 + x3)), (0, .ref qM), (1, .int p1), (3, .int x3), (4, .int x4)]) hx hb dX9_joinedBy_67 hl (k := 5) rfl rfl (by decide) rfl (fun ls hl => ?_)
        refine lv_goto (tgt := 33) hx hb dX9_joinedBy_70 (by decide) ?_
        exact ih _ _ _ _ hv ls (lv_sub hl [2, 3, 1, 4, 5, 0] rfl)
def vX9_joinedBy_c7 (F : Nat → Int32) (J : Nat → Int64) (al : Nat → Int32) (ma : Nat → Int32) (p1 : Int32) (Q : Int32 → Prop) : Nat → Int32 → Int32 → Int32 → Prop
  | 0, _, _, _ => False
  | n + 1, x2, x3, x4 => (((al 0) ≤ x4 → (Q x2)) ∧ (¬ (al 0) ≤ x4 → (∃ (s_21 : Nat) (k_21 : Nat), preX9_has s_21 k_21 p1 x4 ∧ (∀ r_21 : Int32, postX9_has s_21 k_21 p1 x4 r_21 → ((¬ r_21 = 0 → (∃ nn, vX9_joinedBy_c33 F J al ma p1 Q (vX9_joinedBy_c7 F J al ma p1 Q n) nn x2 x3 x4 (0 : Int32))) ∧ (r_21 = 0 → (vX9_joinedBy_c7 F J al ma p1 Q n x2 x3 (x4 + (1 : Int32)))))))))
set_option maxHeartbeats 4000000 in
set_option maxRecDepth 100000 in
theorem kX9_joinedBy_c7 {p : Program} {l : Launch} {e : Env} {s : State} {m : MethodId} {args : Array Value} {below : List Frame} {meth : Method} {c : Code} {g : GP} {qM q1 q2 q3 q4 q5 q6 q7 q8 q9 q10 q11 : Nat} {F : Nat → Int32} {J : Nat → Int64} {al : Nat → Int32} {ma : Nat → Int32} {p1 : Int32} {Q : Int32 → Prop} (S : CallFix p m c cX9_joinedBy 6 s args wsX9_joinedBy RX9) (hr : meth.sig.returnType = (some .int)) (hlocks : meth.locks = false) (hG : GK g s) (hP : va_P g.1 vwCl [(qM, .inr (9, [.int (F 0), .ref q1, .ref q2, .ref q3, .int (F 4), .int (F 5), .int (F 6), .int (F 7), .int (F 8), .int (F 9), .long (J 10), .int (F 11), .int (F 12), .int (F 13), .ref q4, .int (F 15), .ref q5, .ref q6, .ref q7, .int (F 19), .ref q8, .int (F 21), .int (F 22), .int (F 23), .int (F 24), .ref q9, .ref q10, .ref q11, .long (J 28)])), (q1, .inl (g.2 0, 376, .inl al)), (q8, .inl (g.2 0, 65, .inl ma))] s.heap) : ∀ (n : Nat), ∀ (x2 : Int32) (x3 : Int32) (x4 : Int32), vX9_joinedBy_c7 F J al ma p1 Q n x2 x3 x4 → ∀ (ls : Array Slot), lv_has ls 6 [(0, .ref qM), (1, .int p1), (2, .int x2), (3, .int x3), (4, .int x4)] → W p l e (headSpec wsX9_joinedBy rmX9_joinedBy).room s m args below meth c s.heap [] 0 0 (MQ below (vp_Si Q) args s 0 0 (fun _ => False)) (F0 m 7 ls []) := by
  obtain ⟨hx, hb, hml, hown, hts⟩ := id S
  have hK := hG.1
  intro n
  induction n with
  | zero => intro x2 x3 x4 hv; exact hv.elim
  | succ n ih =>
    intro x2 x3 x4 hv ls hl
    refine lv_iload hx hb dX9_joinedBy_7 (lv_at hl 4 rfl) ?_
    refine lv_aload_n hx hb dX9_joinedBy_9 rfl (lv_at hl 0 rfl) ?_
    refine va_get (D := g.1) (ci := 9) (v := .ref q1) (C := RX9) (T := TX9) (N := 29) hx hb hts inX9_joinedBy_9 hown hK hP 0 rfl rfl 1 (by decide) (hts (.fieldLink RX9 7 "RangeCodesModel" "all" "[I") (List.mem_of_getElem? (i := 1) rfl)) (fun _ h9 => h9) rfl dX9_joinedBy_10 ?_
    refine lv_iconst (v := (0 : Int32)) hx hb dX9_joinedBy_13 (by decide) ?_
    refine va_iald hx hb hK hP 1 0 rfl rfl (by unfold vp_in; decide) dX9_joinedBy_14 ?_
    obtain ⟨hvt, hvf⟩ := hv
    refine lv_icmp_ge (tgt := 115) hx hb dX9_joinedBy_15 (by decide) (fun hc => ?_) (fun hc => ?_)
    · have hv := hvt hc
      refine lv_iload_n hx hb dX9_joinedBy_115 rfl (lv_at hl 2 rfl) ?_
      exact W.iret (v := x2) hx hb hr (fun t ht hW => ⟨_, rfl, hv, ht⟩) (fun _ h => by cases h) dX9_joinedBy_116
    · have hv := hvf hc
      refine lv_iload_n hx hb dX9_joinedBy_18 rfl (lv_at hl 1 rfl) ?_
      refine lv_iload hx hb dX9_joinedBy_19 (lv_at hl 4 rfl) ?_
      obtain ⟨s_21, k_21, ho_1, hv⟩ := hv
      refine vp_callSi (W.runS (As := [.int p1, .int x4]) (rest := []) S (wX9_has l g p1 x4 (sX9_has s_21 k_21 p1 x4 ho_1)) (va_cwS 2 hts gX9_joinedBy_X9_has rfl rfl rfl (by decide +kernel) ⟨Nat.le_of_ble_eq_true rfl, Nat.le_of_ble_eq_true rfl⟩) ⟨blindRO, fun U hU hW => ⟨rfl, by rw [hU]; exact hP.sub (ws' := []) [] rfl, hG.warm hW⟩⟩ rfl rfl hl.1 rfl (lv_room (Nat.le_of_ble_eq_true rfl)) dX9_joinedBy_21 ⟨Nat.le_of_ble_eq_true rfl, Nat.le_of_ble_eq_true rfl⟩) (fun r_21 hr_21 => ?_)
      have hv := hv r_21 hr_21
      obtain ⟨hvt, hvf⟩ := hv
      refine lv_if_ne (tgt := 30) hx hb dX9_joinedBy_24 (by decide) (fun hc => ?_) (fun hc => ?_)
      · have hv := hvt hc
        refine lv_iconst (v := (0 : Int32)) hx hb dX9_joinedBy_30 (by decide) ?_
        refine lv_istore (lv' := [(5, .int (0 : Int32)), (0, .ref qM), (1, .int p1), (2, .int x2), (3, .int x3), (4, .int x4)]) hx hb dX9_joinedBy_31 hl (by decide) rfl (fun ls hl => ?_)
        obtain ⟨nn, hv⟩ := hv
        exact kX9_joinedBy_c33 S hr hlocks hG hP ih nn _ _ _ _ hv ls (lv_sub hl [1, 2, 3, 4, 5, 0] rfl)
      · have hv := hvf hc
        refine lv_goto (tgt := 109) hx hb dX9_joinedBy_27 (by decide) ?_
        refine lv_iinc (v := (x4 + (1 : Int32))) (lv' := [(4, .int (x4 + (1 : Int32))), (0, .ref qM), (1, .int p1), (2, .int x2), (3, .int x3)]) hx hb dX9_joinedBy_109 hl (k := 4) rfl rfl (by decide) rfl (fun ls hl => ?_)
        refine lv_goto (tgt := 7) hx hb dX9_joinedBy_112 (by decide) ?_
        exact ih _ _ _ hv ls (lv_sub hl [1, 2, 3, 4, 0] rfl)
def vX9_joinedBy (F : Nat → Int32) (J : Nat → Int64) (al : Nat → Int32) (ma : Nat → Int32) (p1 : Int32) (Q : Int32 → Prop) : Prop := (∃ nn, vX9_joinedBy_c7 F J al ma p1 Q nn (0 : Int32) (1 : Int32) (0 : Int32))
set_option maxHeartbeats 4000000 in
set_option maxRecDepth 100000 in
theorem wX9_joinedBy (l : Launch) (g : GP) (qM : Nat) (q1 : Nat) (q2 : Nat) (q3 : Nat) (q4 : Nat) (q5 : Nat) (q6 : Nat) (q7 : Nat) (q8 : Nat) (q9 : Nat) (q10 : Nat) (q11 : Nat) (F : Nat → Int32) (J : Nat → Int64) (al : Nat → Int32) (ma : Nat → Int32) (p1 : Int32) {Q : Int32 → Prop} (hv : vX9_joinedBy F J al ma p1 Q) : Met l yX9_joinedBy wsX9_joinedBy rmX9_joinedBy (va_Pc [.ref qM, .int p1] (fun U => va_P g.1 vwCl [(qM, .inr (9, [.int (F 0), .ref q1, .ref q2, .ref q3, .int (F 4), .int (F 5), .int (F 6), .int (F 7), .int (F 8), .int (F 9), .long (J 10), .int (F 11), .int (F 12), .int (F 13), .ref q4, .int (F 15), .ref q5, .ref q6, .ref q7, .int (F 19), .ref q8, .int (F 21), .int (F 22), .int (F 23), .int (F 24), .ref q9, .ref q10, .ref q11, .long (J 28)])), (q1, .inl (g.2 0, 376, .inl al)), (q8, .inl (g.2 0, 65, .inl ma))] U.heap ∧ GK g U)) (vp_Si Q) 0 0 (fun _ => False) := by
  refine Met.ofW (cc := cX9_joinedBy) (maxL := 6) (ret := (some .int)) (by decide) rfl ?_
  intro p e s m args below meth c s₁ B hml hv'
  obtain ⟨rfl, hP, hG⟩ := hv'
  have S : CallFix p m c cX9_joinedBy 6 s _ wsX9_joinedBy RX9 := ⟨B.exec, B.bytes, hml, findClass_of_methodNamed B.named, atoms_spec (ws := wsX9_joinedBy) B.pre⟩
  obtain ⟨hx, hb, hml, hown, hts⟩ := id S
  have hK := hG.1
  have hr := B.returns
  have hlocks := B.notSynchronized
  have hl := lv_entry ([.ref qM, .int p1]) (n := 6) (Nat.le_of_ble_eq_true rfl)
  rw [lg_entry_eq]
  generalize (lg_sl ([.ref qM, .int p1]) ++ List.replicate (6 - (lg_sl ([.ref qM, .int p1])).length) Slot.unset).toArray = ls at hl ⊢
  have hl : lv_has ls 6 [(0, .ref qM), (1, .int p1)] := hl
  unfold vX9_joinedBy at hv
  refine lv_iconst (v := (0 : Int32)) hx hb dX9_joinedBy_0 (by decide) ?_
  refine lv_istore_n (lv' := [(2, .int (0 : Int32)), (0, .ref qM), (1, .int p1)]) hx hb dX9_joinedBy_1 rfl hl (by decide) rfl (fun ls hl => ?_)
  refine lv_iconst (v := (1 : Int32)) hx hb dX9_joinedBy_2 (by decide) ?_
  refine lv_istore_n (lv' := [(3, .int (1 : Int32)), (2, .int (0 : Int32)), (0, .ref qM), (1, .int p1)]) hx hb dX9_joinedBy_3 rfl hl (by decide) rfl (fun ls hl => ?_)
  refine lv_iconst (v := (0 : Int32)) hx hb dX9_joinedBy_4 (by decide) ?_
  refine lv_istore (lv' := [(4, .int (0 : Int32)), (3, .int (1 : Int32)), (2, .int (0 : Int32)), (0, .ref qM), (1, .int p1)]) hx hb dX9_joinedBy_5 hl (by decide) rfl (fun ls hl => ?_)
  obtain ⟨nn, hv⟩ := hv
  exact kX9_joinedBy_c7 S hr hlocks hG hP nn _ _ _ hv ls (lv_sub hl [3, 4, 2, 1, 0] rfl)
abbrev isMA (T : Cd) (m : Nat → Nat → Int) (ma : Nat → Int32) : Prop := ∀ p, p < cn T → isM m p (cL T p) ma
abbrev preX9_joinedBy (T : Cd) (m : Nat → Nat → Int) (s : Nat) (_ : Nat → Int32) (_ : Nat → Int64) (al ma : Nat → Int32) (p1 : Int32) : Prop := isN T (al 0) ∧ isL T (aL al) ∧ isMA T m ma ∧ p1.toInt = (s : Int)
/-- an answer that is a number, or none -/
def isO (o : Option Nat) (x : Int32) : Prop := match o with
  | none => x.toInt = -1
  | some d => x.toInt = (d : Int)
abbrev postX9_joinedBy (T : Cd) (m : Nat → Nat → Int) (s : Nat) (_ : Nat → Int32) (_ : Nat → Int64) (_ _ : Nat → Int32) (_ r : Int32) : Prop := isO (joS T (bOf T m) s (cn T)) r
theorem joS_none_up (T : Cd) (b : Nat → Nat) (s : Nat) {j : Nat} (h : joS T b s j = none) : ∀ k, j ≤ k → joS T b s k = none
  | 0, hk => by have : j = 0 := by omega
                subst this; exact h
  | k + 1, hk => by
    rcases Nat.lt_or_ge k j with z | z
    · have : j = k + 1 := by omega
      subst this; exact h
    · rw [joS, joS_none_up T b s h k z]
theorem sX9_joinedBy_33 (T : Cd) (m : Nat → Nat → Int) (s : Nat) (F : Nat → Int32) (J : Nat → Int64) (al ma : Nat → Int32) (p1 : Int32) (H : preX9_joinedBy T m s F J al ma p1) (K : Int32 → Int32 → Int32 → Prop) (p n0 : Nat) (hp : p < cn T) (hb : s.testBit p = true) (hjo : joS T (bOf T m) s p = some n0) (x3 x4 : Int32) (h3 : x3.toInt = ((lcS T s p : Nat) : Int)) (h4 : x4.toInt = (p : Int))
    (hK : ∀ (d : Nat) (y z : Int32), joS T (bOf T m) s (p + 1) = some d → y.toInt = (d : Int) → z.toInt = ((lcS T s (p + 1) : Nat) : Int) → K y z (x4 + (1 : Int32))) : ∀ (n i : Nat) (x2 x5 : Int32), x2.toInt = ((n0 + i * lcS T s p : Nat) : Int) → x5.toInt = (i : Int) → i ≤ cL T p → cL T p + 1 ≤ i + n → (∀ j, j < i → (n0 + j * lcS T s p) % cL T p ≠ bOf T m p) → vX9_joinedBy_c33 F J al ma p1 (postX9_joinedBy T m s F J al ma p1) K n x2 x3 x4 x5
  | 0, i, x2, x5, _, _, hi, hn, _ => absurd hn (by omega)
  | n + 1, i, x2, x5, h2, h5, hi, hn, hno => by
    obtain ⟨hN, hL, hM, h1⟩ := id H
    have hl := hL p hp
    have hn5 := hN.2
    have hlp := lcS_pos (fun q hq => (hL q hq).2.1) s p (by omega)
    have hle := lcS_le (fun q hq => (hL q hq).2.2) s p (by omega)
    have hle2 := p5_le (k := p) (by omega)
    have hn0 := joS_lt (fun q hq => (hL q hq).2.1) (bOf T m) s p (by omega) n0 hjo
    have hil : i * lcS T s p ≤ 13 * 371293 := Nat.mul_le_mul (by omega) (by omega)
    have hml : lcS T s p * cL T p ≤ 371293 * 13 := Nat.mul_le_mul (by omega) (by omega)
    have pre : preX9_bestOf T p m F J al ma x4 := ⟨hn5, hL, h4, hp, hM p hp⟩
    -- the end of the loop
    have fin : (i < cL T p → (n0 + i * lcS T s p) % cL T p = bOf T m p) → vX9_joinedBy_c73 F J al ma p1 (postX9_joinedBy T m s F J al ma p1) K x2 x3 x4 := by
      intro hfin
      refine ⟨p, 0, ⟨h4, rfl, by omega⟩, fun r hr => ?_⟩
      have hr : r.toInt = (cL T p : Int) := by rw [hr]; exact hl.1
      refine ⟨fun q => by rw [fa_eq, z0] at q; omega, T, p, m, pre, fun r2 hr2 => ?_⟩
      have hr2 : r2.toInt = ((bOf T m p : Nat) : Int) := hr2
      have hrem := q_remN h2 hr (by omega)
      rw [q_eq hrem hr2]
      refine ⟨fun hq => ⟨p, 0, ⟨h4, rfl, by omega⟩, fun r3 hr3 => ?_⟩, fun hq => ?_⟩
      · have hr3 : r3.toInt = (cL T p : Int) := by rw [hr3]; exact hl.1
        -- it is the first try
        have hi2 : i < cL T p := by
          rcases Nat.lt_or_ge i (cL T p) with z | z
          · exact z
          · exfalso
            have e : i = cL T p := by omega
            have h0 := hno 0 (by omega)
            rw [e, Nat.mul_comm (cL T p), Nat.add_mul_mod_self_right] at hq
            rw [Nat.zero_mul, Nat.add_zero] at h0
            exact h0 (by omega)
        have hff : fa_first (fun j => decide ((n0 + j * lcS T s p) % cL T p = bOf T m p)) (cL T p) = i := ff_eq hi2 (by simp; omega) (fun j hj => by simp; exact hno j hj)
        have hd : joS T (bOf T m) s (p + 1) = some (n0 + i * lcS T s p) := by
          rw [joS, hjo]
          simp only [hb, if_true]
          rw [hff, if_pos hi2]
        have hlt := joS_lt (fun q hq => (hL q hq).2.1) (bOf T m) s (p + 1) (by omega) _ hd
        have hlc : lcS T s (p + 1) = Nat.lcm (lcS T s p) (cL T p) := by rw [lcS, if_pos hb]
        refine ⟨lcS T s p, cL T p, ⟨h3, hr3, hlp, by omega, by omega⟩, fun r4 hr4 => ?_⟩
        have hr4 : r4.toInt = ((lcS T s (p + 1) : Nat) : Int) := by rw [hlc]; exact hr4
        refine ⟨fun q => by rw [fa_eq, z0] at q; omega, fun y hy => hK _ y r4 hd ?_ hr4⟩
        rw [hy, q_remN h2 hr4 (by omega), Nat.mod_eq_of_lt hlt]
      · -- none
        have hff : fa_first (fun j => decide ((n0 + j * lcS T s p) % cL T p = bOf T m p)) (cL T p) = cL T p := ff_none (fun j hj => by
          simp
          rcases Nat.lt_or_ge j i with z | z
          · exact hno j z
          · intro e
            have hij : i < cL T p := by omega
            exact hq (by have := hfin hij; omega))
        have hd : joS T (bOf T m) s (p + 1) = none := by
          rw [joS, hjo]
          simp only [hb, if_true]
          rw [hff, if_neg (by omega)]
        have : joS T (bOf T m) s (cn T) = none := joS_none_up T _ s hd (cn T) (by omega)
        show isO _ _
        rw [this]; rfl
    rw [vX9_joinedBy_c33]
    refine ⟨p, 0, ⟨h4, rfl, by omega⟩, fun r hr => ?_⟩
    have hr : r.toInt = (cL T p : Int) := by rw [hr]; exact hl.1
    rw [q_le hr h5]
    refine ⟨fun hc => fin (fun z => absurd z (by omega)), fun hc => ⟨p, 0, ⟨h4, rfl, by omega⟩, fun r1 hr1 => ?_⟩⟩
    have hr1 : r1.toInt = (cL T p : Int) := by rw [hr1]; exact hl.1
    refine ⟨fun q => by rw [fa_eq, z0] at q; omega, T, p, m, pre, fun r2 hr2 => ?_⟩
    have hr2 : r2.toInt = ((bOf T m p : Nat) : Int) := hr2
    have hrem := q_remN h2 hr1 (by omega)
    rw [q_eq hrem hr2]
    refine ⟨fun hq => fin (fun _ => by omega), fun hq => ?_⟩
    have e2 : n0 + i * lcS T s p + lcS T s p = n0 + (i + 1) * lcS T s p := by rw [Nat.add_mul]; omega
    have h22 := q_addN h2 h3 (by omega)
    rw [e2] at h22
    exact sX9_joinedBy_33 T m s F J al ma p1 H K p n0 hp hb hjo x3 x4 h3 h4 hK n (i + 1) _ _ h22 (q_1 h5 (by omega)) (by omega) (by omega) (fun j hj => by
      rcases Nat.lt_or_ge j i with z | z
      · exact hno j z
      · have : j = i := by omega
        subst this
        omega)
theorem sX9_joinedBy_7 (T : Cd) (m : Nat → Nat → Int) (s : Nat) (F : Nat → Int32) (J : Nat → Int64) (al ma : Nat → Int32) (p1 : Int32) (H : preX9_joinedBy T m s F J al ma p1) : ∀ (n p d : Nat) (x2 x3 x4 : Int32), joS T (bOf T m) s p = some d → x2.toInt = (d : Int) → x3.toInt = ((lcS T s p : Nat) : Int) → x4.toInt = (p : Int) → p ≤ cn T → cn T + 1 ≤ p + n → vX9_joinedBy_c7 F J al ma p1 (postX9_joinedBy T m s F J al ma p1) n x2 x3 x4
  | 0, p, d, x2, x3, x4, _, _, _, _, hi, hn => absurd hn (by omega)
  | n + 1, p, d, x2, x3, x4, hj, h2, h3, h4, hi, hn => by
    obtain ⟨hN, hL, hM, h1⟩ := id H
    have hn5 := hN.2
    rw [vX9_joinedBy_c7, q_le hN.1 h4]
    refine ⟨fun hc => ?_, fun hc => ⟨s, p, ⟨h1, h4, by omega⟩, fun r hr => ?_⟩⟩
    · have : p = cn T := by omega
      subst this
      show isO _ _
      rw [hj]; exact h2
    · have hr : r = if s.testBit p then 1 else 0 := hr
      have h4s := q_1 h4 (by omega)
      rw [hr, q_ifB]
      refine ⟨fun hb => ⟨cL T p + 1, ?_⟩, fun hb => ?_⟩
      · exact sX9_joinedBy_33 T m s F J al ma p1 H _ p d (by omega) (by simpa using hb) hj x3 x4 h3 h4 (fun d2 y z hd hy hz => sX9_joinedBy_7 T m s F J al ma p1 H n (p + 1) d2 y z _ hd hy hz h4s (by omega) (by omega)) (cL T p + 1) 0 x2 0 (by rw [h2]; simp) rfl (by omega) (by omega) (fun j hj => absurd hj (by omega))
      · refine sX9_joinedBy_7 T m s F J al ma p1 H n (p + 1) d x2 x3 _ ?_ h2 ?_ h4s (by omega) (by omega)
        · rw [joS, hj]; simp [hb]
        · rw [lcS, if_neg (by rw [hb]; decide)]; exact h3
theorem sX9_joinedBy (T : Cd) (m : Nat → Nat → Int) (s : Nat) (F : Nat → Int32) (J : Nat → Int64) (al ma : Nat → Int32) (p1 : Int32) (H : preX9_joinedBy T m s F J al ma p1) : vX9_joinedBy F J al ma p1 (postX9_joinedBy T m s F J al ma p1) :=
  ⟨cn T + 1, sX9_joinedBy_7 T m s F J al ma p1 H (cn T + 1) 0 0 0 1 0 rfl rfl rfl rfl (by omega) (by omega)⟩
set_option maxRecDepth 20000 in
theorem ggX9_isNear_X9_joinedBy : GoodIn wsX9_isNear wsX9_joinedBy := goodIn_r _ [6, 1, 7, 8, 5, 9, 10, 11, 12, 13, 14, 15, 16, 17, 18, 19, 20, 21, 22, 23, 24, 25, 26, 27, 28, 29, 30, 31, 32, 33, 34, 35, 36, 37, 38, 39, 40, 41, 42, 43, 44, 45, 46, 47, 48, 49, 50, 51, 52, 53] (by decide +kernel) (by decide +kernel)
set_option maxRecDepth 20000 in
theorem gX9_isNear_X9_joinedBy : GoodIn wsX9_isNear (wsV RX9 263 RX9 yX9_joinedBy wsX9_joinedBy) := goodIn_app (goodIn_of _ (by decide +kernel)) ggX9_isNear_X9_joinedBy
theorem dX9_isNear_0 : decode cX9_isNear 0 = .ok (.aload_n 0, 1) := by decide +kernel
theorem dX9_isNear_1 : decode cX9_isNear 1 = .ok (.iload_n 1, 1) := by decide +kernel
theorem dX9_isNear_2 : decode cX9_isNear 2 = .ok (.invokevirtual 263, 3) := by decide +kernel
theorem dX9_isNear_5 : decode cX9_isNear 5 = .ok (.istore_n 2, 1) := by decide +kernel
theorem dX9_isNear_6 : decode cX9_isNear 6 = .ok (.iload_n 2, 1) := by decide +kernel
theorem dX9_isNear_7 : decode cX9_isNear 7 = .ok (.ifCond .lt 17, 3) := by decide +kernel
theorem dX9_isNear_10 : decode cX9_isNear 10 = .ok (.iload_n 2, 1) := by decide +kernel
theorem dX9_isNear_11 : decode cX9_isNear 11 = .ok (.aload_n 0, 1) := by decide +kernel
theorem dX9_isNear_12 : decode cX9_isNear 12 = .ok (.getfield 7, 3) := by decide +kernel
theorem dX9_isNear_15 : decode cX9_isNear 15 = .ok (.iconst 1, 1) := by decide +kernel
theorem dX9_isNear_16 : decode cX9_isNear 16 = .ok (.iaload, 1) := by decide +kernel
theorem dX9_isNear_17 : decode cX9_isNear 17 = .ok (.if_icmp .ge 7, 3) := by decide +kernel
theorem dX9_isNear_20 : decode cX9_isNear 20 = .ok (.iconst 1, 1) := by decide +kernel
theorem dX9_isNear_21 : decode cX9_isNear 21 = .ok (.goto 4, 3) := by decide +kernel
theorem dX9_isNear_24 : decode cX9_isNear 24 = .ok (.iconst 0, 1) := by decide +kernel
theorem dX9_isNear_25 : decode cX9_isNear 25 = .ok (.ireturn, 1) := by decide +kernel
abbrev rmX9_isNear : Room := { frames := 3, cells := 0, slots := 0, locals := 75 }
theorem inX9_isNear_9 : ∀ w ∈ wsX90, w ∈ wsX9_isNear := by decide +kernel
def vX9_isNear (F : Nat → Int32) (J : Nat → Int64) (al : Nat → Int32) (ma : Nat → Int32) (p1 : Int32) (Q : Int32 → Prop) : Prop := (∃ (T_2 : Cd) (m_2 : Nat → Nat → Int) (s_2 : Nat), preX9_joinedBy T_2 m_2 s_2 F J al ma p1 ∧ (∀ r_2 : Int32, postX9_joinedBy T_2 m_2 s_2 F J al ma p1 r_2 → ((r_2 < 0 → (Q (0 : Int32))) ∧ (¬ r_2 < 0 → (((al 1) ≤ r_2 → (Q (0 : Int32))) ∧ (¬ (al 1) ≤ r_2 → (Q (1 : Int32))))))))
set_option maxHeartbeats 4000000 in
set_option maxRecDepth 100000 in
theorem wX9_isNear (l : Launch) (g : GP) (qM : Nat) (q1 : Nat) (q2 : Nat) (q3 : Nat) (q4 : Nat) (q5 : Nat) (q6 : Nat) (q7 : Nat) (q8 : Nat) (q9 : Nat) (q10 : Nat) (q11 : Nat) (F : Nat → Int32) (J : Nat → Int64) (al : Nat → Int32) (ma : Nat → Int32) (p1 : Int32) {Q : Int32 → Prop} (hv : vX9_isNear F J al ma p1 Q) : Met l yX9_isNear wsX9_isNear rmX9_isNear (va_Pc [.ref qM, .int p1] (fun U => va_P g.1 vwCl [(qM, .inr (9, [.int (F 0), .ref q1, .ref q2, .ref q3, .int (F 4), .int (F 5), .int (F 6), .int (F 7), .int (F 8), .int (F 9), .long (J 10), .int (F 11), .int (F 12), .int (F 13), .ref q4, .int (F 15), .ref q5, .ref q6, .ref q7, .int (F 19), .ref q8, .int (F 21), .int (F 22), .int (F 23), .int (F 24), .ref q9, .ref q10, .ref q11, .long (J 28)])), (q1, .inl (g.2 0, 376, .inl al)), (q8, .inl (g.2 0, 65, .inl ma))] U.heap ∧ GK g U)) (vp_Si Q) 0 0 (fun _ => False) := by
  refine Met.ofW (cc := cX9_isNear) (maxL := 3) (ret := (some .boolean)) (by decide) rfl ?_
  intro p e s m args below meth c s₁ B hml hv'
  obtain ⟨rfl, hP, hG⟩ := hv'
  have S : CallFix p m c cX9_isNear 3 s _ wsX9_isNear RX9 := ⟨B.exec, B.bytes, hml, findClass_of_methodNamed B.named, atoms_spec (ws := wsX9_isNear) B.pre⟩
  obtain ⟨hx, hb, hml, hown, hts⟩ := id S
  have hK := hG.1
  have hr := B.returns
  have hlocks := B.notSynchronized
  have hl := lv_entry ([.ref qM, .int p1]) (n := 3) (Nat.le_of_ble_eq_true rfl)
  rw [lg_entry_eq]
  generalize (lg_sl ([.ref qM, .int p1]) ++ List.replicate (3 - (lg_sl ([.ref qM, .int p1])).length) Slot.unset).toArray = ls at hl ⊢
  have hl : lv_has ls 3 [(0, .ref qM), (1, .int p1)] := hl
  unfold vX9_isNear at hv
  refine lv_aload_n hx hb dX9_isNear_0 rfl (lv_at hl 0 rfl) ?_
  refine lv_iload_n hx hb dX9_isNear_1 rfl (lv_at hl 1 rfl) ?_
  obtain ⟨T_2, m_2, s_2, ho_1, hv⟩ := hv
  refine vp_callSi (W.runV (As := [.int p1]) (rest := []) S (wX9_joinedBy l g qM q1 q2 q3 q4 q5 q6 q7 q8 q9 q10 q11 F J al ma p1 (sX9_joinedBy T_2 m_2 s_2 F J al ma p1 ho_1)) (cwV 1 hts gX9_isNear_X9_joinedBy rfl rfl rfl (by decide +kernel) ⟨Nat.le_of_ble_eq_true rfl, Nat.le_of_ble_eq_true rfl⟩) ⟨blindRO, va_recv hK hP (ci := 9) (q0 := 0) rfl rfl, fun U hU hW => ⟨rfl, by rw [hU]; exact hP.sub (ws' := [(qM, .inr (9, [.int (F 0), .ref q1, .ref q2, .ref q3, .int (F 4), .int (F 5), .int (F 6), .int (F 7), .int (F 8), .int (F 9), .long (J 10), .int (F 11), .int (F 12), .int (F 13), .ref q4, .int (F 15), .ref q5, .ref q6, .ref q7, .int (F 19), .ref q8, .int (F 21), .int (F 22), .int (F 23), .int (F 24), .ref q9, .ref q10, .ref q11, .long (J 28)])), (q1, .inl (g.2 0, 376, .inl al)), (q8, .inl (g.2 0, 65, .inl ma))]) [0, 1, 2] rfl, hG.warm hW⟩⟩ rfl rfl hl.1 rfl (lv_room (Nat.le_of_ble_eq_true rfl)) dX9_isNear_2 ⟨Nat.le_of_ble_eq_true rfl, Nat.le_of_ble_eq_true rfl⟩) (fun r_2 hr_2 => ?_)
  have hv := hv r_2 hr_2
  refine lv_istore_n (lv' := [(2, .int r_2), (0, .ref qM), (1, .int p1)]) hx hb dX9_isNear_5 rfl hl (by decide) rfl (fun ls hl => ?_)
  refine lv_iload_n hx hb dX9_isNear_6 rfl (lv_at hl 0 rfl) ?_
  obtain ⟨hvt, hvf⟩ := hv
  refine lv_if_lt (tgt := 24) hx hb dX9_isNear_7 (by decide) (fun hc => ?_) (fun hc => ?_)
  · have hv := hvt hc
    refine lv_iconst (v := (0 : Int32)) hx hb dX9_isNear_24 (by decide) ?_
    exact W.zret (v := (0 : Int32)) (ty := .boolean) hx hb hr rfl (fun t ht hW => ⟨_, rfl, hv, ht⟩) (fun _ h => by cases h) dX9_isNear_25
  · have hv := hvf hc
    refine lv_iload_n hx hb dX9_isNear_10 rfl (lv_at hl 0 rfl) ?_
    refine lv_aload_n hx hb dX9_isNear_11 rfl (lv_at hl 1 rfl) ?_
    refine va_get (D := g.1) (ci := 9) (v := .ref q1) (C := RX9) (T := TX9) (N := 29) hx hb hts inX9_isNear_9 hown hK hP 0 rfl rfl 1 (by decide) (hts (.fieldLink RX9 7 "RangeCodesModel" "all" "[I") (List.mem_of_getElem? (i := 1) rfl)) (fun _ h9 => h9) rfl dX9_isNear_12 ?_
    refine lv_iconst (v := (1 : Int32)) hx hb dX9_isNear_15 (by decide) ?_
    refine va_iald hx hb hK hP 1 0 rfl rfl (by unfold vp_in; decide) dX9_isNear_16 ?_
    obtain ⟨hvt, hvf⟩ := hv
    refine lv_icmp_ge (tgt := 24) hx hb dX9_isNear_17 (by decide) (fun hc => ?_) (fun hc => ?_)
    · have hv := hvt hc
      refine lv_iconst (v := (0 : Int32)) hx hb dX9_isNear_24 (by decide) ?_
      exact W.zret (v := (0 : Int32)) (ty := .boolean) hx hb hr rfl (fun t ht hW => ⟨_, rfl, hv, ht⟩) (fun _ h => by cases h) dX9_isNear_25
    · have hv := hvf hc
      refine lv_iconst (v := (1 : Int32)) hx hb dX9_isNear_20 (by decide) ?_
      refine lv_goto (tgt := 25) hx hb dX9_isNear_21 (by decide) ?_
      exact W.zret (v := (1 : Int32)) (ty := .boolean) hx hb hr rfl (fun t ht hW => ⟨_, rfl, hv, ht⟩) (fun _ h => by cases h) dX9_isNear_25
abbrev preX9_isNear (T : Cd) (m : Nat → Nat → Int) (s lim : Nat) (F : Nat → Int32) (J : Nat → Int64) (al ma : Nat → Int32) (p1 : Int32) : Prop := preX9_joinedBy T m s F J al ma p1 ∧ (al 1).toInt = (lim : Int)
abbrev postX9_isNear (T : Cd) (m : Nat → Nat → Int) (s lim : Nat) (_ : Nat → Int32) (_ : Nat → Int64) (_ _ : Nat → Int32) (_ r : Int32) : Prop := r = if neB T (bOf T m) lim s then 1 else 0
theorem sX9_isNear (T : Cd) (m : Nat → Nat → Int) (s lim : Nat) (F : Nat → Int32) (J : Nat → Int64) (al ma : Nat → Int32) (p1 : Int32) (H : preX9_isNear T m s lim F J al ma p1) : vX9_isNear F J al ma p1 (postX9_isNear T m s lim F J al ma p1) := by
  refine ⟨T, m, s, H.1, fun r hr => ?_⟩
  have hr : isO (joS T (bOf T m) s (cn T)) r := hr
  unfold postX9_isNear neB
  rw [fa_lt r, z0, fa_le (al 1), H.2]
  cases hj : joS T (bOf T m) s (cn T) with
  | none =>
    rw [hj] at hr
    have hr : r.toInt = -1 := hr
    exact ⟨fun _ => rfl, fun q => absurd (by omega) q⟩
  | some d =>
    rw [hj] at hr
    have hr : r.toInt = (d : Int) := hr
    refine ⟨fun q => absurd q (by omega), fun _ => ⟨fun q => ?_, fun q => ?_⟩⟩
    · show (0 : Int32) = if (decide (d < lim)) = true then 1 else 0
      rw [decide_eq_false (by omega)]; rfl
    · show (1 : Int32) = if (decide (d < lim)) = true then 1 else 0
      rw [decide_eq_true (by omega)]; rfl
