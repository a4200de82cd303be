-- sums; counts of what comes in a period
def suN (f : Nat → Nat) : Nat → Nat
  | 0 => 0
  | k + 1 => suN f k + f k
theorem suN_cong {f g : Nat → Nat} : ∀ {n : Nat}, (∀ k, k < n → f k = g k) → suN f n = suN g n
  | 0, _ => rfl
  | n + 1, h => by rw [suN, suN, suN_cong (fun k hk => h k (by omega)), h n (by omega)]
theorem suN_add (f g : Nat → Nat) : ∀ n, suN (fun k => f k + g k) n = suN f n + suN g n
  | 0 => rfl
  | n + 1 => by rw [suN, suN, suN, suN_add f g n]; omega
theorem suN_0 : ∀ n, suN (fun _ => 0) n = 0
  | 0 => rfl
  | n + 1 => by rw [suN, suN_0 n]
theorem suN_mul (c : Nat) (f : Nat → Nat) : ∀ n, suN (fun k => c * f k) n = c * suN f n
  | 0 => rfl
  | n + 1 => by rw [suN, suN, suN_mul c f n, Nat.mul_add]
theorem suN_swap (f : Nat → Nat → Nat) (m : Nat) : ∀ n, suN (fun a => suN (fun b => f a b) m) n = suN (fun b => suN (fun a => f a b) n) m
  | 0 => (suN_0 m).symm
  | n + 1 => by
    rw [suN, suN_swap f m n, ← suN_add]
    rfl
theorem suN_app (f : Nat → Nat) (m : Nat) : ∀ n, suN f (m + n) = suN f m + suN (fun k => f (m + k)) n
  | 0 => rfl
  | n + 1 => by rw [show m + (n + 1) = (m + n) + 1 by omega, suN, suN, suN_app f m n]; omega
theorem suN_one (g : Nat → Nat) (x : Nat) : ∀ n, suN (fun k => if k = x then g k else 0) n = if x < n then g x else 0
  | 0 => by rw [if_neg (by omega)]; rfl
  | n + 1 => by
    rw [suN, suN_one g x n]
    by_cases e : n = x
    · subst e; rw [if_neg (by omega), if_pos rfl, if_pos (by omega)]; omega
    · rw [if_neg e]
      by_cases c : x < n
      · rw [if_pos c, if_pos (by omega), Nat.add_zero]
      · rw [if_neg c, if_neg (by omega)]
/-- over a map that takes no place twice -/
theorem suN_inj : ∀ (n : Nat) (h : Nat → Nat) (g : Nat → Nat), (∀ k, k < n → h k < n) → (∀ i j, i < n → j < n → h i = h j → i = j) → suN (fun k => g (h k)) n = suN g n
  | 0, _, _, _, _ => rfl
  | n + 1, h, g, hb, hi => by
    have hv := hb n (by omega)
    by_cases c : h n = n
    · have hb' : ∀ k, k < n → h k < n := fun k hk => by
        have h1 := hb k (by omega)
        have h2 : h k ≠ n := fun q => absurd (hi k n (by omega) (by omega) (q.trans c.symm)) (by omega)
        omega
      rw [suN, suN, suN_inj n h g hb' (fun i j a b => hi i j (by omega) (by omega)), c]
    · have hb' : ∀ k, k < n → (fun k => if h k = n then h n else h k) k < n := fun k hk => by
        show (if h k = n then h n else h k) < n
        have h1 := hb k (by omega)
        split
        · omega
        · omega
      have hi' : ∀ i j, i < n → j < n → (fun k => if h k = n then h n else h k) i = (fun k => if h k = n then h n else h k) j → i = j := fun i j a b q => by
        have q : (if h i = n then h n else h i) = if h j = n then h n else h j := q
        by_cases ci : h i = n
        · by_cases cj : h j = n
          · exact hi i j (by omega) (by omega) (ci.trans cj.symm)
          · rw [if_pos ci, if_neg cj] at q
            exact absurd (hi n j (by omega) (by omega) q) (by omega)
        · by_cases cj : h j = n
          · rw [if_neg ci, if_pos cj] at q
            exact absurd (hi i n (by omega) (by omega) q) (by omega)
          · rw [if_neg ci, if_neg cj] at q
            exact hi i j (by omega) (by omega) q
      have ih := suN_inj n (fun k => if h k = n then h n else h k) g hb' hi'
      -- some k below n has n
      have ex : ∃ k, k < n ∧ h k = n := by
        refine Classical.byContradiction (fun no => ?_)
        have hb2 : ∀ k, k < n → h k < n := fun k hk => by
          have h1 := hb k (by omega)
          have h2 : h k ≠ n := fun q => no ⟨k, hk, q⟩
          omega
        have s1 := suN_inj n h (fun x => if x = h n then 1 else 0) hb2 (fun i j a b => hi i j (by omega) (by omega))
        have s2 := suN_one (fun _ => 1) (h n) n
        rw [if_pos (by omega)] at s2
        have s3 : suN (fun k => if h k = h n then 1 else 0) n = 0 := by
          rw [suN_cong (g := fun _ => 0) (fun k hk => if_neg (fun q => absurd (hi k n (by omega) (by omega) q) (by omega)))]
          exact suN_0 n
        have s1 : suN (fun k => if h k = h n then 1 else 0) n = suN (fun x => if x = h n then 1 else 0) n := s1
        omega
      obtain ⟨k0, hk0, e0⟩ := ex
      have key : suN (fun k => g (h k)) n + g (h n) = suN (fun k => g (if h k = n then h n else h k)) n + g n := by
        have t : ∀ m, m ≤ n → suN (fun k => g (h k)) m + (if k0 < m then g (h n) else 0) = suN (fun k => g (if h k = n then h n else h k)) m + (if k0 < m then g n else 0) := by
          intro m
          induction m with
          | zero => intro _; rw [if_neg (by omega), if_neg (by omega)]; rfl
          | succ m ihm =>
            intro hm
            have ihm := ihm (by omega)
            rw [suN, suN]
            by_cases em : m = k0
            · subst em
              rw [if_neg (by omega), if_neg (by omega)] at ihm
              rw [if_pos (show m < m + 1 by omega), if_pos (show m < m + 1 by omega), if_pos e0, e0]
              omega
            · have nm : h m ≠ n := fun q => em (hi m k0 (by omega) (by omega) (q.trans e0.symm))
              rw [if_neg nm]
              by_cases cm : k0 < m
              · rw [if_pos cm, if_pos cm] at ihm
                rw [if_pos (by omega), if_pos (by omega)]
                omega
              · rw [if_neg cm, if_neg cm] at ihm
                rw [if_neg (by omega), if_neg (by omega)]
                omega
        have := t n (Nat.le_refl _)
        rw [if_pos hk0, if_pos hk0] at this
        exact this
      rw [suN, suN, key]
      have ih : suN (fun k => g (if h k = n then h n else h k)) n = suN g n := ih
      rw [ih]
/-- over a product of two periods that share nothing, each pair of remainders comes once -/
theorem suN_rect (f : Nat → Nat) (P : Nat) : ∀ Q, suN f (P * Q) = suN (fun k => suN (fun a => f (P * k + a)) P) Q
  | 0 => rfl
  | Q + 1 => by rw [Nat.mul_succ, suN_app, suN_rect f P Q, suN]
theorem dvd_of_mods {x y Q : Nat} (h : x ≤ y) (q : x % Q = y % Q) : Q ∣ y - x := by
  refine ⟨y / Q - x / Q, ?_⟩
  have h1 := Nat.div_add_mod x Q
  have h2 := Nat.div_add_mod y Q
  rw [Nat.mul_sub]
  omega
theorem suN_crt {P Q : Nat} (hP : 0 < P) (hQ : 0 < Q) (hc : Nat.Coprime P Q) (f : Nat → Nat → Nat) : suN (fun t => f (t % P) (t % Q)) (P * Q) = suN (fun a => suN (fun b => f a b) Q) P := by
  rw [suN_rect]
  have e1 : ∀ k, k < Q → suN (fun a => f ((P * k + a) % P) ((P * k + a) % Q)) P = suN (fun a => f a ((P * k + a) % Q)) P := fun k _ => suN_cong (fun a ha => by rw [Nat.mul_add_mod, Nat.mod_eq_of_lt ha])
  rw [suN_cong e1, suN_swap]
  refine suN_cong (fun a _ => suN_inj Q (fun k => (P * k + a) % Q) (fun b => f a b) (fun k _ => Nat.mod_lt _ hQ) (fun i j hi hj q => ?_))
  have q : (P * i + a) % Q = (P * j + a) % Q := q
  have aux : ∀ i j, i ≤ j → j < Q → (P * i + a) % Q = (P * j + a) % Q → i = j := fun i j hij hj q => by
    have d : Q ∣ P * j + a - (P * i + a) := dvd_of_mods (Nat.add_le_add_right (Nat.mul_le_mul_left P hij) a) q
    rw [show P * j + a - (P * i + a) = P * (j - i) by rw [Nat.mul_sub]; omega] at d
    have d2 := hc.symm.dvd_of_dvd_mul_left d
    rcases Nat.eq_zero_or_pos (j - i) with z | z
    · omega
    · have := Nat.le_of_dvd z d2; omega
  rcases Nat.le_total i j with z | z
  · exact aux i j z hj q
  · exact (aux j i z hi q.symm).symm
/-- how often a number comes -/
def cnF (u : Nat → Nat) (P S : Nat) : Nat := suN (fun t => if u t = S then 1 else 0) P
theorem cnF_le (u : Nat → Nat) (S : Nat) : ∀ P, cnF u P S ≤ P
  | 0 => Nat.le_refl 0
  | P + 1 => by
    have := cnF_le u S P
    unfold cnF at this ⊢
    rw [suN]; split <;> omega
theorem suN_fib (u : Nat → Nat) (g : Nat → Nat) (N : Nat) : ∀ P, (∀ t, t < P → u t < N) → suN (fun S => cnF u P S * g S) N = suN (fun t => g (u t)) P
  | 0, _ => by
    rw [suN_cong (g := fun _ => 0) (fun k _ => by show 0 * g k = 0; omega)]; exact suN_0 N
  | P + 1, h => by
    rw [suN, ← suN_fib u g N P (fun t ht => h t (by omega))]
    have e : suN (fun S => cnF u (P + 1) S * g S) N = suN (fun S => cnF u P S * g S + if S = u P then g S else 0) N := suN_cong (fun S _ => by
      show (suN (fun t => if u t = S then 1 else 0) P + if u P = S then 1 else 0) * g S = suN (fun t => if u t = S then 1 else 0) P * g S + _
      by_cases c : u P = S
      · rw [if_pos c, if_pos c.symm, Nat.add_mul, Nat.one_mul]
      · rw [if_neg c, if_neg (fun q => c q.symm), Nat.add_zero, Nat.add_zero])
    rw [e, suN_add, suN_one, if_pos (h P (by omega))]
/-- two counts laid together -/
theorem cn_mix {P Q N : Nat} (hP : 0 < P) (hQ : 0 < Q) (hc : Nat.Coprime P Q) (u w : Nat → Nat) (hu : ∀ t, t < P → u t < N) (hw : ∀ t, t < Q → w t < N) (S : Nat) : suN (fun a => suN (fun b => if a ||| b = S then cnF u P a * cnF w Q b else 0) N) N = cnF (fun t => u (t % P) ||| w (t % Q)) (P * Q) S := by
  unfold cnF
  rw [suN_crt hP hQ hc (fun a b => if u a ||| w b = S then 1 else 0)]
  have e1 : ∀ a, suN (fun b => if a ||| b = S then cnF u P a * cnF w Q b else 0) N = cnF u P a * suN (fun b => if a ||| w b = S then 1 else 0) Q := fun a => by
    rw [← suN_fib w (fun b => if a ||| b = S then 1 else 0) N Q hw, ← suN_mul]
    refine suN_cong (fun b _ => ?_)
    split
    · rw [Nat.mul_one]
    · rw [Nat.mul_zero, Nat.mul_zero]
  have e2 : suN (fun a => suN (fun b => if a ||| b = S then suN (fun t => if u t = a then 1 else 0) P * suN (fun t => if w t = b then 1 else 0) Q else 0) N) N = suN (fun a => cnF u P a * suN (fun b => if a ||| w b = S then 1 else 0) Q) N := suN_cong (fun a _ => e1 a)
  rw [e2, suN_fib u (fun a => suN (fun b => if a ||| w b = S then 1 else 0) Q) N P hu]
/-- sums of whole numbers -/
def smZ (f : Nat → Int) : Nat → Int
  | 0 => 0
  | k + 1 => smZ f k + f k
theorem smZ_cong {f g : Nat → Int} : ∀ {n : Nat}, (∀ k, k < n → f k = g k) → smZ f n = smZ g n
  | 0, _ => rfl
  | n + 1, h => by rw [smZ, smZ, smZ_cong (fun k hk => h k (by omega)), h n (by omega)]
theorem smZ_add (f g : Nat → Int) : ∀ n, smZ (fun k => f k + g k) n = smZ f n + smZ g n
  | 0 => rfl
  | n + 1 => by rw [smZ, smZ, smZ, smZ_add f g n]; omega
theorem smZ_0 : ∀ n, smZ (fun _ => 0) n = 0
  | 0 => rfl
  | n + 1 => by rw [smZ, smZ_0 n]; rfl
theorem smZ_one (g : Nat → Int) (x : Nat) : ∀ n, smZ (fun k => if k = x then g k else 0) n = if x < n then g x else 0
  | 0 => by rw [if_neg (by omega)]; rfl
  | n + 1 => by
    rw [smZ, smZ_one g x n]
    by_cases e : n = x
    · subst e; rw [if_neg (by omega), if_pos rfl, if_pos (by omega)]; omega
    · rw [if_neg e]
      by_cases c : x < n
      · rw [if_pos c, if_pos (by omega)]; omega
      · rw [if_neg c, if_neg (by omega)]; omega
theorem smZ_fib (u : Nat → Nat) (g : Nat → Int) (N : Nat) : ∀ P, (∀ t, t < P → u t < N) → smZ (fun S => (cnF u P S : Int) * g S) N = smZ (fun t => g (u t)) P
  | 0, _ => by
    rw [smZ_cong (g := fun _ => 0) (fun k _ => by show ((0 : Nat) : Int) * g k = 0; simp)]; exact smZ_0 N
  | P + 1, h => by
    rw [smZ, ← smZ_fib u g N P (fun t ht => h t (by omega))]
    have e : smZ (fun S => (cnF u (P + 1) S : Int) * g S) N = smZ (fun S => (cnF u P S : Int) * g S + if S = u P then g S else 0) N := smZ_cong (fun S _ => by
      show ((suN (fun t => if u t = S then 1 else 0) P + (if u P = S then 1 else 0) : Nat) : Int) * g S = ((suN (fun t => if u t = S then 1 else 0) P : Nat) : Int) * g S + _
      by_cases c : u P = S
      · rw [if_pos c, if_pos c.symm, Int.natCast_add, Int.add_mul]; simp
      · rw [if_neg c, if_neg (fun q => c q.symm)]; simp)
    rw [e, smZ_add, smZ_one, if_pos (h P (by omega))]
theorem smZ_le {f : Nat → Int} {b : Int} (hb : 0 ≤ b) : ∀ n, (∀ k, k < n → -b ≤ f k ∧ f k ≤ b) → -(b * n) ≤ smZ f n ∧ smZ f n ≤ b * n
  | 0, _ => by simp [smZ]
  | n + 1, h => by
    have ih := smZ_le hb n (fun k hk => h k (by omega))
    have h1 := h n (by omega)
    have e : b * ((n + 1 : Nat) : Int) = b * n + b := by rw [Int.natCast_add, Int.mul_add]; simp
    rw [smZ, e]; omega
/-- which rows of a set have yes at t -/
def yS (R : Cd) (K t : Nat) : Nat := trN (fun k => K.testBit k && chB R k (t : Int)) (cn R)
def tyR (R : Cd) (rw6 : Int32) (le6 bi6 : Nat → Int32) : Prop := rw6.toInt = (cn R : Int) ∧ cn R ≤ 6 ∧ isL R le6 ∧ isR R bi6
theorem lcS_dvd {R : Cd} (h : ∀ p, p < cn R → 2 ≤ cL R p ∧ cL R p ≤ 13) (s : Nat) : ∀ k, k ≤ cn R → lcS R s k ∣ 360360
  | 0, _ => by rw [lcS]; exact Nat.one_dvd _
  | k + 1, hk => by
    have h1 := lcS_dvd h s k (by omega)
    have h2 := h k (by omega)
    have h3 : cL R k ∣ 360360 := by
      have : ∀ x, x < 14 → 2 ≤ x → x ∣ 360360 := by decide
      exact this _ (by omega) h2.1
    rw [lcS]; split
    · exact Nat.lcm_dvd h1 h3
    · exact h1
theorem lcS_in {R : Cd} (s : Nat) : ∀ k p, p < k → s.testBit p = true → cL R p ∣ lcS R s k
  | 0, p, hp, _ => absurd hp (by omega)
  | k + 1, p, hp, hs => by
    rw [lcS]
    by_cases e : p = k
    · subst e; rw [if_pos hs]; exact Nat.dvd_lcm_right _ _
    · have ih := lcS_in (R := R) s k p (by omega) hs
      split
      · exact Nat.dvd_trans ih (Nat.dvd_lcm_left _ _)
      · exact ih
theorem lcS_cop {R : Cd} {M : Nat} (s : Nat) : ∀ k, (∀ p, p < k → s.testBit p = true → Nat.Coprime M (cL R p)) → Nat.Coprime M (lcS R s k)
  | 0, _ => by rw [lcS]; exact Nat.coprime_one_right M
  | k + 1, h => by
    have ih := lcS_cop (R := R) s k (fun p hp hs => h p (by omega) hs)
    rw [lcS]
    split
    · have h2 := h k (by omega) (by assumption)
      exact Nat.Coprime.coprime_dvd_right (Nat.lcm_dvd_mul _ _) (Nat.Coprime.mul_right ih h2)
    · exact ih
theorem chB_md {R : Cd} {p M t : Nat} (hd : cL R p ∣ M) : chB R p ((t % M : Nat) : Int) = chB R p (t : Int) := by
  unfold chB
  have e : ((t % M : Nat) : Int) % (cL R p : Int) = (t : Int) % (cL R p : Int) := by
    rw [← Int.natCast_emod, ← Int.natCast_emod, Nat.mod_mod_of_dvd _ hd]
  rw [e]
theorem yS_mod {R : Cd} {K M t : Nat} (hd : ∀ p, p < cn R → K.testBit p = true → cL R p ∣ M) : yS R K (t % M) = yS R K t := by
  unfold yS
  refine trN_cong (fun k hk => ?_)
  cases e : K.testBit k
  · rfl
  · rw [chB_md (hd k hk e)]
theorem yS_lt {R : Cd} (K t : Nat) (h : cn R ≤ 6) : yS R K t < 64 := by
  have h1 := trN_lt (fun k => K.testBit k && chB R k (t : Int)) (cn R)
  have h2 : 2 ^ cn R ≤ 2 ^ 6 := Nat.pow_le_pow_right (by decide) h
  unfold yS; omega
theorem yS_or (R : Cd) (D K t : Nat) : yS R D t ||| yS R K t = yS R (D ||| K) t := by
  apply Nat.eq_of_testBit_eq
  intro i
  unfold yS
  rw [Nat.testBit_or, trN_bit, trN_bit, trN_bit, Nat.testBit_or]
  cases decide (i < cn R) <;> cases D.testBit i <;> cases K.testBit i <;> cases chB R i (t : Int) <;> rfl
theorem dX6_takeCode_0 : decode cX6_takeCode 0 = .ok (.aload_n 0, 1) := by decide +kernel
theorem dX6_takeCode_1 : decode cX6_takeCode 1 = .ok (.aload_n 1, 1) := by decide +kernel
theorem dX6_takeCode_2 : decode cX6_takeCode 2 = .ok (.getfield 27, 3) := by decide +kernel
theorem dX6_takeCode_5 : decode cX6_takeCode 5 = .ok (.putfield 33, 3) := by decide +kernel
theorem dX6_takeCode_8 : decode cX6_takeCode 8 = .ok (.aload_n 0, 1) := by decide +kernel
theorem dX6_takeCode_9 : decode cX6_takeCode 9 = .ok (.aload_n 1, 1) := by decide +kernel
theorem dX6_takeCode_10 : decode cX6_takeCode 10 = .ok (.getfield 27, 3) := by decide +kernel
theorem dX6_takeCode_13 : decode cX6_takeCode 13 = .ok (.putfield 34, 3) := by decide +kernel
theorem dX6_takeCode_16 : decode cX6_takeCode 16 = .ok (.aload_n 1, 1) := by decide +kernel
theorem dX6_takeCode_17 : decode cX6_takeCode 17 = .ok (.getfield 37, 3) := by decide +kernel
theorem dX6_takeCode_20 : decode cX6_takeCode 20 = .ok (.iconst 0, 1) := by decide +kernel
theorem dX6_takeCode_21 : decode cX6_takeCode 21 = .ok (.aload_n 0, 1) := by decide +kernel
theorem dX6_takeCode_22 : decode cX6_takeCode 22 = .ok (.getfield 11, 3) := by decide +kernel
theorem dX6_takeCode_25 : decode cX6_takeCode 25 = .ok (.iconst 0, 1) := by decide +kernel
theorem dX6_takeCode_26 : decode cX6_takeCode 26 = .ok (.iconst 5, 1) := by decide +kernel
theorem dX6_takeCode_27 : decode cX6_takeCode 27 = .ok (.invokestatic 38, 3) := by decide +kernel
theorem dX6_takeCode_30 : decode cX6_takeCode 30 = .ok (.aload_n 1, 1) := by decide +kernel
theorem dX6_takeCode_31 : decode cX6_takeCode 31 = .ok (.getfield 44, 3) := by decide +kernel
theorem dX6_takeCode_34 : decode cX6_takeCode 34 = .ok (.iconst 0, 1) := by decide +kernel
theorem dX6_takeCode_35 : decode cX6_takeCode 35 = .ok (.aload_n 0, 1) := by decide +kernel
theorem dX6_takeCode_36 : decode cX6_takeCode 36 = .ok (.getfield 15, 3) := by decide +kernel
theorem dX6_takeCode_39 : decode cX6_takeCode 39 = .ok (.iconst 0, 1) := by decide +kernel
theorem dX6_takeCode_40 : decode cX6_takeCode 40 = .ok (.iconst 5, 1) := by decide +kernel
theorem dX6_takeCode_41 : decode cX6_takeCode 41 = .ok (.invokestatic 38, 3) := by decide +kernel
theorem dX6_takeCode_44 : decode cX6_takeCode 44 = .ok (.return_, 1) := by decide +kernel
abbrev rmX6_takeCode : Room := { frames := 1, cells := 0, slots := 0, locals := 40 }
theorem inX6_takeCode_6 : ∀ w ∈ wsX60, w ∈ wsX6_takeCode := by decide +kernel
theorem inX6_takeCode_7 : ∀ w ∈ wsX70, w ∈ wsX6_takeCode := by decide +kernel
def vX6_takeCode (pa6 : Int32) (rw6 : Int32) (le6 : Nat → Int32) (bi6 : Nat → Int32) (parts : Int32) (limit : Int32) (len : Nat → Int32) (row : Nat → Int32) (Q : (Int32) → (Int32) → (Nat → Int32) → (Nat → Int32) → Prop) : Prop := (Q parts parts (va_cpy len le6 0 0 5) (va_cpy row bi6 0 0 5))
set_option maxHeartbeats 4000000 in
set_option maxRecDepth 100000 in
theorem wX6_takeCode (l : Launch) (g : GP) (qty : Nat) (ql6 : Nat) (qb6 : Nat) (qc6 : Nat) (qk6 : Nat) (qm6 : Nat) (qt : Nat) (ql : Nat) (qr : Nat) (qv : Nat) (qg : Nat) (sz : Nat) (pa6 : Int32) (rw6 : Int32) (le6 : Nat → Int32) (bi6 : Nat → Int32) (parts : Int32) (limit : Int32) (len : Nat → Int32) (row : Nat → Int32) {Q : (Int32) → (Int32) → (Nat → Int32) → (Nat → Int32) → Prop} (hv : vX6_takeCode pa6 rw6 le6 bi6 parts limit len row Q) : Met l yX6_takeCode wsX6_takeCode rmX6_takeCode (va_Pc [.ref qty, .ref qt] (fun U => U.heap.size = sz ∧ va_P g.1 vwCl [(qty, .inr (6, [.ref ql6, .ref qb6, .ref qc6, .ref qk6, .ref qm6, .int pa6, .int rw6])), (ql6, .inl (g.2 0, 6, .inl le6)), (qb6, .inl (g.2 0, 6, .inl bi6)), (qt, .inr (7, [.ref ql, .ref qr, .ref qv, .ref qg, .int parts, .int limit])), (ql, .inl (g.2 0, 5, .inl len)), (qr, .inl (g.2 0, 5, .inl row))] U.heap ∧ GK g U ∧ va_D (fun _ => True) [(qty, .inr (6, [.ref ql6, .ref qb6, .ref qc6, .ref qk6, .ref qm6, .int pa6, .int rw6])), (ql6, .inl (g.2 0, 6, .inl le6)), (qb6, .inl (g.2 0, 6, .inl bi6)), (qt, .inr (7, [.ref ql, .ref qr, .ref qv, .ref qg, .int parts, .int limit])), (ql, .inl (g.2 0, 5, .inl len)), (qr, .inl (g.2 0, 5, .inl row))])) (va_Qv (fun (u : Int32 × Int32 × (Nat → Int32) × (Nat → Int32)) => Q u.1 u.2.1 u.2.2.1 u.2.2.2) (fun (u : Int32 × Int32 × (Nat → Int32) × (Nat → Int32)) t => va_P g.1 vwCl [(qty, .inr (6, [.ref ql6, .ref qb6, .ref qc6, .ref qk6, .ref qm6, .int u.1, .int u.2.1])), (ql6, .inl (g.2 0, 6, .inl u.2.2.1)), (qb6, .inl (g.2 0, 6, .inl u.2.2.2)), (qt, .inr (7, [.ref ql, .ref qr, .ref qv, .ref qg, .int parts, .int limit])), (ql, .inl (g.2 0, 5, .inl len)), (qr, .inl (g.2 0, 5, .inl row))] t.heap ∧ va_D (va_A [(qty, .inr (6, [.ref ql6, .ref qb6, .ref qc6, .ref qk6, .ref qm6, .int pa6, .int rw6])), (ql6, .inl (g.2 0, 6, .inl le6)), (qb6, .inl (g.2 0, 6, .inl bi6)), (qt, .inr (7, [.ref ql, .ref qr, .ref qv, .ref qg, .int parts, .int limit])), (ql, .inl (g.2 0, 5, .inl len)), (qr, .inl (g.2 0, 5, .inl row))] sz) [(qty, .inr (6, [.ref ql6, .ref qb6, .ref qc6, .ref qk6, .ref qm6, .int u.1, .int u.2.1])), (ql6, .inl (g.2 0, 6, .inl u.2.2.1)), (qb6, .inl (g.2 0, 6, .inl u.2.2.2)), (qt, .inr (7, [.ref ql, .ref qr, .ref qv, .ref qg, .int parts, .int limit])), (ql, .inl (g.2 0, 5, .inl len)), (qr, .inl (g.2 0, 5, .inl row))]) (va_A [(qty, .inr (6, [.ref ql6, .ref qb6, .ref qc6, .ref qk6, .ref qm6, .int pa6, .int rw6])), (ql6, .inl (g.2 0, 6, .inl le6)), (qb6, .inl (g.2 0, 6, .inl bi6)), (qt, .inr (7, [.ref ql, .ref qr, .ref qv, .ref qg, .int parts, .int limit])), (ql, .inl (g.2 0, 5, .inl len)), (qr, .inl (g.2 0, 5, .inl row))] sz)) 0 0 (va_A [(qty, .inr (6, [.ref ql6, .ref qb6, .ref qc6, .ref qk6, .ref qm6, .int pa6, .int rw6])), (ql6, .inl (g.2 0, 6, .inl le6)), (qb6, .inl (g.2 0, 6, .inl bi6)), (qt, .inr (7, [.ref ql, .ref qr, .ref qv, .ref qg, .int parts, .int limit])), (ql, .inl (g.2 0, 5, .inl len)), (qr, .inl (g.2 0, 5, .inl row))] sz) := by
  refine Met.ofW (cc := cX6_takeCode) (maxL := 2) (ret := none) (by decide) rfl ?_
  intro p e s m args below meth c s₁ B hml hv'
  obtain ⟨rfl, hsz, hP, hG, hD0⟩ := hv'
  have S : CallFix p m c cX6_takeCode 2 s _ wsX6_takeCode RX6 := ⟨B.exec, B.bytes, hml, findClass_of_methodNamed B.named, atoms_spec (ws := wsX6_takeCode) B.pre⟩
  obtain ⟨hx, hb, hml, hown, hts⟩ := id S
  have hK := hG.1
  have hr := B.returns
  have hlocks := B.notSynchronized
  subst hsz
  have hD := hD0.self (sz := s.heap.size)
  generalize hAe : va_A [(qty, .inr (6, [.ref ql6, .ref qb6, .ref qc6, .ref qk6, .ref qm6, .int pa6, .int rw6])), (ql6, .inl (g.2 0, 6, .inl le6)), (qb6, .inl (g.2 0, 6, .inl bi6)), (qt, .inr (7, [.ref ql, .ref qr, .ref qv, .ref qg, .int parts, .int limit])), (ql, .inl (g.2 0, 5, .inl len)), (qr, .inl (g.2 0, 5, .inl row))] s.heap.size = A at hD ⊢
  have hA : ∀ q : Nat, s.heap.size ≤ q → A q := fun q h => by rw [← hAe]; exact Or.inr h
  have hS : va_S A s.heap s.heap [] := va_S.rf
  clear hD0 hAe
  have hl := lv_entry ([.ref qty, .ref qt]) (n := 2) (Nat.le_of_ble_eq_true rfl)
  rw [lg_entry_eq]
  generalize (lg_sl ([.ref qty, .ref qt]) ++ List.replicate (2 - (lg_sl ([.ref qty, .ref qt])).length) Slot.unset).toArray = ls at hl ⊢
  have hl : lv_has ls 2 [(0, .ref qty), (1, .ref qt)] := hl
  unfold vX6_takeCode at hv
  refine lv_aload_n hx hb dX6_takeCode_0 rfl (lv_at hl 0 rfl) ?_
  refine lv_aload_n hx hb dX6_takeCode_1 rfl (lv_at hl 1 rfl) ?_
  refine va_get (D := g.1) (ci := 7) (v := .int parts) (C := RX7) (T := TX7) (N := 6) hx hb hts inX6_takeCode_7 hown hK hP 3 rfl rfl 4 (by decide) (hts (.fieldLink RX6 27 "RangeCodes$Told" "parts" "I") (List.mem_of_getElem? (i := 1) rfl)) (fun _ h9 => h9) rfl dX6_takeCode_2 ?_
  refine va_put (D := g.1) (ci := 6) (v := .int parts) (ty := .int) (C := RX6) (T := TX6) (N := 7) hx hb hts inX6_takeCode_6 tyX6 tyX6_ok nmX6 hown hK hP hD hS 0 rfl rfl 5 (by decide) (hts (.fieldLink RX6 33 "RangeCodes$Tally" "parts" "I") (List.mem_of_getElem? (i := 2) rfl)) (fun _ h9 => h9) rfl (by decide +kernel) rfl rfl (Nat.le_of_ble_eq_true rfl) dX6_takeCode_5 (fun H locs hP hD hS => ?_)
  have hP : va_P g.1 vwCl [(qty, .inr (6, [.ref ql6, .ref qb6, .ref qc6, .ref qk6, .ref qm6, .int parts, .int rw6])), (ql6, .inl (g.2 0, 6, .inl le6)), (qb6, .inl (g.2 0, 6, .inl bi6)), (qt, .inr (7, [.ref ql, .ref qr, .ref qv, .ref qg, .int parts, .int limit])), (ql, .inl (g.2 0, 5, .inl len)), (qr, .inl (g.2 0, 5, .inl row))] H := hP
  have hD : va_D A [(qty, .inr (6, [.ref ql6, .ref qb6, .ref qc6, .ref qk6, .ref qm6, .int parts, .int rw6])), (ql6, .inl (g.2 0, 6, .inl le6)), (qb6, .inl (g.2 0, 6, .inl bi6)), (qt, .inr (7, [.ref ql, .ref qr, .ref qv, .ref qg, .int parts, .int limit])), (ql, .inl (g.2 0, 5, .inl len)), (qr, .inl (g.2 0, 5, .inl row))] := hD
  refine lv_aload_n hx hb dX6_takeCode_8 rfl (lv_at hl 0 rfl) ?_
  refine lv_aload_n hx hb dX6_takeCode_9 rfl (lv_at hl 1 rfl) ?_
  refine va_get (D := g.1) (ci := 7) (v := .int parts) (C := RX7) (T := TX7) (N := 6) hx hb hts inX6_takeCode_7 hown hK hP 3 rfl rfl 4 (by decide) (hts (.fieldLink RX6 27 "RangeCodes$Told" "parts" "I") (List.mem_of_getElem? (i := 1) rfl)) (fun _ h9 => h9) rfl dX6_takeCode_10 ?_
  refine va_put (D := g.1) (ci := 6) (v := .int parts) (ty := .int) (C := RX6) (T := TX6) (N := 7) hx hb hts inX6_takeCode_6 tyX6 tyX6_ok nmX6 hown hK hP hD hS 0 rfl rfl 6 (by decide) (hts (.fieldLink RX6 34 "RangeCodes$Tally" "rows" "I") (List.mem_of_getElem? (i := 3) rfl)) (fun _ h9 => h9) rfl (by decide +kernel) rfl rfl (Nat.le_of_ble_eq_true rfl) dX6_takeCode_13 (fun H locs hP hD hS => ?_)
  have hP : va_P g.1 vwCl [(qty, .inr (6, [.ref ql6, .ref qb6, .ref qc6, .ref qk6, .ref qm6, .int parts, .int parts])), (ql6, .inl (g.2 0, 6, .inl le6)), (qb6, .inl (g.2 0, 6, .inl bi6)), (qt, .inr (7, [.ref ql, .ref qr, .ref qv, .ref qg, .int parts, .int limit])), (ql, .inl (g.2 0, 5, .inl len)), (qr, .inl (g.2 0, 5, .inl row))] H := hP
  have hD : va_D A [(qty, .inr (6, [.ref ql6, .ref qb6, .ref qc6, .ref qk6, .ref qm6, .int parts, .int parts])), (ql6, .inl (g.2 0, 6, .inl le6)), (qb6, .inl (g.2 0, 6, .inl bi6)), (qt, .inr (7, [.ref ql, .ref qr, .ref qv, .ref qg, .int parts, .int limit])), (ql, .inl (g.2 0, 5, .inl len)), (qr, .inl (g.2 0, 5, .inl row))] := hD
  refine lv_aload_n hx hb dX6_takeCode_16 rfl (lv_at hl 1 rfl) ?_
  refine va_get (D := g.1) (ci := 7) (v := .ref ql) (C := RX7) (T := TX7) (N := 6) hx hb hts inX6_takeCode_7 hown hK hP 3 rfl rfl 0 (by decide) (hts (.fieldLink RX6 37 "RangeCodes$Told" "lengths" "[I") (List.mem_of_getElem? (i := 4) rfl)) (fun _ h9 => h9) rfl dX6_takeCode_17 ?_
  refine lv_iconst (v := (0 : Int32)) hx hb dX6_takeCode_20 (by decide) ?_
  refine lv_aload_n hx hb dX6_takeCode_21 rfl (lv_at hl 0 rfl) ?_
  refine va_get (D := g.1) (ci := 6) (v := .ref ql6) (C := RX6) (T := TX6) (N := 7) hx hb hts inX6_takeCode_6 hown hK hP 0 rfl rfl 0 (by decide) (hts (.fieldLink RX6 11 "RangeCodes$Tally" "lengths" "[I") (List.mem_of_getElem? (i := 5) rfl)) (fun _ h9 => h9) rfl dX6_takeCode_22 ?_
  refine lv_iconst (v := (0 : Int32)) hx hb dX6_takeCode_25 (by decide) ?_
  refine lv_iconst (v := (5 : Int32)) hx hb dX6_takeCode_26 (by decide) ?_
  refine va_copyi (ty := .int) hx hb (by rw [hml]; exact hl.1.symm) hown (hts (.methodLink RX6 38 arraycopyName) (List.mem_of_getElem? (i := 6) rfl)) (hts (.native arraycopyName) (List.mem_of_getElem? (i := 7) rfl)) (hts (.static arraycopyName) (List.mem_of_getElem? (i := 8) rfl)) (hts (.initialized "java/lang/System") (List.mem_of_getElem? (i := 9) rfl)) hK hP hD hS 4 1 0 0 rfl rfl rfl rfl rfl (by decide) (by decide) (by decide) (by decide) (by decide) (fun _ _ => rfl) (Nat.le_of_ble_eq_true rfl) (Nat.le_of_ble_eq_true rfl) dX6_takeCode_27 (fun H locs hP hD hS => ?_)
  have hP : va_P g.1 vwCl [(qty, .inr (6, [.ref ql6, .ref qb6, .ref qc6, .ref qk6, .ref qm6, .int parts, .int parts])), (ql6, .inl (g.2 0, 6, .inl (va_cpy len le6 0 0 5))), (qb6, .inl (g.2 0, 6, .inl bi6)), (qt, .inr (7, [.ref ql, .ref qr, .ref qv, .ref qg, .int parts, .int limit])), (ql, .inl (g.2 0, 5, .inl len)), (qr, .inl (g.2 0, 5, .inl row))] H := hP
  have hD : va_D A [(qty, .inr (6, [.ref ql6, .ref qb6, .ref qc6, .ref qk6, .ref qm6, .int parts, .int parts])), (ql6, .inl (g.2 0, 6, .inl (va_cpy len le6 0 0 5))), (qb6, .inl (g.2 0, 6, .inl bi6)), (qt, .inr (7, [.ref ql, .ref qr, .ref qv, .ref qg, .int parts, .int limit])), (ql, .inl (g.2 0, 5, .inl len)), (qr, .inl (g.2 0, 5, .inl row))] := hD
  refine lv_aload_n hx hb dX6_takeCode_30 rfl (lv_at hl 1 rfl) ?_
  refine va_get (D := g.1) (ci := 7) (v := .ref qr) (C := RX7) (T := TX7) (N := 6) hx hb hts inX6_takeCode_7 hown hK hP 3 rfl rfl 1 (by decide) (hts (.fieldLink RX6 44 "RangeCodes$Told" "rows" "[I") (List.mem_of_getElem? (i := 10) rfl)) (fun _ h9 => h9) rfl dX6_takeCode_31 ?_
  refine lv_iconst (v := (0 : Int32)) hx hb dX6_takeCode_34 (by decide) ?_
  refine lv_aload_n hx hb dX6_takeCode_35 rfl (lv_at hl 0 rfl) ?_
  refine va_get (D := g.1) (ci := 6) (v := .ref qb6) (C := RX6) (T := TX6) (N := 7) hx hb hts inX6_takeCode_6 hown hK hP 0 rfl rfl 1 (by decide) (hts (.fieldLink RX6 15 "RangeCodes$Tally" "bits" "[I") (List.mem_of_getElem? (i := 11) rfl)) (fun _ h9 => h9) rfl dX6_takeCode_36 ?_
  refine lv_iconst (v := (0 : Int32)) hx hb dX6_takeCode_39 (by decide) ?_
  refine lv_iconst (v := (5 : Int32)) hx hb dX6_takeCode_40 (by decide) ?_
  refine va_copyi (ty := .int) hx hb (by rw [hml]; exact hl.1.symm) hown (hts (.methodLink RX6 38 arraycopyName) (List.mem_of_getElem? (i := 6) rfl)) (hts (.native arraycopyName) (List.mem_of_getElem? (i := 7) rfl)) (hts (.static arraycopyName) (List.mem_of_getElem? (i := 8) rfl)) (hts (.initialized "java/lang/System") (List.mem_of_getElem? (i := 9) rfl)) hK hP hD hS 5 2 0 0 rfl rfl rfl rfl rfl (by decide) (by decide) (by decide) (by decide) (by decide) (fun _ _ => rfl) (Nat.le_of_ble_eq_true rfl) (Nat.le_of_ble_eq_true rfl) dX6_takeCode_41 (fun H locs hP hD hS => ?_)
  have hP : va_P g.1 vwCl [(qty, .inr (6, [.ref ql6, .ref qb6, .ref qc6, .ref qk6, .ref qm6, .int parts, .int parts])), (ql6, .inl (g.2 0, 6, .inl (va_cpy len le6 0 0 5))), (qb6, .inl (g.2 0, 6, .inl (va_cpy row bi6 0 0 5))), (qt, .inr (7, [.ref ql, .ref qr, .ref qv, .ref qg, .int parts, .int limit])), (ql, .inl (g.2 0, 5, .inl len)), (qr, .inl (g.2 0, 5, .inl row))] H := hP
  have hD : va_D A [(qty, .inr (6, [.ref ql6, .ref qb6, .ref qc6, .ref qk6, .ref qm6, .int parts, .int parts])), (ql6, .inl (g.2 0, 6, .inl (va_cpy len le6 0 0 5))), (qb6, .inl (g.2 0, 6, .inl (va_cpy row bi6 0 0 5))), (qt, .inr (7, [.ref ql, .ref qr, .ref qv, .ref qg, .int parts, .int limit])), (ql, .inl (g.2 0, 5, .inl len)), (qr, .inl (g.2 0, 5, .inl row))] := hD
  have hP9 := hP.sub (ws' := [(qty, .inr (6, [.ref ql6, .ref qb6, .ref qc6, .ref qk6, .ref qm6, .int parts, .int parts])), (ql6, .inl (g.2 0, 6, .inl (va_cpy len le6 0 0 5))), (qb6, .inl (g.2 0, 6, .inl (va_cpy row bi6 0 0 5))), (qt, .inr (7, [.ref ql, .ref qr, .ref qv, .ref qg, .int parts, .int limit])), (ql, .inl (g.2 0, 5, .inl len)), (qr, .inl (g.2 0, 5, .inl row))]) [0, 1, 2, 3, 4, 5] rfl
  have hD9 := hD.sub (ws' := [(qty, .inr (6, [.ref ql6, .ref qb6, .ref qc6, .ref qk6, .ref qm6, .int parts, .int parts])), (ql6, .inl (g.2 0, 6, .inl (va_cpy len le6 0 0 5))), (qb6, .inl (g.2 0, 6, .inl (va_cpy row bi6 0 0 5))), (qt, .inr (7, [.ref ql, .ref qr, .ref qv, .ref qg, .int parts, .int limit])), (ql, .inl (g.2 0, 5, .inl len)), (qr, .inl (g.2 0, 5, .inl row))]) [0, 1, 2, 3, 4, 5] (by decide) rfl
  exact W.vret hx hb hr (fun t ht hW => ⟨⟨(parts, parts, (va_cpy len le6 0 0 5), (va_cpy row bi6 0 0 5)), rfl, hv, by rw [ht]; exact hP9, hD9⟩, hS.F ht⟩) hS.2.2 dX6_takeCode_44
abbrev preX6_takeCode (T : Cd) (pa6 : Int32) (rw6 : Int32) (le6 : Nat → Int32) (bi6 : Nat → Int32) (parts : Int32) (limit : Int32) (len : Nat → Int32) (row : Nat → Int32) : Prop := isN T parts ∧ isL T len ∧ isR T row
abbrev postX6_takeCode (T : Cd) (pa6 : Int32) (rw6 : Int32) (le6 : Nat → Int32) (bi6 : Nat → Int32) (parts : Int32) (limit : Int32) (len : Nat → Int32) (row : Nat → Int32) (pa6' : Int32) (rw6' : Int32) (le6' : Nat → Int32) (bi6' : Nat → Int32) : Prop := pa6'.toInt = (cn T : Int) ∧ tyR T rw6' le6' bi6'
theorem sX6_takeCode (T : Cd) (pa6 : Int32) (rw6 : Int32) (le6 : Nat → Int32) (bi6 : Nat → Int32) (parts : Int32) (limit : Int32) (len : Nat → Int32) (row : Nat → Int32) (H : preX6_takeCode T pa6 rw6 le6 bi6 parts limit len row) : vX6_takeCode pa6 rw6 le6 bi6 parts limit len row (postX6_takeCode T pa6 rw6 le6 bi6 parts limit len row) := by
  obtain ⟨h1, h2, h3⟩ := H
  have h5 := h1.2
  refine ⟨h1.1, h1.1, by omega, fun p hp => ?_, fun p hp => ?_⟩
  · rw [cpy0 (show p < 5 by omega)]; exact h2 p hp
  · rw [cpy0 (show p < 5 by omega)]; exact h3 p hp
theorem dX6_addRow_0 : decode cX6_addRow 0 = .ok (.aload_n 0, 1) := by decide +kernel
theorem dX6_addRow_1 : decode cX6_addRow 1 = .ok (.getfield 11, 3) := by decide +kernel
theorem dX6_addRow_4 : decode cX6_addRow 4 = .ok (.aload_n 0, 1) := by decide +kernel
theorem dX6_addRow_5 : decode cX6_addRow 5 = .ok (.getfield 33, 3) := by decide +kernel
theorem dX6_addRow_8 : decode cX6_addRow 8 = .ok (.iload_n 1, 1) := by decide +kernel
theorem dX6_addRow_9 : decode cX6_addRow 9 = .ok (.iastore, 1) := by decide +kernel
theorem dX6_addRow_10 : decode cX6_addRow 10 = .ok (.aload_n 0, 1) := by decide +kernel
theorem dX6_addRow_11 : decode cX6_addRow 11 = .ok (.getfield 15, 3) := by decide +kernel
theorem dX6_addRow_14 : decode cX6_addRow 14 = .ok (.aload_n 0, 1) := by decide +kernel
theorem dX6_addRow_15 : decode cX6_addRow 15 = .ok (.getfield 33, 3) := by decide +kernel
theorem dX6_addRow_18 : decode cX6_addRow 18 = .ok (.iload_n 2, 1) := by decide +kernel
theorem dX6_addRow_19 : decode cX6_addRow 19 = .ok (.iastore, 1) := by decide +kernel
theorem dX6_addRow_20 : decode cX6_addRow 20 = .ok (.aload_n 0, 1) := by decide +kernel
theorem dX6_addRow_21 : decode cX6_addRow 21 = .ok (.aload_n 0, 1) := by decide +kernel
theorem dX6_addRow_22 : decode cX6_addRow 22 = .ok (.getfield 33, 3) := by decide +kernel
theorem dX6_addRow_25 : decode cX6_addRow 25 = .ok (.iconst 1, 1) := by decide +kernel
theorem dX6_addRow_26 : decode cX6_addRow 26 = .ok (.iadd, 1) := by decide +kernel
theorem dX6_addRow_27 : decode cX6_addRow 27 = .ok (.putfield 34, 3) := by decide +kernel
theorem dX6_addRow_30 : decode cX6_addRow 30 = .ok (.aload_n 0, 1) := by decide +kernel
theorem dX6_addRow_31 : decode cX6_addRow 31 = .ok (.getfield 33, 3) := by decide +kernel
theorem dX6_addRow_34 : decode cX6_addRow 34 = .ok (.ireturn, 1) := by decide +kernel
abbrev rmX6_addRow : Room := { frames := 0, cells := 0, slots := 0, locals := 0 }
theorem inX6_addRow_6 : ∀ w ∈ wsX60, w ∈ wsX6_addRow := by decide +kernel
def vX6_addRow (pa6 : Int32) (rw6 : Int32) (le6 : Nat → Int32) (bi6 : Nat → Int32) (p1 : Int32) (p2 : Int32) (Q : Int32 → (Int32) → (Nat → Int32) → (Nat → Int32) → Prop) : Prop := (vp_in pa6 6 ∧ (vp_in pa6 6 ∧ (Q pa6 (pa6 + (1 : Int32)) (upd le6 pa6.toNatClampNeg p1) (upd bi6 pa6.toNatClampNeg p2))))
set_option maxHeartbeats 4000000 in
set_option maxRecDepth 100000 in
theorem wX6_addRow (l : Launch) (g : GP) (qty : Nat) (ql6 : Nat) (qb6 : Nat) (qc6 : Nat) (qk6 : Nat) (qm6 : Nat) (sz : Nat) (pa6 : Int32) (rw6 : Int32) (le6 : Nat → Int32) (bi6 : Nat → Int32) (p1 : Int32) (p2 : Int32) {Q : Int32 → (Int32) → (Nat → Int32) → (Nat → Int32) → Prop} (hv : vX6_addRow pa6 rw6 le6 bi6 p1 p2 Q) : Met l yX6_addRow wsX6_addRow rmX6_addRow (va_Pc [.ref qty, .int p1, .int p2] (fun U => U.heap.size = sz ∧ va_P g.1 vwCl [(qty, .inr (6, [.ref ql6, .ref qb6, .ref qc6, .ref qk6, .ref qm6, .int pa6, .int rw6])), (ql6, .inl (g.2 0, 6, .inl le6)), (qb6, .inl (g.2 0, 6, .inl bi6))] U.heap ∧ GK g U ∧ va_D (fun _ => True) [(qty, .inr (6, [.ref ql6, .ref qb6, .ref qc6, .ref qk6, .ref qm6, .int pa6, .int rw6])), (ql6, .inl (g.2 0, 6, .inl le6)), (qb6, .inl (g.2 0, 6, .inl bi6))])) (va_Qi (fun (r : Int32) (u : Int32 × (Nat → Int32) × (Nat → Int32)) => Q r u.1 u.2.1 u.2.2) (fun (u : Int32 × (Nat → Int32) × (Nat → Int32)) t => va_P g.1 vwCl [(qty, .inr (6, [.ref ql6, .ref qb6, .ref qc6, .ref qk6, .ref qm6, .int pa6, .int u.1])), (ql6, .inl (g.2 0, 6, .inl u.2.1)), (qb6, .inl (g.2 0, 6, .inl u.2.2))] t.heap ∧ va_D (va_A [(qty, .inr (6, [.ref ql6, .ref qb6, .ref qc6, .ref qk6, .ref qm6, .int pa6, .int rw6])), (ql6, .inl (g.2 0, 6, .inl le6)), (qb6, .inl (g.2 0, 6, .inl bi6))] sz) [(qty, .inr (6, [.ref ql6, .ref qb6, .ref qc6, .ref qk6, .ref qm6, .int pa6, .int u.1])), (ql6, .inl (g.2 0, 6, .inl u.2.1)), (qb6, .inl (g.2 0, 6, .inl u.2.2))]) (va_A [(qty, .inr (6, [.ref ql6, .ref qb6, .ref qc6, .ref qk6, .ref qm6, .int pa6, .int rw6])), (ql6, .inl (g.2 0, 6, .inl le6)), (qb6, .inl (g.2 0, 6, .inl bi6))] sz)) 0 0 (va_A [(qty, .inr (6, [.ref ql6, .ref qb6, .ref qc6, .ref qk6, .ref qm6, .int pa6, .int rw6])), (ql6, .inl (g.2 0, 6, .inl le6)), (qb6, .inl (g.2 0, 6, .inl bi6))] sz) := by
  refine Met.ofW (cc := cX6_addRow) (maxL := 3) (ret := (some .int)) (by decide) rfl ?_
  intro p e s m args below meth c s₁ B hml hv'
  obtain ⟨rfl, hsz, hP, hG, hD0⟩ := hv'
  have S : CallFix p m c cX6_addRow 3 s _ wsX6_addRow RX6 := ⟨B.exec, B.bytes, hml, findClass_of_methodNamed B.named, atoms_spec (ws := wsX6_addRow) B.pre⟩
  obtain ⟨hx, hb, hml, hown, hts⟩ := id S
  have hK := hG.1
  have hr := B.returns
  have hlocks := B.notSynchronized
  subst hsz
  have hD := hD0.self (sz := s.heap.size)
  generalize hAe : va_A [(qty, .inr (6, [.ref ql6, .ref qb6, .ref qc6, .ref qk6, .ref qm6, .int pa6, .int rw6])), (ql6, .inl (g.2 0, 6, .inl le6)), (qb6, .inl (g.2 0, 6, .inl bi6))] s.heap.size = A at hD ⊢
  have hA : ∀ q : Nat, s.heap.size ≤ q → A q := fun q h => by rw [← hAe]; exact Or.inr h
  have hS : va_S A s.heap s.heap [] := va_S.rf
  clear hD0 hAe
  have hl := lv_entry ([.ref qty, .int p1, .int p2]) (n := 3) (Nat.le_of_ble_eq_true rfl)
  rw [lg_entry_eq]
  generalize (lg_sl ([.ref qty, .int p1, .int p2]) ++ List.replicate (3 - (lg_sl ([.ref qty, .int p1, .int p2])).length) Slot.unset).toArray = ls at hl ⊢
  have hl : lv_has ls 3 [(0, .ref qty), (1, .int p1), (2, .int p2)] := hl
  unfold vX6_addRow at hv
  refine lv_aload_n hx hb dX6_addRow_0 rfl (lv_at hl 0 rfl) ?_
  refine va_get (D := g.1) (ci := 6) (v := .ref ql6) (C := RX6) (T := TX6) (N := 7) hx hb hts inX6_addRow_6 hown hK hP 0 rfl rfl 0 (by decide) (hts (.fieldLink RX6 11 "RangeCodes$Tally" "lengths" "[I") (List.mem_of_getElem? (i := 1) rfl)) (fun _ h9 => h9) rfl dX6_addRow_1 ?_
  refine lv_aload_n hx hb dX6_addRow_4 rfl (lv_at hl 0 rfl) ?_
  refine va_get (D := g.1) (ci := 6) (v := .int pa6) (C := RX6) (T := TX6) (N := 7) hx hb hts inX6_addRow_6 hown hK hP 0 rfl rfl 5 (by decide) (hts (.fieldLink RX6 33 "RangeCodes$Tally" "parts" "I") (List.mem_of_getElem? (i := 2) rfl)) (fun _ h9 => h9) rfl dX6_addRow_5 ?_
  refine lv_iload_n hx hb dX6_addRow_8 rfl (lv_at hl 1 rfl) ?_
  obtain ⟨ho_1, hv⟩ := hv
  refine va_iast hx hb hK hP hD hS 1 0 rfl rfl ho_1 dX6_addRow_9 (fun H locs hP hD hS => ?_)
  have hP : va_P g.1 vwCl [(qty, .inr (6, [.ref ql6, .ref qb6, .ref qc6, .ref qk6, .ref qm6, .int pa6, .int rw6])), (ql6, .inl (g.2 0, 6, .inl (upd le6 pa6.toNatClampNeg p1))), (qb6, .inl (g.2 0, 6, .inl bi6))] H := hP
  have hD : va_D A [(qty, .inr (6, [.ref ql6, .ref qb6, .ref qc6, .ref qk6, .ref qm6, .int pa6, .int rw6])), (ql6, .inl (g.2 0, 6, .inl (upd le6 pa6.toNatClampNeg p1))), (qb6, .inl (g.2 0, 6, .inl bi6))] := hD
  refine lv_aload_n hx hb dX6_addRow_10 rfl (lv_at hl 0 rfl) ?_
  refine va_get (D := g.1) (ci := 6) (v := .ref qb6) (C := RX6) (T := TX6) (N := 7) hx hb hts inX6_addRow_6 hown hK hP 0 rfl rfl 1 (by decide) (hts (.fieldLink RX6 15 "RangeCodes$Tally" "bits" "[I") (List.mem_of_getElem? (i := 3) rfl)) (fun _ h9 => h9) rfl dX6_addRow_11 ?_
  refine lv_aload_n hx hb dX6_addRow_14 rfl (lv_at hl 0 rfl) ?_
  refine va_get (D := g.1) (ci := 6) (v := .int pa6) (C := RX6) (T := TX6) (N := 7) hx hb hts inX6_addRow_6 hown hK hP 0 rfl rfl 5 (by decide) (hts (.fieldLink RX6 33 "RangeCodes$Tally" "parts" "I") (List.mem_of_getElem? (i := 2) rfl)) (fun _ h9 => h9) rfl dX6_addRow_15 ?_
  refine lv_iload_n hx hb dX6_addRow_18 rfl (lv_at hl 2 rfl) ?_
  obtain ⟨ho_2, hv⟩ := hv
  refine va_iast hx hb hK hP hD hS 2 0 rfl rfl ho_2 dX6_addRow_19 (fun H locs hP hD hS => ?_)
  have hP : va_P g.1 vwCl [(qty, .inr (6, [.ref ql6, .ref qb6, .ref qc6, .ref qk6, .ref qm6, .int pa6, .int rw6])), (ql6, .inl (g.2 0, 6, .inl (upd le6 pa6.toNatClampNeg p1))), (qb6, .inl (g.2 0, 6, .inl (upd bi6 pa6.toNatClampNeg p2)))] H := hP
  have hD : va_D A [(qty, .inr (6, [.ref ql6, .ref qb6, .ref qc6, .ref qk6, .ref qm6, .int pa6, .int rw6])), (ql6, .inl (g.2 0, 6, .inl (upd le6 pa6.toNatClampNeg p1))), (qb6, .inl (g.2 0, 6, .inl (upd bi6 pa6.toNatClampNeg p2)))] := hD
  refine lv_aload_n hx hb dX6_addRow_20 rfl (lv_at hl 0 rfl) ?_
  refine lv_aload_n hx hb dX6_addRow_21 rfl (lv_at hl 0 rfl) ?_
  refine va_get (D := g.1) (ci := 6) (v := .int pa6) (C := RX6) (T := TX6) (N := 7) hx hb hts inX6_addRow_6 hown hK hP 0 rfl rfl 5 (by decide) (hts (.fieldLink RX6 33 "RangeCodes$Tally" "parts" "I") (List.mem_of_getElem? (i := 2) rfl)) (fun _ h9 => h9) rfl dX6_addRow_22 ?_
  refine lv_iconst (v := (1 : Int32)) hx hb dX6_addRow_25 (by decide) ?_
  refine lv_iadd hx hb dX6_addRow_26 ?_
  refine va_put (D := g.1) (ci := 6) (v := .int (pa6 + (1 : Int32))) (ty := .int) (C := RX6) (T := TX6) (N := 7) hx hb hts inX6_addRow_6 tyX6 tyX6_ok nmX6 hown hK hP hD hS 0 rfl rfl 6 (by decide) (hts (.fieldLink RX6 34 "RangeCodes$Tally" "rows" "I") (List.mem_of_getElem? (i := 4) rfl)) (fun _ h9 => h9) rfl (by decide +kernel) rfl rfl (Nat.le_of_ble_eq_true rfl) dX6_addRow_27 (fun H locs hP hD hS => ?_)
  have hP : va_P g.1 vwCl [(qty, .inr (6, [.ref ql6, .ref qb6, .ref qc6, .ref qk6, .ref qm6, .int pa6, .int (pa6 + (1 : Int32))])), (ql6, .inl (g.2 0, 6, .inl (upd le6 pa6.toNatClampNeg p1))), (qb6, .inl (g.2 0, 6, .inl (upd bi6 pa6.toNatClampNeg p2)))] H := hP
  have hD : va_D A [(qty, .inr (6, [.ref ql6, .ref qb6, .ref qc6, .ref qk6, .ref qm6, .int pa6, .int (pa6 + (1 : Int32))])), (ql6, .inl (g.2 0, 6, .inl (upd le6 pa6.toNatClampNeg p1))), (qb6, .inl (g.2 0, 6, .inl (upd bi6 pa6.toNatClampNeg p2)))] := hD
  refine lv_aload_n hx hb dX6_addRow_30 rfl (lv_at hl 0 rfl) ?_
  refine va_get (D := g.1) (ci := 6) (v := .int pa6) (C := RX6) (T := TX6) (N := 7) hx hb hts inX6_addRow_6 hown hK hP 0 rfl rfl 5 (by decide) (hts (.fieldLink RX6 33 "RangeCodes$Tally" "parts" "I") (List.mem_of_getElem? (i := 2) rfl)) (fun _ h9 => h9) rfl dX6_addRow_31 ?_
  have hP9 := hP.sub (ws' := [(qty, .inr (6, [.ref ql6, .ref qb6, .ref qc6, .ref qk6, .ref qm6, .int pa6, .int (pa6 + (1 : Int32))])), (ql6, .inl (g.2 0, 6, .inl (upd le6 pa6.toNatClampNeg p1))), (qb6, .inl (g.2 0, 6, .inl (upd bi6 pa6.toNatClampNeg p2)))]) [0, 1, 2] rfl
  have hD9 := hD.sub (ws' := [(qty, .inr (6, [.ref ql6, .ref qb6, .ref qc6, .ref qk6, .ref qm6, .int pa6, .int (pa6 + (1 : Int32))])), (ql6, .inl (g.2 0, 6, .inl (upd le6 pa6.toNatClampNeg p1))), (qb6, .inl (g.2 0, 6, .inl (upd bi6 pa6.toNatClampNeg p2)))]) [0, 1, 2] (by decide) rfl
  exact W.iret (v := pa6) hx hb hr (fun t ht hW => ⟨⟨_, ((pa6 + (1 : Int32)), (upd le6 pa6.toNatClampNeg p1), (upd bi6 pa6.toNatClampNeg p2)), rfl, hv, by rw [ht]; exact hP9, hD9⟩, hS.F ht⟩) hS.2.2 dX6_addRow_34
/-- rows with one more -/
def adR (R : Cd) (l b : Nat) : Cd := (cn R + 1, (fun q => if q = cn R then l else cL R q), (fun q => if q = cn R then b else cR R q), R.2.2.2)
abbrev preX6_addRow (R : Cd) (pa6 : Int32) (rw6 : Int32) (le6 : Nat → Int32) (bi6 : Nat → Int32) (p1 : Int32) (p2 : Int32) : Prop := tyR R rw6 le6 bi6 ∧ pa6.toInt = (cn R : Int) ∧ cn R ≤ 5 ∧ (2 ≤ p1.toInt ∧ p1.toInt ≤ 13) ∧ 0 ≤ p2.toInt ∧ p2.toInt.toNat < 2 ^ p1.toInt.toNat
abbrev postX6_addRow (R : Cd) (pa6 : Int32) (rw6 : Int32) (le6 : Nat → Int32) (bi6 : Nat → Int32) (p1 : Int32) (p2 : Int32) (r : Int32) (rw6' : Int32) (le6' : Nat → Int32) (bi6' : Nat → Int32) : Prop := r.toInt = (cn R : Int) ∧ tyR (adR R p1.toInt.toNat p2.toInt.toNat) rw6' le6' bi6'
theorem sX6_addRow (R : Cd) (pa6 : Int32) (rw6 : Int32) (le6 : Nat → Int32) (bi6 : Nat → Int32) (p1 : Int32) (p2 : Int32) (H : preX6_addRow R pa6 rw6 le6 bi6 p1 p2) : vX6_addRow pa6 rw6 le6 bi6 p1 p2 (postX6_addRow R pa6 rw6 le6 bi6 p1 p2) := by
  obtain ⟨⟨h1, h2, h3, h4⟩, hp, h5, hl, hb0, hb⟩ := H
  have hin : vp_in pa6 6 := q_in hp (by omega)
  have en : cn (adR R p1.toInt.toNat p2.toInt.toNat) = cn R + 1 := rfl
  have eL : ∀ q, cL (adR R p1.toInt.toNat p2.toInt.toNat) q = if q = cn R then p1.toInt.toNat else cL R q := fun _ => rfl
  have eR : ∀ q, cR (adR R p1.toInt.toNat p2.toInt.toNat) q = if q = cn R then p2.toInt.toNat else cR R q := fun _ => rfl
  refine ⟨hin, hin, hp, q_1 hp (by omega), by rw [en]; omega, fun q hq => ?_, fun q hq => ?_⟩
  · rw [en] at hq
    rw [eL, q_cl hp]
    by_cases c : q = cn R
    · rw [c, upd_eq, if_pos rfl]; omega
    · rw [upd_ne c, if_neg c]; exact h3 q (by omega)
  · rw [en] at hq
    rw [eR, eL, q_cl hp]
    by_cases c : q = cn R
    · rw [c, upd_eq, if_pos rfl, if_pos rfl]; exact ⟨by omega, hb⟩
    · rw [upd_ne c, if_neg c, if_neg c]; exact h4 q (by omega)
set_option maxRecDepth 20000 in
theorem ggX6_yesAt_X8_rest : GoodIn wsX6_yesAt wsX8_rest := goodIn_r _ [6] (by decide +kernel) (by decide +kernel)
set_option maxRecDepth 20000 in
theorem gX6_yesAt_X8_rest_n74 : GoodIn wsX6_yesAt (wsX8_rest) := ggX6_yesAt_X8_rest
theorem dX6_yesAt_0 : decode cX6_yesAt 0 = .ok (.iconst 0, 1) := by decide +kernel
theorem dX6_yesAt_1 : decode cX6_yesAt 1 = .ok (.istore_n 3, 1) := by decide +kernel
theorem dX6_yesAt_2 : decode cX6_yesAt 2 = .ok (.iconst 0, 1) := by decide +kernel
theorem dX6_yesAt_3 : decode cX6_yesAt 3 = .ok (.istore 4, 2) := by decide +kernel
theorem dX6_yesAt_5 : decode cX6_yesAt 5 = .ok (.iload 4, 2) := by decide +kernel
theorem dX6_yesAt_7 : decode cX6_yesAt 7 = .ok (.aload_n 0, 1) := by decide +kernel
theorem dX6_yesAt_8 : decode cX6_yesAt 8 = .ok (.getfield 34, 3) := by decide +kernel
theorem dX6_yesAt_11 : decode cX6_yesAt 11 = .ok (.if_icmp .ge 46, 3) := by decide +kernel
theorem dX6_yesAt_14 : decode cX6_yesAt 14 = .ok (.iload_n 2, 1) := by decide +kernel
theorem dX6_yesAt_15 : decode cX6_yesAt 15 = .ok (.iload 4, 2) := by decide +kernel
theorem dX6_yesAt_17 : decode cX6_yesAt 17 = .ok (.ishr, 1) := by decide +kernel
theorem dX6_yesAt_18 : decode cX6_yesAt 18 = .ok (.iconst 1, 1) := by decide +kernel
theorem dX6_yesAt_19 : decode cX6_yesAt 19 = .ok (.iand, 1) := by decide +kernel
theorem dX6_yesAt_20 : decode cX6_yesAt 20 = .ok (.iconst 1, 1) := by decide +kernel
theorem dX6_yesAt_21 : decode cX6_yesAt 21 = .ok (.if_icmp .ne 30, 3) := by decide +kernel
theorem dX6_yesAt_24 : decode cX6_yesAt 24 = .ok (.iload_n 3, 1) := by decide +kernel
theorem dX6_yesAt_25 : decode cX6_yesAt 25 = .ok (.aload_n 0, 1) := by decide +kernel
theorem dX6_yesAt_26 : decode cX6_yesAt 26 = .ok (.getfield 15, 3) := by decide +kernel
theorem dX6_yesAt_29 : decode cX6_yesAt 29 = .ok (.iload 4, 2) := by decide +kernel
theorem dX6_yesAt_31 : decode cX6_yesAt 31 = .ok (.iaload, 1) := by decide +kernel
theorem dX6_yesAt_32 : decode cX6_yesAt 32 = .ok (.iload_n 1, 1) := by decide +kernel
theorem dX6_yesAt_33 : decode cX6_yesAt 33 = .ok (.aload_n 0, 1) := by decide +kernel
theorem dX6_yesAt_34 : decode cX6_yesAt 34 = .ok (.getfield 11, 3) := by decide +kernel
theorem dX6_yesAt_37 : decode cX6_yesAt 37 = .ok (.iload 4, 2) := by decide +kernel
theorem dX6_yesAt_39 : decode cX6_yesAt 39 = .ok (.iaload, 1) := by decide +kernel
theorem dX6_yesAt_40 : decode cX6_yesAt 40 = .ok (.invokestatic 74, 3) := by decide +kernel
theorem dX6_yesAt_43 : decode cX6_yesAt 43 = .ok (.ishr, 1) := by decide +kernel
theorem dX6_yesAt_44 : decode cX6_yesAt 44 = .ok (.iconst 1, 1) := by decide +kernel
theorem dX6_yesAt_45 : decode cX6_yesAt 45 = .ok (.iand, 1) := by decide +kernel
theorem dX6_yesAt_46 : decode cX6_yesAt 46 = .ok (.iload 4, 2) := by decide +kernel
theorem dX6_yesAt_48 : decode cX6_yesAt 48 = .ok (.ishl, 1) := by decide +kernel
theorem dX6_yesAt_49 : decode cX6_yesAt 49 = .ok (.ior, 1) := by decide +kernel
theorem dX6_yesAt_50 : decode cX6_yesAt 50 = .ok (.istore_n 3, 1) := by decide +kernel
theorem dX6_yesAt_51 : decode cX6_yesAt 51 = .ok (.iinc 4 1, 3) := by decide +kernel
theorem dX6_yesAt_54 : decode cX6_yesAt 54 = .ok (.goto (-49), 3) := by decide +kernel
theorem dX6_yesAt_57 : decode cX6_yesAt 57 = .ok (.iload_n 3, 1) := by decide +kernel
theorem dX6_yesAt_58 : decode cX6_yesAt 58 = .ok (.ireturn, 1) := by decide +kernel
abbrev rmX6_yesAt : Room := { frames := 1, cells := 0, slots := 0, locals := 22 }
theorem inX6_yesAt_6 : ∀ w ∈ wsX60, w ∈ wsX6_yesAt := by decide +kernel
def vX6_yesAt_c5 (pa6 : Int32) (rw6 : Int32) (le6 : Nat → Int32) (bi6 : Nat → Int32) (p1 : Int32) (p2 : Int32) (Q : Int32 → Prop) : Nat → Int32 → Int32 → Prop
  | 0, _, _ => False
  | n + 1, x3, x4 => ((rw6 ≤ x4 → (Q x3)) ∧ (¬ rw6 ≤ x4 → ((¬ ((p2 >>> (x4 &&& 31)) &&& (1 : Int32)) = (1 : Int32) → (vX6_yesAt_c5 pa6 rw6 le6 bi6 p1 p2 Q n x3 (x4 + (1 : Int32)))) ∧ (((p2 >>> (x4 &&& 31)) &&& (1 : Int32)) = (1 : Int32) → (vp_in x4 6 ∧ (vp_in x4 6 ∧ (preX8_rest p1 (le6 x4.toNatClampNeg) ∧ (∀ r_40 : Int32, postX8_rest p1 (le6 x4.toNatClampNeg) r_40 → (∀ y_50 : Int32, y_50 = (x3 ||| ((((bi6 x4.toNatClampNeg) >>> (r_40 &&& 31)) &&& (1 : Int32)) <<< (x4 &&& 31))) → (vX6_yesAt_c5 pa6 rw6 le6 bi6 p1 p2 Q n y_50 (x4 + (1 : Int32))))))))))))
set_option maxHeartbeats 4000000 in
set_option maxRecDepth 100000 in
theorem kX6_yesAt_c5 {p : Program} {l : Launch} {e : Env} {s : State} {m : MethodId} {args : Array Value} {below : List Frame} {meth : Method} {c : Code} {g : GP} {qty : Nat} {ql6 : Nat} {qb6 : Nat} {qc6 : Nat} {qk6 : Nat} {qm6 : Nat} {pa6 : Int32} {rw6 : Int32} {le6 : Nat → Int32} {bi6 : Nat → Int32} {p1 : Int32} {p2 : Int32} {Q : Int32 → Prop} (S : CallFix p m c cX6_yesAt 5 s args wsX6_yesAt RX6) (hr : meth.sig.returnType = (some .int)) (hlocks : meth.locks = false) (hG : GK g s) (hP : va_P g.1 vwCl [(qty, .inr (6, [.ref ql6, .ref qb6, .ref qc6, .ref qk6, .ref qm6, .int pa6, .int rw6])), (ql6, .inl (g.2 0, 6, .inl le6)), (qb6, .inl (g.2 0, 6, .inl bi6))] s.heap) : ∀ (n : Nat), ∀ (x3 : Int32) (x4 : Int32), vX6_yesAt_c5 pa6 rw6 le6 bi6 p1 p2 Q n x3 x4 → ∀ (ls : Array Slot), lv_has ls 5 [(0, .ref qty), (1, .int p1), (2, .int p2), (3, .int x3), (4, .int x4)] → W p l e (headSpec wsX6_yesAt rmX6_yesAt).room s m args below meth c s.heap [] 0 0 (MQ below (vp_Si Q) args s 0 0 (fun _ => False)) (F0 m 5 ls []) := by
  obtain ⟨hx, hb, hml, hown, hts⟩ := id S
  have hK := hG.1
  intro n
  induction n with
  | zero => intro x3 x4 hv; exact hv.elim
  | succ n ih =>
    intro x3 x4 hv ls hl
    refine lv_iload hx hb dX6_yesAt_5 (lv_at hl 4 rfl) ?_
    refine lv_aload_n hx hb dX6_yesAt_7 rfl (lv_at hl 0 rfl) ?_
    refine va_get (D := g.1) (ci := 6) (v := .int rw6) (C := RX6) (T := TX6) (N := 7) hx hb hts inX6_yesAt_6 hown hK hP 0 rfl rfl 6 (by decide) (hts (.fieldLink RX6 34 "RangeCodes$Tally" "rows" "I") (List.mem_of_getElem? (i := 1) rfl)) (fun _ h9 => h9) rfl dX6_yesAt_8 ?_
    obtain ⟨hvt, hvf⟩ := hv
    refine lv_icmp_ge (tgt := 57) hx hb dX6_yesAt_11 (by decide) (fun hc => ?_) (fun hc => ?_)
    · have hv := hvt hc
      refine lv_iload_n hx hb dX6_yesAt_57 rfl (lv_at hl 3 rfl) ?_
      exact W.iret (v := x3) hx hb hr (fun t ht hW => ⟨_, rfl, hv, ht⟩) (fun _ h => by cases h) dX6_yesAt_58
    · have hv := hvf hc
      refine lv_iload_n hx hb dX6_yesAt_14 rfl (lv_at hl 2 rfl) ?_
      refine lv_iload hx hb dX6_yesAt_15 (lv_at hl 4 rfl) ?_
      refine lv_ishr hx hb dX6_yesAt_17 ?_
      refine lv_iconst (v := (1 : Int32)) hx hb dX6_yesAt_18 (by decide) ?_
      refine lv_iand hx hb dX6_yesAt_19 ?_
      refine lv_iconst (v := (1 : Int32)) hx hb dX6_yesAt_20 (by decide) ?_
      obtain ⟨hvt, hvf⟩ := hv
      refine lv_icmp_ne (tgt := 51) hx hb dX6_yesAt_21 (by decide) (fun hc => ?_) (fun hc => ?_)
      · have hv := hvt hc
        refine lv_iinc (v := (x4 + (1 : Int32))) (lv' := [(4, .int (x4 + (1 : Int32))), (0, .ref qty), (1, .int p1), (2, .int p2), (3, .int x3)]) hx hb dX6_yesAt_51 hl (k := 4) rfl rfl (by decide) rfl (fun ls hl => ?_)
        refine lv_goto (tgt := 5) hx hb dX6_yesAt_54 (by decide) ?_
        exact ih _ _ hv ls (lv_sub hl [1, 2, 3, 4, 0] rfl)
      · have hv := hvf hc
        refine lv_iload_n hx hb dX6_yesAt_24 rfl (lv_at hl 3 rfl) ?_
        refine lv_aload_n hx hb dX6_yesAt_25 rfl (lv_at hl 0 rfl) ?_
        refine va_get (D := g.1) (ci := 6) (v := .ref qb6) (C := RX6) (T := TX6) (N := 7) hx hb hts inX6_yesAt_6 hown hK hP 0 rfl rfl 1 (by decide) (hts (.fieldLink RX6 15 "RangeCodes$Tally" "bits" "[I") (List.mem_of_getElem? (i := 2) rfl)) (fun _ h9 => h9) rfl dX6_yesAt_26 ?_
        refine lv_iload hx hb dX6_yesAt_29 (lv_at hl 4 rfl) ?_
        obtain ⟨ho_1, hv⟩ := hv
        refine va_iald hx hb hK hP 2 0 rfl rfl ho_1 dX6_yesAt_31 ?_
        refine lv_iload_n hx hb dX6_yesAt_32 rfl (lv_at hl 1 rfl) ?_
        refine lv_aload_n hx hb dX6_yesAt_33 rfl (lv_at hl 0 rfl) ?_
        refine va_get (D := g.1) (ci := 6) (v := .ref ql6) (C := RX6) (T := TX6) (N := 7) hx hb hts inX6_yesAt_6 hown hK hP 0 rfl rfl 0 (by decide) (hts (.fieldLink RX6 11 "RangeCodes$Tally" "lengths" "[I") (List.mem_of_getElem? (i := 3) rfl)) (fun _ h9 => h9) rfl dX6_yesAt_34 ?_
        refine lv_iload hx hb dX6_yesAt_37 (lv_at hl 4 rfl) ?_
        obtain ⟨ho_2, hv⟩ := hv
        refine va_iald hx hb hK hP 1 0 rfl rfl ho_2 dX6_yesAt_39 ?_
        obtain ⟨ho_3, hv⟩ := hv
        refine vp_callSi (run_of (va_runSN (As := [.int p1, .int (le6 x4.toNatClampNeg)]) (rest := [.int (bi6 x4.toNatClampNeg), .int x3]) S (wX8_rest l g p1 (le6 x4.toNatClampNeg) (sX8_rest p1 (le6 x4.toNatClampNeg) ho_3)) ⟨va_cnB 2 hts gX6_yesAt_X8_rest_n74 rfl rfl rfl (hG.2 _ (List.mem_of_getElem? (i := 7) rfl)) (hts (.initialized RX8) (List.mem_of_getElem? (i := 5) rfl)) (by decide +kernel) ⟨Nat.le_of_ble_eq_true rfl, Nat.le_of_ble_eq_true rfl⟩, (hts (.static yX8_rest) (List.mem_of_getElem? (i := 4) rfl)), trivial⟩ ⟨blindRO, fun U hU hW => ⟨rfl, by rw [hU]; exact hP.sub (ws' := []) [] rfl, hG.warm hW⟩⟩ rfl rfl hl.1 rfl (lv_room (Nat.le_of_ble_eq_true rfl)) dX6_yesAt_40 ⟨Nat.le_of_ble_eq_true rfl, Nat.le_of_ble_eq_true rfl⟩)) (fun r_40 hr_40 => ?_)
        have hv := hv r_40 hr_40
        refine lv_ishr hx hb dX6_yesAt_43 ?_
        refine lv_iconst (v := (1 : Int32)) hx hb dX6_yesAt_44 (by decide) ?_
        refine lv_iand hx hb dX6_yesAt_45 ?_
        refine lv_iload hx hb dX6_yesAt_46 (lv_at hl 4 rfl) ?_
        refine lv_ishl hx hb dX6_yesAt_48 ?_
        refine lv_ior hx hb dX6_yesAt_49 ?_
        refine lv_topi (fun y_50 ey_50 => ?_)
        have hv := hv y_50 ey_50
        refine lv_istore_n (lv' := [(3, .int y_50), (0, .ref qty), (1, .int p1), (2, .int p2), (4, .int x4)]) hx hb dX6_yesAt_50 rfl hl (by decide) rfl (fun ls hl => ?_)
        refine lv_iinc (v := (x4 + (1 : Int32))) (lv' := [(4, .int (x4 + (1 : Int32))), (3, .int y_50), (0, .ref qty), (1, .int p1), (2, .int p2)]) hx hb dX6_yesAt_51 hl (k := 4) rfl rfl (by decide) rfl (fun ls hl => ?_)
        refine lv_goto (tgt := 5) hx hb dX6_yesAt_54 (by decide) ?_
        exact ih _ _ hv ls (lv_sub hl [2, 3, 4, 1, 0] rfl)
def vX6_yesAt (pa6 : Int32) (rw6 : Int32) (le6 : Nat → Int32) (bi6 : Nat → Int32) (p1 : Int32) (p2 : Int32) (Q : Int32 → Prop) : Prop := (∃ nn, vX6_yesAt_c5 pa6 rw6 le6 bi6 p1 p2 Q nn (0 : Int32) (0 : Int32))
set_option maxHeartbeats 4000000 in
set_option maxRecDepth 100000 in
theorem wX6_yesAt (l : Launch) (g : GP) (qty : Nat) (ql6 : Nat) (qb6 : Nat) (qc6 : Nat) (qk6 : Nat) (qm6 : Nat) (pa6 : Int32) (rw6 : Int32) (le6 : Nat → Int32) (bi6 : Nat → Int32) (p1 : Int32) (p2 : Int32) {Q : Int32 → Prop} (hv : vX6_yesAt pa6 rw6 le6 bi6 p1 p2 Q) : Met l yX6_yesAt wsX6_yesAt rmX6_yesAt (va_Pc [.ref qty, .int p1, .int p2] (fun U => va_P g.1 vwCl [(qty, .inr (6, [.ref ql6, .ref qb6, .ref qc6, .ref qk6, .ref qm6, .int pa6, .int rw6])), (ql6, .inl (g.2 0, 6, .inl le6)), (qb6, .inl (g.2 0, 6, .inl bi6))] U.heap ∧ GK g U)) (vp_Si Q) 0 0 (fun _ => False) := by
  refine Met.ofW (cc := cX6_yesAt) (maxL := 5) (ret := (some .int)) (by decide) rfl ?_
  intro p e s m args below meth c s₁ B hml hv'
  obtain ⟨rfl, hP, hG⟩ := hv'
  have S : CallFix p m c cX6_yesAt 5 s _ wsX6_yesAt RX6 := ⟨B.exec, B.bytes, hml, findClass_of_methodNamed B.named, atoms_spec (ws := wsX6_yesAt) B.pre⟩
  obtain ⟨hx, hb, hml, hown, hts⟩ := id S
  have hK := hG.1
  have hr := B.returns
  have hlocks := B.notSynchronized
  have hl := lv_entry ([.ref qty, .int p1, .int p2]) (n := 5) (Nat.le_of_ble_eq_true rfl)
  rw [lg_entry_eq]
  generalize (lg_sl ([.ref qty, .int p1, .int p2]) ++ List.replicate (5 - (lg_sl ([.ref qty, .int p1, .int p2])).length) Slot.unset).toArray = ls at hl ⊢
  have hl : lv_has ls 5 [(0, .ref qty), (1, .int p1), (2, .int p2)] := hl
  unfold vX6_yesAt at hv
  refine lv_iconst (v := (0 : Int32)) hx hb dX6_yesAt_0 (by decide) ?_
  refine lv_istore_n (lv' := [(3, .int (0 : Int32)), (0, .ref qty), (1, .int p1), (2, .int p2)]) hx hb dX6_yesAt_1 rfl hl (by decide) rfl (fun ls hl => ?_)
  refine lv_iconst (v := (0 : Int32)) hx hb dX6_yesAt_2 (by decide) ?_
  refine lv_istore (lv' := [(4, .int (0 : Int32)), (3, .int (0 : Int32)), (0, .ref qty), (1, .int p1), (2, .int p2)]) hx hb dX6_yesAt_3 hl (by decide) rfl (fun ls hl => ?_)
  obtain ⟨nn, hv⟩ := hv
  exact kX6_yesAt_c5 S hr hlocks hG hP nn _ _ hv ls (lv_sub hl [2, 3, 4, 1, 0] rfl)
abbrev preX6_yesAt (R : Cd) (t : Nat) (K : Nat) (pa6 : Int32) (rw6 : Int32) (le6 : Nat → Int32) (bi6 : Nat → Int32) (p1 : Int32) (p2 : Int32) : Prop := tyR R rw6 le6 bi6 ∧ p1.toInt = (t : Int) ∧ p2.toInt = (K : Int)
abbrev postX6_yesAt (R : Cd) (t : Nat) (K : Nat) (pa6 : Int32) (rw6 : Int32) (le6 : Nat → Int32) (bi6 : Nat → Int32) (p1 : Int32) (p2 : Int32) (r : Int32) : Prop := r.toInt = (yS R K t : Int)
theorem sX6_yesAt_5 (R : Cd) (t : Nat) (K : Nat) (pa6 : Int32) (rw6 : Int32) (le6 : Nat → Int32) (bi6 : Nat → Int32) (p1 : Int32) (p2 : Int32) (H : preX6_yesAt R t K pa6 rw6 le6 bi6 p1 p2) : ∀ (f k : Nat) (x3 x4 : Int32), x3.toInt = (trN (fun k => K.testBit k && chB R k (t : Int)) k : Int) → x4.toInt = (k : Int) → k ≤ cn R → cn R + 1 ≤ k + f → vX6_yesAt_c5 pa6 rw6 le6 bi6 p1 p2 (postX6_yesAt R t K pa6 rw6 le6 bi6 p1 p2) f x3 x4
  | 0, k, x3, x4, _, _, _, hf => absurd hf (by omega)
  | f + 1, k, x3, x4, h3, h4, hk, hf => by
    obtain ⟨⟨a1, a2, a3, a4⟩, hp1, hp2⟩ := id H
    rw [vX6_yesAt_c5, q_le a1 h4, q_bitB hp2 h4 (by omega)]
    refine ⟨fun c => ?_, fun c => ⟨fun d => sX6_yesAt_5 R t K pa6 rw6 le6 bi6 p1 p2 H f (k + 1) _ _ ?_ (q_1 h4 (by omega)) (by omega) (by omega), fun d => ⟨q_in h4 (by omega), q_in h4 (by omega), ?_⟩⟩⟩
    · have e : k = cn R := by omega
      rw [e] at h3; exact h3
    · rw [trN, if_neg (by simp [d]), Nat.add_zero]; exact h3
    · have hL := a3 k (by omega)
      have hR := a4 k (by omega)
      rw [q_cl h4]
      refine ⟨by show 0 < (le6 k).toInt; omega, fun r hr y ey => ?_⟩
      have hr : r.toInt = ((t % cL R k : Nat) : Int) := by rw [show r.toInt = p1.toInt % (le6 k).toInt from hr, hp1, hL.1]; rfl
      have hm := Nat.mod_lt t (show 0 < cL R k by omega)
      have hbt := q_bit hR.1 hr (by omega)
      have hch : chB R k (t : Int) = (cR R k).testBit (t % cL R k) := by
        unfold chB
        rw [← Int.natCast_emod]; rfl
      have hlt := trN_lt (fun k => K.testBit k && chB R k (t : Int)) k
      have hp : 2 ^ k ≤ 2 ^ 5 := Nat.pow_le_pow_right (by decide) (by omega)
      refine sX6_yesAt_5 R t K pa6 rw6 le6 bi6 p1 p2 H f (k + 1) _ _ ?_ (q_1 h4 (by omega)) (by omega) (by omega)
      rw [ey, hbt, trN, hch]
      cases e : (cR R k).testBit (t % cL R k)
      · have e1 := q_shlN (x := (0 : Int32)) (a := 0) rfl h4 (by omega) (by omega)
        rw [if_neg (by decide), q_orS (b := 0) h3 hlt (by rw [e1]; omega) (by omega), if_neg (by simp)]
        omega
      · have e1 := q_shlN (x := (1 : Int32)) (a := 1) rfl h4 (by omega) (by omega)
        rw [if_pos rfl, q_orS (b := 1) h3 hlt (by rw [e1]; omega) (by omega), if_pos (by simp [d])]
        omega
theorem sX6_yesAt (R : Cd) (t : Nat) (K : Nat) (pa6 : Int32) (rw6 : Int32) (le6 : Nat → Int32) (bi6 : Nat → Int32) (p1 : Int32) (p2 : Int32) (H : preX6_yesAt R t K pa6 rw6 le6 bi6 p1 p2) : vX6_yesAt pa6 rw6 le6 bi6 p1 p2 (postX6_yesAt R t K pa6 rw6 le6 bi6 p1 p2) := ⟨cn R + 1, sX6_yesAt_5 R t K pa6 rw6 le6 bi6 p1 p2 H _ 0 0 0 rfl rfl (by omega) (by omega)⟩
set_option maxRecDepth 20000 in
theorem ggX6_mix_J7_fill_53178 : GoodIn wsX6_mix wsJ7_fill_53178 := goodIn_r _ [11] (by decide +kernel) (by decide +kernel)
set_option maxRecDepth 20000 in
theorem gX6_mix_J7_fill_53178 : GoodIn wsX6_mix (va_wsS RX6 46 yJ7_fill_53178 wsJ7_fill_53178) := goodIn_app (goodIn_of _ (by decide +kernel)) ggX6_mix_J7_fill_53178
theorem dX6_mix_0 : decode cX6_mix 0 = .ok (.aload_n 0, 1) := by decide +kernel
theorem dX6_mix_1 : decode cX6_mix 1 = .ok (.getfield 24, 3) := by decide +kernel
theorem dX6_mix_4 : decode cX6_mix 4 = .ok (.iconst 0, 1) := by decide +kernel
theorem dX6_mix_5 : decode cX6_mix 5 = .ok (.invokestatic 46, 3) := by decide +kernel
theorem dX6_mix_8 : decode cX6_mix 8 = .ok (.iconst 0, 1) := by decide +kernel
theorem dX6_mix_9 : decode cX6_mix 9 = .ok (.istore_n 1, 1) := by decide +kernel
theorem dX6_mix_10 : decode cX6_mix 10 = .ok (.iload_n 1, 1) := by decide +kernel
theorem dX6_mix_11 : decode cX6_mix 11 = .ok (.bipush 64, 2) := by decide +kernel
theorem dX6_mix_13 : decode cX6_mix 13 = .ok (.if_icmp .ge 56, 3) := by decide +kernel
theorem dX6_mix_16 : decode cX6_mix 16 = .ok (.iconst 0, 1) := by decide +kernel
theorem dX6_mix_17 : decode cX6_mix 17 = .ok (.istore_n 2, 1) := by decide +kernel
theorem dX6_mix_18 : decode cX6_mix 18 = .ok (.iload_n 2, 1) := by decide +kernel
theorem dX6_mix_19 : decode cX6_mix 19 = .ok (.bipush 64, 2) := by decide +kernel
theorem dX6_mix_21 : decode cX6_mix 21 = .ok (.if_icmp .ge 42, 3) := by decide +kernel
theorem dX6_mix_24 : decode cX6_mix 24 = .ok (.aload_n 0, 1) := by decide +kernel
theorem dX6_mix_25 : decode cX6_mix 25 = .ok (.getfield 18, 3) := by decide +kernel
theorem dX6_mix_28 : decode cX6_mix 28 = .ok (.iload_n 1, 1) := by decide +kernel
theorem dX6_mix_29 : decode cX6_mix 29 = .ok (.iaload, 1) := by decide +kernel
theorem dX6_mix_30 : decode cX6_mix 30 = .ok (.ifCond .eq 33, 3) := by decide +kernel
theorem dX6_mix_33 : decode cX6_mix 33 = .ok (.aload_n 0, 1) := by decide +kernel
theorem dX6_mix_34 : decode cX6_mix 34 = .ok (.getfield 24, 3) := by decide +kernel
theorem dX6_mix_37 : decode cX6_mix 37 = .ok (.iload_n 1, 1) := by decide +kernel
theorem dX6_mix_38 : decode cX6_mix 38 = .ok (.iload_n 2, 1) := by decide +kernel
theorem dX6_mix_39 : decode cX6_mix 39 = .ok (.ior, 1) := by decide +kernel
theorem dX6_mix_40 : decode cX6_mix 40 = .ok (.dup2, 1) := by decide +kernel
theorem dX6_mix_41 : decode cX6_mix 41 = .ok (.iaload, 1) := by decide +kernel
theorem dX6_mix_42 : decode cX6_mix 42 = .ok (.aload_n 0, 1) := by decide +kernel
theorem dX6_mix_43 : decode cX6_mix 43 = .ok (.getfield 18, 3) := by decide +kernel
theorem dX6_mix_46 : decode cX6_mix 46 = .ok (.iload_n 1, 1) := by decide +kernel
theorem dX6_mix_47 : decode cX6_mix 47 = .ok (.iaload, 1) := by decide +kernel
theorem dX6_mix_48 : decode cX6_mix 48 = .ok (.aload_n 0, 1) := by decide +kernel
theorem dX6_mix_49 : decode cX6_mix 49 = .ok (.getfield 21, 3) := by decide +kernel
theorem dX6_mix_52 : decode cX6_mix 52 = .ok (.iload_n 2, 1) := by decide +kernel
theorem dX6_mix_53 : decode cX6_mix 53 = .ok (.iaload, 1) := by decide +kernel
theorem dX6_mix_54 : decode cX6_mix 54 = .ok (.imul, 1) := by decide +kernel
theorem dX6_mix_55 : decode cX6_mix 55 = .ok (.iadd, 1) := by decide +kernel
theorem dX6_mix_56 : decode cX6_mix 56 = .ok (.iastore, 1) := by decide +kernel
theorem dX6_mix_57 : decode cX6_mix 57 = .ok (.iinc 2 1, 3) := by decide +kernel
theorem dX6_mix_60 : decode cX6_mix 60 = .ok (.goto (-42), 3) := by decide +kernel
theorem dX6_mix_63 : decode cX6_mix 63 = .ok (.iinc 1 1, 3) := by decide +kernel
theorem dX6_mix_66 : decode cX6_mix 66 = .ok (.goto (-56), 3) := by decide +kernel
theorem dX6_mix_69 : decode cX6_mix 69 = .ok (.aload_n 0, 1) := by decide +kernel
theorem dX6_mix_70 : decode cX6_mix 70 = .ok (.getfield 24, 3) := by decide +kernel
theorem dX6_mix_73 : decode cX6_mix 73 = .ok (.iconst 0, 1) := by decide +kernel
theorem dX6_mix_74 : decode cX6_mix 74 = .ok (.aload_n 0, 1) := by decide +kernel
theorem dX6_mix_75 : decode cX6_mix 75 = .ok (.getfield 18, 3) := by decide +kernel
theorem dX6_mix_78 : decode cX6_mix 78 = .ok (.iconst 0, 1) := by decide +kernel
theorem dX6_mix_79 : decode cX6_mix 79 = .ok (.bipush 64, 2) := by decide +kernel
theorem dX6_mix_81 : decode cX6_mix 81 = .ok (.invokestatic 38, 3) := by decide +kernel
theorem dX6_mix_84 : decode cX6_mix 84 = .ok (.return_, 1) := by decide +kernel
abbrev rmX6_mix : Room := { frames := 1, cells := 0, slots := 0, locals := 40 }
theorem inX6_mix_6 : ∀ w ∈ wsX60, w ∈ wsX6_mix := by decide +kernel
def vX6_mix_c18 (pa6 : Int32) (rw6 : Int32) (ki6 : Nat → Int32) (Q : (Nat → Int32) → (Nat → Int32) → Prop) (K10 : Int32 → (Nat → Int32) → (Nat → Int32) → Prop) : Nat → Int32 → Int32 → (Nat → Int32) → (Nat → Int32) → Prop
  | 0, _, _, _, _ => False
  | n + 1, x1, x2, co6, mi6 => (((64 : Int32) ≤ x2 → (K10 (x1 + (1 : Int32)) co6 mi6)) ∧ (¬ (64 : Int32) ≤ x2 → (vp_in x1 64 ∧ (((co6 x1.toNatClampNeg) = 0 → (K10 (x1 + (1 : Int32)) co6 mi6)) ∧ (¬ (co6 x1.toNatClampNeg) = 0 → (vp_in (x1 ||| x2) 64 ∧ (vp_in x1 64 ∧ (vp_in x2 64 ∧ (∀ a_56 : Int32, a_56 = ((mi6 (x1 ||| x2).toNatClampNeg) + ((co6 x1.toNatClampNeg) * (ki6 x2.toNatClampNeg))) → (vp_in (x1 ||| x2) 64 ∧ (vX6_mix_c18 pa6 rw6 ki6 Q K10 n x1 (x2 + (1 : Int32)) co6 (upd mi6 (x1 ||| x2).toNatClampNeg a_56))))))))))))
set_option maxHeartbeats 4000000 in
set_option maxRecDepth 100000 in
theorem kX6_mix_c18 {p : Program} {l : Launch} {e : Env} {s : State} {m : MethodId} {args : Array Value} {below : List Frame} {meth : Method} {c : Code} {g : GP} {qty : Nat} {ql6 : Nat} {qb6 : Nat} {qc6 : Nat} {qk6 : Nat} {qm6 : Nat} {pa6 : Int32} {rw6 : Int32} {ki6 : Nat → Int32}  {Q : (Nat → Int32) → (Nat → Int32) → Prop} {A : Nat → Prop} {K10 : Int32 → (Nat → Int32) → (Nat → Int32) → Prop} (S : CallFix p m c cX6_mix 3 s args wsX6_mix RX6) (hr : meth.sig.returnType = none) (hlocks : meth.locks = false) (hG : GK g s) (hA : ∀ q : Nat, s.heap.size ≤ q → A q) (kk10 : ∀ (x1 : Int32) (co6 : Nat → Int32) (mi6 : Nat → Int32), K10 x1 co6 mi6 → ∀ (H : Heap) (locs : List Loc), va_P g.1 vwCl [(qty, .inr (6, [.ref ql6, .ref qb6, .ref qc6, .ref qk6, .ref qm6, .int pa6, .int rw6])), (qc6, .inl (g.2 0, 64, .inl co6)), (qk6, .inl (g.2 0, 64, .inl ki6)), (qm6, .inl (g.2 0, 64, .inl mi6))] H → va_D A [(qty, .inr (6, [.ref ql6, .ref qb6, .ref qc6, .ref qk6, .ref qm6, .int pa6, .int rw6])), (qc6, .inl (g.2 0, 64, .inl co6)), (qk6, .inl (g.2 0, 64, .inl ki6)), (qm6, .inl (g.2 0, 64, .inl mi6))] → va_S A s.heap H locs → ∀ (ls : Array Slot), lv_has ls 3 [(0, .ref qty), (1, .int x1)] → W p l e (headSpec wsX6_mix rmX6_mix).room s m args below meth c H locs 0 0 (MQ below (va_Qv (fun (u : (Nat → Int32) × (Nat → Int32)) => Q u.1 u.2) (fun (u : (Nat → Int32) × (Nat → Int32)) t => va_P g.1 vwCl [(qty, .inr (6, [.ref ql6, .ref qb6, .ref qc6, .ref qk6, .ref qm6, .int pa6, .int rw6])), (qc6, .inl (g.2 0, 64, .inl u.1)), (qk6, .inl (g.2 0, 64, .inl ki6)), (qm6, .inl (g.2 0, 64, .inl u.2))] t.heap ∧ va_D A [(qty, .inr (6, [.ref ql6, .ref qb6, .ref qc6, .ref qk6, .ref qm6, .int pa6, .int rw6])), (qc6, .inl (g.2 0, 64, .inl u.1)), (qk6, .inl (g.2 0, 64, .inl ki6)), (qm6, .inl (g.2 0, 64, .inl u.2))]) A) args s 0 0 A) (F0 m 10 ls [])) : ∀ (n : Nat), ∀ (x1 : Int32) (x2 : Int32) (co6 : Nat → Int32) (mi6 : Nat → Int32), vX6_mix_c18 pa6 rw6 ki6 Q K10 n x1 x2 co6 mi6 → ∀ (H : Heap) (locs : List Loc), va_P g.1 vwCl [(qty, .inr (6, [.ref ql6, .ref qb6, .ref qc6, .ref qk6, .ref qm6, .int pa6, .int rw6])), (qc6, .inl (g.2 0, 64, .inl co6)), (qk6, .inl (g.2 0, 64, .inl ki6)), (qm6, .inl (g.2 0, 64, .inl mi6))] H → va_D A [(qty, .inr (6, [.ref ql6, .ref qb6, .ref qc6, .ref qk6, .ref qm6, .int pa6, .int rw6])), (qc6, .inl (g.2 0, 64, .inl co6)), (qk6, .inl (g.2 0, 64, .inl ki6)), (qm6, .inl (g.2 0, 64, .inl mi6))] → va_S A s.heap H locs → ∀ (ls : Array Slot), lv_has ls 3 [(0, .ref qty), (1, .int x1), (2, .int x2)] → W p l e (headSpec wsX6_mix rmX6_mix).room s m args below meth c H locs 0 0 (MQ below (va_Qv (fun (u : (Nat → Int32) × (Nat → Int32)) => Q u.1 u.2) (fun (u : (Nat → Int32) × (Nat → Int32)) t => va_P g.1 vwCl [(qty, .inr (6, [.ref ql6, .ref qb6, .ref qc6, .ref qk6, .ref qm6, .int pa6, .int rw6])), (qc6, .inl (g.2 0, 64, .inl u.1)), (qk6, .inl (g.2 0, 64, .inl ki6)), (qm6, .inl (g.2 0, 64, .inl u.2))] t.heap ∧ va_D A [(qty, .inr (6, [.ref ql6, .ref qb6, .ref qc6, .ref qk6, .ref qm6, .int pa6, .int rw6])), (qc6, .inl (g.2 0, 64, .inl u.1)), (qk6, .inl (g.2 0, 64, .inl ki6)), (qm6, .inl (g.2 0, 64, .inl u.2))]) A) args s 0 0 A) (F0 m 18 ls []) := by
  obtain ⟨hx, hb, hml, hown, hts⟩ := id S
  have hK := hG.1
  intro n
  induction n with
  | zero => intro x1 x2 co6 mi6 hv; exact hv.elim
  | succ n ih =>
    intro x1 x2 co6 mi6 hv H locs hP hD hS ls hl
    refine lv_iload_n hx hb dX6_mix_18 rfl (lv_at hl 2 rfl) ?_
    refine lv_bipush (v := (64 : Int32)) hx hb dX6_mix_19 (by decide) ?_
    obtain ⟨hvt, hvf⟩ := hv
    refine lv_icmp_ge (tgt := 63) hx hb dX6_mix_21 (by decide) (fun hc => ?_) (fun hc => ?_)
    · have hv := hvt hc
      refine lv_iinc (v := (x1 + (1 : Int32))) (lv' := [(1, .int (x1 + (1 : Int32))), (0, .ref qty), (2, .int x2)]) hx hb dX6_mix_63 hl (k := 1) rfl rfl (by decide) rfl (fun ls hl => ?_)
      refine lv_goto (tgt := 10) hx hb dX6_mix_66 (by decide) ?_
      exact kk10 _ _ _ hv _ _ (hP.sub (ws' := [(qty, .inr (6, [.ref ql6, .ref qb6, .ref qc6, .ref qk6, .ref qm6, .int pa6, .int rw6])), (qc6, .inl (g.2 0, 64, .inl co6)), (qk6, .inl (g.2 0, 64, .inl ki6)), (qm6, .inl (g.2 0, 64, .inl mi6))]) [0, 1, 2, 3] rfl) (hD.sub (ws' := [(qty, .inr (6, [.ref ql6, .ref qb6, .ref qc6, .ref qk6, .ref qm6, .int pa6, .int rw6])), (qc6, .inl (g.2 0, 64, .inl co6)), (qk6, .inl (g.2 0, 64, .inl ki6)), (qm6, .inl (g.2 0, 64, .inl mi6))]) [0, 1, 2, 3] (by decide) rfl) hS ls (lv_sub hl [1, 0] rfl)
    · have hv := hvf hc
      refine lv_aload_n hx hb dX6_mix_24 rfl (lv_at hl 0 rfl) ?_
      refine va_get (D := g.1) (ci := 6) (v := .ref qc6) (C := RX6) (T := TX6) (N := 7) hx hb hts inX6_mix_6 hown hK hP 0 rfl rfl 2 (by decide) (hts (.fieldLink RX6 18 "RangeCodes$Tally" "counts" "[I") (List.mem_of_getElem? (i := 2) rfl)) (fun _ h9 => h9) rfl dX6_mix_25 ?_
      refine lv_iload_n hx hb dX6_mix_28 rfl (lv_at hl 1 rfl) ?_
      obtain ⟨ho_1, hv⟩ := hv
      refine va_iald hx hb hK hP 1 0 rfl rfl ho_1 dX6_mix_29 ?_
      obtain ⟨hvt, hvf⟩ := hv
      refine lv_if_eq (tgt := 63) hx hb dX6_mix_30 (by decide) (fun hc => ?_) (fun hc => ?_)
      · have hv := hvt hc
        refine lv_iinc (v := (x1 + (1 : Int32))) (lv' := [(1, .int (x1 + (1 : Int32))), (0, .ref qty), (2, .int x2)]) hx hb dX6_mix_63 hl (k := 1) rfl rfl (by decide) rfl (fun ls hl => ?_)
        refine lv_goto (tgt := 10) hx hb dX6_mix_66 (by decide) ?_
        exact kk10 _ _ _ hv _ _ (hP.sub (ws' := [(qty, .inr (6, [.ref ql6, .ref qb6, .ref qc6, .ref qk6, .ref qm6, .int pa6, .int rw6])), (qc6, .inl (g.2 0, 64, .inl co6)), (qk6, .inl (g.2 0, 64, .inl ki6)), (qm6, .inl (g.2 0, 64, .inl mi6))]) [0, 1, 2, 3] rfl) (hD.sub (ws' := [(qty, .inr (6, [.ref ql6, .ref qb6, .ref qc6, .ref qk6, .ref qm6, .int pa6, .int rw6])), (qc6, .inl (g.2 0, 64, .inl co6)), (qk6, .inl (g.2 0, 64, .inl ki6)), (qm6, .inl (g.2 0, 64, .inl mi6))]) [0, 1, 2, 3] (by decide) rfl) hS ls (lv_sub hl [1, 0] rfl)
      · have hv := hvf hc
        refine lv_aload_n hx hb dX6_mix_33 rfl (lv_at hl 0 rfl) ?_
        refine va_get (D := g.1) (ci := 6) (v := .ref qm6) (C := RX6) (T := TX6) (N := 7) hx hb hts inX6_mix_6 hown hK hP 0 rfl rfl 4 (by decide) (hts (.fieldLink RX6 24 "RangeCodes$Tally" "mixed" "[I") (List.mem_of_getElem? (i := 1) rfl)) (fun _ h9 => h9) rfl dX6_mix_34 ?_
        refine lv_iload_n hx hb dX6_mix_37 rfl (lv_at hl 1 rfl) ?_
        refine lv_iload_n hx hb dX6_mix_38 rfl (lv_at hl 2 rfl) ?_
        refine lv_ior hx hb dX6_mix_39 ?_
        refine lv_dup2_11 hx hb dX6_mix_40 rfl rfl ?_
        obtain ⟨ho_2, hv⟩ := hv
        refine va_iald hx hb hK hP 3 0 rfl rfl ho_2 dX6_mix_41 ?_
        refine lv_aload_n hx hb dX6_mix_42 rfl (lv_at hl 0 rfl) ?_
        refine va_get (D := g.1) (ci := 6) (v := .ref qc6) (C := RX6) (T := TX6) (N := 7) hx hb hts inX6_mix_6 hown hK hP 0 rfl rfl 2 (by decide) (hts (.fieldLink RX6 18 "RangeCodes$Tally" "counts" "[I") (List.mem_of_getElem? (i := 2) rfl)) (fun _ h9 => h9) rfl dX6_mix_43 ?_
        refine lv_iload_n hx hb dX6_mix_46 rfl (lv_at hl 1 rfl) ?_
        obtain ⟨ho_3, hv⟩ := hv
        refine va_iald hx hb hK hP 1 0 rfl rfl ho_3 dX6_mix_47 ?_
        refine lv_aload_n hx hb dX6_mix_48 rfl (lv_at hl 0 rfl) ?_
        refine va_get (D := g.1) (ci := 6) (v := .ref qk6) (C := RX6) (T := TX6) (N := 7) hx hb hts inX6_mix_6 hown hK hP 0 rfl rfl 3 (by decide) (hts (.fieldLink RX6 21 "RangeCodes$Tally" "kinCounts" "[I") (List.mem_of_getElem? (i := 3) rfl)) (fun _ h9 => h9) rfl dX6_mix_49 ?_
        refine lv_iload_n hx hb dX6_mix_52 rfl (lv_at hl 2 rfl) ?_
        obtain ⟨ho_4, hv⟩ := hv
        refine va_iald hx hb hK hP 2 0 rfl rfl ho_4 dX6_mix_53 ?_
        refine lv_imul hx hb dX6_mix_54 ?_
        refine lv_iadd hx hb dX6_mix_55 ?_
        refine lv_topi (fun a_56 ea_56 => ?_)
        have hv := hv a_56 ea_56
        obtain ⟨ho_5, hv⟩ := hv
        refine va_iast hx hb hK hP hD hS 3 0 rfl rfl ho_5 dX6_mix_56 (fun H locs hP hD hS => ?_)
        have hP : va_P g.1 vwCl [(qty, .inr (6, [.ref ql6, .ref qb6, .ref qc6, .ref qk6, .ref qm6, .int pa6, .int rw6])), (qc6, .inl (g.2 0, 64, .inl co6)), (qk6, .inl (g.2 0, 64, .inl ki6)), (qm6, .inl (g.2 0, 64, .inl (upd mi6 (x1 ||| x2).toNatClampNeg a_56)))] H := hP
        have hD : va_D A [(qty, .inr (6, [.ref ql6, .ref qb6, .ref qc6, .ref qk6, .ref qm6, .int pa6, .int rw6])), (qc6, .inl (g.2 0, 64, .inl co6)), (qk6, .inl (g.2 0, 64, .inl ki6)), (qm6, .inl (g.2 0, 64, .inl (upd mi6 (x1 ||| x2).toNatClampNeg a_56)))] := hD
        refine lv_iinc (v := (x2 + (1 : Int32))) (lv' := [(2, .int (x2 + (1 : Int32))), (0, .ref qty), (1, .int x1)]) hx hb dX6_mix_57 hl (k := 2) rfl rfl (by decide) rfl (fun ls hl => ?_)
        refine lv_goto (tgt := 18) hx hb dX6_mix_60 (by decide) ?_
        exact ih _ _ _ _ hv _ _ (hP.sub (ws' := [(qty, .inr (6, [.ref ql6, .ref qb6, .ref qc6, .ref qk6, .ref qm6, .int pa6, .int rw6])), (qc6, .inl (g.2 0, 64, .inl co6)), (qk6, .inl (g.2 0, 64, .inl ki6)), (qm6, .inl (g.2 0, 64, .inl (upd mi6 (x1 ||| x2).toNatClampNeg a_56)))]) [0, 1, 2, 3] rfl) (hD.sub (ws' := [(qty, .inr (6, [.ref ql6, .ref qb6, .ref qc6, .ref qk6, .ref qm6, .int pa6, .int rw6])), (qc6, .inl (g.2 0, 64, .inl co6)), (qk6, .inl (g.2 0, 64, .inl ki6)), (qm6, .inl (g.2 0, 64, .inl (upd mi6 (x1 ||| x2).toNatClampNeg a_56)))]) [0, 1, 2, 3] (by decide) rfl) hS ls (lv_sub hl [1, 2, 0] rfl)
def vX6_mix_c10 (pa6 : Int32) (rw6 : Int32) (ki6 : Nat → Int32) (Q : (Nat → Int32) → (Nat → Int32) → Prop) : Nat → Int32 → (Nat → Int32) → (Nat → Int32) → Prop
  | 0, _, _, _ => False
  | n + 1, x1, co6, mi6 => (((64 : Int32) ≤ x1 → (Q (va_cpy mi6 co6 0 0 64) mi6)) ∧ (¬ (64 : Int32) ≤ x1 → (∃ nn, vX6_mix_c18 pa6 rw6 ki6 Q (vX6_mix_c10 pa6 rw6 ki6 Q n) nn x1 (0 : Int32) co6 mi6)))
set_option maxHeartbeats 4000000 in
set_option maxRecDepth 100000 in
theorem kX6_mix_c10 {p : Program} {l : Launch} {e : Env} {s : State} {m : MethodId} {args : Array Value} {below : List Frame} {meth : Method} {c : Code} {g : GP} {qty : Nat} {ql6 : Nat} {qb6 : Nat} {qc6 : Nat} {qk6 : Nat} {qm6 : Nat} {pa6 : Int32} {rw6 : Int32} {ki6 : Nat → Int32}  {Q : (Nat → Int32) → (Nat → Int32) → Prop} {A : Nat → Prop} (S : CallFix p m c cX6_mix 3 s args wsX6_mix RX6) (hr : meth.sig.returnType = none) (hlocks : meth.locks = false) (hG : GK g s) (hA : ∀ q : Nat, s.heap.size ≤ q → A q) : ∀ (n : Nat), ∀ (x1 : Int32) (co6 : Nat → Int32) (mi6 : Nat → Int32), vX6_mix_c10 pa6 rw6 ki6 Q n x1 co6 mi6 → ∀ (H : Heap) (locs : List Loc), va_P g.1 vwCl [(qty, .inr (6, [.ref ql6, .ref qb6, .ref qc6, .ref qk6, .ref qm6, .int pa6, .int rw6])), (qc6, .inl (g.2 0, 64, .inl co6)), (qk6, .inl (g.2 0, 64, .inl ki6)), (qm6, .inl (g.2 0, 64, .inl mi6))] H → va_D A [(qty, .inr (6, [.ref ql6, .ref qb6, .ref qc6, .ref qk6, .ref qm6, .int pa6, .int rw6])), (qc6, .inl (g.2 0, 64, .inl co6)), (qk6, .inl (g.2 0, 64, .inl ki6)), (qm6, .inl (g.2 0, 64, .inl mi6))] → va_S A s.heap H locs → ∀ (ls : Array Slot), lv_has ls 3 [(0, .ref qty), (1, .int x1)] → W p l e (headSpec wsX6_mix rmX6_mix).room s m args below meth c H locs 0 0 (MQ below (va_Qv (fun (u : (Nat → Int32) × (Nat → Int32)) => Q u.1 u.2) (fun (u : (Nat → Int32) × (Nat → Int32)) t => va_P g.1 vwCl [(qty, .inr (6, [.ref ql6, .ref qb6, .ref qc6, .ref qk6, .ref qm6, .int pa6, .int rw6])), (qc6, .inl (g.2 0, 64, .inl u.1)), (qk6, .inl (g.2 0, 64, .inl ki6)), (qm6, .inl (g.2 0, 64, .inl u.2))] t.heap ∧ va_D A [(qty, .inr (6, [.ref ql6, .ref qb6, .ref qc6, .ref qk6, .ref qm6, .int pa6, .int rw6])), (qc6, .inl (g.2 0, 64, .inl u.1)), (qk6, .inl (g.2 0, 64, .inl ki6)), (qm6, .inl (g.2 0, 64, .inl u.2))]) A) args s 0 0 A) (F0 m 10 ls []) := by
  obtain ⟨hx, hb, hml, hown, hts⟩ := id S
  have hK := hG.1
  intro n
  induction n with
  | zero => intro x1 co6 mi6 hv; exact hv.elim
  | succ n ih =>
    intro x1 co6 mi6 hv H locs hP hD hS ls hl
    refine lv_iload_n hx hb dX6_mix_10 rfl (lv_at hl 1 rfl) ?_
    refine lv_bipush (v := (64 : Int32)) hx hb dX6_mix_11 (by decide) ?_
    obtain ⟨hvt, hvf⟩ := hv
    refine lv_icmp_ge (tgt := 69) hx hb dX6_mix_13 (by decide) (fun hc => ?_) (fun hc => ?_)
    · have hv := hvt hc
      refine lv_aload_n hx hb dX6_mix_69 rfl (lv_at hl 0 rfl) ?_
      refine va_get (D := g.1) (ci := 6) (v := .ref qm6) (C := RX6) (T := TX6) (N := 7) hx hb hts inX6_mix_6 hown hK hP 0 rfl rfl 4 (by decide) (hts (.fieldLink RX6 24 "RangeCodes$Tally" "mixed" "[I") (List.mem_of_getElem? (i := 1) rfl)) (fun _ h9 => h9) rfl dX6_mix_70 ?_
      refine lv_iconst (v := (0 : Int32)) hx hb dX6_mix_73 (by decide) ?_
      refine lv_aload_n hx hb dX6_mix_74 rfl (lv_at hl 0 rfl) ?_
      refine va_get (D := g.1) (ci := 6) (v := .ref qc6) (C := RX6) (T := TX6) (N := 7) hx hb hts inX6_mix_6 hown hK hP 0 rfl rfl 2 (by decide) (hts (.fieldLink RX6 18 "RangeCodes$Tally" "counts" "[I") (List.mem_of_getElem? (i := 2) rfl)) (fun _ h9 => h9) rfl dX6_mix_75 ?_
      refine lv_iconst (v := (0 : Int32)) hx hb dX6_mix_78 (by decide) ?_
      refine lv_bipush (v := (64 : Int32)) hx hb dX6_mix_79 (by decide) ?_
      refine va_copyi (ty := .int) hx hb (by rw [hml]; exact hl.1.symm) hown (hts (.methodLink RX6 38 arraycopyName) (List.mem_of_getElem? (i := 4) rfl)) (hts (.native arraycopyName) (List.mem_of_getElem? (i := 5) rfl)) (hts (.static arraycopyName) (List.mem_of_getElem? (i := 6) rfl)) (hts (.initialized "java/lang/System") (List.mem_of_getElem? (i := 7) rfl)) hK hP hD hS 3 1 0 0 rfl rfl rfl rfl rfl (by decide) (by decide) (by decide) (by decide) (by decide) (fun _ _ => rfl) (Nat.le_of_ble_eq_true rfl) (Nat.le_of_ble_eq_true rfl) dX6_mix_81 (fun H locs hP hD hS => ?_)
      have hP : va_P g.1 vwCl [(qty, .inr (6, [.ref ql6, .ref qb6, .ref qc6, .ref qk6, .ref qm6, .int pa6, .int rw6])), (qc6, .inl (g.2 0, 64, .inl (va_cpy mi6 co6 0 0 64))), (qk6, .inl (g.2 0, 64, .inl ki6)), (qm6, .inl (g.2 0, 64, .inl mi6))] H := hP
      have hD : va_D A [(qty, .inr (6, [.ref ql6, .ref qb6, .ref qc6, .ref qk6, .ref qm6, .int pa6, .int rw6])), (qc6, .inl (g.2 0, 64, .inl (va_cpy mi6 co6 0 0 64))), (qk6, .inl (g.2 0, 64, .inl ki6)), (qm6, .inl (g.2 0, 64, .inl mi6))] := hD
      have hP9 := hP.sub (ws' := [(qty, .inr (6, [.ref ql6, .ref qb6, .ref qc6, .ref qk6, .ref qm6, .int pa6, .int rw6])), (qc6, .inl (g.2 0, 64, .inl (va_cpy mi6 co6 0 0 64))), (qk6, .inl (g.2 0, 64, .inl ki6)), (qm6, .inl (g.2 0, 64, .inl mi6))]) [0, 1, 2, 3] rfl
      have hD9 := hD.sub (ws' := [(qty, .inr (6, [.ref ql6, .ref qb6, .ref qc6, .ref qk6, .ref qm6, .int pa6, .int rw6])), (qc6, .inl (g.2 0, 64, .inl (va_cpy mi6 co6 0 0 64))), (qk6, .inl (g.2 0, 64, .inl ki6)), (qm6, .inl (g.2 0, 64, .inl mi6))]) [0, 1, 2, 3] (by decide) rfl
      exact W.vret hx hb hr (fun t ht hW => ⟨⟨((va_cpy mi6 co6 0 0 64), mi6), rfl, hv, by rw [ht]; exact hP9, hD9⟩, hS.F ht⟩) hS.2.2 dX6_mix_84
    · have hv := hvf hc
      refine lv_iconst (v := (0 : Int32)) hx hb dX6_mix_16 (by decide) ?_
      refine lv_istore_n (lv' := [(2, .int (0 : Int32)), (0, .ref qty), (1, .int x1)]) hx hb dX6_mix_17 rfl hl (by decide) rfl (fun ls hl => ?_)
      obtain ⟨nn, hv⟩ := hv
      exact kX6_mix_c18 S hr hlocks hG hA ih nn _ _ _ _ hv _ _ (hP.sub (ws' := [(qty, .inr (6, [.ref ql6, .ref qb6, .ref qc6, .ref qk6, .ref qm6, .int pa6, .int rw6])), (qc6, .inl (g.2 0, 64, .inl co6)), (qk6, .inl (g.2 0, 64, .inl ki6)), (qm6, .inl (g.2 0, 64, .inl mi6))]) [0, 1, 2, 3] rfl) (hD.sub (ws' := [(qty, .inr (6, [.ref ql6, .ref qb6, .ref qc6, .ref qk6, .ref qm6, .int pa6, .int rw6])), (qc6, .inl (g.2 0, 64, .inl co6)), (qk6, .inl (g.2 0, 64, .inl ki6)), (qm6, .inl (g.2 0, 64, .inl mi6))]) [0, 1, 2, 3] (by decide) rfl) hS ls (lv_sub hl [1, 2, 0] rfl)
def vX6_mix (pa6 : Int32) (rw6 : Int32) (co6 : Nat → Int32) (ki6 : Nat → Int32) (mi6 : Nat → Int32) (Q : (Nat → Int32) → (Nat → Int32) → Prop) : Prop := (preJ7_fill_53178 64 mi6 (0 : Int32) ∧ (∀ (fA_5 : Nat → Int32), postJ7_fill_53178 64 mi6 (0 : Int32) fA_5 → (∃ nn, vX6_mix_c10 pa6 rw6 ki6 Q nn (0 : Int32) co6 fA_5)))
set_option maxHeartbeats 4000000 in
set_option maxRecDepth 100000 in
theorem wX6_mix (l : Launch) (g : GP) (qty : Nat) (ql6 : Nat) (qb6 : Nat) (qc6 : Nat) (qk6 : Nat) (qm6 : Nat) (sz : Nat) (pa6 : Int32) (rw6 : Int32) (co6 : Nat → Int32) (ki6 : Nat → Int32) (mi6 : Nat → Int32) {Q : (Nat → Int32) → (Nat → Int32) → Prop} (hv : vX6_mix pa6 rw6 co6 ki6 mi6 Q) : Met l yX6_mix wsX6_mix rmX6_mix (va_Pc [.ref qty] (fun U => U.heap.size = sz ∧ va_P g.1 vwCl [(qty, .inr (6, [.ref ql6, .ref qb6, .ref qc6, .ref qk6, .ref qm6, .int pa6, .int rw6])), (qc6, .inl (g.2 0, 64, .inl co6)), (qk6, .inl (g.2 0, 64, .inl ki6)), (qm6, .inl (g.2 0, 64, .inl mi6))] U.heap ∧ GK g U ∧ va_D (fun _ => True) [(qty, .inr (6, [.ref ql6, .ref qb6, .ref qc6, .ref qk6, .ref qm6, .int pa6, .int rw6])), (qc6, .inl (g.2 0, 64, .inl co6)), (qk6, .inl (g.2 0, 64, .inl ki6)), (qm6, .inl (g.2 0, 64, .inl mi6))])) (va_Qv (fun (u : (Nat → Int32) × (Nat → Int32)) => Q u.1 u.2) (fun (u : (Nat → Int32) × (Nat → Int32)) t => va_P g.1 vwCl [(qty, .inr (6, [.ref ql6, .ref qb6, .ref qc6, .ref qk6, .ref qm6, .int pa6, .int rw6])), (qc6, .inl (g.2 0, 64, .inl u.1)), (qk6, .inl (g.2 0, 64, .inl ki6)), (qm6, .inl (g.2 0, 64, .inl u.2))] t.heap ∧ va_D (va_A [(qty, .inr (6, [.ref ql6, .ref qb6, .ref qc6, .ref qk6, .ref qm6, .int pa6, .int rw6])), (qc6, .inl (g.2 0, 64, .inl co6)), (qk6, .inl (g.2 0, 64, .inl ki6)), (qm6, .inl (g.2 0, 64, .inl mi6))] sz) [(qty, .inr (6, [.ref ql6, .ref qb6, .ref qc6, .ref qk6, .ref qm6, .int pa6, .int rw6])), (qc6, .inl (g.2 0, 64, .inl u.1)), (qk6, .inl (g.2 0, 64, .inl ki6)), (qm6, .inl (g.2 0, 64, .inl u.2))]) (va_A [(qty, .inr (6, [.ref ql6, .ref qb6, .ref qc6, .ref qk6, .ref qm6, .int pa6, .int rw6])), (qc6, .inl (g.2 0, 64, .inl co6)), (qk6, .inl (g.2 0, 64, .inl ki6)), (qm6, .inl (g.2 0, 64, .inl mi6))] sz)) 0 0 (va_A [(qty, .inr (6, [.ref ql6, .ref qb6, .ref qc6, .ref qk6, .ref qm6, .int pa6, .int rw6])), (qc6, .inl (g.2 0, 64, .inl co6)), (qk6, .inl (g.2 0, 64, .inl ki6)), (qm6, .inl (g.2 0, 64, .inl mi6))] sz) := by
  refine Met.ofW (cc := cX6_mix) (maxL := 3) (ret := none) (by decide) rfl ?_
  intro p e s m args below meth c s₁ B hml hv'
  obtain ⟨rfl, hsz, hP, hG, hD0⟩ := hv'
  have S : CallFix p m c cX6_mix 3 s _ wsX6_mix RX6 := ⟨B.exec, B.bytes, hml, findClass_of_methodNamed B.named, atoms_spec (ws := wsX6_mix) B.pre⟩
  obtain ⟨hx, hb, hml, hown, hts⟩ := id S
  have hK := hG.1
  have hr := B.returns
  have hlocks := B.notSynchronized
  subst hsz
  have hD := hD0.self (sz := s.heap.size)
  generalize hAe : va_A [(qty, .inr (6, [.ref ql6, .ref qb6, .ref qc6, .ref qk6, .ref qm6, .int pa6, .int rw6])), (qc6, .inl (g.2 0, 64, .inl co6)), (qk6, .inl (g.2 0, 64, .inl ki6)), (qm6, .inl (g.2 0, 64, .inl mi6))] s.heap.size = A at hD ⊢
  have hA : ∀ q : Nat, s.heap.size ≤ q → A q := fun q h => by rw [← hAe]; exact Or.inr h
  have hS : va_S A s.heap s.heap [] := va_S.rf
  clear hD0 hAe
  have hl := lv_entry ([.ref qty]) (n := 3) (Nat.le_of_ble_eq_true rfl)
  rw [lg_entry_eq]
  generalize (lg_sl ([.ref qty]) ++ List.replicate (3 - (lg_sl ([.ref qty])).length) Slot.unset).toArray = ls at hl ⊢
  have hl : lv_has ls 3 [(0, .ref qty)] := hl
  unfold vX6_mix at hv
  refine lv_aload_n hx hb dX6_mix_0 rfl (lv_at hl 0 rfl) ?_
  refine va_get (D := g.1) (ci := 6) (v := .ref qm6) (C := RX6) (T := TX6) (N := 7) hx hb hts inX6_mix_6 hown hK hP 0 rfl rfl 4 (by decide) (hts (.fieldLink RX6 24 "RangeCodes$Tally" "mixed" "[I") (List.mem_of_getElem? (i := 1) rfl)) (fun _ h9 => h9) rfl dX6_mix_1 ?_
  refine lv_iconst (v := (0 : Int32)) hx hb dX6_mix_4 (by decide) ?_
  obtain ⟨ho_1, hv⟩ := hv
  have hPc := hP.sub (ws' := [(qm6, .inl (g.2 0, 64, .inl mi6))]) [3] rfl
  have hDc := hD.sub (ws' := [(qm6, .inl (g.2 0, 64, .inl mi6))]) [3] (by decide) rfl
  have hFc := va_free (wc := [(qm6, .inl (g.2 0, 64, .inl mi6))]) hD hS hA [3] rfl
  refine va_callv (va_runS (As := [.ref qm6, .int (0 : Int32)]) (rest := []) S (wJ7_fill_53178 l g qm6 s.heap.size 64 mi6 (0 : Int32) (sJ7_fill_53178 64 mi6 (0 : Int32) ho_1)) (va_cwS 2 hts gX6_mix_J7_fill_53178 rfl rfl rfl (by decide +kernel) ⟨Nat.le_of_ble_eq_true rfl, Nat.le_of_ble_eq_true rfl⟩) ⟨blindRW, fun U hU hW => ⟨rfl, by rw [hU], by rw [hU]; exact hPc, hG.warm hW, hDc.weaken (fun _ _ _ _ => trivial)⟩⟩ rfl rfl hl.1 rfl (lv_room (Nat.le_of_ble_eq_true rfl)) dX6_mix_5 ⟨Nat.le_of_ble_eq_true rfl, Nat.le_of_ble_eq_true rfl⟩) hS (fun q _ h => hFc q h) hFc (fun u t H1 locs ht hvm hw hB hz1 hk1 hS => ?_)
  obtain ⟨fA_5, rfl⟩ : ∃ z, z = u := ⟨_, rfl⟩
  obtain ⟨hP1, hD1⟩ := hB
  rw [ht] at hP1
  have hv := hv fA_5 hw
  obtain ⟨hP, hD⟩ := va_join (wr := [(qty, .inr (6, [.ref ql6, .ref qb6, .ref qc6, .ref qk6, .ref qm6, .int pa6, .int rw6])), (qc6, .inl (g.2 0, 64, .inl co6)), (qk6, .inl (g.2 0, 64, .inl ki6))]) (w1 := [(qm6, .inl (g.2 0, 64, .inl fA_5))]) hP hD [3] [0, 1, 2] rfl rfl (by decide) (by decide) hk1 hFc hP1 hD1
  clear hP1 hD1 hPc hDc hFc hk1
  generalize H1 = H at hP hS ⊢
  have hP : va_P g.1 vwCl [(qty, .inr (6, [.ref ql6, .ref qb6, .ref qc6, .ref qk6, .ref qm6, .int pa6, .int rw6])), (qc6, .inl (g.2 0, 64, .inl co6)), (qk6, .inl (g.2 0, 64, .inl ki6)), (qm6, .inl (g.2 0, 64, .inl fA_5))] H := hP
  have hD : va_D A [(qty, .inr (6, [.ref ql6, .ref qb6, .ref qc6, .ref qk6, .ref qm6, .int pa6, .int rw6])), (qc6, .inl (g.2 0, 64, .inl co6)), (qk6, .inl (g.2 0, 64, .inl ki6)), (qm6, .inl (g.2 0, 64, .inl fA_5))] := hD
  refine lv_iconst (v := (0 : Int32)) hx hb dX6_mix_8 (by decide) ?_
  refine lv_istore_n (lv' := [(1, .int (0 : Int32)), (0, .ref qty)]) hx hb dX6_mix_9 rfl hl (by decide) rfl (fun ls hl => ?_)
  obtain ⟨nn, hv⟩ := hv
  exact kX6_mix_c10 S hr hlocks hG hA nn _ _ _ hv _ _ (hP.sub (ws' := [(qty, .inr (6, [.ref ql6, .ref qb6, .ref qc6, .ref qk6, .ref qm6, .int pa6, .int rw6])), (qc6, .inl (g.2 0, 64, .inl co6)), (qk6, .inl (g.2 0, 64, .inl ki6)), (qm6, .inl (g.2 0, 64, .inl fA_5))]) [0, 1, 2, 3] rfl) (hD.sub (ws' := [(qty, .inr (6, [.ref ql6, .ref qb6, .ref qc6, .ref qk6, .ref qm6, .int pa6, .int rw6])), (qc6, .inl (g.2 0, 64, .inl co6)), (qk6, .inl (g.2 0, 64, .inl ki6)), (qm6, .inl (g.2 0, 64, .inl fA_5))]) [0, 1, 2, 3] (by decide) rfl) hS ls (lv_sub hl [1, 0] rfl)
/-- a row of counts -/
def isC (u : Nat → Nat) (P : Nat) (co : Nat → Int32) : Prop := ∀ S, S < 64 → (co S).toInt = (cnF u P S : Int)
abbrev preX6_mix (P : Nat) (u : Nat → Nat) (W : Nat) (w : Nat → Nat) (pa6 : Int32) (rw6 : Int32) (co6 : Nat → Int32) (ki6 : Nat → Int32) (mi6 : Nat → Int32) : Prop := isC u P co6 ∧ isC w W ki6 ∧ 0 < P ∧ 0 < W ∧ Nat.Coprime P W ∧ (∀ t, t < P → u t < 64) ∧ (∀ t, t < W → w t < 64) ∧ P * W ≤ 360360
abbrev postX6_mix (P : Nat) (u : Nat → Nat) (W : Nat) (w : Nat → Nat) (pa6 : Int32) (rw6 : Int32) (co6 : Nat → Int32) (ki6 : Nat → Int32) (mi6 : Nat → Int32) (co6' : Nat → Int32) (mi6' : Nat → Int32) : Prop := isC (fun t => u (t % P) ||| w (t % W)) (P * W) co6'
/-- what is summed up so far: rows ahead of a, of row a the columns ahead of b -/
def mxN (c d : Nat → Nat) (a b S : Nat) : Nat := suN (fun x => suN (fun y => if x ||| y = S then c x * d y else 0) 64) a + suN (fun y => if a ||| y = S then c a * d y else 0) b
theorem mx_le {P W : Nat} (u w : Nat → Nat) (hu : ∀ t, t < P → u t < 64) (hw : ∀ t, t < W → w t < 64) (S : Nat) {a b : Nat} (ha : a < 64) (hb : b ≤ 64) : mxN (cnF u P) (cnF w W) a b S ≤ P * W := by
  have e : ∀ (f : Nat → Nat) (m n : Nat), m ≤ n → suN f m ≤ suN f n := fun f m n h => by
    obtain ⟨k, rfl⟩ : ∃ k, n = m + k := ⟨n - m, by omega⟩
    rw [suN_app]; omega
  have e2 : ∀ (f g : Nat → Nat) (n : Nat), (∀ k, f k ≤ g k) → suN f n ≤ suN g n := fun f g n h => by
    induction n with
    | zero => exact Nat.le_refl _
    | succ n ih => rw [suN, suN]; have := h n; omega
  have h1 : mxN (cnF u P) (cnF w W) a b S ≤ suN (fun x => suN (fun y => if x ||| y = S then cnF u P x * cnF w W y else 0) 64) (a + 1) := by
    unfold mxN
    rw [suN]
    have := e (fun y => if a ||| y = S then cnF u P a * cnF w W y else 0) b 64 hb
    omega
  have h2 := e (fun x => suN (fun y => if x ||| y = S then cnF u P x * cnF w W y else 0) 64) (a + 1) 64 (by omega)
  have h3 : suN (fun x => suN (fun y => if x ||| y = S then cnF u P x * cnF w W y else 0) 64) 64 ≤ suN (fun x => cnF u P x * suN (fun y => cnF w W y * 1) 64) 64 := e2 _ _ 64 (fun x => by
    rw [← suN_mul]
    refine e2 _ _ 64 (fun y => ?_)
    split
    · rw [Nat.mul_one]; exact Nat.le_refl _
    · exact Nat.zero_le _)
  rw [suN_fib w (fun _ => 1) 64 W hw, suN_fib u (fun _ => suN (fun _ => 1) W) 64 P hu] at h3
  have o : ∀ n c, suN (fun _ => c) n = n * c := fun n c => by
    induction n with
    | zero => rw [suN, Nat.zero_mul]
    | succ n ih => rw [suN, ih, Nat.succ_mul]
  rw [o, o, Nat.mul_one] at h3
  omega
theorem or_lt {a b : Nat} (ha : a < 64) (hb : b < 64) : a ||| b < 64 := Nat.or_lt_two_pow (n := 6) ha hb
theorem q_or {x y : Int32} {a b : Nat} (hx : x.toInt = (a : Int)) (hy : y.toInt = (b : Int)) (ha : a < 64) (hb : b < 64) : (x ||| y).toInt = ((a ||| b : Nat) : Int) := by
  have := or_lt ha hb
  rw [q_eqN hx, q_eqN hy, fa_or, q_nI (by omega)]
theorem sX6_mix_18 (P : Nat) (u : Nat → Nat) (W : Nat) (w : Nat → Nat) (pa6 : Int32) (rw6 : Int32) (co6 : Nat → Int32) (ki6 : Nat → Int32) (mi6 : Nat → Int32) (H : preX6_mix P u W w pa6 rw6 co6 ki6 mi6) (Q : (Nat → Int32) → (Nat → Int32) → Prop) (K10 : Int32 → (Nat → Int32) → (Nat → Int32) → Prop) (a : Nat) (ha : a < 64) (x1 : Int32) (h1 : x1.toInt = (a : Int)) (hK : ∀ mi', (∀ S, S < 64 → (mi' S).toInt = (mxN (cnF u P) (cnF w W) (a + 1) 0 S : Int)) → K10 (x1 + (1 : Int32)) co6 mi') : ∀ (f b : Nat) (x2 : Int32) (mi' : Nat → Int32), x2.toInt = (b : Int) → b ≤ 64 → (∀ S, S < 64 → (mi' S).toInt = (mxN (cnF u P) (cnF w W) a b S : Int)) → 65 ≤ b + f → vX6_mix_c18 pa6 rw6 ki6 Q K10 f x1 x2 co6 mi'
  | 0, b, x2, mi', _, _, _, hf => absurd hf (by omega)
  | f + 1, b, x2, mi', h2, hb, hm, hf => by
    obtain ⟨c1, c2, hP, hW, hc, hu, hw, hPW⟩ := id H
    have i1 := q_in (N := 64) h1 ha
    rw [vX6_mix_c18, fa_le, z64, h2, q_cl h1]
    have done : (∀ S, S < 64 → mxN (cnF u P) (cnF w W) a b S = mxN (cnF u P) (cnF w W) (a + 1) 0 S) → K10 (x1 + (1 : Int32)) co6 mi' := fun e => hK mi' (fun S hS => by rw [← e S hS]; exact hm S hS)
    refine ⟨fun c => done (fun S _ => ?_), fun c => ⟨i1, fun d => done (fun S _ => ?_), fun d => ?_⟩⟩
    · have e : b = 64 := by omega
      subst e
      unfold mxN; rw [suN]; rfl
    · rw [fa_eq, c1 a ha, z0] at d
      have d : cnF u P a = 0 := by omega
      have z : ∀ n, suN (fun y => if a ||| y = S then 0 * cnF w W y else 0) n = 0 := fun n => by
        rw [suN_cong (g := fun _ => 0) (fun y _ => by rw [Nat.zero_mul, ite_self])]; exact suN_0 n
      show suN (fun x => suN (fun y => if x ||| y = S then cnF u P x * cnF w W y else 0) 64) a + suN (fun y => if a ||| y = S then cnF u P a * cnF w W y else 0) b = (suN (fun x => suN (fun y => if x ||| y = S then cnF u P x * cnF w W y else 0) 64) a + suN (fun y => if a ||| y = S then cnF u P a * cnF w W y else 0) 64) + 0
      rw [d, z, z]
    · have ho := q_or h1 h2 ha (by omega)
      have hol := or_lt ha (show b < 64 by omega)
      have i3 := q_in (N := 64) ho hol
      refine ⟨i3, i1, q_in h2 (by omega), fun y ey => ⟨i3, ?_⟩⟩
      rw [q_cl ho, q_cl h2] at ey
      rw [q_cl ho]
      have hl1 := cnF_le u a P
      have hl2 := cnF_le w b W
      have hml : cnF u P a * cnF w W b ≤ P * W := Nat.mul_le_mul hl1 hl2
      have hmx := mx_le u w hu hw (a ||| b) ha hb
      have e1 := q_mulN (c1 a ha) (c2 b (by omega)) (by omega)
      have e2 := q_addN (hm (a ||| b) hol) e1 (by omega)
      refine sX6_mix_18 P u W w pa6 rw6 co6 ki6 mi6 H Q K10 a ha x1 h1 hK f (b + 1) _ _ (q_1 h2 (by omega)) (by omega) (fun S hS => ?_) (by omega)
      have es : mxN (cnF u P) (cnF w W) a (b + 1) S = mxN (cnF u P) (cnF w W) a b S + if a ||| b = S then cnF u P a * cnF w W b else 0 := by
        unfold mxN
        rw [suN]
        omega
      rw [es]
      by_cases q : S = a ||| b
      · subst q; rw [upd_eq, if_pos rfl, ey]; exact e2
      · rw [upd_ne q, if_neg (fun z => q z.symm), Nat.add_zero]; exact hm S hS
theorem sX6_mix_10 (P : Nat) (u : Nat → Nat) (W : Nat) (w : Nat → Nat) (pa6 : Int32) (rw6 : Int32) (co6 : Nat → Int32) (ki6 : Nat → Int32) (mi6 : Nat → Int32) (H : preX6_mix P u W w pa6 rw6 co6 ki6 mi6) : ∀ (f a : Nat) (x1 : Int32) (mi' : Nat → Int32), x1.toInt = (a : Int) → a ≤ 64 → (∀ S, S < 64 → (mi' S).toInt = (mxN (cnF u P) (cnF w W) a 0 S : Int)) → 65 ≤ a + f → vX6_mix_c10 pa6 rw6 ki6 (postX6_mix P u W w pa6 rw6 co6 ki6 mi6) f x1 co6 mi'
  | 0, a, x1, mi', _, _, _, hf => absurd hf (by omega)
  | f + 1, a, x1, mi', h1, ha, hm, hf => by
    obtain ⟨c1, c2, hP, hW, hc, hu, hw, hPW⟩ := id H
    rw [vX6_mix_c10, fa_le, z64, h1]
    refine ⟨fun c S hS => ?_, fun c => ⟨65, sX6_mix_18 P u W w pa6 rw6 co6 ki6 mi6 H _ _ a (by omega) x1 h1 (fun mi2 h2 => sX6_mix_10 P u W w pa6 rw6 co6 ki6 mi6 H f (a + 1) _ mi2 (q_1 h1 (by omega)) (by omega) h2 (by omega)) 65 0 0 mi' rfl (by omega) hm (by omega)⟩⟩
    have e : a = 64 := by omega
    subst e
    rw [cpy0 hS, hm S hS, ← cn_mix hP hW hc u w hu hw S]
    rfl
theorem sX6_mix (P : Nat) (u : Nat → Nat) (W : Nat) (w : Nat → Nat) (pa6 : Int32) (rw6 : Int32) (co6 : Nat → Int32) (ki6 : Nat → Int32) (mi6 : Nat → Int32) (H : preX6_mix P u W w pa6 rw6 co6 ki6 mi6) : vX6_mix pa6 rw6 co6 ki6 mi6 (postX6_mix P u W w pa6 rw6 co6 ki6 mi6) := ⟨by show 64 < 2147483647; decide, fun f hf => ⟨65, sX6_mix_10 P u W w pa6 rw6 co6 ki6 mi6 H 65 0 0 f rfl (by omega) (fun S hS => by rw [hf S, if_pos hS]; rfl) (by omega)⟩⟩
