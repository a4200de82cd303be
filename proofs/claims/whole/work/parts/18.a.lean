-- odds in whole numbers
theorem q_lmulN {x y : Int64} {a b : Nat} (hx : x.toInt = (a : Int)) (hy : y.toInt = (b : Int)) (h : a * b < 9223372036854775808) : (x * y).toInt = ((a * b : Nat) : Int) := by
  rw [Int64.toInt_mul, hx, hy, ← Int.natCast_mul]
  exact fb_bmodL (by omega) (by omega)
theorem q_laddN {x y : Int64} {a b : Nat} (hx : x.toInt = (a : Int)) (hy : y.toInt = (b : Int)) (h : a + b < 9223372036854775808) : (x + y).toInt = ((a + b : Nat) : Int) := by
  rw [Int64.toInt_add, hx, hy, ← Int.natCast_add]
  exact fb_bmodL (by omega) (by omega)
def wyC (n k : Nat) : Nat → Nat
  | 0 => 1
  | j + 1 => wyC n k j * (n - k + (j + 1)) / (j + 1)
def vR (n : Nat) : Nat → Nat
  | 0 => 1
  | k + 1 => vR n k * (n - k) / (k + 1)
/-- the upper number of a chance, of the first so many k -/
def us (n p m : Nat) : Nat → Nat
  | 0 => 0
  | k + 1 => us n p m k + if m ≤ k then vR n k * (p ^ k * (10 - p) ^ (n - k)) else 0
theorem wy_vR : ∀ n, n < 19 → ∀ k, k < n + 1 → wyC n k k = vR n k := by decide +kernel
theorem vR_le : ∀ n, n < 19 → ∀ k, k < 20 → vR n k ≤ 100000 := by decide +kernel
theorem wy_le : ∀ n, n < 19 → ∀ k, k < n + 1 → ∀ j, j < k + 1 → wyC n k j ≤ 1000000 := by decide +kernel
theorem us_all : ∀ n, n < 19 → ∀ p, p < 11 → us n p 0 (n + 1) = 10 ^ n := by decide +kernel
theorem us_m (n p m : Nat) : ∀ k, us n p m k ≤ us n p 0 k
  | 0 => Nat.le_refl 0
  | k + 1 => by
    have := us_m n p m k
    rw [us, us, if_pos (Nat.zero_le k)]
    split <;> omega
theorem us_k (n p m : Nat) : ∀ k j, k ≤ j → us n p m k ≤ us n p m j
  | k, 0, h => by
    have : k = 0 := by omega
    subst this; exact Nat.le_refl _
  | k, j + 1, h => by
    rcases Nat.lt_or_ge k (j + 1) with z | z
    · have := us_k n p m k j (by omega)
      rw [us]; omega
    · have : k = j + 1 := by omega
      subst this; exact Nat.le_refl _
theorem us_0 (n p m : Nat) : ∀ k, k ≤ m → us n p m k = 0
  | 0, _ => rfl
  | k + 1, h => by rw [us, us_0 n p m k (by omega), if_neg (by omega)]
theorem p10_le {n : Nat} (h : n ≤ 18) : 10 ^ n ≤ 1000000000000000000 := Nat.pow_le_pow_right (n := 10) (by decide) h
theorem us_le {n p : Nat} (hn : n ≤ 18) (hp : p ≤ 10) (m : Nat) {k : Nat} (hk : k ≤ n + 1) : us n p m k ≤ 1000000000000000000 := by
  have h1 := us_k n p m k (n + 1) hk
  have h2 := us_m n p m (n + 1)
  rw [us_all n (by omega) p (by omega)] at h2
  have := p10_le hn
  omega
theorem pw_le {b : Nat} (hb : b ≤ 10) (k : Nat) : b ^ k ≤ 10 ^ k := Nat.pow_le_pow_left hb k
theorem pq_le {p n k : Nat} (hp : p ≤ 10) (hk : k ≤ n) : p ^ k * (10 - p) ^ (n - k) ≤ 10 ^ n := by
  have h := Nat.mul_le_mul (pw_le hp k) (pw_le (b := 10 - p) (by omega) (n - k))
  rw [← Nat.pow_add, show k + (n - k) = n by omega] at h
  exact h
noncomputable section
def spChance (n p m c : Int) : Int := if (0 ≤ n ∧ n ≤ 18) ∧ (0 ≤ p ∧ p ≤ 10) ∧ (0 ≤ m ∧ m ≤ 18) then ((if c = 0 then us n.toNat p.toNat m.toNat (n.toNat + 1) / Nat.gcd (us n.toNat p.toNat m.toNat (n.toNat + 1)) (10 ^ n.toNat) else 10 ^ n.toNat / Nat.gcd (us n.toNat p.toNat m.toNat (n.toNat + 1)) (10 ^ n.toNat) : Nat) : Int) else -1
end
/-- the topmost so many ways, summed up -/
def tpW (n : Nat) : Nat → Nat
  | 0 => 0
  | j + 1 => tpW n j + vR n (n - j)
theorem tpW_k (n : Nat) : ∀ k j, k ≤ j → tpW n k ≤ tpW n j
  | k, 0, h => by
    have : k = 0 := by omega
    subst this; exact Nat.le_refl _
  | k, j + 1, h => by
    rcases Nat.lt_or_ge k (j + 1) with z | z
    · have := tpW_k n k j (by omega)
      rw [tpW]; omega
    · have : k = j + 1 := by omega
      subst this; exact Nat.le_refl _
theorem tpW_le {n : Nat} (hn : n ≤ 18) : ∀ j, j ≤ n + 1 → tpW n j ≤ 100000 * j
  | 0, _ => Nat.le_refl 0
  | j + 1, h => by
    have := tpW_le hn j (by omega)
    have := vR_le n (by omega) (n - j) (by omega)
    rw [tpW]; omega
def baB (n A j : Nat) : Bool := decide (¬ tpW n (j + 1) * 1000 ≤ A)
noncomputable section
def spBar (n q : Int) : Int := if (1 ≤ n ∧ n ≤ 18) ∧ (0 ≤ q ∧ q ≤ 1000) then (n + 1 - (fa_first (baB n.toNat (q.toNat * 2 ^ n.toNat)) (n.toNat + 1) : Int)) else -1
end
/-- the upper number at one half -/
theorem us_5 {n : Nat} : ∀ (j : Nat), j ≤ n + 1 → us n 5 (n + 1 - j) (n + 1) = tpW n j * 5 ^ n
  | 0, _ => by rw [us_0 _ _ _ _ (by omega), tpW, Nat.zero_mul]
  | j + 1, h => by
    have ih := us_5 (n := n) j (by omega)
    have key : ∀ k, n - j < k → us n 5 (n - j) k = us n 5 (n - j + 1) k + vR n (n - j) * 5 ^ n := by
      intro k
      induction k with
      | zero => intro h; omega
      | succ k ihk =>
        intro hk
        rw [us, us]
        by_cases e : k = n - j
        · subst e
          rw [us_0 _ _ _ _ (Nat.le_refl _), us_0 _ _ _ _ (by omega), if_pos (Nat.le_refl _), if_neg (by omega), show (10 - 5 : Nat) = 5 from rfl, ← Nat.pow_add, show n - j + (n - (n - j)) = n by omega]
          first | done | omega
        · rw [ihk (by omega), if_pos (by omega), if_pos (by omega)]; omega
    have hk := key (n + 1) (by omega)
    rw [show n + 1 - (j + 1) = n - j by omega, hk, show n - j + 1 = n + 1 - j by omega, ih, tpW, Nat.add_mul]
