-- the code: how many parts; of each its length, its row (bits), its vote
abbrev Cd : Type := Nat × (Nat → Nat) × (Nat → Nat) × (Nat → Nat)
def cn (T : Cd) : Nat := T.1
def cL (T : Cd) (p : Nat) : Nat := T.2.1 p
def cR (T : Cd) (p : Nat) : Nat := T.2.2.1 p
def cV (T : Cd) (p : Nat) : Nat := T.2.2.2 p
def isN (T : Cd) (parts : Int32) : Prop := parts.toInt = (cn T : Int) ∧ cn T ≤ 5
def isL (T : Cd) (len : Nat → Int32) : Prop := ∀ p, p < cn T → (len p).toInt = (cL T p : Int) ∧ 2 ≤ cL T p ∧ cL T p ≤ 13
def isR (T : Cd) (row : Nat → Int32) : Prop := ∀ p, p < cn T → (row p).toInt = (cR T p : Int) ∧ cR T p < 2 ^ cL T p
def isV (T : Cd) (vot : Nat → Int32) : Prop := ∀ p, p < cn T → (vot p).toInt = (cV T p : Int) ∧ cV T p ≤ 9
/-- the least number that all lengths of a set go into, of the first so many parts -/
def lcS (T : Cd) (s : Nat) : Nat → Nat
  | 0 => 1
  | k + 1 => if s.testBit k then Nat.lcm (lcS T s k) (cL T k) else lcS T s k
/-- all votes of a set -/
def voS (T : Cd) (s : Nat) : Nat → Nat
  | 0 => 0
  | k + 1 => if s.testBit k then voS T s k + cV T k else voS T s k
/-- the chip of a part at t -/
def chB (T : Cd) (p : Nat) (t : Int) : Bool := (cR T p).testBit (t % (cL T p : Int)).toNat
/-- the set of parts whose chip is yes at t -/
def chS (T : Cd) (t : Int) : Nat → Nat
  | 0 => 0
  | k + 1 => chS T t k + if chB T k t then 2 ^ k else 0
/-- who wins where just a set has yes -/
def elB (T : Cd) (s : Nat) : Bool := if 2 * voS T s (cn T) = voS T (2 ^ cn T - 1) (cn T) then s.testBit 0 else decide (voS T (2 ^ cn T - 1) (cn T) < 2 * voS T s (cn T))
/-- the chip of the code at t -/
def coB (T : Cd) (t : Int) : Bool := elB T (chS T t (cn T))
/-- the code with another vote of a part -/
def wV (T : Cd) (p v : Nat) : Cd := (T.1, T.2.1, T.2.2.1, fun q => if q = p then v else T.2.2.2 q)
theorem lcS_pos {T : Cd} (h : ∀ p, p < cn T → 2 ≤ cL T p) (s : Nat) : ∀ k, k ≤ cn T → 0 < lcS T s k
  | 0, _ => by simp [lcS]
  | k + 1, hk => by
    have h1 := lcS_pos h s k (by omega)
    have h2 := h k (by omega)
    rw [lcS]; split
    · exact Nat.lcm_pos h1 (by omega)
    · exact h1
theorem lcS_le {T : Cd} (h : ∀ p, p < cn T → cL T p ≤ 13) (s : Nat) : ∀ k, k ≤ cn T → lcS T s k ≤ 13 ^ k
  | 0, _ => by simp [lcS]
  | k + 1, hk => by
    have h1 := lcS_le h s k (by omega)
    have h2 := h k (by omega)
    have h3 : lcS T s k * cL T k ≤ 13 ^ k * 13 := Nat.mul_le_mul h1 h2
    have h4 := Nat.div_le_self (lcS T s k * cL T k) (Nat.gcd (lcS T s k) (cL T k))
    rw [Nat.pow_succ, lcS]; split
    · unfold Nat.lcm; omega
    · omega
theorem voS_le {T : Cd} (h : ∀ p, p < cn T → cV T p ≤ 9) (s : Nat) : ∀ k, k ≤ cn T → voS T s k ≤ 9 * k
  | 0, _ => by simp [voS]
  | k + 1, hk => by
    have h1 := voS_le h s k (by omega)
    have h2 := h k (by omega)
    rw [voS]; split <;> omega
theorem p5_le {k : Nat} (h : k ≤ 5) : 13 ^ k ≤ 371293 := by
  rcases (show k = 0 ∨ k = 1 ∨ k = 2 ∨ k = 3 ∨ k = 4 ∨ k = 5 by omega) with rfl | rfl | rfl | rfl | rfl | rfl <;> decide
theorem p32_le {k : Nat} (h : k ≤ 5) : 2 ^ k ≤ 32 := by
  rcases (show k = 0 ∨ k = 1 ∨ k = 2 ∨ k = 3 ∨ k = 4 ∨ k = 5 by omega) with rfl | rfl | rfl | rfl | rfl | rfl <;> decide
theorem chS_lt (T : Cd) (t : Int) : ∀ k, chS T t k < 2 ^ k
  | 0 => by simp [chS]
  | k + 1 => by
    have := chS_lt T t k
    rw [chS, Nat.pow_succ]; split <;> omega
theorem emN {t : Int} {L : Nat} (hL : 0 < L) : ((t % (L : Int)).toNat : Int) = t % (L : Int) ∧ (t % (L : Int)).toNat < L := by
  have h1 := Int.emod_nonneg t (show (L : Int) ≠ 0 by omega)
  have h2 := Int.emod_lt_of_pos t (show (0 : Int) < (L : Int) by omega)
  omega
theorem voS_wV (T : Cd) (c v s : Nat) : ∀ k, ((voS (wV T c v) s k : Nat) : Int) = (voS T s k : Int) + (if c < k ∧ s.testBit c = true then (v : Int) - (cV T c : Int) else 0)
  | 0 => by simp [voS]
  | k + 1 => by
    have ih := voS_wV T c v s k
    have hv : cV (wV T c v) k = if k = c then v else cV T k := rfl
    rw [voS, voS]
    by_cases hb : s.testBit k = true
    · rw [if_pos hb, if_pos hb, hv]
      by_cases hk : k = c
      · subst hk
        rw [if_pos rfl, if_pos ⟨Nat.lt_succ_self k, hb⟩]
        rw [if_neg (by omega)] at ih
        omega
      · rw [if_neg hk]
        by_cases h2 : c < k ∧ s.testBit c = true
        · rw [if_pos ⟨by omega, h2.2⟩]; rw [if_pos h2] at ih; omega
        · rw [if_neg (fun q => h2 ⟨by omega, q.2⟩)]; rw [if_neg h2] at ih; omega
    · rw [if_neg hb, if_neg hb]
      by_cases h2 : c < k ∧ s.testBit c = true
      · rw [if_pos ⟨by omega, h2.2⟩]; rw [if_pos h2] at ih; omega
      · have : ¬ (c < k + 1 ∧ s.testBit c = true) := fun q => by
          rcases Nat.lt_or_ge c k with z | z
          · exact h2 ⟨z, q.2⟩
          · have : c = k := by omega
            subst this
            exact hb q.2
        rw [if_neg this]; rw [if_neg h2] at ih; omega
theorem voS_all (T : Cd) {k n : Nat} (h : k ≤ n) : ∀ c, c < n → (2 ^ n - 1).testBit c = true := fun c hc => by
  rw [Nat.testBit_two_pow_sub_one]; simp [hc]
theorem chS_bit (T : Cd) (t : Int) : ∀ k p, (chS T t k).testBit p = (decide (p < k) && chB T p t)
  | 0, p => by simp [chS]
  | k + 1, p => by
    have ih := chS_bit T t k
    have hl := chS_lt T t k
    rw [chS]
    by_cases hb : chB T k t = true
    · rw [if_pos hb, Nat.add_comm, show 2 ^ k + chS T t k = 2 ^ k * 1 + chS T t k by omega, Nat.testBit_two_pow_mul_add _ hl]
      rcases Nat.lt_trichotomy p k with h | h | h
      · rw [if_pos h, ih]; simp [h, Nat.lt_succ_of_lt h]
      · subst h; simp [hb]
      · rw [if_neg (by omega)]
        have h1 : p - k ≠ 0 := by omega
        have h2 : ¬ p < k + 1 := by omega
        rw [Nat.testBit_lt_two_pow (Nat.one_lt_two_pow h1)]
        simp [h2]
    · rw [if_neg hb, Nat.add_zero, ih]
      rcases Nat.lt_trichotomy p k with h | h | h
      · simp [h, Nat.lt_succ_of_lt h]
      · subst h; simp [hb]
      · have h2 : ¬ p < k + 1 := by omega
        simp [h2, show ¬ p < k by omega]
