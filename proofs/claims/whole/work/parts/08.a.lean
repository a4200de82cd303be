-- a leg: its six numbers; how many marks; of each mark its kind, its first and its last i
abbrev Lg : Type := (Nat → Int) × Nat × (Nat → Nat) × (Nat → Nat) × (Nat → Nat)
def gn (G : Lg) (j : Nat) : Int := G.1 j
def gm (G : Lg) : Nat := G.2.1
def gk (G : Lg) (j : Nat) : Nat := G.2.2.1 j
def gf (G : Lg) (j : Nat) : Nat := G.2.2.2.1 j
def gl (G : Lg) (j : Nat) : Nat := G.2.2.2.2 j
/-- what can be a leg's (from may be further on than can be told: see track) -/
def okG (G : Lg) : Prop := (0 ≤ gn G 0 ∧ gn G 0 ≤ 9999) ∧ (-64 ≤ gn G 1 ∧ gn G 1 ≤ 64) ∧ (0 ≤ gn G 2 ∧ gn G 2 ≤ 14000) ∧ (1 ≤ gn G 3 ∧ gn G 3 ≤ 200) ∧ (0 ≤ gn G 4 ∧ gn G 4 ≤ 100) ∧ (0 ≤ gn G 5 ∧ gn G 5 ≤ 9999) ∧ gm G ≤ 10 ∧ ∀ j, j < gm G → gk G j ≤ 3 ∧ gf G j ≤ gl G j ∧ gl G j ≤ 199 ∧ (gk G j ≠ 3 → gl G j = gf G j)
def isG (G : Lg) (mk : Int32) (nu kd fi la : Nat → Int32) : Prop := okG G ∧ mk.toInt = (gm G : Int) ∧ (∀ j, j < 6 → (nu j).toInt = gn G j) ∧ ∀ j, j < gm G → (kd j).toInt = (gk G j : Int) ∧ (fi j).toInt = (gf G j : Int) ∧ (la j).toInt = (gl G j : Int)
/-- how many of the first marks are of a kind -/
def ctK (G : Lg) (k : Nat) : Nat → Nat
  | 0 => 0
  | j + 1 => ctK G k j + if gk G j = k then 1 else 0
theorem ctK_le (G : Lg) (k : Nat) : ∀ j, ctK G k j ≤ j
  | 0 => Nat.le_refl 0
  | j + 1 => by have := ctK_le G k j; rw [ctK]; split <;> omega
/-- jumps up at i or ahead of it, less jumps down -/
def jmp (G : Lg) (i : Nat) : Nat → Int
  | 0 => 0
  | j + 1 => jmp G i j + if gf G j ≤ i then (if gk G j = 1 then 1 else if gk G j = 2 then -1 else 0) else 0
theorem jmp_le (G : Lg) (i : Nat) : ∀ j : Nat, -(j : Int) ≤ jmp G i j ∧ jmp G i j ≤ j
  | 0 => by simp [jmp]
  | j + 1 => by have := jmp_le G i j; rw [jmp]; split <;> (try split) <;> (try split) <;> omega
/-- behind at i, t being told -/
def lagZ (G : Lg) (i t : Nat) : Int := gn G 0 + gn G 1 * t / 256 + jmp G i (gm G)
def losB (G : Lg) (i : Nat) : Nat → Bool
  | 0 => false
  | j + 1 => losB G i j || (decide (gk G j = 3) && decide (gf G j ≤ i) && decide (i ≤ gl G j))
def fliB (G : Lg) (i : Nat) : Nat → Bool
  | 0 => false
  | j + 1 => Bool.xor (fliB G i j) (decide (gk G j = 0) && decide (gf G j = i))
theorem q_mulb {x y b c : Int} (h1 : -b ≤ x) (h2 : x ≤ b) (h3 : 0 ≤ y) (h4 : y ≤ c) (hb : 0 ≤ b) : -(b * c) ≤ x * y ∧ x * y ≤ b * c := by
  have e1 : x * y ≤ b * y := Int.mul_le_mul_of_nonneg_right h2 h3
  have e2 : b * y ≤ b * c := Int.mul_le_mul_of_nonneg_left h4 hb
  have e3 : (-b) * y ≤ x * y := Int.mul_le_mul_of_nonneg_right h1 h3
  rw [Int.neg_mul] at e3
  omega
