-- numbers: ints as whole numbers
abbrev iI (z : Int) : Int32 := Int32.ofInt z
theorem q_iI {z : Int} (h1 : -2147483648 ≤ z) (h2 : z < 2147483648) : (iI z).toInt = z := by
  rw [Int32.toInt_ofInt]; exact fb_bmod h1 h2
theorem q_inj {x y : Int32} (h : x.toInt = y.toInt) : x = y := Int32.toInt_inj.mp h
theorem q_nI {n : Nat} (h : n < 2147483648) : (nI n).toInt = (n : Int) := nI_toInt h
theorem q_of {x : Int32} (h : 0 ≤ x.toInt) : x = nI x.toInt.toNat := by
  apply q_inj
  have := fb_rng x
  rw [q_nI (by omega)]
  omega
theorem q_eqN {x : Int32} {n : Nat} (h : x.toInt = (n : Int)) : x = nI n := by
  have := fb_rng x
  apply q_inj
  rw [q_nI (by omega), h]
theorem q_cl {x : Int32} {n : Nat} (h : x.toInt = (n : Int)) : x.toNatClampNeg = n := by
  have := fb_rng x
  rw [q_eqN h, nI_clamp (by omega)]
theorem q_in {x : Int32} {n N : Nat} (h : x.toInt = (n : Int)) (hn : n < N) : vp_in x N := by
  rw [vp_in_iff, h]
  omega
theorem q_add {x y : Int32} {a b : Int} (hx : x.toInt = a) (hy : y.toInt = b) (h1 : -2147483648 ≤ a + b) (h2 : a + b < 2147483648) : (x + y).toInt = a + b := by
  subst hx hy; exact fb_addI h1 h2
theorem q_sub {x y : Int32} {a b : Int} (hx : x.toInt = a) (hy : y.toInt = b) (h1 : -2147483648 ≤ a - b) (h2 : a - b < 2147483648) : (x - y).toInt = a - b := by
  subst hx hy; exact fb_subI h1 h2
theorem q_mul {x y : Int32} {a b : Int} (hx : x.toInt = a) (hy : y.toInt = b) (h1 : -2147483648 ≤ a * b) (h2 : a * b < 2147483648) : (x * y).toInt = a * b := by
  subst hx hy; exact fb_mulI h1 h2
theorem q_1 {x : Int32} {n : Nat} (h : x.toInt = (n : Int)) (hn : n < 2147483647) : (x + (1 : Int32)).toInt = ((n + 1 : Nat) : Int) := by
  have := q_add (x := x) (y := 1) (b := 1) h (by decide) (by omega) (by omega)
  rw [this]; omega
theorem q_tdiv_lo (a b : Int) (h : 0 ≤ a) (hb : 0 < b) : 0 ≤ a / b ∧ a / b ≤ a ∧ a / b * b ≤ a ∧ 0 ≤ a / b * b := by
  have h1 := Int.ediv_nonneg h (Int.le_of_lt hb)
  have h2 := Int.ediv_le_self b h
  have h3 := Int.ediv_mul_le a (Int.ne_of_gt hb)
  exact ⟨h1, h2, h3, Int.mul_nonneg h1 (Int.le_of_lt hb)⟩
theorem q_tdiv (a b : Int) : a.tdiv b = if 0 ≤ a then a / b else -((-a) / b) := by
  by_cases h : 0 ≤ a
  · rw [if_pos h, Int.tdiv_eq_ediv_of_nonneg h]
  · rw [if_neg h]
    have e : a = -(-a) := by omega
    rw [← Int.tdiv_eq_ediv_of_nonneg (a := -a) (by omega), ← Int.neg_tdiv, Int.neg_neg]
theorem q_div {x y : Int32} (hy : 0 < y.toInt) : (x / y).toInt = x.toInt.tdiv y.toInt := by
  rw [Int32.toInt_div]
  have h1 := fb_rng x
  rw [q_tdiv]
  split
  · have h2 := q_tdiv_lo x.toInt y.toInt (by omega) hy
    exact fb_bmod (by omega) (by omega)
  · have h2 := q_tdiv_lo (-x.toInt) y.toInt (by omega) hy
    exact fb_bmod (by omega) (by omega)
theorem q_rem {x y : Int32} (hy : 0 < y.toInt) : (x - x / y * y).toInt = x.toInt.tmod y.toInt := by
  have h1 := fb_rng x
  have h2 := q_div (x := x) hy
  have h3 : x.toInt.tmod y.toInt = x.toInt - x.toInt.tdiv y.toInt * y.toInt := by
    have := Int.tmod_add_tdiv_mul x.toInt y.toInt
    omega
  rw [h3]
  have hw : -2147483648 ≤ x.toInt.tdiv y.toInt * y.toInt ∧ x.toInt.tdiv y.toInt * y.toInt < 2147483648 ∧ -2147483648 ≤ x.toInt - x.toInt.tdiv y.toInt * y.toInt ∧ x.toInt - x.toInt.tdiv y.toInt * y.toInt < 2147483648 := by
    rw [q_tdiv]
    split
    · have h4 := q_tdiv_lo x.toInt y.toInt (by omega) hy
      omega
    · have h4 := q_tdiv_lo (-x.toInt) y.toInt (by omega) hy
      rw [Int.neg_mul]
      omega
  exact q_sub rfl (q_mul h2 rfl hw.1 hw.2.1) hw.2.2.1 hw.2.2.2
theorem q_tmod_emod {a b : Int} (hb : 0 < b) : a % b = if 0 ≤ a.tmod b then a.tmod b else a.tmod b + b := by
  have h1 := Int.emod_nonneg a (Int.ne_of_gt hb)
  have h2 := Int.emod_lt_of_pos a hb
  rw [Int.tmod_eq_emod]
  by_cases h : 0 ≤ a ∨ b ∣ a
  · rw [if_pos h, if_pos (by omega)]
    omega
  · rw [if_neg h]
    have h3 : a % b ≠ 0 := fun q => h (Or.inr (Int.dvd_of_emod_eq_zero q))
    have h4 : (b.natAbs : Int) = b := by omega
    rw [h4, if_neg (by omega)]
    omega
theorem q_le {x y : Int32} {a b : Int} (hx : x.toInt = a) (hy : y.toInt = b) : (x ≤ y) = (a ≤ b) := by
  rw [fa_le, hx, hy]
theorem q_lt {x y : Int32} {a b : Int} (hx : x.toInt = a) (hy : y.toInt = b) : (x < y) = (a < b) := by
  rw [fa_lt, hx, hy]
theorem q_eq {x y : Int32} {a b : Int} (hx : x.toInt = a) (hy : y.toInt = b) : (x = y) = (a = b) := by
  rw [fa_eq, hx, hy]
theorem q_lc {x : Int64} {n : Nat} (h : x.toInt = (n : Int)) : x = lN n := by
  have h2 := Int64.toInt_lt x
  exact Int64.toInt_inj.mp (by rw [pk_lT (by omega), h])
theorem q_l0 {x : Int64} {n : Nat} (h : x.toInt = (n : Int)) : (x = 0) = (n = 0) := by
  rw [← Int64.toInt_inj, h]
  show ((n : Int) = 0) = (n = 0)
  exact propext (by omega)
theorem q_lrem {x y : Int64} {a b : Nat} (hx : x.toInt = (a : Int)) (hy : y.toInt = (b : Int)) (hb : 0 < b) : (x - x / y * y).toInt = ((a % b : Nat) : Int) := by
  have h1 := Int64.toInt_lt x
  have h2 := Int64.toInt_lt y
  have h3 := Nat.mod_lt a hb
  rw [q_lc hx, q_lc hy, pk_lRem (by omega) hb (by omega), pk_lT (by omega)]
theorem q_ldiv {x y : Int64} {a b : Nat} (hx : x.toInt = (a : Int)) (hy : y.toInt = (b : Int)) (hb : 0 < b) : (x / y).toInt = ((a / b : Nat) : Int) := by
  have h1 := Int64.toInt_lt x
  have h2 := Int64.toInt_lt y
  have h3 := Nat.div_le_self a b
  rw [q_lc hx, q_lc hy, pk_lDiv (by omega) hb (by omega), pk_lT (by omega)]
theorem q_i2l {x : Int32} {a : Int} (h : x.toInt = a) : (x.toInt64).toInt = a := by rw [Int32.toInt_toInt64, h]
theorem q_l2i {x : Int64} {a : Int} (h : x.toInt = a) (h1 : -2147483648 ≤ a) (h2 : a < 2147483648) : (x.toInt32).toInt = a := by
  rw [Int64.toInt_toInt32, h]; exact fb_bmod h1 h2
theorem q_divN {x y : Int32} {a b : Nat} (hx : x.toInt = (a : Int)) (hy : y.toInt = (b : Int)) (hb : 0 < b) : (x / y).toInt = ((a / b : Nat) : Int) := by
  rw [q_div (by omega), hx, hy, Int.tdiv_eq_ediv_of_nonneg (by omega)]
  rfl
theorem q_remN {x y : Int32} {a b : Nat} (hx : x.toInt = (a : Int)) (hy : y.toInt = (b : Int)) (hb : 0 < b) : (x - x / y * y).toInt = ((a % b : Nat) : Int) := by
  rw [q_rem (by omega), hx, hy, Int.tmod_eq_emod_of_nonneg (by omega)]
  rfl
theorem q_mulN {x y : Int32} {a b : Nat} (hx : x.toInt = (a : Int)) (hy : y.toInt = (b : Int)) (h : a * b < 2147483648) : (x * y).toInt = ((a * b : Nat) : Int) := by
  have e : ((a * b : Nat) : Int) = (a : Int) * (b : Int) := Int.natCast_mul a b
  rw [e]
  exact q_mul hx hy (by omega) (by omega)
theorem q_addN {x y : Int32} {a b : Nat} (hx : x.toInt = (a : Int)) (hy : y.toInt = (b : Int)) (h : a + b < 2147483648) : (x + y).toInt = ((a + b : Nat) : Int) := by
  rw [q_add hx hy (by omega) (by omega)]; omega
theorem q_subN {x y : Int32} {a b : Nat} (hx : x.toInt = (a : Int)) (hy : y.toInt = (b : Int)) (h : b ≤ a) (ha : a < 2147483648) : (x - y).toInt = ((a - b : Nat) : Int) := by
  rw [q_sub hx hy (by omega) (by omega)]; omega
theorem lcm_cut {a b : Nat} : a / Nat.gcd a b * b = Nat.lcm a b := by
  rw [Nat.lcm, Nat.div_mul_right_comm (Nat.gcd_dvd_left a b)]
theorem lcm_lt {a b N : Nat} (h : a * b < N) : Nat.lcm a b < N := by
  have := Nat.div_le_self (a * b) (Nat.gcd a b)
  unfold Nat.lcm
  omega
/-- a bit of a number that isn't below 0 -/
theorem q_shr {x k : Int32} {s j : Nat} (hx : x.toInt = (s : Int)) (hk : k.toInt = (j : Int)) (hj : j < 32) : (x >>> (k &&& 31)).toInt = ((s >>> j : Nat) : Int) := by
  have hs := fb_rng x
  rw [q_eqN hk, pk_shr x (nI j &&& 31) j (s_l j hj), hx]
  rfl
theorem q_bit {x k : Int32} {s j : Nat} (hx : x.toInt = (s : Int)) (hk : k.toInt = (j : Int)) (hj : j < 32) : ((x >>> (k &&& 31)) &&& (1 : Int32)) = if s.testBit j then 1 else 0 := by
  have hs := fb_rng x
  have h1 := q_shr hx hk hj
  have h2 : s >>> j ≤ s := by rw [Nat.shiftRight_eq_div_pow]; exact Nat.div_le_self _ _
  rw [q_eqN h1, show (1 : Int32) = nI 1 from rfl, fa_and, Nat.and_one_is_mod, Nat.testBit, Nat.and_comm, Nat.and_one_is_mod]
  rcases Nat.mod_two_eq_zero_or_one (s >>> j) with h | h <;> rw [h] <;> rfl
theorem q_bitB {x k : Int32} {s j : Nat} (hx : x.toInt = (s : Int)) (hk : k.toInt = (j : Int)) (hj : j < 32) : (((x >>> (k &&& 31)) &&& (1 : Int32)) = (1 : Int32)) = (s.testBit j = true) := by
  rw [q_bit hx hk hj]
  cases s.testBit j <;> simp
theorem z0 : (0 : Int32).toInt = 0 := rfl
theorem z1 : (1 : Int32).toInt = 1 := rfl
theorem z2 : (2 : Int32).toInt = 2 := rfl
theorem z3 : (3 : Int32).toInt = 3 := rfl
theorem z4 : (4 : Int32).toInt = 4 := rfl
theorem z5 : (5 : Int32).toInt = 5 := rfl
theorem z6 : (6 : Int32).toInt = 6 := rfl
theorem z7 : (7 : Int32).toInt = 7 := rfl
theorem z8 : (8 : Int32).toInt = 8 := rfl
theorem z9 : (9 : Int32).toInt = 9 := rfl
theorem z10 : (10 : Int32).toInt = 10 := rfl
theorem z11 : (11 : Int32).toInt = 11 := rfl
theorem z12 : (12 : Int32).toInt = 12 := rfl
theorem z13 : (13 : Int32).toInt = 13 := rfl
theorem z14 : (14 : Int32).toInt = 14 := rfl
theorem z15 : (15 : Int32).toInt = 15 := rfl
theorem z16 : (16 : Int32).toInt = 16 := rfl
theorem z18 : (18 : Int32).toInt = 18 := rfl
theorem z19 : (19 : Int32).toInt = 19 := rfl
theorem z20 : (20 : Int32).toInt = 20 := rfl
theorem z31 : (31 : Int32).toInt = 31 := rfl
theorem z32 : (32 : Int32).toInt = 32 := rfl
theorem z37 : (37 : Int32).toInt = 37 := rfl
theorem z40 : (40 : Int32).toInt = 40 := rfl
theorem z56 : (56 : Int32).toInt = 56 := rfl
theorem z63 : (63 : Int32).toInt = 63 := rfl
theorem z64 : (64 : Int32).toInt = 64 := rfl
theorem z94 : (94 : Int32).toInt = 94 := rfl
theorem z100 : (100 : Int32).toInt = 100 := rfl
theorem z199 : (199 : Int32).toInt = 199 := rfl
theorem z200 : (200 : Int32).toInt = 200 := rfl
theorem z255 : (255 : Int32).toInt = 255 := rfl
theorem z256 : (256 : Int32).toInt = 256 := rfl
theorem z376 : (376 : Int32).toInt = 376 := rfl
theorem z500 : (500 : Int32).toInt = 500 := rfl
theorem z501 : (501 : Int32).toInt = 501 := rfl
theorem z1000 : (1000 : Int32).toInt = 1000 := rfl
theorem z9999 : (9999 : Int32).toInt = 9999 := rfl
theorem z65536 : (65536 : Int32).toInt = 65536 := rfl
theorem zm1 : (-1 : Int32).toInt = -1 := rfl
theorem zm2 : (-2 : Int32).toInt = -2 := rfl
theorem zm64 : (-64 : Int32).toInt = -64 := rfl
theorem zm1000 : (-1000 : Int32).toInt = -1000 := rfl
theorem zm1000000 : (-1000000 : Int32).toInt = -1000000 := rfl
theorem q_and1 {x : Int32} {s : Nat} (hx : x.toInt = (s : Int)) : (x &&& (1 : Int32)) = if s.testBit 0 then 1 else 0 := by
  rw [q_eqN hx, show (1 : Int32) = nI 1 from rfl, fa_and, Nat.and_one_is_mod, Nat.testBit_zero]
  rcases Nat.mod_two_eq_zero_or_one s with h | h <;> simp [h] <;> rfl
theorem bt_1 (j : Nat) : bt 1 j = decide (j = 0) := by
  rcases Nat.lt_or_ge j 32 with h | h
  · have : ∀ j, j < 32 → bt 1 j = decide (j = 0) := by decide
    exact this j h
  · rw [b_big h]; simp; omega
theorem bt_and1 (y : Int32) : (y &&& (1 : Int32)) = if bt y 0 then 1 else 0 := by
  apply b_ext
  intro i hi
  rw [b_and, bt_1]
  by_cases h : i = 0
  · subst h
    cases bt y 0 <;> decide
  · cases bt y 0 <;> simp [h, bt_1, b_0]
theorem bt_nI {n i : Nat} (hi : i < 32) : bt (nI n) i = n.testBit i := by
  show (nI n).toBitVec.getLsbD i = _
  have : (nI n).toBitVec = BitVec.ofNat 32 n := rfl
  rw [this, BitVec.getLsbD_ofNat]
  simp [hi]
theorem q_orS {x y : Int32} {a b k : Nat} (hx : x.toInt = (a : Int)) (ha : a < 2 ^ k) (hy : y.toInt = ((2 ^ k * b : Nat) : Int)) (h : 2 ^ k * b + a < 2147483648) : (x ||| y).toInt = ((2 ^ k * b + a : Nat) : Int) := by
  rw [q_eqN hx, q_eqN hy, Int32.or_comm, fa_or_sum b ha, q_nI h]
theorem q_shlN {x k : Int32} {a j : Nat} (hx : x.toInt = (a : Int)) (hk : k.toInt = (j : Int)) (hj : j < 32) (h : a * 2 ^ j < 2147483648) : (x <<< (k &&& 31)).toInt = ((a * 2 ^ j : Nat) : Int) := by
  rw [q_eqN hx, q_eqN hk, pk_shlN (nI j &&& 31) j (s_l j hj) (by omega), q_nI h]
