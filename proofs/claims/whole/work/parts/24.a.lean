-- how much more often the code is like a part (one of them turned) than unlike it
theorem md_1 {k L : Nat} (hL : 2 ≤ L) : (k + 1) % L = if k % L + 1 = L then 0 else k % L + 1 := by
  have h := Nat.mod_lt k (show 0 < L by omega)
  have e : (k + 1) % L = (k % L + 1) % L := by rw [Nat.add_mod, Nat.mod_eq_of_lt (show 1 < L by omega)]
  rw [e]
  by_cases c : k % L + 1 = L
  · rw [if_pos c, c, Nat.mod_self]
  · rw [if_neg c, Nat.mod_eq_of_lt (by omega)]
theorem em_1 {z : Int} {L : Nat} (hL : 2 ≤ L) : (z + 1) % (L : Int) = if z % (L : Int) + 1 = (L : Int) then 0 else z % (L : Int) + 1 := by
  have h1 := Int.emod_nonneg z (show (L : Int) ≠ 0 by omega)
  have h2 := Int.emod_lt_of_pos z (show (0 : Int) < (L : Int) by omega)
  have e : (z + 1) % (L : Int) = (z % (L : Int) + 1) % (L : Int) := by rw [Int.emod_add_emod]
  rw [e]
  by_cases c : z % (L : Int) + 1 = (L : Int)
  · rw [if_pos c, c, Int.emod_self]
  · rw [if_neg c, Int.emod_eq_of_lt (by omega) (by omega)]
theorem chB_n (T : Cd) (q k : Nat) : chB T q (k : Int) = (cR T q).testBit (k % cL T q) := by
  unfold chB
  rw [← Int.natCast_emod]; rfl
noncomputable section
def fsT (T : Cd) (pt pl : Int) (q t : Nat) : Int := if chB T q ((t : Int) - (if (q : Int) = pt then pl else 0)) = coB T (t : Int) then 1 else -1
def spFZ (T : Cd) (pt pl : Int) (q : Nat) : Int := smZ (fsT T pt pl q) (lcS T (2 ^ cn T - 1) (cn T))
def spFull (T : Cd) (p l : Int) : Int := if (0 ≤ p ∧ p < (cn T : Int)) ∧ 0 ≤ l ∧ l < (cL T p.toNat : Int) then spFZ T p l p.toNat else -1000000
/-- the least of all parts, were a part's vote v -/
def beF (T : Cd) (c v : Nat) : Int := lsZ (spFZ (wV T c v) (-1) 0) (cn T)
def btN (T : Cd) (c : Nat) : Nat → Nat × Int
  | 0 => (0, -1000000)
  | k + 1 => if (btN T c k).2 < beF T c (k + 1) then (k + 1, beF T c (k + 1)) else btN T c k
def spBetter (T : Cd) (p : Int) (w : Int) : Int := if 0 ≤ p ∧ p < (cn T : Int) then (if w = 0 then ((btN T p.toNat 9).1 : Int) else (btN T p.toNat 9).2) else -1000000
end
theorem fsT_or (T : Cd) (pt pl : Int) (q t : Nat) : fsT T pt pl q t = 1 ∨ fsT T pt pl q t = -1 := by
  unfold fsT
  by_cases c : chB T q ((t : Int) - (if (q : Int) = pt then pl else 0)) = coB T (t : Int)
  · rw [if_pos c]; exact Or.inl rfl
  · rw [if_neg c]; exact Or.inr rfl
theorem fsT_ab (T : Cd) (pt pl : Int) (q n : Nat) : -(n : Int) ≤ smZ (fsT T pt pl q) n ∧ smZ (fsT T pt pl q) n ≤ (n : Int) := by
  have h := smZ_le (f := fsT T pt pl q) (b := 1) (by decide) n (fun k _ => by rcases fsT_or T pt pl q k with z | z <;> rw [z] <;> decide)
  omega
theorem lcS_wV (T : Cd) (c v s : Nat) : ∀ k, lcS (wV T c v) s k = lcS T s k
  | 0 => rfl
  | k + 1 => by rw [lcS, lcS, lcS_wV T c v s k]; rfl
theorem lcS_5 {T : Cd} (hL : ∀ p, p < cn T → 2 ≤ cL T p ∧ cL T p ≤ 13) (hn : cn T ≤ 5) (s : Nat) : lcS T s (cn T) ≤ 371293 := Nat.le_trans (lcS_le (fun p hp => (hL p hp).2) s (cn T) (Nat.le_refl _)) (p5_le hn)
theorem lsZ_ab {f : Nat → Int} {b : Int} {n : Nat} (hn : 1 ≤ n) (h : ∀ k, k < n → -b ≤ f k ∧ f k ≤ b) : ∀ k, k ≤ n → -b ≤ lsZ f k ∧ lsZ f k ≤ b
  | 0, _ => by rw [lsZ]; exact h 0 (by omega)
  | k + 1, hk => by
    have ih := lsZ_ab hn h k (by omega)
    have h2 := h k (by omega)
    rw [lsZ]; split
    · exact h2
    · exact ih
theorem lsZ_cong {f g : Nat → Int} {n : Nat} (hn : 1 ≤ n) (h : ∀ k, k < n → f k = g k) : ∀ k, k ≤ n → lsZ f k = lsZ g k
  | 0, _ => by rw [lsZ, lsZ, h 0 (by omega)]
  | k + 1, hk => by rw [lsZ, lsZ, lsZ_cong hn h k (by omega), h k (by omega)]
theorem beF_lo {T : Cd} (hL : ∀ p, p < cn T → 2 ≤ cL T p ∧ cL T p ≤ 13) (hn : cn T ≤ 5) (hn1 : 1 ≤ cn T) (c v : Nat) : -371293 ≤ beF T c v ∧ beF T c v ≤ 371293 := by
  unfold beF
  refine lsZ_ab (b := 371293) hn1 (fun k _ => ?_) (cn T) (Nat.le_refl _)
  unfold spFZ
  have e : lcS (wV T c v) (2 ^ cn (wV T c v) - 1) (cn (wV T c v)) = lcS T (2 ^ cn T - 1) (cn T) := lcS_wV T c v _ _
  rw [e]
  have h1 := fsT_ab (wV T c v) (-1) 0 k (lcS T (2 ^ cn T - 1) (cn T))
  have h2 := lcS_5 hL hn (2 ^ cn T - 1)
  omega
theorem btN_le (T : Cd) (c : Nat) : ∀ k, (btN T c k).1 ≤ k
  | 0 => Nat.le_refl 0
  | k + 1 => by
    have := btN_le T c k
    rw [btN]; split
    · exact Nat.le_refl _
    · omega
set_option maxRecDepth 20000 in
theorem ggX9_laysFulls_X9_everyPart : GoodIn wsX9_laysFulls wsX9_everyPart := goodIn_r _ [8, 1, 29, 30, 31, 32, 33, 34, 35, 36, 37, 38, 39, 40, 41, 42, 43, 44, 45, 46, 47, 48, 49, 50, 51, 52, 53, 54, 55, 56, 57] (by decide +kernel) (by decide +kernel)
set_option maxRecDepth 20000 in
theorem gX9_laysFulls_X9_everyPart : GoodIn wsX9_laysFulls (wsV RX9 210 RX9 yX9_everyPart wsX9_everyPart) := goodIn_app (goodIn_of _ (by decide +kernel)) ggX9_laysFulls_X9_everyPart
set_option maxRecDepth 20000 in
theorem ggX9_laysFulls_X9_commonOf : GoodIn wsX9_laysFulls wsX9_commonOf := goodIn_r _ [12, 1, 13, 14, 7, 15, 16, 17, 18, 19, 20, 21, 22, 23, 24, 25, 29, 30, 31, 32, 33, 34, 35, 36, 37, 38, 39, 40, 41, 42, 43, 44, 45, 46, 47, 48, 49, 50, 51, 52, 53, 54, 55, 56, 57] (by decide +kernel) (by decide +kernel)
set_option maxRecDepth 20000 in
theorem gX9_laysFulls_X9_commonOf : GoodIn wsX9_laysFulls (wsV RX9 213 RX9 yX9_commonOf wsX9_commonOf) := goodIn_app (goodIn_of _ (by decide +kernel)) ggX9_laysFulls_X9_commonOf
set_option maxRecDepth 20000 in
theorem ggX9_laysFulls_X9_of : GoodIn wsX9_laysFulls wsX9_of := goodIn_r _ [19, 1, 29, 30, 31, 32, 33, 34, 35, 36, 37, 38, 39, 40, 41, 42, 43, 44, 45, 46, 47, 48, 49, 50, 51, 52, 53, 54, 55, 56, 57] (by decide +kernel) (by decide +kernel)
set_option maxRecDepth 20000 in
theorem gX9_laysFulls_X9_of : GoodIn wsX9_laysFulls (wsV RX9 195 RX9 yX9_of wsX9_of) := goodIn_app (goodIn_of _ (by decide +kernel)) ggX9_laysFulls_X9_of
set_option maxRecDepth 20000 in
theorem ggX9_laysFulls_X9_rest : GoodIn wsX9_laysFulls wsX9_rest := goodIn_r _ [28] (by decide +kernel) (by decide +kernel)
set_option maxRecDepth 20000 in
theorem gX9_laysFulls_X9_rest : GoodIn wsX9_laysFulls (va_wsS RX9 55 yX9_rest wsX9_rest) := goodIn_app (goodIn_of _ (by decide +kernel)) ggX9_laysFulls_X9_rest
set_option maxRecDepth 20000 in
theorem ggX9_laysFulls_X9_has : GoodIn wsX9_laysFulls wsX9_has := goodIn_r _ [15] (by decide +kernel) (by decide +kernel)
set_option maxRecDepth 20000 in
theorem gX9_laysFulls_X9_has : GoodIn wsX9_laysFulls (va_wsS RX9 201 yX9_has wsX9_has) := goodIn_app (goodIn_of _ (by decide +kernel)) ggX9_laysFulls_X9_has
theorem dX9_laysFulls_0 : decode cX9_laysFulls 0 = .ok (.aload_n 0, 1) := by decide +kernel
theorem dX9_laysFulls_1 : decode cX9_laysFulls 1 = .ok (.aload_n 0, 1) := by decide +kernel
theorem dX9_laysFulls_2 : decode cX9_laysFulls 2 = .ok (.invokevirtual 210, 3) := by decide +kernel
theorem dX9_laysFulls_5 : decode cX9_laysFulls 5 = .ok (.invokevirtual 213, 3) := by decide +kernel
theorem dX9_laysFulls_8 : decode cX9_laysFulls 8 = .ok (.istore_n 3, 1) := by decide +kernel
theorem dX9_laysFulls_9 : decode cX9_laysFulls 9 = .ok (.iconst 0, 1) := by decide +kernel
theorem dX9_laysFulls_10 : decode cX9_laysFulls 10 = .ok (.istore 4, 2) := by decide +kernel
theorem dX9_laysFulls_12 : decode cX9_laysFulls 12 = .ok (.iload 4, 2) := by decide +kernel
theorem dX9_laysFulls_14 : decode cX9_laysFulls 14 = .ok (.aload_n 0, 1) := by decide +kernel
theorem dX9_laysFulls_15 : decode cX9_laysFulls 15 = .ok (.getfield 7, 3) := by decide +kernel
theorem dX9_laysFulls_18 : decode cX9_laysFulls 18 = .ok (.iconst 0, 1) := by decide +kernel
theorem dX9_laysFulls_19 : decode cX9_laysFulls 19 = .ok (.iaload, 1) := by decide +kernel
theorem dX9_laysFulls_20 : decode cX9_laysFulls 20 = .ok (.if_icmp .ge 25, 3) := by decide +kernel
theorem dX9_laysFulls_23 : decode cX9_laysFulls 23 = .ok (.aload_n 0, 1) := by decide +kernel
theorem dX9_laysFulls_24 : decode cX9_laysFulls 24 = .ok (.getfield 24, 3) := by decide +kernel
theorem dX9_laysFulls_27 : decode cX9_laysFulls 27 = .ok (.iload 4, 2) := by decide +kernel
theorem dX9_laysFulls_29 : decode cX9_laysFulls 29 = .ok (.iconst 0, 1) := by decide +kernel
theorem dX9_laysFulls_30 : decode cX9_laysFulls 30 = .ok (.iastore, 1) := by decide +kernel
theorem dX9_laysFulls_31 : decode cX9_laysFulls 31 = .ok (.aload_n 0, 1) := by decide +kernel
theorem dX9_laysFulls_32 : decode cX9_laysFulls 32 = .ok (.getfield 27, 3) := by decide +kernel
theorem dX9_laysFulls_35 : decode cX9_laysFulls 35 = .ok (.iload 4, 2) := by decide +kernel
theorem dX9_laysFulls_37 : decode cX9_laysFulls 37 = .ok (.iconst 0, 1) := by decide +kernel
theorem dX9_laysFulls_38 : decode cX9_laysFulls 38 = .ok (.iastore, 1) := by decide +kernel
theorem dX9_laysFulls_39 : decode cX9_laysFulls 39 = .ok (.iinc 4 1, 3) := by decide +kernel
theorem dX9_laysFulls_42 : decode cX9_laysFulls 42 = .ok (.goto (-30), 3) := by decide +kernel
theorem dX9_laysFulls_45 : decode cX9_laysFulls 45 = .ok (.iload_n 1, 1) := by decide +kernel
theorem dX9_laysFulls_46 : decode cX9_laysFulls 46 = .ok (.iconst (-1), 1) := by decide +kernel
theorem dX9_laysFulls_47 : decode cX9_laysFulls 47 = .ok (.if_icmp .ne 7, 3) := by decide +kernel
theorem dX9_laysFulls_50 : decode cX9_laysFulls 50 = .ok (.iconst 0, 1) := by decide +kernel
theorem dX9_laysFulls_51 : decode cX9_laysFulls 51 = .ok (.goto 14, 3) := by decide +kernel
theorem dX9_laysFulls_54 : decode cX9_laysFulls 54 = .ok (.iload_n 2, 1) := by decide +kernel
theorem dX9_laysFulls_55 : decode cX9_laysFulls 55 = .ok (.ineg, 1) := by decide +kernel
theorem dX9_laysFulls_56 : decode cX9_laysFulls 56 = .ok (.aload_n 0, 1) := by decide +kernel
theorem dX9_laysFulls_57 : decode cX9_laysFulls 57 = .ok (.iload_n 1, 1) := by decide +kernel
theorem dX9_laysFulls_58 : decode cX9_laysFulls 58 = .ok (.iconst 0, 1) := by decide +kernel
theorem dX9_laysFulls_59 : decode cX9_laysFulls 59 = .ok (.invokevirtual 195, 3) := by decide +kernel
theorem dX9_laysFulls_62 : decode cX9_laysFulls 62 = .ok (.invokestatic 55, 3) := by decide +kernel
theorem dX9_laysFulls_65 : decode cX9_laysFulls 65 = .ok (.istore 4, 2) := by decide +kernel
theorem dX9_laysFulls_67 : decode cX9_laysFulls 67 = .ok (.iconst 0, 1) := by decide +kernel
theorem dX9_laysFulls_68 : decode cX9_laysFulls 68 = .ok (.istore 5, 2) := by decide +kernel
theorem dX9_laysFulls_70 : decode cX9_laysFulls 70 = .ok (.iload 5, 2) := by decide +kernel
theorem dX9_laysFulls_72 : decode cX9_laysFulls 72 = .ok (.iload_n 3, 1) := by decide +kernel
theorem dX9_laysFulls_73 : decode cX9_laysFulls 73 = .ok (.if_icmp .ge 265, 3) := by decide +kernel
theorem dX9_laysFulls_76 : decode cX9_laysFulls 76 = .ok (.iconst 0, 1) := by decide +kernel
theorem dX9_laysFulls_77 : decode cX9_laysFulls 77 = .ok (.istore 6, 2) := by decide +kernel
theorem dX9_laysFulls_79 : decode cX9_laysFulls 79 = .ok (.iconst 0, 1) := by decide +kernel
theorem dX9_laysFulls_80 : decode cX9_laysFulls 80 = .ok (.istore 7, 2) := by decide +kernel
theorem dX9_laysFulls_82 : decode cX9_laysFulls 82 = .ok (.iload 7, 2) := by decide +kernel
theorem dX9_laysFulls_84 : decode cX9_laysFulls 84 = .ok (.aload_n 0, 1) := by decide +kernel
theorem dX9_laysFulls_85 : decode cX9_laysFulls 85 = .ok (.getfield 7, 3) := by decide +kernel
theorem dX9_laysFulls_88 : decode cX9_laysFulls 88 = .ok (.iconst 0, 1) := by decide +kernel
theorem dX9_laysFulls_89 : decode cX9_laysFulls 89 = .ok (.iaload, 1) := by decide +kernel
theorem dX9_laysFulls_90 : decode cX9_laysFulls 90 = .ok (.if_icmp .ge 52, 3) := by decide +kernel
theorem dX9_laysFulls_93 : decode cX9_laysFulls 93 = .ok (.iload 6, 2) := by decide +kernel
theorem dX9_laysFulls_95 : decode cX9_laysFulls 95 = .ok (.aload_n 0, 1) := by decide +kernel
theorem dX9_laysFulls_96 : decode cX9_laysFulls 96 = .ok (.iload 7, 2) := by decide +kernel
theorem dX9_laysFulls_98 : decode cX9_laysFulls 98 = .ok (.iconst 2, 1) := by decide +kernel
theorem dX9_laysFulls_99 : decode cX9_laysFulls 99 = .ok (.invokevirtual 195, 3) := by decide +kernel
theorem dX9_laysFulls_102 : decode cX9_laysFulls 102 = .ok (.aload_n 0, 1) := by decide +kernel
theorem dX9_laysFulls_103 : decode cX9_laysFulls 103 = .ok (.getfield 27, 3) := by decide +kernel
theorem dX9_laysFulls_106 : decode cX9_laysFulls 106 = .ok (.iload 7, 2) := by decide +kernel
theorem dX9_laysFulls_108 : decode cX9_laysFulls 108 = .ok (.iaload, 1) := by decide +kernel
theorem dX9_laysFulls_109 : decode cX9_laysFulls 109 = .ok (.invokestatic 201, 3) := by decide +kernel
theorem dX9_laysFulls_112 : decode cX9_laysFulls 112 = .ok (.ifCond .eq 13, 3) := by decide +kernel
theorem dX9_laysFulls_115 : decode cX9_laysFulls 115 = .ok (.aload_n 0, 1) := by decide +kernel
theorem dX9_laysFulls_116 : decode cX9_laysFulls 116 = .ok (.iload 7, 2) := by decide +kernel
theorem dX9_laysFulls_118 : decode cX9_laysFulls 118 = .ok (.iconst 1, 1) := by decide +kernel
theorem dX9_laysFulls_119 : decode cX9_laysFulls 119 = .ok (.invokevirtual 195, 3) := by decide +kernel
theorem dX9_laysFulls_122 : decode cX9_laysFulls 122 = .ok (.goto 11, 3) := by decide +kernel
theorem dX9_laysFulls_125 : decode cX9_laysFulls 125 = .ok (.aload_n 0, 1) := by decide +kernel
theorem dX9_laysFulls_126 : decode cX9_laysFulls 126 = .ok (.iload 7, 2) := by decide +kernel
theorem dX9_laysFulls_128 : decode cX9_laysFulls 128 = .ok (.iconst 1, 1) := by decide +kernel
theorem dX9_laysFulls_129 : decode cX9_laysFulls 129 = .ok (.invokevirtual 195, 3) := by decide +kernel
theorem dX9_laysFulls_132 : decode cX9_laysFulls 132 = .ok (.ineg, 1) := by decide +kernel
theorem dX9_laysFulls_133 : decode cX9_laysFulls 133 = .ok (.iadd, 1) := by decide +kernel
theorem dX9_laysFulls_134 : decode cX9_laysFulls 134 = .ok (.istore 6, 2) := by decide +kernel
theorem dX9_laysFulls_136 : decode cX9_laysFulls 136 = .ok (.iinc 7 1, 3) := by decide +kernel
theorem dX9_laysFulls_139 : decode cX9_laysFulls 139 = .ok (.goto (-57), 3) := by decide +kernel
theorem dX9_laysFulls_142 : decode cX9_laysFulls 142 = .ok (.iload 6, 2) := by decide +kernel
theorem dX9_laysFulls_144 : decode cX9_laysFulls 144 = .ok (.ifCond .eq 16, 3) := by decide +kernel
theorem dX9_laysFulls_147 : decode cX9_laysFulls 147 = .ok (.iload 6, 2) := by decide +kernel
theorem dX9_laysFulls_149 : decode cX9_laysFulls 149 = .ok (.ifCond .le 7, 3) := by decide +kernel
theorem dX9_laysFulls_152 : decode cX9_laysFulls 152 = .ok (.iconst 1, 1) := by decide +kernel
theorem dX9_laysFulls_153 : decode cX9_laysFulls 153 = .ok (.goto 22, 3) := by decide +kernel
theorem dX9_laysFulls_156 : decode cX9_laysFulls 156 = .ok (.iconst 0, 1) := by decide +kernel
theorem dX9_laysFulls_157 : decode cX9_laysFulls 157 = .ok (.goto 18, 3) := by decide +kernel
theorem dX9_laysFulls_160 : decode cX9_laysFulls 160 = .ok (.aload_n 0, 1) := by decide +kernel
theorem dX9_laysFulls_161 : decode cX9_laysFulls 161 = .ok (.iconst 0, 1) := by decide +kernel
theorem dX9_laysFulls_162 : decode cX9_laysFulls 162 = .ok (.iconst 2, 1) := by decide +kernel
theorem dX9_laysFulls_163 : decode cX9_laysFulls 163 = .ok (.invokevirtual 195, 3) := by decide +kernel
theorem dX9_laysFulls_166 : decode cX9_laysFulls 166 = .ok (.aload_n 0, 1) := by decide +kernel
theorem dX9_laysFulls_167 : decode cX9_laysFulls 167 = .ok (.getfield 27, 3) := by decide +kernel
theorem dX9_laysFulls_170 : decode cX9_laysFulls 170 = .ok (.iconst 0, 1) := by decide +kernel
theorem dX9_laysFulls_171 : decode cX9_laysFulls 171 = .ok (.iaload, 1) := by decide +kernel
theorem dX9_laysFulls_172 : decode cX9_laysFulls 172 = .ok (.invokestatic 201, 3) := by decide +kernel
theorem dX9_laysFulls_175 : decode cX9_laysFulls 175 = .ok (.istore 7, 2) := by decide +kernel
theorem dX9_laysFulls_177 : decode cX9_laysFulls 177 = .ok (.iconst 0, 1) := by decide +kernel
theorem dX9_laysFulls_178 : decode cX9_laysFulls 178 = .ok (.istore 8, 2) := by decide +kernel
theorem dX9_laysFulls_180 : decode cX9_laysFulls 180 = .ok (.iload 8, 2) := by decide +kernel
theorem dX9_laysFulls_182 : decode cX9_laysFulls 182 = .ok (.aload_n 0, 1) := by decide +kernel
theorem dX9_laysFulls_183 : decode cX9_laysFulls 183 = .ok (.getfield 7, 3) := by decide +kernel
theorem dX9_laysFulls_186 : decode cX9_laysFulls 186 = .ok (.iconst 0, 1) := by decide +kernel
theorem dX9_laysFulls_187 : decode cX9_laysFulls 187 = .ok (.iaload, 1) := by decide +kernel
theorem dX9_laysFulls_188 : decode cX9_laysFulls 188 = .ok (.if_icmp .ge 57, 3) := by decide +kernel
theorem dX9_laysFulls_191 : decode cX9_laysFulls 191 = .ok (.aload_n 0, 1) := by decide +kernel
theorem dX9_laysFulls_192 : decode cX9_laysFulls 192 = .ok (.getfield 24, 3) := by decide +kernel
theorem dX9_laysFulls_195 : decode cX9_laysFulls 195 = .ok (.iload 8, 2) := by decide +kernel
theorem dX9_laysFulls_197 : decode cX9_laysFulls 197 = .ok (.dup2, 1) := by decide +kernel
theorem dX9_laysFulls_198 : decode cX9_laysFulls 198 = .ok (.iaload, 1) := by decide +kernel
theorem dX9_laysFulls_199 : decode cX9_laysFulls 199 = .ok (.aload_n 0, 1) := by decide +kernel
theorem dX9_laysFulls_200 : decode cX9_laysFulls 200 = .ok (.iload 8, 2) := by decide +kernel
theorem dX9_laysFulls_202 : decode cX9_laysFulls 202 = .ok (.iconst 2, 1) := by decide +kernel
theorem dX9_laysFulls_203 : decode cX9_laysFulls 203 = .ok (.invokevirtual 195, 3) := by decide +kernel
theorem dX9_laysFulls_206 : decode cX9_laysFulls 206 = .ok (.iload 8, 2) := by decide +kernel
theorem dX9_laysFulls_208 : decode cX9_laysFulls 208 = .ok (.iload_n 1, 1) := by decide +kernel
theorem dX9_laysFulls_209 : decode cX9_laysFulls 209 = .ok (.if_icmp .ne 8, 3) := by decide +kernel
theorem dX9_laysFulls_212 : decode cX9_laysFulls 212 = .ok (.iload 4, 2) := by decide +kernel
theorem dX9_laysFulls_214 : decode cX9_laysFulls 214 = .ok (.goto 10, 3) := by decide +kernel
theorem dX9_laysFulls_217 : decode cX9_laysFulls 217 = .ok (.aload_n 0, 1) := by decide +kernel
theorem dX9_laysFulls_218 : decode cX9_laysFulls 218 = .ok (.getfield 27, 3) := by decide +kernel
theorem dX9_laysFulls_221 : decode cX9_laysFulls 221 = .ok (.iload 8, 2) := by decide +kernel
theorem dX9_laysFulls_223 : decode cX9_laysFulls 223 = .ok (.iaload, 1) := by decide +kernel
theorem dX9_laysFulls_224 : decode cX9_laysFulls 224 = .ok (.invokestatic 201, 3) := by decide +kernel
theorem dX9_laysFulls_227 : decode cX9_laysFulls 227 = .ok (.iload 7, 2) := by decide +kernel
theorem dX9_laysFulls_229 : decode cX9_laysFulls 229 = .ok (.if_icmp .ne 7, 3) := by decide +kernel
theorem dX9_laysFulls_232 : decode cX9_laysFulls 232 = .ok (.iconst 1, 1) := by decide +kernel
theorem dX9_laysFulls_233 : decode cX9_laysFulls 233 = .ok (.goto 4, 3) := by decide +kernel
theorem dX9_laysFulls_236 : decode cX9_laysFulls 236 = .ok (.iconst (-1), 1) := by decide +kernel
theorem dX9_laysFulls_237 : decode cX9_laysFulls 237 = .ok (.iadd, 1) := by decide +kernel
theorem dX9_laysFulls_238 : decode cX9_laysFulls 238 = .ok (.iastore, 1) := by decide +kernel
theorem dX9_laysFulls_239 : decode cX9_laysFulls 239 = .ok (.iinc 8 1, 3) := by decide +kernel
theorem dX9_laysFulls_242 : decode cX9_laysFulls 242 = .ok (.goto (-62), 3) := by decide +kernel
theorem dX9_laysFulls_245 : decode cX9_laysFulls 245 = .ok (.iconst 0, 1) := by decide +kernel
theorem dX9_laysFulls_246 : decode cX9_laysFulls 246 = .ok (.istore 8, 2) := by decide +kernel
theorem dX9_laysFulls_248 : decode cX9_laysFulls 248 = .ok (.iload 8, 2) := by decide +kernel
theorem dX9_laysFulls_250 : decode cX9_laysFulls 250 = .ok (.aload_n 0, 1) := by decide +kernel
theorem dX9_laysFulls_251 : decode cX9_laysFulls 251 = .ok (.getfield 7, 3) := by decide +kernel
theorem dX9_laysFulls_254 : decode cX9_laysFulls 254 = .ok (.iconst 0, 1) := by decide +kernel
theorem dX9_laysFulls_255 : decode cX9_laysFulls 255 = .ok (.iaload, 1) := by decide +kernel
theorem dX9_laysFulls_256 : decode cX9_laysFulls 256 = .ok (.if_icmp .ge 48, 3) := by decide +kernel
theorem dX9_laysFulls_259 : decode cX9_laysFulls 259 = .ok (.aload_n 0, 1) := by decide +kernel
theorem dX9_laysFulls_260 : decode cX9_laysFulls 260 = .ok (.getfield 27, 3) := by decide +kernel
theorem dX9_laysFulls_263 : decode cX9_laysFulls 263 = .ok (.iload 8, 2) := by decide +kernel
theorem dX9_laysFulls_265 : decode cX9_laysFulls 265 = .ok (.aload_n 0, 1) := by decide +kernel
theorem dX9_laysFulls_266 : decode cX9_laysFulls 266 = .ok (.getfield 27, 3) := by decide +kernel
theorem dX9_laysFulls_269 : decode cX9_laysFulls 269 = .ok (.iload 8, 2) := by decide +kernel
theorem dX9_laysFulls_271 : decode cX9_laysFulls 271 = .ok (.iaload, 1) := by decide +kernel
theorem dX9_laysFulls_272 : decode cX9_laysFulls 272 = .ok (.iconst 1, 1) := by decide +kernel
theorem dX9_laysFulls_273 : decode cX9_laysFulls 273 = .ok (.iadd, 1) := by decide +kernel
theorem dX9_laysFulls_274 : decode cX9_laysFulls 274 = .ok (.aload_n 0, 1) := by decide +kernel
theorem dX9_laysFulls_275 : decode cX9_laysFulls 275 = .ok (.iload 8, 2) := by decide +kernel
theorem dX9_laysFulls_277 : decode cX9_laysFulls 277 = .ok (.iconst 0, 1) := by decide +kernel
theorem dX9_laysFulls_278 : decode cX9_laysFulls 278 = .ok (.invokevirtual 195, 3) := by decide +kernel
theorem dX9_laysFulls_281 : decode cX9_laysFulls 281 = .ok (.if_icmp .ne 7, 3) := by decide +kernel
theorem dX9_laysFulls_284 : decode cX9_laysFulls 284 = .ok (.iconst 0, 1) := by decide +kernel
theorem dX9_laysFulls_285 : decode cX9_laysFulls 285 = .ok (.goto 12, 3) := by decide +kernel
theorem dX9_laysFulls_288 : decode cX9_laysFulls 288 = .ok (.aload_n 0, 1) := by decide +kernel
theorem dX9_laysFulls_289 : decode cX9_laysFulls 289 = .ok (.getfield 27, 3) := by decide +kernel
theorem dX9_laysFulls_292 : decode cX9_laysFulls 292 = .ok (.iload 8, 2) := by decide +kernel
theorem dX9_laysFulls_294 : decode cX9_laysFulls 294 = .ok (.iaload, 1) := by decide +kernel
theorem dX9_laysFulls_295 : decode cX9_laysFulls 295 = .ok (.iconst 1, 1) := by decide +kernel
theorem dX9_laysFulls_296 : decode cX9_laysFulls 296 = .ok (.iadd, 1) := by decide +kernel
theorem dX9_laysFulls_297 : decode cX9_laysFulls 297 = .ok (.iastore, 1) := by decide +kernel
theorem dX9_laysFulls_298 : decode cX9_laysFulls 298 = .ok (.iinc 8 1, 3) := by decide +kernel
theorem dX9_laysFulls_301 : decode cX9_laysFulls 301 = .ok (.goto (-53), 3) := by decide +kernel
theorem dX9_laysFulls_304 : decode cX9_laysFulls 304 = .ok (.iload_n 1, 1) := by decide +kernel
theorem dX9_laysFulls_305 : decode cX9_laysFulls 305 = .ok (.iconst (-1), 1) := by decide +kernel
theorem dX9_laysFulls_306 : decode cX9_laysFulls 306 = .ok (.if_icmp .eq 20, 3) := by decide +kernel
theorem dX9_laysFulls_309 : decode cX9_laysFulls 309 = .ok (.iload 4, 2) := by decide +kernel
theorem dX9_laysFulls_311 : decode cX9_laysFulls 311 = .ok (.iconst 1, 1) := by decide +kernel
theorem dX9_laysFulls_312 : decode cX9_laysFulls 312 = .ok (.iadd, 1) := by decide +kernel
theorem dX9_laysFulls_313 : decode cX9_laysFulls 313 = .ok (.aload_n 0, 1) := by decide +kernel
theorem dX9_laysFulls_314 : decode cX9_laysFulls 314 = .ok (.iload_n 1, 1) := by decide +kernel
theorem dX9_laysFulls_315 : decode cX9_laysFulls 315 = .ok (.iconst 0, 1) := by decide +kernel
theorem dX9_laysFulls_316 : decode cX9_laysFulls 316 = .ok (.invokevirtual 195, 3) := by decide +kernel
theorem dX9_laysFulls_319 : decode cX9_laysFulls 319 = .ok (.if_icmp .ne 7, 3) := by decide +kernel
theorem dX9_laysFulls_322 : decode cX9_laysFulls 322 = .ok (.iconst 0, 1) := by decide +kernel
theorem dX9_laysFulls_323 : decode cX9_laysFulls 323 = .ok (.goto 7, 3) := by decide +kernel
theorem dX9_laysFulls_326 : decode cX9_laysFulls 326 = .ok (.iload 4, 2) := by decide +kernel
theorem dX9_laysFulls_328 : decode cX9_laysFulls 328 = .ok (.iconst 1, 1) := by decide +kernel
theorem dX9_laysFulls_329 : decode cX9_laysFulls 329 = .ok (.iadd, 1) := by decide +kernel
theorem dX9_laysFulls_330 : decode cX9_laysFulls 330 = .ok (.istore 4, 2) := by decide +kernel
theorem dX9_laysFulls_332 : decode cX9_laysFulls 332 = .ok (.iinc 5 1, 3) := by decide +kernel
theorem dX9_laysFulls_335 : decode cX9_laysFulls 335 = .ok (.goto (-265), 3) := by decide +kernel
theorem dX9_laysFulls_338 : decode cX9_laysFulls 338 = .ok (.return_, 1) := by decide +kernel
abbrev rmX9_laysFulls : Room := { frames := 3, cells := 0, slots := 0, locals := 73 }
theorem inX9_laysFulls_9 : ∀ w ∈ wsX90, w ∈ wsX9_laysFulls := by decide +kernel
def vX9_laysFulls_c248 (F : Nat → Int32) (J : Nat → Int64) (al : Nat → Int32) (p1 : Int32) (p2 : Int32) (Q : (Nat → Int32) → (Nat → Int32) → Prop) (K70 : Int32 → Int32 → Int32 → (Nat → Int32) → (Nat → Int32) → Prop) : Nat → Int32 → Int32 → Int32 → Int32 → (Nat → Int32) → (Nat → Int32) → Prop
  | 0, _, _, _, _, _, _ => False
  | n + 1, x3, x4, x5, x8, fu, sd => (((al 0) ≤ x8 → ((p1 = (-1 : Int32) → (K70 x3 (x4 + (1 : Int32)) (x5 + (1 : Int32)) fu sd)) ∧ (¬ p1 = (-1 : Int32) → (∃ (p_316 : Nat) (w_316 : Nat), preX9_of p_316 w_316 F J al p1 (0 : Int32) ∧ (∀ r_316 : Int32, postX9_of p_316 w_316 F J al p1 (0 : Int32) r_316 → ((¬ (x4 + (1 : Int32)) = r_316 → (K70 x3 (x4 + (1 : Int32)) (x5 + (1 : Int32)) fu sd)) ∧ ((x4 + (1 : Int32)) = r_316 → (K70 x3 (0 : Int32) (x5 + (1 : Int32)) fu sd)))))))) ∧ (¬ (al 0) ≤ x8 → (vp_in x8 5 ∧ (∃ (p_278 : Nat) (w_278 : Nat), preX9_of p_278 w_278 F J al x8 (0 : Int32) ∧ (∀ r_278 : Int32, postX9_of p_278 w_278 F J al x8 (0 : Int32) r_278 → ((¬ ((sd x8.toNatClampNeg) + (1 : Int32)) = r_278 → (vp_in x8 5 ∧ (∀ a_297 : Int32, a_297 = ((sd x8.toNatClampNeg) + (1 : Int32)) → (vp_in x8 5 ∧ (vX9_laysFulls_c248 F J al p1 p2 Q K70 n x3 x4 x5 (x8 + (1 : Int32)) fu (upd sd x8.toNatClampNeg a_297)))))) ∧ (((sd x8.toNatClampNeg) + (1 : Int32)) = r_278 → (vp_in x8 5 ∧ (vX9_laysFulls_c248 F J al p1 p2 Q K70 n x3 x4 x5 (x8 + (1 : Int32)) fu (upd sd x8.toNatClampNeg (0 : Int32)))))))))))
set_option maxHeartbeats 4000000 in
set_option maxRecDepth 100000 in
theorem kX9_laysFulls_c248 {p : Program} {l : Launch} {e : Env} {s : State} {m : MethodId} {args : Array Value} {below : List Frame} {meth : Method} {c : Code} {g : GP} {qM : Nat} {q1 : Nat} {q2 : Nat} {q3 : Nat} {q4 : Nat} {q5 : Nat} {q6 : Nat} {q7 : Nat} {q8 : Nat} {q9 : Nat} {q10 : Nat} {q11 : Nat} {F : Nat → Int32} {J : Nat → Int64} {al : Nat → Int32} {p1 : Int32} {p2 : Int32} {Q : (Nat → Int32) → (Nat → Int32) → Prop} {A : Nat → Prop} {K70 : Int32 → Int32 → Int32 → (Nat → Int32) → (Nat → Int32) → Prop} (S : CallFix p m c cX9_laysFulls 9 s args wsX9_laysFulls RX9) (hr : meth.sig.returnType = none) (hlocks : meth.locks = false) (hG : GK g s) (hA : ∀ q : Nat, s.heap.size ≤ q → A q) (kk70 : ∀ (x3 : Int32) (x4 : Int32) (x5 : Int32) (fu : Nat → Int32) (sd : Nat → Int32), K70 x3 x4 x5 fu sd → ∀ (H : Heap) (locs : List Loc), va_P g.1 vwCl [(qM, .inr (9, [.int (F 0), .ref q1, .ref q2, .ref q3, .int (F 4), .int (F 5), .int (F 6), .int (F 7), .int (F 8), .int (F 9), .long (J 10), .int (F 11), .int (F 12), .int (F 13), .ref q4, .int (F 15), .ref q5, .ref q6, .ref q7, .int (F 19), .ref q8, .int (F 21), .int (F 22), .int (F 23), .int (F 24), .ref q9, .ref q10, .ref q11, .long (J 28)])), (q1, .inl (g.2 0, 376, .inl al)), (q5, .inl (g.2 0, 5, .inl fu)), (q6, .inl (g.2 0, 5, .inl sd))] H → va_D A [(qM, .inr (9, [.int (F 0), .ref q1, .ref q2, .ref q3, .int (F 4), .int (F 5), .int (F 6), .int (F 7), .int (F 8), .int (F 9), .long (J 10), .int (F 11), .int (F 12), .int (F 13), .ref q4, .int (F 15), .ref q5, .ref q6, .ref q7, .int (F 19), .ref q8, .int (F 21), .int (F 22), .int (F 23), .int (F 24), .ref q9, .ref q10, .ref q11, .long (J 28)])), (q1, .inl (g.2 0, 376, .inl al)), (q5, .inl (g.2 0, 5, .inl fu)), (q6, .inl (g.2 0, 5, .inl sd))] → va_S A s.heap H locs → ∀ (ls : Array Slot), lv_has ls 9 [(0, .ref qM), (1, .int p1), (3, .int x3), (4, .int x4), (5, .int x5)] → W p l e (headSpec wsX9_laysFulls rmX9_laysFulls).room s m args below meth c H locs 0 0 (MQ below (va_Qv (fun (u : (Nat → Int32) × (Nat → Int32)) => Q u.1 u.2) (fun (u : (Nat → Int32) × (Nat → Int32)) t => va_P g.1 vwCl [(qM, .inr (9, [.int (F 0), .ref q1, .ref q2, .ref q3, .int (F 4), .int (F 5), .int (F 6), .int (F 7), .int (F 8), .int (F 9), .long (J 10), .int (F 11), .int (F 12), .int (F 13), .ref q4, .int (F 15), .ref q5, .ref q6, .ref q7, .int (F 19), .ref q8, .int (F 21), .int (F 22), .int (F 23), .int (F 24), .ref q9, .ref q10, .ref q11, .long (J 28)])), (q1, .inl (g.2 0, 376, .inl al)), (q5, .inl (g.2 0, 5, .inl u.1)), (q6, .inl (g.2 0, 5, .inl u.2))] t.heap ∧ va_D A [(qM, .inr (9, [.int (F 0), .ref q1, .ref q2, .ref q3, .int (F 4), .int (F 5), .int (F 6), .int (F 7), .int (F 8), .int (F 9), .long (J 10), .int (F 11), .int (F 12), .int (F 13), .ref q4, .int (F 15), .ref q5, .ref q6, .ref q7, .int (F 19), .ref q8, .int (F 21), .int (F 22), .int (F 23), .int (F 24), .ref q9, .ref q10, .ref q11, .long (J 28)])), (q1, .inl (g.2 0, 376, .inl al)), (q5, .inl (g.2 0, 5, .inl u.1)), (q6, .inl (g.2 0, 5, .inl u.2))]) A) args s 0 0 A) (F0 m 70 ls [])) : ∀ (n : Nat), ∀ (x3 : Int32) (x4 : Int32) (x5 : Int32) (x8 : Int32) (fu : Nat → Int32) (sd : Nat → Int32), vX9_laysFulls_c248 F J al p1 p2 Q K70 n x3 x4 x5 x8 fu sd → ∀ (H : Heap) (locs : List Loc), va_P g.1 vwCl [(qM, .inr (9, [.int (F 0), .ref q1, .ref q2, .ref q3, .int (F 4), .int (F 5), .int (F 6), .int (F 7), .int (F 8), .int (F 9), .long (J 10), .int (F 11), .int (F 12), .int (F 13), .ref q4, .int (F 15), .ref q5, .ref q6, .ref q7, .int (F 19), .ref q8, .int (F 21), .int (F 22), .int (F 23), .int (F 24), .ref q9, .ref q10, .ref q11, .long (J 28)])), (q1, .inl (g.2 0, 376, .inl al)), (q5, .inl (g.2 0, 5, .inl fu)), (q6, .inl (g.2 0, 5, .inl sd))] H → va_D A [(qM, .inr (9, [.int (F 0), .ref q1, .ref q2, .ref q3, .int (F 4), .int (F 5), .int (F 6), .int (F 7), .int (F 8), .int (F 9), .long (J 10), .int (F 11), .int (F 12), .int (F 13), .ref q4, .int (F 15), .ref q5, .ref q6, .ref q7, .int (F 19), .ref q8, .int (F 21), .int (F 22), .int (F 23), .int (F 24), .ref q9, .ref q10, .ref q11, .long (J 28)])), (q1, .inl (g.2 0, 376, .inl al)), (q5, .inl (g.2 0, 5, .inl fu)), (q6, .inl (g.2 0, 5, .inl sd))] → va_S A s.heap H locs → ∀ (ls : Array Slot), lv_has ls 9 [(0, .ref qM), (1, .int p1), (3, .int x3), (4, .int x4), (5, .int x5), (8, .int x8)] → W p l e (headSpec wsX9_laysFulls rmX9_laysFulls).room s m args below meth c H locs 0 0 (MQ below (va_Qv (fun (u : (Nat → Int32) × (Nat → Int32)) => Q u.1 u.2) (fun (u : (Nat → Int32) × (Nat → Int32)) t => va_P g.1 vwCl [(qM, .inr (9, [.int (F 0), .ref q1, .ref q2, .ref q3, .int (F 4), .int (F 5), .int (F 6), .int (F 7), .int (F 8), .int (F 9), .long (J 10), .int (F 11), .int (F 12), .int (F 13), .ref q4, .int (F 15), .ref q5, .ref q6, .ref q7, .int (F 19), .ref q8, .int (F 21), .int (F 22), .int (F 23), .int (F 24), .ref q9, .ref q10, .ref q11, .long (J 28)])), (q1, .inl (g.2 0, 376, .inl al)), (q5, .inl (g.2 0, 5, .inl u.1)), (q6, .inl (g.2 0, 5, .inl u.2))] t.heap ∧ va_D A [(qM, .inr (9, [.int (F 0), .ref q1, .ref q2, .ref q3, .int (F 4), .int (F 5), .int (F 6), .int (F 7), .int (F 8), .int (F 9), .long (J 10), .int (F 11), .int (F 12), .int (F 13), .ref q4, .int (F 15), .ref q5, .ref q6, .ref q7, .int (F 19), .ref q8, .int (F 21), .int (F 22), .int (F 23), .int (F 24), .ref q9, .ref q10, .ref q11, .long (J 28)])), (q1, .inl (g.2 0, 376, .inl al)), (q5, .inl (g.2 0, 5, .inl u.1)), (q6, .inl (g.2 0, 5, .inl u.2))]) A) args s 0 0 A) (F0 m 248 ls []) := by
  obtain ⟨hx, hb, hml, hown, hts⟩ := id S
  have hK := hG.1
  intro n
  induction n with
  | zero => intro x3 x4 x5 x8 fu sd hv; exact hv.elim
  | succ n ih =>
    intro x3 x4 x5 x8 fu sd hv H locs hP hD hS ls hl
    refine lv_iload hx hb dX9_laysFulls_248 (lv_at hl 5 rfl) ?_
    refine lv_aload_n hx hb dX9_laysFulls_250 rfl (lv_at hl 0 rfl) ?_
    refine va_get (D := g.1) (ci := 9) (v := .ref q1) (C := RX9) (T := TX9) (N := 29) hx hb hts inX9_laysFulls_9 hown hK hP 0 rfl rfl 1 (by decide) (hts (.fieldLink RX9 7 "RangeCodesModel" "all" "[I") (List.mem_of_getElem? (i := 1) rfl)) (fun _ h9 => h9) rfl dX9_laysFulls_251 ?_
    refine lv_iconst (v := (0 : Int32)) hx hb dX9_laysFulls_254 (by decide) ?_
    refine va_iald hx hb hK hP 1 0 rfl rfl (by unfold vp_in; decide) dX9_laysFulls_255 ?_
    obtain ⟨hvt, hvf⟩ := hv
    refine lv_icmp_ge (tgt := 304) hx hb dX9_laysFulls_256 (by decide) (fun hc => ?_) (fun hc => ?_)
    · have hv := hvt hc
      refine lv_iload_n hx hb dX9_laysFulls_304 rfl (lv_at hl 1 rfl) ?_
      refine lv_iconst (v := (-1 : Int32)) hx hb dX9_laysFulls_305 (by decide) ?_
      obtain ⟨hvt, hvf⟩ := hv
      refine lv_icmp_eq (tgt := 326) hx hb dX9_laysFulls_306 (by decide) (fun hc => ?_) (fun hc => ?_)
      · have hv := hvt hc
        refine lv_iload hx hb dX9_laysFulls_326 (lv_at hl 3 rfl) ?_
        refine lv_iconst (v := (1 : Int32)) hx hb dX9_laysFulls_328 (by decide) ?_
        refine lv_iadd hx hb dX9_laysFulls_329 ?_
        refine lv_istore (lv' := [(4, .int (x4 + (1 : Int32))), (0, .ref qM), (1, .int p1), (3, .int x3), (5, .int x5), (8, .int x8)]) hx hb dX9_laysFulls_330 hl (by decide) rfl (fun ls hl => ?_)
        refine lv_iinc (v := (x5 + (1 : Int32))) (lv' := [(5, .int (x5 + (1 : Int32))), (4, .int (x4 + (1 : Int32))), (0, .ref qM), (1, .int p1), (3, .int x3), (8, .int x8)]) hx hb dX9_laysFulls_332 hl (k := 4) rfl rfl (by decide) rfl (fun ls hl => ?_)
        refine lv_goto (tgt := 70) hx hb dX9_laysFulls_335 (by decide) ?_
        exact kk70 _ _ _ _ _ hv _ _ (hP.sub (ws' := [(qM, .inr (9, [.int (F 0), .ref q1, .ref q2, .ref q3, .int (F 4), .int (F 5), .int (F 6), .int (F 7), .int (F 8), .int (F 9), .long (J 10), .int (F 11), .int (F 12), .int (F 13), .ref q4, .int (F 15), .ref q5, .ref q6, .ref q7, .int (F 19), .ref q8, .int (F 21), .int (F 22), .int (F 23), .int (F 24), .ref q9, .ref q10, .ref q11, .long (J 28)])), (q1, .inl (g.2 0, 376, .inl al)), (q5, .inl (g.2 0, 5, .inl fu)), (q6, .inl (g.2 0, 5, .inl sd))]) [0, 1, 2, 3] rfl) (hD.sub (ws' := [(qM, .inr (9, [.int (F 0), .ref q1, .ref q2, .ref q3, .int (F 4), .int (F 5), .int (F 6), .int (F 7), .int (F 8), .int (F 9), .long (J 10), .int (F 11), .int (F 12), .int (F 13), .ref q4, .int (F 15), .ref q5, .ref q6, .ref q7, .int (F 19), .ref q8, .int (F 21), .int (F 22), .int (F 23), .int (F 24), .ref q9, .ref q10, .ref q11, .long (J 28)])), (q1, .inl (g.2 0, 376, .inl al)), (q5, .inl (g.2 0, 5, .inl fu)), (q6, .inl (g.2 0, 5, .inl sd))]) [0, 1, 2, 3] (by decide) rfl) hS ls (lv_sub hl [2, 3, 4, 1, 0] rfl)
      · have hv := hvf hc
        refine lv_iload hx hb dX9_laysFulls_309 (lv_at hl 3 rfl) ?_
        refine lv_iconst (v := (1 : Int32)) hx hb dX9_laysFulls_311 (by decide) ?_
        refine lv_iadd hx hb dX9_laysFulls_312 ?_
        refine lv_aload_n hx hb dX9_laysFulls_313 rfl (lv_at hl 0 rfl) ?_
        refine lv_iload_n hx hb dX9_laysFulls_314 rfl (lv_at hl 1 rfl) ?_
        refine lv_iconst (v := (0 : Int32)) hx hb dX9_laysFulls_315 (by decide) ?_
        obtain ⟨p_316, w_316, ho_1, hv⟩ := hv
        refine vp_callSi (W.runV (As := [.int p1, .int (0 : Int32)]) (rest := [.int (x4 + (1 : Int32))]) S (wX9_of l g qM q1 q2 q3 q4 q5 q6 q7 q8 q9 q10 q11 F J al p1 (0 : Int32) (sX9_of p_316 w_316 F J al p1 (0 : Int32) ho_1)) (cwV 2 hts gX9_laysFulls_X9_of rfl rfl rfl (by decide +kernel) ⟨Nat.le_of_ble_eq_true rfl, Nat.le_of_ble_eq_true rfl⟩) ⟨blindRO, va_recv hK hP (ci := 9) (q0 := 0) rfl rfl, fun U hU hW => ⟨rfl, by rw [hU]; exact hP.sub (ws' := [(qM, .inr (9, [.int (F 0), .ref q1, .ref q2, .ref q3, .int (F 4), .int (F 5), .int (F 6), .int (F 7), .int (F 8), .int (F 9), .long (J 10), .int (F 11), .int (F 12), .int (F 13), .ref q4, .int (F 15), .ref q5, .ref q6, .ref q7, .int (F 19), .ref q8, .int (F 21), .int (F 22), .int (F 23), .int (F 24), .ref q9, .ref q10, .ref q11, .long (J 28)])), (q1, .inl (g.2 0, 376, .inl al))]) [0, 1] rfl, hG.warm hW⟩⟩ rfl rfl hl.1 rfl (lv_room (Nat.le_of_ble_eq_true rfl)) dX9_laysFulls_316 ⟨Nat.le_of_ble_eq_true rfl, Nat.le_of_ble_eq_true rfl⟩) (fun r_316 hr_316 => ?_)
        have hv := hv r_316 hr_316
        obtain ⟨hvt, hvf⟩ := hv
        refine lv_icmp_ne (tgt := 326) hx hb dX9_laysFulls_319 (by decide) (fun hc => ?_) (fun hc => ?_)
        · have hv := hvt hc
          refine lv_iload hx hb dX9_laysFulls_326 (lv_at hl 3 rfl) ?_
          refine lv_iconst (v := (1 : Int32)) hx hb dX9_laysFulls_328 (by decide) ?_
          refine lv_iadd hx hb dX9_laysFulls_329 ?_
          refine lv_istore (lv' := [(4, .int (x4 + (1 : Int32))), (0, .ref qM), (1, .int p1), (3, .int x3), (5, .int x5), (8, .int x8)]) hx hb dX9_laysFulls_330 hl (by decide) rfl (fun ls hl => ?_)
          refine lv_iinc (v := (x5 + (1 : Int32))) (lv' := [(5, .int (x5 + (1 : Int32))), (4, .int (x4 + (1 : Int32))), (0, .ref qM), (1, .int p1), (3, .int x3), (8, .int x8)]) hx hb dX9_laysFulls_332 hl (k := 4) rfl rfl (by decide) rfl (fun ls hl => ?_)
          refine lv_goto (tgt := 70) hx hb dX9_laysFulls_335 (by decide) ?_
          exact kk70 _ _ _ _ _ hv _ _ (hP.sub (ws' := [(qM, .inr (9, [.int (F 0), .ref q1, .ref q2, .ref q3, .int (F 4), .int (F 5), .int (F 6), .int (F 7), .int (F 8), .int (F 9), .long (J 10), .int (F 11), .int (F 12), .int (F 13), .ref q4, .int (F 15), .ref q5, .ref q6, .ref q7, .int (F 19), .ref q8, .int (F 21), .int (F 22), .int (F 23), .int (F 24), .ref q9, .ref q10, .ref q11, .long (J 28)])), (q1, .inl (g.2 0, 376, .inl al)), (q5, .inl (g.2 0, 5, .inl fu)), (q6, .inl (g.2 0, 5, .inl sd))]) [0, 1, 2, 3] rfl) (hD.sub (ws' := [(qM, .inr (9, [.int (F 0), .ref q1, .ref q2, .ref q3, .int (F 4), .int (F 5), .int (F 6), .int (F 7), .int (F 8), .int (F 9), .long (J 10), .int (F 11), .int (F 12), .int (F 13), .ref q4, .int (F 15), .ref q5, .ref q6, .ref q7, .int (F 19), .ref q8, .int (F 21), .int (F 22), .int (F 23), .int (F 24), .ref q9, .ref q10, .ref q11, .long (J 28)])), (q1, .inl (g.2 0, 376, .inl al)), (q5, .inl (g.2 0, 5, .inl fu)), (q6, .inl (g.2 0, 5, .inl sd))]) [0, 1, 2, 3] (by decide) rfl) hS ls (lv_sub hl [2, 3, 4, 1, 0] rfl)
        · have hv := hvf hc
          refine lv_iconst (v := (0 : Int32)) hx hb dX9_laysFulls_322 (by decide) ?_
          refine lv_goto (tgt := 330) hx hb dX9_laysFulls_323 (by decide) ?_
          refine lv_istore (lv' := [(4, .int (0 : Int32)), (0, .ref qM), (1, .int p1), (3, .int x3), (5, .int x5), (8, .int x8)]) hx hb dX9_laysFulls_330 hl (by decide) rfl (fun ls hl => ?_)
          refine lv_iinc (v := (x5 + (1 : Int32))) (lv' := [(5, .int (x5 + (1 : Int32))), (4, .int (0 : Int32)), (0, .ref qM), (1, .int p1), (3, .int x3), (8, .int x8)]) hx hb dX9_laysFulls_332 hl (k := 4) rfl rfl (by decide) rfl (fun ls hl => ?_)
          refine lv_goto (tgt := 70) hx hb dX9_laysFulls_335 (by decide) ?_
          exact kk70 _ _ _ _ _ hv _ _ (hP.sub (ws' := [(qM, .inr (9, [.int (F 0), .ref q1, .ref q2, .ref q3, .int (F 4), .int (F 5), .int (F 6), .int (F 7), .int (F 8), .int (F 9), .long (J 10), .int (F 11), .int (F 12), .int (F 13), .ref q4, .int (F 15), .ref q5, .ref q6, .ref q7, .int (F 19), .ref q8, .int (F 21), .int (F 22), .int (F 23), .int (F 24), .ref q9, .ref q10, .ref q11, .long (J 28)])), (q1, .inl (g.2 0, 376, .inl al)), (q5, .inl (g.2 0, 5, .inl fu)), (q6, .inl (g.2 0, 5, .inl sd))]) [0, 1, 2, 3] rfl) (hD.sub (ws' := [(qM, .inr (9, [.int (F 0), .ref q1, .ref q2, .ref q3, .int (F 4), .int (F 5), .int (F 6), .int (F 7), .int (F 8), .int (F 9), .long (J 10), .int (F 11), .int (F 12), .int (F 13), .ref q4, .int (F 15), .ref q5, .ref q6, .ref q7, .int (F 19), .ref q8, .int (F 21), .int (F 22), .int (F 23), .int (F 24), .ref q9, .ref q10, .ref q11, .long (J 28)])), (q1, .inl (g.2 0, 376, .inl al)), (q5, .inl (g.2 0, 5, .inl fu)), (q6, .inl (g.2 0, 5, .inl sd))]) [0, 1, 2, 3] (by decide) rfl) hS ls (lv_sub hl [2, 3, 4, 1, 0] rfl)
    · have hv := hvf hc
      refine lv_aload_n hx hb dX9_laysFulls_259 rfl (lv_at hl 0 rfl) ?_
      refine va_get (D := g.1) (ci := 9) (v := .ref q6) (C := RX9) (T := TX9) (N := 29) hx hb hts inX9_laysFulls_9 hown hK hP 0 rfl rfl 17 (by decide) (hts (.fieldLink RX9 27 "RangeCodesModel" "stand" "[I") (List.mem_of_getElem? (i := 3) rfl)) (fun _ h9 => h9) rfl dX9_laysFulls_260 ?_
      refine lv_iload hx hb dX9_laysFulls_263 (lv_at hl 5 rfl) ?_
      refine lv_aload_n hx hb dX9_laysFulls_265 rfl (lv_at hl 0 rfl) ?_
      refine va_get (D := g.1) (ci := 9) (v := .ref q6) (C := RX9) (T := TX9) (N := 29) hx hb hts inX9_laysFulls_9 hown hK hP 0 rfl rfl 17 (by decide) (hts (.fieldLink RX9 27 "RangeCodesModel" "stand" "[I") (List.mem_of_getElem? (i := 3) rfl)) (fun _ h9 => h9) rfl dX9_laysFulls_266 ?_
      refine lv_iload hx hb dX9_laysFulls_269 (lv_at hl 5 rfl) ?_
      obtain ⟨ho_2, hv⟩ := hv
      refine va_iald hx hb hK hP 3 0 rfl rfl ho_2 dX9_laysFulls_271 ?_
      refine lv_iconst (v := (1 : Int32)) hx hb dX9_laysFulls_272 (by decide) ?_
      refine lv_iadd hx hb dX9_laysFulls_273 ?_
      refine lv_aload_n hx hb dX9_laysFulls_274 rfl (lv_at hl 0 rfl) ?_
      refine lv_iload hx hb dX9_laysFulls_275 (lv_at hl 5 rfl) ?_
      refine lv_iconst (v := (0 : Int32)) hx hb dX9_laysFulls_277 (by decide) ?_
      obtain ⟨p_278, w_278, ho_3, hv⟩ := hv
      refine vp_callSi (W.runV (As := [.int x8, .int (0 : Int32)]) (rest := [.int ((sd x8.toNatClampNeg) + (1 : Int32)), .int x8, .ref q6]) S (wX9_of l g qM q1 q2 q3 q4 q5 q6 q7 q8 q9 q10 q11 F J al x8 (0 : Int32) (sX9_of p_278 w_278 F J al x8 (0 : Int32) ho_3)) (cwV 2 hts gX9_laysFulls_X9_of rfl rfl rfl (by decide +kernel) ⟨Nat.le_of_ble_eq_true rfl, Nat.le_of_ble_eq_true rfl⟩) ⟨blindRO, va_recv hK hP (ci := 9) (q0 := 0) rfl rfl, fun U hU hW => ⟨rfl, by rw [hU]; exact hP.sub (ws' := [(qM, .inr (9, [.int (F 0), .ref q1, .ref q2, .ref q3, .int (F 4), .int (F 5), .int (F 6), .int (F 7), .int (F 8), .int (F 9), .long (J 10), .int (F 11), .int (F 12), .int (F 13), .ref q4, .int (F 15), .ref q5, .ref q6, .ref q7, .int (F 19), .ref q8, .int (F 21), .int (F 22), .int (F 23), .int (F 24), .ref q9, .ref q10, .ref q11, .long (J 28)])), (q1, .inl (g.2 0, 376, .inl al))]) [0, 1] rfl, hG.warm hW⟩⟩ rfl rfl hl.1 rfl (lv_room (Nat.le_of_ble_eq_true rfl)) dX9_laysFulls_278 ⟨Nat.le_of_ble_eq_true rfl, Nat.le_of_ble_eq_true rfl⟩) (fun r_278 hr_278 => ?_)
      have hv := hv r_278 hr_278
      obtain ⟨hvt, hvf⟩ := hv
      refine lv_icmp_ne (tgt := 288) hx hb dX9_laysFulls_281 (by decide) (fun hc => ?_) (fun hc => ?_)
      · have hv := hvt hc
        refine lv_aload_n hx hb dX9_laysFulls_288 rfl (lv_at hl 0 rfl) ?_
        refine va_get (D := g.1) (ci := 9) (v := .ref q6) (C := RX9) (T := TX9) (N := 29) hx hb hts inX9_laysFulls_9 hown hK hP 0 rfl rfl 17 (by decide) (hts (.fieldLink RX9 27 "RangeCodesModel" "stand" "[I") (List.mem_of_getElem? (i := 3) rfl)) (fun _ h9 => h9) rfl dX9_laysFulls_289 ?_
        refine lv_iload hx hb dX9_laysFulls_292 (lv_at hl 5 rfl) ?_
        obtain ⟨ho_4, hv⟩ := hv
        refine va_iald hx hb hK hP 3 0 rfl rfl ho_4 dX9_laysFulls_294 ?_
        refine lv_iconst (v := (1 : Int32)) hx hb dX9_laysFulls_295 (by decide) ?_
        refine lv_iadd hx hb dX9_laysFulls_296 ?_
        refine lv_topi (fun a_297 ea_297 => ?_)
        have hv := hv a_297 ea_297
        obtain ⟨ho_5, hv⟩ := hv
        refine va_iast hx hb hK hP hD hS 3 0 rfl rfl ho_5 dX9_laysFulls_297 (fun H locs hP hD hS => ?_)
        have hP : va_P g.1 vwCl [(qM, .inr (9, [.int (F 0), .ref q1, .ref q2, .ref q3, .int (F 4), .int (F 5), .int (F 6), .int (F 7), .int (F 8), .int (F 9), .long (J 10), .int (F 11), .int (F 12), .int (F 13), .ref q4, .int (F 15), .ref q5, .ref q6, .ref q7, .int (F 19), .ref q8, .int (F 21), .int (F 22), .int (F 23), .int (F 24), .ref q9, .ref q10, .ref q11, .long (J 28)])), (q1, .inl (g.2 0, 376, .inl al)), (q5, .inl (g.2 0, 5, .inl fu)), (q6, .inl (g.2 0, 5, .inl (upd sd x8.toNatClampNeg a_297)))] H := hP
        have hD : va_D A [(qM, .inr (9, [.int (F 0), .ref q1, .ref q2, .ref q3, .int (F 4), .int (F 5), .int (F 6), .int (F 7), .int (F 8), .int (F 9), .long (J 10), .int (F 11), .int (F 12), .int (F 13), .ref q4, .int (F 15), .ref q5, .ref q6, .ref q7, .int (F 19), .ref q8, .int (F 21), .int (F 22), .int (F 23), .int (F 24), .ref q9, .ref q10, .ref q11, .long (J 28)])), (q1, .inl (g.2 0, 376, .inl al)), (q5, .inl (g.2 0, 5, .inl fu)), (q6, .inl (g.2 0, 5, .inl (upd sd x8.toNatClampNeg a_297)))] := hD
        refine lv_iinc (v := (x8 + (1 : Int32))) (lv' := [(8, .int (x8 + (1 : Int32))), (0, .ref qM), (1, .int p1), (3, .int x3), (4, .int x4), (5, .int x5)]) hx hb dX9_laysFulls_298 hl (k := 5) rfl rfl (by decide) rfl (fun ls hl => ?_)
        refine lv_goto (tgt := 248) hx hb dX9_laysFulls_301 (by decide) ?_
        exact ih _ _ _ _ _ _ hv _ _ (hP.sub (ws' := [(qM, .inr (9, [.int (F 0), .ref q1, .ref q2, .ref q3, .int (F 4), .int (F 5), .int (F 6), .int (F 7), .int (F 8), .int (F 9), .long (J 10), .int (F 11), .int (F 12), .int (F 13), .ref q4, .int (F 15), .ref q5, .ref q6, .ref q7, .int (F 19), .ref q8, .int (F 21), .int (F 22), .int (F 23), .int (F 24), .ref q9, .ref q10, .ref q11, .long (J 28)])), (q1, .inl (g.2 0, 376, .inl al)), (q5, .inl (g.2 0, 5, .inl fu)), (q6, .inl (g.2 0, 5, .inl (upd sd x8.toNatClampNeg a_297)))]) [0, 1, 2, 3] rfl) (hD.sub (ws' := [(qM, .inr (9, [.int (F 0), .ref q1, .ref q2, .ref q3, .int (F 4), .int (F 5), .int (F 6), .int (F 7), .int (F 8), .int (F 9), .long (J 10), .int (F 11), .int (F 12), .int (F 13), .ref q4, .int (F 15), .ref q5, .ref q6, .ref q7, .int (F 19), .ref q8, .int (F 21), .int (F 22), .int (F 23), .int (F 24), .ref q9, .ref q10, .ref q11, .long (J 28)])), (q1, .inl (g.2 0, 376, .inl al)), (q5, .inl (g.2 0, 5, .inl fu)), (q6, .inl (g.2 0, 5, .inl (upd sd x8.toNatClampNeg a_297)))]) [0, 1, 2, 3] (by decide) rfl) hS ls (lv_sub hl [1, 2, 3, 4, 5, 0] rfl)
      · have hv := hvf hc
        refine lv_iconst (v := (0 : Int32)) hx hb dX9_laysFulls_284 (by decide) ?_
        refine lv_goto (tgt := 297) hx hb dX9_laysFulls_285 (by decide) ?_
        obtain ⟨ho_6, hv⟩ := hv
        refine va_iast hx hb hK hP hD hS 3 0 rfl rfl ho_6 dX9_laysFulls_297 (fun H locs hP hD hS => ?_)
        have hP : va_P g.1 vwCl [(qM, .inr (9, [.int (F 0), .ref q1, .ref q2, .ref q3, .int (F 4), .int (F 5), .int (F 6), .int (F 7), .int (F 8), .int (F 9), .long (J 10), .int (F 11), .int (F 12), .int (F 13), .ref q4, .int (F 15), .ref q5, .ref q6, .ref q7, .int (F 19), .ref q8, .int (F 21), .int (F 22), .int (F 23), .int (F 24), .ref q9, .ref q10, .ref q11, .long (J 28)])), (q1, .inl (g.2 0, 376, .inl al)), (q5, .inl (g.2 0, 5, .inl fu)), (q6, .inl (g.2 0, 5, .inl (upd sd x8.toNatClampNeg (0 : Int32))))] H := hP
        have hD : va_D A [(qM, .inr (9, [.int (F 0), .ref q1, .ref q2, .ref q3, .int (F 4), .int (F 5), .int (F 6), .int (F 7), .int (F 8), .int (F 9), .long (J 10), .int (F 11), .int (F 12), .int (F 13), .ref q4, .int (F 15), .ref q5, .ref q6, .ref q7, .int (F 19), .ref q8, .int (F 21), .int (F 22), .int (F 23), .int (F 24), .ref q9, .ref q10, .ref q11, .long (J 28)])), (q1, .inl (g.2 0, 376, .inl al)), (q5, .inl (g.2 0, 5, .inl fu)), (q6, .inl (g.2 0, 5, .inl (upd sd x8.toNatClampNeg (0 : Int32))))] := hD
        refine lv_iinc (v := (x8 + (1 : Int32))) (lv' := [(8, .int (x8 + (1 : Int32))), (0, .ref qM), (1, .int p1), (3, .int x3), (4, .int x4), (5, .int x5)]) hx hb dX9_laysFulls_298 hl (k := 5) rfl rfl (by decide) rfl (fun ls hl => ?_)
        refine lv_goto (tgt := 248) hx hb dX9_laysFulls_301 (by decide) ?_
        exact ih _ _ _ _ _ _ hv _ _ (hP.sub (ws' := [(qM, .inr (9, [.int (F 0), .ref q1, .ref q2, .ref q3, .int (F 4), .int (F 5), .int (F 6), .int (F 7), .int (F 8), .int (F 9), .long (J 10), .int (F 11), .int (F 12), .int (F 13), .ref q4, .int (F 15), .ref q5, .ref q6, .ref q7, .int (F 19), .ref q8, .int (F 21), .int (F 22), .int (F 23), .int (F 24), .ref q9, .ref q10, .ref q11, .long (J 28)])), (q1, .inl (g.2 0, 376, .inl al)), (q5, .inl (g.2 0, 5, .inl fu)), (q6, .inl (g.2 0, 5, .inl (upd sd x8.toNatClampNeg (0 : Int32))))]) [0, 1, 2, 3] rfl) (hD.sub (ws' := [(qM, .inr (9, [.int (F 0), .ref q1, .ref q2, .ref q3, .int (F 4), .int (F 5), .int (F 6), .int (F 7), .int (F 8), .int (F 9), .long (J 10), .int (F 11), .int (F 12), .int (F 13), .ref q4, .int (F 15), .ref q5, .ref q6, .ref q7, .int (F 19), .ref q8, .int (F 21), .int (F 22), .int (F 23), .int (F 24), .ref q9, .ref q10, .ref q11, .long (J 28)])), (q1, .inl (g.2 0, 376, .inl al)), (q5, .inl (g.2 0, 5, .inl fu)), (q6, .inl (g.2 0, 5, .inl (upd sd x8.toNatClampNeg (0 : Int32))))]) [0, 1, 2, 3] (by decide) rfl) hS ls (lv_sub hl [1, 2, 3, 4, 5, 0] rfl)
def vX9_laysFulls_c224 (F : Nat → Int32) (J : Nat → Int64) (al : Nat → Int32) (p1 : Int32) (p2 : Int32) (Q : (Nat → Int32) → (Nat → Int32) → Prop) (K70 : Int32 → Int32 → Int32 → (Nat → Int32) → (Nat → Int32) → Prop) (K180 : Int32 → Int32 → Int32 → Int32 → Int32 → (Nat → Int32) → (Nat → Int32) → Prop) (x3 : Int32) (x4 : Int32) (x5 : Int32) (x7 : Int32) (x8 : Int32) (s0 : Int32) (s1 : Int32) (s2 : Int32) (s3 : Int32) (fu : Nat → Int32) (sd : Nat → Int32) : Prop := (∃ (s_224 : Nat) (k_224 : Nat), preX9_has s_224 k_224 s1 s0 ∧ (∀ r_224 : Int32, postX9_has s_224 k_224 s1 s0 r_224 → ((¬ r_224 = x7 → (vp_in s3 5 ∧ (K180 x3 x4 x5 x7 (x8 + (1 : Int32)) (upd fu s3.toNatClampNeg (s2 + (-1 : Int32))) sd))) ∧ (r_224 = x7 → (vp_in s3 5 ∧ (K180 x3 x4 x5 x7 (x8 + (1 : Int32)) (upd fu s3.toNatClampNeg (s2 + (1 : Int32))) sd))))))
set_option maxHeartbeats 4000000 in
set_option maxRecDepth 100000 in
theorem kX9_laysFulls_c224 {p : Program} {l : Launch} {e : Env} {s : State} {m : MethodId} {args : Array Value} {below : List Frame} {meth : Method} {c : Code} {g : GP} {qM : Nat} {q1 : Nat} {q2 : Nat} {q3 : Nat} {q4 : Nat} {q5 : Nat} {q6 : Nat} {q7 : Nat} {q8 : Nat} {q9 : Nat} {q10 : Nat} {q11 : Nat} {F : Nat → Int32} {J : Nat → Int64} {al : Nat → Int32} {p1 : Int32} {p2 : Int32} {Q : (Nat → Int32) → (Nat → Int32) → Prop} {A : Nat → Prop} {K70 : Int32 → Int32 → Int32 → (Nat → Int32) → (Nat → Int32) → Prop} {K180 : Int32 → Int32 → Int32 → Int32 → Int32 → (Nat → Int32) → (Nat → Int32) → Prop} (S : CallFix p m c cX9_laysFulls 9 s args wsX9_laysFulls RX9) (hr : meth.sig.returnType = none) (hlocks : meth.locks = false) (hG : GK g s) (hA : ∀ q : Nat, s.heap.size ≤ q → A q) (kk70 : ∀ (x3 : Int32) (x4 : Int32) (x5 : Int32) (fu : Nat → Int32) (sd : Nat → Int32), K70 x3 x4 x5 fu sd → ∀ (H : Heap) (locs : List Loc), va_P g.1 vwCl [(qM, .inr (9, [.int (F 0), .ref q1, .ref q2, .ref q3, .int (F 4), .int (F 5), .int (F 6), .int (F 7), .int (F 8), .int (F 9), .long (J 10), .int (F 11), .int (F 12), .int (F 13), .ref q4, .int (F 15), .ref q5, .ref q6, .ref q7, .int (F 19), .ref q8, .int (F 21), .int (F 22), .int (F 23), .int (F 24), .ref q9, .ref q10, .ref q11, .long (J 28)])), (q1, .inl (g.2 0, 376, .inl al)), (q5, .inl (g.2 0, 5, .inl fu)), (q6, .inl (g.2 0, 5, .inl sd))] H → va_D A [(qM, .inr (9, [.int (F 0), .ref q1, .ref q2, .ref q3, .int (F 4), .int (F 5), .int (F 6), .int (F 7), .int (F 8), .int (F 9), .long (J 10), .int (F 11), .int (F 12), .int (F 13), .ref q4, .int (F 15), .ref q5, .ref q6, .ref q7, .int (F 19), .ref q8, .int (F 21), .int (F 22), .int (F 23), .int (F 24), .ref q9, .ref q10, .ref q11, .long (J 28)])), (q1, .inl (g.2 0, 376, .inl al)), (q5, .inl (g.2 0, 5, .inl fu)), (q6, .inl (g.2 0, 5, .inl sd))] → va_S A s.heap H locs → ∀ (ls : Array Slot), lv_has ls 9 [(0, .ref qM), (1, .int p1), (3, .int x3), (4, .int x4), (5, .int x5)] → W p l e (headSpec wsX9_laysFulls rmX9_laysFulls).room s m args below meth c H locs 0 0 (MQ below (va_Qv (fun (u : (Nat → Int32) × (Nat → Int32)) => Q u.1 u.2) (fun (u : (Nat → Int32) × (Nat → Int32)) t => va_P g.1 vwCl [(qM, .inr (9, [.int (F 0), .ref q1, .ref q2, .ref q3, .int (F 4), .int (F 5), .int (F 6), .int (F 7), .int (F 8), .int (F 9), .long (J 10), .int (F 11), .int (F 12), .int (F 13), .ref q4, .int (F 15), .ref q5, .ref q6, .ref q7, .int (F 19), .ref q8, .int (F 21), .int (F 22), .int (F 23), .int (F 24), .ref q9, .ref q10, .ref q11, .long (J 28)])), (q1, .inl (g.2 0, 376, .inl al)), (q5, .inl (g.2 0, 5, .inl u.1)), (q6, .inl (g.2 0, 5, .inl u.2))] t.heap ∧ va_D A [(qM, .inr (9, [.int (F 0), .ref q1, .ref q2, .ref q3, .int (F 4), .int (F 5), .int (F 6), .int (F 7), .int (F 8), .int (F 9), .long (J 10), .int (F 11), .int (F 12), .int (F 13), .ref q4, .int (F 15), .ref q5, .ref q6, .ref q7, .int (F 19), .ref q8, .int (F 21), .int (F 22), .int (F 23), .int (F 24), .ref q9, .ref q10, .ref q11, .long (J 28)])), (q1, .inl (g.2 0, 376, .inl al)), (q5, .inl (g.2 0, 5, .inl u.1)), (q6, .inl (g.2 0, 5, .inl u.2))]) A) args s 0 0 A) (F0 m 70 ls [])) (kk180 : ∀ (x3 : Int32) (x4 : Int32) (x5 : Int32) (x7 : Int32) (x8 : Int32) (fu : Nat → Int32) (sd : Nat → Int32), K180 x3 x4 x5 x7 x8 fu sd → ∀ (H : Heap) (locs : List Loc), va_P g.1 vwCl [(qM, .inr (9, [.int (F 0), .ref q1, .ref q2, .ref q3, .int (F 4), .int (F 5), .int (F 6), .int (F 7), .int (F 8), .int (F 9), .long (J 10), .int (F 11), .int (F 12), .int (F 13), .ref q4, .int (F 15), .ref q5, .ref q6, .ref q7, .int (F 19), .ref q8, .int (F 21), .int (F 22), .int (F 23), .int (F 24), .ref q9, .ref q10, .ref q11, .long (J 28)])), (q1, .inl (g.2 0, 376, .inl al)), (q5, .inl (g.2 0, 5, .inl fu)), (q6, .inl (g.2 0, 5, .inl sd))] H → va_D A [(qM, .inr (9, [.int (F 0), .ref q1, .ref q2, .ref q3, .int (F 4), .int (F 5), .int (F 6), .int (F 7), .int (F 8), .int (F 9), .long (J 10), .int (F 11), .int (F 12), .int (F 13), .ref q4, .int (F 15), .ref q5, .ref q6, .ref q7, .int (F 19), .ref q8, .int (F 21), .int (F 22), .int (F 23), .int (F 24), .ref q9, .ref q10, .ref q11, .long (J 28)])), (q1, .inl (g.2 0, 376, .inl al)), (q5, .inl (g.2 0, 5, .inl fu)), (q6, .inl (g.2 0, 5, .inl sd))] → va_S A s.heap H locs → ∀ (ls : Array Slot), lv_has ls 9 [(0, .ref qM), (1, .int p1), (3, .int x3), (4, .int x4), (5, .int x5), (7, .int x7), (8, .int x8)] → W p l e (headSpec wsX9_laysFulls rmX9_laysFulls).room s m args below meth c H locs 0 0 (MQ below (va_Qv (fun (u : (Nat → Int32) × (Nat → Int32)) => Q u.1 u.2) (fun (u : (Nat → Int32) × (Nat → Int32)) t => va_P g.1 vwCl [(qM, .inr (9, [.int (F 0), .ref q1, .ref q2, .ref q3, .int (F 4), .int (F 5), .int (F 6), .int (F 7), .int (F 8), .int (F 9), .long (J 10), .int (F 11), .int (F 12), .int (F 13), .ref q4, .int (F 15), .ref q5, .ref q6, .ref q7, .int (F 19), .ref q8, .int (F 21), .int (F 22), .int (F 23), .int (F 24), .ref q9, .ref q10, .ref q11, .long (J 28)])), (q1, .inl (g.2 0, 376, .inl al)), (q5, .inl (g.2 0, 5, .inl u.1)), (q6, .inl (g.2 0, 5, .inl u.2))] t.heap ∧ va_D A [(qM, .inr (9, [.int (F 0), .ref q1, .ref q2, .ref q3, .int (F 4), .int (F 5), .int (F 6), .int (F 7), .int (F 8), .int (F 9), .long (J 10), .int (F 11), .int (F 12), .int (F 13), .ref q4, .int (F 15), .ref q5, .ref q6, .ref q7, .int (F 19), .ref q8, .int (F 21), .int (F 22), .int (F 23), .int (F 24), .ref q9, .ref q10, .ref q11, .long (J 28)])), (q1, .inl (g.2 0, 376, .inl al)), (q5, .inl (g.2 0, 5, .inl u.1)), (q6, .inl (g.2 0, 5, .inl u.2))]) A) args s 0 0 A) (F0 m 180 ls [])) : ∀ (x3 : Int32) (x4 : Int32) (x5 : Int32) (x7 : Int32) (x8 : Int32) (s0 : Int32) (s1 : Int32) (s2 : Int32) (s3 : Int32) (fu : Nat → Int32) (sd : Nat → Int32), vX9_laysFulls_c224 F J al p1 p2 Q K70 K180 x3 x4 x5 x7 x8 s0 s1 s2 s3 fu sd → ∀ (H : Heap) (locs : List Loc), va_P g.1 vwCl [(qM, .inr (9, [.int (F 0), .ref q1, .ref q2, .ref q3, .int (F 4), .int (F 5), .int (F 6), .int (F 7), .int (F 8), .int (F 9), .long (J 10), .int (F 11), .int (F 12), .int (F 13), .ref q4, .int (F 15), .ref q5, .ref q6, .ref q7, .int (F 19), .ref q8, .int (F 21), .int (F 22), .int (F 23), .int (F 24), .ref q9, .ref q10, .ref q11, .long (J 28)])), (q1, .inl (g.2 0, 376, .inl al)), (q5, .inl (g.2 0, 5, .inl fu)), (q6, .inl (g.2 0, 5, .inl sd))] H → va_D A [(qM, .inr (9, [.int (F 0), .ref q1, .ref q2, .ref q3, .int (F 4), .int (F 5), .int (F 6), .int (F 7), .int (F 8), .int (F 9), .long (J 10), .int (F 11), .int (F 12), .int (F 13), .ref q4, .int (F 15), .ref q5, .ref q6, .ref q7, .int (F 19), .ref q8, .int (F 21), .int (F 22), .int (F 23), .int (F 24), .ref q9, .ref q10, .ref q11, .long (J 28)])), (q1, .inl (g.2 0, 376, .inl al)), (q5, .inl (g.2 0, 5, .inl fu)), (q6, .inl (g.2 0, 5, .inl sd))] → va_S A s.heap H locs → ∀ (ls : Array Slot), lv_has ls 9 [(0, .ref qM), (1, .int p1), (3, .int x3), (4, .int x4), (5, .int x5), (7, .int x7), (8, .int x8)] → W p l e (headSpec wsX9_laysFulls rmX9_laysFulls).room s m args below meth c H locs 0 0 (MQ below (va_Qv (fun (u : (Nat → Int32) × (Nat → Int32)) => Q u.1 u.2) (fun (u : (Nat → Int32) × (Nat → Int32)) t => va_P g.1 vwCl [(qM, .inr (9, [.int (F 0), .ref q1, .ref q2, .ref q3, .int (F 4), .int (F 5), .int (F 6), .int (F 7), .int (F 8), .int (F 9), .long (J 10), .int (F 11), .int (F 12), .int (F 13), .ref q4, .int (F 15), .ref q5, .ref q6, .ref q7, .int (F 19), .ref q8, .int (F 21), .int (F 22), .int (F 23), .int (F 24), .ref q9, .ref q10, .ref q11, .long (J 28)])), (q1, .inl (g.2 0, 376, .inl al)), (q5, .inl (g.2 0, 5, .inl u.1)), (q6, .inl (g.2 0, 5, .inl u.2))] t.heap ∧ va_D A [(qM, .inr (9, [.int (F 0), .ref q1, .ref q2, .ref q3, .int (F 4), .int (F 5), .int (F 6), .int (F 7), .int (F 8), .int (F 9), .long (J 10), .int (F 11), .int (F 12), .int (F 13), .ref q4, .int (F 15), .ref q5, .ref q6, .ref q7, .int (F 19), .ref q8, .int (F 21), .int (F 22), .int (F 23), .int (F 24), .ref q9, .ref q10, .ref q11, .long (J 28)])), (q1, .inl (g.2 0, 376, .inl al)), (q5, .inl (g.2 0, 5, .inl u.1)), (q6, .inl (g.2 0, 5, .inl u.2))]) A) args s 0 0 A) (F0 m 224 ls [.int s0, .int s1, .int s2, .int s3, .ref q5]) := by
  obtain ⟨hx, hb, hml, hown, hts⟩ := id S
  have hK := hG.1
  intro x3 x4 x5 x7 x8 s0 s1 s2 s3 fu sd hv H locs hP hD hS ls hl
  unfold vX9_laysFulls_c224 at hv
  obtain ⟨s_224, k_224, ho_1, hv⟩ := hv
  refine vp_callSi (W.runS (As := [.int s1, .int s0]) (rest := [.int s2, .int s3, .ref q5]) S (wX9_has l g s1 s0 (sX9_has s_224 k_224 s1 s0 ho_1)) (va_cwS 2 hts gX9_laysFulls_X9_has rfl rfl rfl (by decide +kernel) ⟨Nat.le_of_ble_eq_true rfl, Nat.le_of_ble_eq_true rfl⟩) ⟨blindRO, fun U hU hW => ⟨rfl, by rw [hU]; exact hP.sub (ws' := []) [] rfl, hG.warm hW⟩⟩ rfl rfl hl.1 rfl (lv_room (Nat.le_of_ble_eq_true rfl)) dX9_laysFulls_224 ⟨Nat.le_of_ble_eq_true rfl, Nat.le_of_ble_eq_true rfl⟩) (fun r_224 hr_224 => ?_)
  have hv := hv r_224 hr_224
  refine lv_iload hx hb dX9_laysFulls_227 (lv_at hl 5 rfl) ?_
  obtain ⟨hvt, hvf⟩ := hv
  refine lv_icmp_ne (tgt := 236) hx hb dX9_laysFulls_229 (by decide) (fun hc => ?_) (fun hc => ?_)
  · have hv := hvt hc
    refine lv_iconst (v := (-1 : Int32)) hx hb dX9_laysFulls_236 (by decide) ?_
    refine lv_iadd hx hb dX9_laysFulls_237 ?_
    obtain ⟨ho_2, hv⟩ := hv
    refine va_iast hx hb hK hP hD hS 2 0 rfl rfl ho_2 dX9_laysFulls_238 (fun H locs hP hD hS => ?_)
    have hP : va_P g.1 vwCl [(qM, .inr (9, [.int (F 0), .ref q1, .ref q2, .ref q3, .int (F 4), .int (F 5), .int (F 6), .int (F 7), .int (F 8), .int (F 9), .long (J 10), .int (F 11), .int (F 12), .int (F 13), .ref q4, .int (F 15), .ref q5, .ref q6, .ref q7, .int (F 19), .ref q8, .int (F 21), .int (F 22), .int (F 23), .int (F 24), .ref q9, .ref q10, .ref q11, .long (J 28)])), (q1, .inl (g.2 0, 376, .inl al)), (q5, .inl (g.2 0, 5, .inl (upd fu s3.toNatClampNeg (s2 + (-1 : Int32))))), (q6, .inl (g.2 0, 5, .inl sd))] H := hP
    have hD : va_D A [(qM, .inr (9, [.int (F 0), .ref q1, .ref q2, .ref q3, .int (F 4), .int (F 5), .int (F 6), .int (F 7), .int (F 8), .int (F 9), .long (J 10), .int (F 11), .int (F 12), .int (F 13), .ref q4, .int (F 15), .ref q5, .ref q6, .ref q7, .int (F 19), .ref q8, .int (F 21), .int (F 22), .int (F 23), .int (F 24), .ref q9, .ref q10, .ref q11, .long (J 28)])), (q1, .inl (g.2 0, 376, .inl al)), (q5, .inl (g.2 0, 5, .inl (upd fu s3.toNatClampNeg (s2 + (-1 : Int32))))), (q6, .inl (g.2 0, 5, .inl sd))] := hD
    refine lv_iinc (v := (x8 + (1 : Int32))) (lv' := [(8, .int (x8 + (1 : Int32))), (0, .ref qM), (1, .int p1), (3, .int x3), (4, .int x4), (5, .int x5), (7, .int x7)]) hx hb dX9_laysFulls_239 hl (k := 6) rfl rfl (by decide) rfl (fun ls hl => ?_)
    refine lv_goto (tgt := 180) hx hb dX9_laysFulls_242 (by decide) ?_
    exact kk180 _ _ _ _ _ _ _ hv _ _ (hP.sub (ws' := [(qM, .inr (9, [.int (F 0), .ref q1, .ref q2, .ref q3, .int (F 4), .int (F 5), .int (F 6), .int (F 7), .int (F 8), .int (F 9), .long (J 10), .int (F 11), .int (F 12), .int (F 13), .ref q4, .int (F 15), .ref q5, .ref q6, .ref q7, .int (F 19), .ref q8, .int (F 21), .int (F 22), .int (F 23), .int (F 24), .ref q9, .ref q10, .ref q11, .long (J 28)])), (q1, .inl (g.2 0, 376, .inl al)), (q5, .inl (g.2 0, 5, .inl (upd fu s3.toNatClampNeg (s2 + (-1 : Int32))))), (q6, .inl (g.2 0, 5, .inl sd))]) [0, 1, 2, 3] rfl) (hD.sub (ws' := [(qM, .inr (9, [.int (F 0), .ref q1, .ref q2, .ref q3, .int (F 4), .int (F 5), .int (F 6), .int (F 7), .int (F 8), .int (F 9), .long (J 10), .int (F 11), .int (F 12), .int (F 13), .ref q4, .int (F 15), .ref q5, .ref q6, .ref q7, .int (F 19), .ref q8, .int (F 21), .int (F 22), .int (F 23), .int (F 24), .ref q9, .ref q10, .ref q11, .long (J 28)])), (q1, .inl (g.2 0, 376, .inl al)), (q5, .inl (g.2 0, 5, .inl (upd fu s3.toNatClampNeg (s2 + (-1 : Int32))))), (q6, .inl (g.2 0, 5, .inl sd))]) [0, 1, 2, 3] (by decide) rfl) hS ls (lv_sub hl [1, 2, 3, 4, 5, 6, 0] rfl)
  · have hv := hvf hc
    refine lv_iconst (v := (1 : Int32)) hx hb dX9_laysFulls_232 (by decide) ?_
    refine lv_goto (tgt := 237) hx hb dX9_laysFulls_233 (by decide) ?_
    refine lv_iadd hx hb dX9_laysFulls_237 ?_
    obtain ⟨ho_3, hv⟩ := hv
    refine va_iast hx hb hK hP hD hS 2 0 rfl rfl ho_3 dX9_laysFulls_238 (fun H locs hP hD hS => ?_)
    have hP : va_P g.1 vwCl [(qM, .inr (9, [.int (F 0), .ref q1, .ref q2, .ref q3, .int (F 4), .int (F 5), .int (F 6), .int (F 7), .int (F 8), .int (F 9), .long (J 10), .int (F 11), .int (F 12), .int (F 13), .ref q4, .int (F 15), .ref q5, .ref q6, .ref q7, .int (F 19), .ref q8, .int (F 21), .int (F 22), .int (F 23), .int (F 24), .ref q9, .ref q10, .ref q11, .long (J 28)])), (q1, .inl (g.2 0, 376, .inl al)), (q5, .inl (g.2 0, 5, .inl (upd fu s3.toNatClampNeg (s2 + (1 : Int32))))), (q6, .inl (g.2 0, 5, .inl sd))] H := hP
    have hD : va_D A [(qM, .inr (9, [.int (F 0), .ref q1, .ref q2, .ref q3, .int (F 4), .int (F 5), .int (F 6), .int (F 7), .int (F 8), .int (F 9), .long (J 10), .int (F 11), .int (F 12), .int (F 13), .ref q4, .int (F 15), .ref q5, .ref q6, .ref q7, .int (F 19), .ref q8, .int (F 21), .int (F 22), .int (F 23), .int (F 24), .ref q9, .ref q10, .ref q11, .long (J 28)])), (q1, .inl (g.2 0, 376, .inl al)), (q5, .inl (g.2 0, 5, .inl (upd fu s3.toNatClampNeg (s2 + (1 : Int32))))), (q6, .inl (g.2 0, 5, .inl sd))] := hD
    refine lv_iinc (v := (x8 + (1 : Int32))) (lv' := [(8, .int (x8 + (1 : Int32))), (0, .ref qM), (1, .int p1), (3, .int x3), (4, .int x4), (5, .int x5), (7, .int x7)]) hx hb dX9_laysFulls_239 hl (k := 6) rfl rfl (by decide) rfl (fun ls hl => ?_)
    refine lv_goto (tgt := 180) hx hb dX9_laysFulls_242 (by decide) ?_
    exact kk180 _ _ _ _ _ _ _ hv _ _ (hP.sub (ws' := [(qM, .inr (9, [.int (F 0), .ref q1, .ref q2, .ref q3, .int (F 4), .int (F 5), .int (F 6), .int (F 7), .int (F 8), .int (F 9), .long (J 10), .int (F 11), .int (F 12), .int (F 13), .ref q4, .int (F 15), .ref q5, .ref q6, .ref q7, .int (F 19), .ref q8, .int (F 21), .int (F 22), .int (F 23), .int (F 24), .ref q9, .ref q10, .ref q11, .long (J 28)])), (q1, .inl (g.2 0, 376, .inl al)), (q5, .inl (g.2 0, 5, .inl (upd fu s3.toNatClampNeg (s2 + (1 : Int32))))), (q6, .inl (g.2 0, 5, .inl sd))]) [0, 1, 2, 3] rfl) (hD.sub (ws' := [(qM, .inr (9, [.int (F 0), .ref q1, .ref q2, .ref q3, .int (F 4), .int (F 5), .int (F 6), .int (F 7), .int (F 8), .int (F 9), .long (J 10), .int (F 11), .int (F 12), .int (F 13), .ref q4, .int (F 15), .ref q5, .ref q6, .ref q7, .int (F 19), .ref q8, .int (F 21), .int (F 22), .int (F 23), .int (F 24), .ref q9, .ref q10, .ref q11, .long (J 28)])), (q1, .inl (g.2 0, 376, .inl al)), (q5, .inl (g.2 0, 5, .inl (upd fu s3.toNatClampNeg (s2 + (1 : Int32))))), (q6, .inl (g.2 0, 5, .inl sd))]) [0, 1, 2, 3] (by decide) rfl) hS ls (lv_sub hl [1, 2, 3, 4, 5, 6, 0] rfl)
def vX9_laysFulls_c180 (F : Nat → Int32) (J : Nat → Int64) (al : Nat → Int32) (p1 : Int32) (p2 : Int32) (Q : (Nat → Int32) → (Nat → Int32) → Prop) (K70 : Int32 → Int32 → Int32 → (Nat → Int32) → (Nat → Int32) → Prop) : Nat → Int32 → Int32 → Int32 → Int32 → Int32 → (Nat → Int32) → (Nat → Int32) → Prop
  | 0, _, _, _, _, _, _, _ => False
  | n + 1, x3, x4, x5, x7, x8, fu, sd => (((al 0) ≤ x8 → (∃ nn, vX9_laysFulls_c248 F J al p1 p2 Q K70 nn x3 x4 x5 (0 : Int32) fu sd)) ∧ (¬ (al 0) ≤ x8 → (vp_in x8 5 ∧ (∃ (p_203 : Nat) (w_203 : Nat), preX9_of p_203 w_203 F J al x8 (2 : Int32) ∧ (∀ r_203 : Int32, postX9_of p_203 w_203 F J al x8 (2 : Int32) r_203 → ((¬ x8 = p1 → (vp_in x8 5 ∧ (vX9_laysFulls_c224 F J al p1 p2 Q K70 (vX9_laysFulls_c180 F J al p1 p2 Q K70 n) x3 x4 x5 x7 x8 (sd x8.toNatClampNeg) r_203 (fu x8.toNatClampNeg) x8 fu sd))) ∧ (x8 = p1 → (vX9_laysFulls_c224 F J al p1 p2 Q K70 (vX9_laysFulls_c180 F J al p1 p2 Q K70 n) x3 x4 x5 x7 x8 x4 r_203 (fu x8.toNatClampNeg) x8 fu sd))))))))
set_option maxHeartbeats 4000000 in
set_option maxRecDepth 100000 in
theorem kX9_laysFulls_c180 {p : Program} {l : Launch} {e : Env} {s : State} {m : MethodId} {args : Array Value} {below : List Frame} {meth : Method} {c : Code} {g : GP} {qM : Nat} {q1 : Nat} {q2 : Nat} {q3 : Nat} {q4 : Nat} {q5 : Nat} {q6 : Nat} {q7 : Nat} {q8 : Nat} {q9 : Nat} {q10 : Nat} {q11 : Nat} {F : Nat → Int32} {J : Nat → Int64} {al : Nat → Int32} {p1 : Int32} {p2 : Int32} {Q : (Nat → Int32) → (Nat → Int32) → Prop} {A : Nat → Prop} {K70 : Int32 → Int32 → Int32 → (Nat → Int32) → (Nat → Int32) → Prop} (S : CallFix p m c cX9_laysFulls 9 s args wsX9_laysFulls RX9) (hr : meth.sig.returnType = none) (hlocks : meth.locks = false) (hG : GK g s) (hA : ∀ q : Nat, s.heap.size ≤ q → A q) (kk70 : ∀ (x3 : Int32) (x4 : Int32) (x5 : Int32) (fu : Nat → Int32) (sd : Nat → Int32), K70 x3 x4 x5 fu sd → ∀ (H : Heap) (locs : List Loc), va_P g.1 vwCl [(qM, .inr (9, [.int (F 0), .ref q1, .ref q2, .ref q3, .int (F 4), .int (F 5), .int (F 6), .int (F 7), .int (F 8), .int (F 9), .long (J 10), .int (F 11), .int (F 12), .int (F 13), .ref q4, .int (F 15), .ref q5, .ref q6, .ref q7, .int (F 19), .ref q8, .int (F 21), .int (F 22), .int (F 23), .int (F 24), .ref q9, .ref q10, .ref q11, .long (J 28)])), (q1, .inl (g.2 0, 376, .inl al)), (q5, .inl (g.2 0, 5, .inl fu)), (q6, .inl (g.2 0, 5, .inl sd))] H → va_D A [(qM, .inr (9, [.int (F 0), .ref q1, .ref q2, .ref q3, .int (F 4), .int (F 5), .int (F 6), .int (F 7), .int (F 8), .int (F 9), .long (J 10), .int (F 11), .int (F 12), .int (F 13), .ref q4, .int (F 15), .ref q5, .ref q6, .ref q7, .int (F 19), .ref q8, .int (F 21), .int (F 22), .int (F 23), .int (F 24), .ref q9, .ref q10, .ref q11, .long (J 28)])), (q1, .inl (g.2 0, 376, .inl al)), (q5, .inl (g.2 0, 5, .inl fu)), (q6, .inl (g.2 0, 5, .inl sd))] → va_S A s.heap H locs → ∀ (ls : Array Slot), lv_has ls 9 [(0, .ref qM), (1, .int p1), (3, .int x3), (4, .int x4), (5, .int x5)] → W p l e (headSpec wsX9_laysFulls rmX9_laysFulls).room s m args below meth c H locs 0 0 (MQ below (va_Qv (fun (u : (Nat → Int32) × (Nat → Int32)) => Q u.1 u.2) (fun (u : (Nat → Int32) × (Nat → Int32)) t => va_P g.1 vwCl [(qM, .inr (9, [.int (F 0), .ref q1, .ref q2, .ref q3, .int (F 4), .int (F 5), .int (F 6), .int (F 7), .int (F 8), .int (F 9), .long (J 10), .int (F 11), .int (F 12), .int (F 13), .ref q4, .int (F 15), .ref q5, .ref q6, .ref q7, .int (F 19), .ref q8, .int (F 21), .int (F 22), .int (F 23), .int (F 24), .ref q9, .ref q10, .ref q11, .long (J 28)])), (q1, .inl (g.2 0, 376, .inl al)), (q5, .inl (g.2 0, 5, .inl u.1)), (q6, .inl (g.2 0, 5, .inl u.2))] t.heap ∧ va_D A [(qM, .inr (9, [.int (F 0), .ref q1, .ref q2, .ref q3, .int (F 4), .int (F 5), .int (F 6), .int (F 7), .int (F 8), .int (F 9), .long (J 10), .int (F 11), .int (F 12), .int (F 13), .ref q4, .int (F 15), .ref q5, .ref q6, .ref q7, .int (F 19), .ref q8, .int (F 21), .int (F 22), .int (F 23), .int (F 24), .ref q9, .ref q10, .ref q11, .long (J 28)])), (q1, .inl (g.2 0, 376, .inl al)), (q5, .inl (g.2 0, 5, .inl u.1)), (q6, .inl (g.2 0, 5, .inl u.2))]) A) args s 0 0 A) (F0 m 70 ls [])) : ∀ (n : Nat), ∀ (x3 : Int32) (x4 : Int32) (x5 : Int32) (x7 : Int32) (x8 : Int32) (fu : Nat → Int32) (sd : Nat → Int32), vX9_laysFulls_c180 F J al p1 p2 Q K70 n x3 x4 x5 x7 x8 fu sd → ∀ (H : Heap) (locs : List Loc), va_P g.1 vwCl [(qM, .inr (9, [.int (F 0), .ref q1, .ref q2, .ref q3, .int (F 4), .int (F 5), .int (F 6), .int (F 7), .int (F 8), .int (F 9), .long (J 10), .int (F 11), .int (F 12), .int (F 13), .ref q4, .int (F 15), .ref q5, .ref q6, .ref q7, .int (F 19), .ref q8, .int (F 21), .int (F 22), .int (F 23), .int (F 24), .ref q9, .ref q10, .ref q11, .long (J 28)])), (q1, .inl (g.2 0, 376, .inl al)), (q5, .inl (g.2 0, 5, .inl fu)), (q6, .inl (g.2 0, 5, .inl sd))] H → va_D A [(qM, .inr (9, [.int (F 0), .ref q1, .ref q2, .ref q3, .int (F 4), .int (F 5), .int (F 6), .int (F 7), .int (F 8), .int (F 9), .long (J 10), .int (F 11), .int (F 12), .int (F 13), .ref q4, .int (F 15), .ref q5, .ref q6, .ref q7, .int (F 19), .ref q8, .int (F 21), .int (F 22), .int (F 23), .int (F 24), .ref q9, .ref q10, .ref q11, .long (J 28)])), (q1, .inl (g.2 0, 376, .inl al)), (q5, .inl (g.2 0, 5, .inl fu)), (q6, .inl (g.2 0, 5, .inl sd))] → va_S A s.heap H locs → ∀ (ls : Array Slot), lv_has ls 9 [(0, .ref qM), (1, .int p1), (3, .int x3), (4, .int x4), (5, .int x5), (7, .int x7), (8, .int x8)] → W p l e (headSpec wsX9_laysFulls rmX9_laysFulls).room s m args below meth c H locs 0 0 (MQ below (va_Qv (fun (u : (Nat → Int32) × (Nat → Int32)) => Q u.1 u.2) (fun (u : (Nat → Int32) × (Nat → Int32)) t => va_P g.1 vwCl [(qM, .inr (9, [.int (F 0), .ref q1, .ref q2, .ref q3, .int (F 4), .int (F 5), .int (F 6), .int (F 7), .int (F 8), .int (F 9), .long (J 10), .int (F 11), .int (F 12), .int (F 13), .ref q4, .int (F 15), .ref q5, .ref q6, .ref q7, .int (F 19), .ref q8, .int (F 21), .int (F 22), .int (F 23), .int (F 24), .ref q9, .ref q10, .ref q11, .long (J 28)])), (q1, .inl (g.2 0, 376, .inl al)), (q5, .inl (g.2 0, 5, .inl u.1)), (q6, .inl (g.2 0, 5, .inl u.2))] t.heap ∧ va_D A [(qM, .inr (9, [.int (F 0), .ref q1, .ref q2, .ref q3, .int (F 4), .int (F 5), .int (F 6), .int (F 7), .int (F 8), .int (F 9), .long (J 10), .int (F 11), .int (F 12), .int (F 13), .ref q4, .int (F 15), .ref q5, .ref q6, .ref q7, .int (F 19), .ref q8, .int (F 21), .int (F 22), .int (F 23), .int (F 24), .ref q9, .ref q10, .ref q11, .long (J 28)])), (q1, .inl (g.2 0, 376, .inl al)), (q5, .inl (g.2 0, 5, .inl u.1)), (q6, .inl (g.2 0, 5, .inl u.2))]) A) args s 0 0 A) (F0 m 180 ls []) := by
  obtain ⟨hx, hb, hml, hown, hts⟩ := id S
  have hK := hG.1
  intro n
  induction n with
  | zero => intro x3 x4 x5 x7 x8 fu sd hv; exact hv.elim
  | succ n ih =>
    intro x3 x4 x5 x7 x8 fu sd hv H locs hP hD hS ls hl
    refine lv_iload hx hb dX9_laysFulls_180 (lv_at hl 6 rfl) ?_
    refine lv_aload_n hx hb dX9_laysFulls_182 rfl (lv_at hl 0 rfl) ?_
    refine va_get (D := g.1) (ci := 9) (v := .ref q1) (C := RX9) (T := TX9) (N := 29) hx hb hts inX9_laysFulls_9 hown hK hP 0 rfl rfl 1 (by decide) (hts (.fieldLink RX9 7 "RangeCodesModel" "all" "[I") (List.mem_of_getElem? (i := 1) rfl)) (fun _ h9 => h9) rfl dX9_laysFulls_183 ?_
    refine lv_iconst (v := (0 : Int32)) hx hb dX9_laysFulls_186 (by decide) ?_
    refine va_iald hx hb hK hP 1 0 rfl rfl (by unfold vp_in; decide) dX9_laysFulls_187 ?_
    obtain ⟨hvt, hvf⟩ := hv
    refine lv_icmp_ge (tgt := 245) hx hb dX9_laysFulls_188 (by decide) (fun hc => ?_) (fun hc => ?_)
    · have hv := hvt hc
      refine lv_iconst (v := (0 : Int32)) hx hb dX9_laysFulls_245 (by decide) ?_
      refine lv_istore (lv' := [(8, .int (0 : Int32)), (0, .ref qM), (1, .int p1), (3, .int x3), (4, .int x4), (5, .int x5), (7, .int x7)]) hx hb dX9_laysFulls_246 hl (by decide) rfl (fun ls hl => ?_)
      obtain ⟨nn, hv⟩ := hv
      exact kX9_laysFulls_c248 S hr hlocks hG hA kk70 nn _ _ _ _ _ _ hv _ _ (hP.sub (ws' := [(qM, .inr (9, [.int (F 0), .ref q1, .ref q2, .ref q3, .int (F 4), .int (F 5), .int (F 6), .int (F 7), .int (F 8), .int (F 9), .long (J 10), .int (F 11), .int (F 12), .int (F 13), .ref q4, .int (F 15), .ref q5, .ref q6, .ref q7, .int (F 19), .ref q8, .int (F 21), .int (F 22), .int (F 23), .int (F 24), .ref q9, .ref q10, .ref q11, .long (J 28)])), (q1, .inl (g.2 0, 376, .inl al)), (q5, .inl (g.2 0, 5, .inl fu)), (q6, .inl (g.2 0, 5, .inl sd))]) [0, 1, 2, 3] rfl) (hD.sub (ws' := [(qM, .inr (9, [.int (F 0), .ref q1, .ref q2, .ref q3, .int (F 4), .int (F 5), .int (F 6), .int (F 7), .int (F 8), .int (F 9), .long (J 10), .int (F 11), .int (F 12), .int (F 13), .ref q4, .int (F 15), .ref q5, .ref q6, .ref q7, .int (F 19), .ref q8, .int (F 21), .int (F 22), .int (F 23), .int (F 24), .ref q9, .ref q10, .ref q11, .long (J 28)])), (q1, .inl (g.2 0, 376, .inl al)), (q5, .inl (g.2 0, 5, .inl fu)), (q6, .inl (g.2 0, 5, .inl sd))]) [0, 1, 2, 3] (by decide) rfl) hS ls (lv_sub hl [1, 2, 3, 4, 5, 0] rfl)
    · have hv := hvf hc
      refine lv_aload_n hx hb dX9_laysFulls_191 rfl (lv_at hl 0 rfl) ?_
      refine va_get (D := g.1) (ci := 9) (v := .ref q5) (C := RX9) (T := TX9) (N := 29) hx hb hts inX9_laysFulls_9 hown hK hP 0 rfl rfl 16 (by decide) (hts (.fieldLink RX9 24 "RangeCodesModel" "fulls" "[I") (List.mem_of_getElem? (i := 2) rfl)) (fun _ h9 => h9) rfl dX9_laysFulls_192 ?_
      refine lv_iload hx hb dX9_laysFulls_195 (lv_at hl 6 rfl) ?_
      refine lv_dup2_11 hx hb dX9_laysFulls_197 rfl rfl ?_
      obtain ⟨ho_1, hv⟩ := hv
      refine va_iald hx hb hK hP 2 0 rfl rfl ho_1 dX9_laysFulls_198 ?_
      refine lv_aload_n hx hb dX9_laysFulls_199 rfl (lv_at hl 0 rfl) ?_
      refine lv_iload hx hb dX9_laysFulls_200 (lv_at hl 6 rfl) ?_
      refine lv_iconst (v := (2 : Int32)) hx hb dX9_laysFulls_202 (by decide) ?_
      obtain ⟨p_203, w_203, ho_2, hv⟩ := hv
      refine vp_callSi (W.runV (As := [.int x8, .int (2 : Int32)]) (rest := [.int (fu x8.toNatClampNeg), .int x8, .ref q5]) S (wX9_of l g qM q1 q2 q3 q4 q5 q6 q7 q8 q9 q10 q11 F J al x8 (2 : Int32) (sX9_of p_203 w_203 F J al x8 (2 : Int32) ho_2)) (cwV 2 hts gX9_laysFulls_X9_of rfl rfl rfl (by decide +kernel) ⟨Nat.le_of_ble_eq_true rfl, Nat.le_of_ble_eq_true rfl⟩) ⟨blindRO, va_recv hK hP (ci := 9) (q0 := 0) rfl rfl, fun U hU hW => ⟨rfl, by rw [hU]; exact hP.sub (ws' := [(qM, .inr (9, [.int (F 0), .ref q1, .ref q2, .ref q3, .int (F 4), .int (F 5), .int (F 6), .int (F 7), .int (F 8), .int (F 9), .long (J 10), .int (F 11), .int (F 12), .int (F 13), .ref q4, .int (F 15), .ref q5, .ref q6, .ref q7, .int (F 19), .ref q8, .int (F 21), .int (F 22), .int (F 23), .int (F 24), .ref q9, .ref q10, .ref q11, .long (J 28)])), (q1, .inl (g.2 0, 376, .inl al))]) [0, 1] rfl, hG.warm hW⟩⟩ rfl rfl hl.1 rfl (lv_room (Nat.le_of_ble_eq_true rfl)) dX9_laysFulls_203 ⟨Nat.le_of_ble_eq_true rfl, Nat.le_of_ble_eq_true rfl⟩) (fun r_203 hr_203 => ?_)
      have hv := hv r_203 hr_203
      refine lv_iload hx hb dX9_laysFulls_206 (lv_at hl 6 rfl) ?_
      refine lv_iload_n hx hb dX9_laysFulls_208 rfl (lv_at hl 1 rfl) ?_
      obtain ⟨hvt, hvf⟩ := hv
      refine lv_icmp_ne (tgt := 217) hx hb dX9_laysFulls_209 (by decide) (fun hc => ?_) (fun hc => ?_)
      · have hv := hvt hc
        refine lv_aload_n hx hb dX9_laysFulls_217 rfl (lv_at hl 0 rfl) ?_
        refine va_get (D := g.1) (ci := 9) (v := .ref q6) (C := RX9) (T := TX9) (N := 29) hx hb hts inX9_laysFulls_9 hown hK hP 0 rfl rfl 17 (by decide) (hts (.fieldLink RX9 27 "RangeCodesModel" "stand" "[I") (List.mem_of_getElem? (i := 3) rfl)) (fun _ h9 => h9) rfl dX9_laysFulls_218 ?_
        refine lv_iload hx hb dX9_laysFulls_221 (lv_at hl 6 rfl) ?_
        obtain ⟨ho_3, hv⟩ := hv
        refine va_iald hx hb hK hP 3 0 rfl rfl ho_3 dX9_laysFulls_223 ?_
        exact kX9_laysFulls_c224 S hr hlocks hG hA kk70 ih _ _ _ _ _ _ _ _ _ _ _ hv _ _ (hP.sub (ws' := [(qM, .inr (9, [.int (F 0), .ref q1, .ref q2, .ref q3, .int (F 4), .int (F 5), .int (F 6), .int (F 7), .int (F 8), .int (F 9), .long (J 10), .int (F 11), .int (F 12), .int (F 13), .ref q4, .int (F 15), .ref q5, .ref q6, .ref q7, .int (F 19), .ref q8, .int (F 21), .int (F 22), .int (F 23), .int (F 24), .ref q9, .ref q10, .ref q11, .long (J 28)])), (q1, .inl (g.2 0, 376, .inl al)), (q5, .inl (g.2 0, 5, .inl fu)), (q6, .inl (g.2 0, 5, .inl sd))]) [0, 1, 2, 3] rfl) (hD.sub (ws' := [(qM, .inr (9, [.int (F 0), .ref q1, .ref q2, .ref q3, .int (F 4), .int (F 5), .int (F 6), .int (F 7), .int (F 8), .int (F 9), .long (J 10), .int (F 11), .int (F 12), .int (F 13), .ref q4, .int (F 15), .ref q5, .ref q6, .ref q7, .int (F 19), .ref q8, .int (F 21), .int (F 22), .int (F 23), .int (F 24), .ref q9, .ref q10, .ref q11, .long (J 28)])), (q1, .inl (g.2 0, 376, .inl al)), (q5, .inl (g.2 0, 5, .inl fu)), (q6, .inl (g.2 0, 5, .inl sd))]) [0, 1, 2, 3] (by decide) rfl) hS ls (lv_sub hl [0, 1, 2, 3, 4, 5, 6] rfl)
      · have hv := hvf hc
        refine lv_iload hx hb dX9_laysFulls_212 (lv_at hl 3 rfl) ?_
        refine lv_goto (tgt := 224) hx hb dX9_laysFulls_214 (by decide) ?_
        exact kX9_laysFulls_c224 S hr hlocks hG hA kk70 ih _ _ _ _ _ _ _ _ _ _ _ hv _ _ (hP.sub (ws' := [(qM, .inr (9, [.int (F 0), .ref q1, .ref q2, .ref q3, .int (F 4), .int (F 5), .int (F 6), .int (F 7), .int (F 8), .int (F 9), .long (J 10), .int (F 11), .int (F 12), .int (F 13), .ref q4, .int (F 15), .ref q5, .ref q6, .ref q7, .int (F 19), .ref q8, .int (F 21), .int (F 22), .int (F 23), .int (F 24), .ref q9, .ref q10, .ref q11, .long (J 28)])), (q1, .inl (g.2 0, 376, .inl al)), (q5, .inl (g.2 0, 5, .inl fu)), (q6, .inl (g.2 0, 5, .inl sd))]) [0, 1, 2, 3] rfl) (hD.sub (ws' := [(qM, .inr (9, [.int (F 0), .ref q1, .ref q2, .ref q3, .int (F 4), .int (F 5), .int (F 6), .int (F 7), .int (F 8), .int (F 9), .long (J 10), .int (F 11), .int (F 12), .int (F 13), .ref q4, .int (F 15), .ref q5, .ref q6, .ref q7, .int (F 19), .ref q8, .int (F 21), .int (F 22), .int (F 23), .int (F 24), .ref q9, .ref q10, .ref q11, .long (J 28)])), (q1, .inl (g.2 0, 376, .inl al)), (q5, .inl (g.2 0, 5, .inl fu)), (q6, .inl (g.2 0, 5, .inl sd))]) [0, 1, 2, 3] (by decide) rfl) hS ls (lv_sub hl [0, 1, 2, 3, 4, 5, 6] rfl)
def vX9_laysFulls_c82 (F : Nat → Int32) (J : Nat → Int64) (al : Nat → Int32) (p1 : Int32) (p2 : Int32) (Q : (Nat → Int32) → (Nat → Int32) → Prop) (K70 : Int32 → Int32 → Int32 → (Nat → Int32) → (Nat → Int32) → Prop) : Nat → Int32 → Int32 → Int32 → Int32 → Int32 → (Nat → Int32) → (Nat → Int32) → Prop
  | 0, _, _, _, _, _, _, _ => False
  | n + 1, x3, x4, x5, x6, x7, fu, sd => (((al 0) ≤ x7 → ((x6 = 0 → (∃ (p_163 : Nat) (w_163 : Nat), preX9_of p_163 w_163 F J al (0 : Int32) (2 : Int32) ∧ (∀ r_163 : Int32, postX9_of p_163 w_163 F J al (0 : Int32) (2 : Int32) r_163 → (∃ (s_172 : Nat) (k_172 : Nat), preX9_has s_172 k_172 r_163 (sd 0) ∧ (∀ r_172 : Int32, postX9_has s_172 k_172 r_163 (sd 0) r_172 → (∃ nn, vX9_laysFulls_c180 F J al p1 p2 Q K70 nn x3 x4 x5 r_172 (0 : Int32) fu sd)))))) ∧ (¬ x6 = 0 → ((x6 ≤ 0 → (∃ nn, vX9_laysFulls_c180 F J al p1 p2 Q K70 nn x3 x4 x5 (0 : Int32) (0 : Int32) fu sd)) ∧ (¬ x6 ≤ 0 → (∃ nn, vX9_laysFulls_c180 F J al p1 p2 Q K70 nn x3 x4 x5 (1 : Int32) (0 : Int32) fu sd)))))) ∧ (¬ (al 0) ≤ x7 → (∃ (p_99 : Nat) (w_99 : Nat), preX9_of p_99 w_99 F J al x7 (2 : Int32) ∧ (∀ r_99 : Int32, postX9_of p_99 w_99 F J al x7 (2 : Int32) r_99 → (vp_in x7 5 ∧ (∃ (s_109 : Nat) (k_109 : Nat), preX9_has s_109 k_109 r_99 (sd x7.toNatClampNeg) ∧ (∀ r_109 : Int32, postX9_has s_109 k_109 r_99 (sd x7.toNatClampNeg) r_109 → ((r_109 = 0 → (∃ (p_129 : Nat) (w_129 : Nat), preX9_of p_129 w_129 F J al x7 (1 : Int32) ∧ (∀ r_129 : Int32, postX9_of p_129 w_129 F J al x7 (1 : Int32) r_129 → (vX9_laysFulls_c82 F J al p1 p2 Q K70 n x3 x4 x5 (x6 + (-r_129)) (x7 + (1 : Int32)) fu sd)))) ∧ (¬ r_109 = 0 → (∃ (p_119 : Nat) (w_119 : Nat), preX9_of p_119 w_119 F J al x7 (1 : Int32) ∧ (∀ r_119 : Int32, postX9_of p_119 w_119 F J al x7 (1 : Int32) r_119 → (vX9_laysFulls_c82 F J al p1 p2 Q K70 n x3 x4 x5 (x6 + r_119) (x7 + (1 : Int32)) fu sd))))))))))))
set_option maxHeartbeats 4000000 in
set_option maxRecDepth 100000 in
theorem kX9_laysFulls_c82 {p : Program} {l : Launch} {e : Env} {s : State} {m : MethodId} {args : Array Value} {below : List Frame} {meth : Method} {c : Code} {g : GP} {qM : Nat} {q1 : Nat} {q2 : Nat} {q3 : Nat} {q4 : Nat} {q5 : Nat} {q6 : Nat} {q7 : Nat} {q8 : Nat} {q9 : Nat} {q10 : Nat} {q11 : Nat} {F : Nat → Int32} {J : Nat → Int64} {al : Nat → Int32} {p1 : Int32} {p2 : Int32} {Q : (Nat → Int32) → (Nat → Int32) → Prop} {A : Nat → Prop} {K70 : Int32 → Int32 → Int32 → (Nat → Int32) → (Nat → Int32) → Prop} (S : CallFix p m c cX9_laysFulls 9 s args wsX9_laysFulls RX9) (hr : meth.sig.returnType = none) (hlocks : meth.locks = false) (hG : GK g s) (hA : ∀ q : Nat, s.heap.size ≤ q → A q) (kk70 : ∀ (x3 : Int32) (x4 : Int32) (x5 : Int32) (fu : Nat → Int32) (sd : Nat → Int32), K70 x3 x4 x5 fu sd → ∀ (H : Heap) (locs : List Loc), va_P g.1 vwCl [(qM, .inr (9, [.int (F 0), .ref q1, .ref q2, .ref q3, .int (F 4), .int (F 5), .int (F 6), .int (F 7), .int (F 8), .int (F 9), .long (J 10), .int (F 11), .int (F 12), .int (F 13), .ref q4, .int (F 15), .ref q5, .ref q6, .ref q7, .int (F 19), .ref q8, .int (F 21), .int (F 22), .int (F 23), .int (F 24), .ref q9, .ref q10, .ref q11, .long (J 28)])), (q1, .inl (g.2 0, 376, .inl al)), (q5, .inl (g.2 0, 5, .inl fu)), (q6, .inl (g.2 0, 5, .inl sd))] H → va_D A [(qM, .inr (9, [.int (F 0), .ref q1, .ref q2, .ref q3, .int (F 4), .int (F 5), .int (F 6), .int (F 7), .int (F 8), .int (F 9), .long (J 10), .int (F 11), .int (F 12), .int (F 13), .ref q4, .int (F 15), .ref q5, .ref q6, .ref q7, .int (F 19), .ref q8, .int (F 21), .int (F 22), .int (F 23), .int (F 24), .ref q9, .ref q10, .ref q11, .long (J 28)])), (q1, .inl (g.2 0, 376, .inl al)), (q5, .inl (g.2 0, 5, .inl fu)), (q6, .inl (g.2 0, 5, .inl sd))] → va_S A s.heap H locs → ∀ (ls : Array Slot), lv_has ls 9 [(0, .ref qM), (1, .int p1), (3, .int x3), (4, .int x4), (5, .int x5)] → W p l e (headSpec wsX9_laysFulls rmX9_laysFulls).room s m args below meth c H locs 0 0 (MQ below (va_Qv (fun (u : (Nat → Int32) × (Nat → Int32)) => Q u.1 u.2) (fun (u : (Nat → Int32) × (Nat → Int32)) t => va_P g.1 vwCl [(qM, .inr (9, [.int (F 0), .ref q1, .ref q2, .ref q3, .int (F 4), .int (F 5), .int (F 6), .int (F 7), .int (F 8), .int (F 9), .long (J 10), .int (F 11), .int (F 12), .int (F 13), .ref q4, .int (F 15), .ref q5, .ref q6, .ref q7, .int (F 19), .ref q8, .int (F 21), .int (F 22), .int (F 23), .int (F 24), .ref q9, .ref q10, .ref q11, .long (J 28)])), (q1, .inl (g.2 0, 376, .inl al)), (q5, .inl (g.2 0, 5, .inl u.1)), (q6, .inl (g.2 0, 5, .inl u.2))] t.heap ∧ va_D A [(qM, .inr (9, [.int (F 0), .ref q1, .ref q2, .ref q3, .int (F 4), .int (F 5), .int (F 6), .int (F 7), .int (F 8), .int (F 9), .long (J 10), .int (F 11), .int (F 12), .int (F 13), .ref q4, .int (F 15), .ref q5, .ref q6, .ref q7, .int (F 19), .ref q8, .int (F 21), .int (F 22), .int (F 23), .int (F 24), .ref q9, .ref q10, .ref q11, .long (J 28)])), (q1, .inl (g.2 0, 376, .inl al)), (q5, .inl (g.2 0, 5, .inl u.1)), (q6, .inl (g.2 0, 5, .inl u.2))]) A) args s 0 0 A) (F0 m 70 ls [])) : ∀ (n : Nat), ∀ (x3 : Int32) (x4 : Int32) (x5 : Int32) (x6 : Int32) (x7 : Int32) (fu : Nat → Int32) (sd : Nat → Int32), vX9_laysFulls_c82 F J al p1 p2 Q K70 n x3 x4 x5 x6 x7 fu sd → ∀ (H : Heap) (locs : List Loc), va_P g.1 vwCl [(qM, .inr (9, [.int (F 0), .ref q1, .ref q2, .ref q3, .int (F 4), .int (F 5), .int (F 6), .int (F 7), .int (F 8), .int (F 9), .long (J 10), .int (F 11), .int (F 12), .int (F 13), .ref q4, .int (F 15), .ref q5, .ref q6, .ref q7, .int (F 19), .ref q8, .int (F 21), .int (F 22), .int (F 23), .int (F 24), .ref q9, .ref q10, .ref q11, .long (J 28)])), (q1, .inl (g.2 0, 376, .inl al)), (q5, .inl (g.2 0, 5, .inl fu)), (q6, .inl (g.2 0, 5, .inl sd))] H → va_D A [(qM, .inr (9, [.int (F 0), .ref q1, .ref q2, .ref q3, .int (F 4), .int (F 5), .int (F 6), .int (F 7), .int (F 8), .int (F 9), .long (J 10), .int (F 11), .int (F 12), .int (F 13), .ref q4, .int (F 15), .ref q5, .ref q6, .ref q7, .int (F 19), .ref q8, .int (F 21), .int (F 22), .int (F 23), .int (F 24), .ref q9, .ref q10, .ref q11, .long (J 28)])), (q1, .inl (g.2 0, 376, .inl al)), (q5, .inl (g.2 0, 5, .inl fu)), (q6, .inl (g.2 0, 5, .inl sd))] → va_S A s.heap H locs → ∀ (ls : Array Slot), lv_has ls 9 [(0, .ref qM), (1, .int p1), (3, .int x3), (4, .int x4), (5, .int x5), (6, .int x6), (7, .int x7)] → W p l e (headSpec wsX9_laysFulls rmX9_laysFulls).room s m args below meth c H locs 0 0 (MQ below (va_Qv (fun (u : (Nat → Int32) × (Nat → Int32)) => Q u.1 u.2) (fun (u : (Nat → Int32) × (Nat → Int32)) t => va_P g.1 vwCl [(qM, .inr (9, [.int (F 0), .ref q1, .ref q2, .ref q3, .int (F 4), .int (F 5), .int (F 6), .int (F 7), .int (F 8), .int (F 9), .long (J 10), .int (F 11), .int (F 12), .int (F 13), .ref q4, .int (F 15), .ref q5, .ref q6, .ref q7, .int (F 19), .ref q8, .int (F 21), .int (F 22), .int (F 23), .int (F 24), .ref q9, .ref q10, .ref q11, .long (J 28)])), (q1, .inl (g.2 0, 376, .inl al)), (q5, .inl (g.2 0, 5, .inl u.1)), (q6, .inl (g.2 0, 5, .inl u.2))] t.heap ∧ va_D A [(qM, .inr (9, [.int (F 0), .ref q1, .ref q2, .ref q3, .int (F 4), .int (F 5), .int (F 6), .int (F 7), .int (F 8), .int (F 9), .long (J 10), .int (F 11), .int (F 12), .int (F 13), .ref q4, .int (F 15), .ref q5, .ref q6, .ref q7, .int (F 19), .ref q8, .int (F 21), .int (F 22), .int (F 23), .int (F 24), .ref q9, .ref q10, .ref q11, .long (J 28)])), (q1, .inl (g.2 0, 376, .inl al)), (q5, .inl (g.2 0, 5, .inl u.1)), (q6, .inl (g.2 0, 5, .inl u.2))]) A) args s 0 0 A) (F0 m 82 ls []) := by
  obtain ⟨hx, hb, hml, hown, hts⟩ := id S
  have hK := hG.1
  intro n
  induction n with
  | zero => intro x3 x4 x5 x6 x7 fu sd hv; exact hv.elim
  | succ n ih =>
    intro x3 x4 x5 x6 x7 fu sd hv H locs hP hD hS ls hl
    refine lv_iload hx hb dX9_laysFulls_82 (lv_at hl 6 rfl) ?_
    refine lv_aload_n hx hb dX9_laysFulls_84 rfl (lv_at hl 0 rfl) ?_
    refine va_get (D := g.1) (ci := 9) (v := .ref q1) (C := RX9) (T := TX9) (N := 29) hx hb hts inX9_laysFulls_9 hown hK hP 0 rfl rfl 1 (by decide) (hts (.fieldLink RX9 7 "RangeCodesModel" "all" "[I") (List.mem_of_getElem? (i := 1) rfl)) (fun _ h9 => h9) rfl dX9_laysFulls_85 ?_
    refine lv_iconst (v := (0 : Int32)) hx hb dX9_laysFulls_88 (by decide) ?_
    refine va_iald hx hb hK hP 1 0 rfl rfl (by unfold vp_in; decide) dX9_laysFulls_89 ?_
    obtain ⟨hvt, hvf⟩ := hv
    refine lv_icmp_ge (tgt := 142) hx hb dX9_laysFulls_90 (by decide) (fun hc => ?_) (fun hc => ?_)
    · have hv := hvt hc
      refine lv_iload hx hb dX9_laysFulls_142 (lv_at hl 5 rfl) ?_
      obtain ⟨hvt, hvf⟩ := hv
      refine lv_if_eq (tgt := 160) hx hb dX9_laysFulls_144 (by decide) (fun hc => ?_) (fun hc => ?_)
      · have hv := hvt hc
        refine lv_aload_n hx hb dX9_laysFulls_160 rfl (lv_at hl 0 rfl) ?_
        refine lv_iconst (v := (0 : Int32)) hx hb dX9_laysFulls_161 (by decide) ?_
        refine lv_iconst (v := (2 : Int32)) hx hb dX9_laysFulls_162 (by decide) ?_
        obtain ⟨p_163, w_163, ho_1, hv⟩ := hv
        refine vp_callSi (W.runV (As := [.int (0 : Int32), .int (2 : Int32)]) (rest := []) S (wX9_of l g qM q1 q2 q3 q4 q5 q6 q7 q8 q9 q10 q11 F J al (0 : Int32) (2 : Int32) (sX9_of p_163 w_163 F J al (0 : Int32) (2 : Int32) ho_1)) (cwV 2 hts gX9_laysFulls_X9_of rfl rfl rfl (by decide +kernel) ⟨Nat.le_of_ble_eq_true rfl, Nat.le_of_ble_eq_true rfl⟩) ⟨blindRO, va_recv hK hP (ci := 9) (q0 := 0) rfl rfl, fun U hU hW => ⟨rfl, by rw [hU]; exact hP.sub (ws' := [(qM, .inr (9, [.int (F 0), .ref q1, .ref q2, .ref q3, .int (F 4), .int (F 5), .int (F 6), .int (F 7), .int (F 8), .int (F 9), .long (J 10), .int (F 11), .int (F 12), .int (F 13), .ref q4, .int (F 15), .ref q5, .ref q6, .ref q7, .int (F 19), .ref q8, .int (F 21), .int (F 22), .int (F 23), .int (F 24), .ref q9, .ref q10, .ref q11, .long (J 28)])), (q1, .inl (g.2 0, 376, .inl al))]) [0, 1] rfl, hG.warm hW⟩⟩ rfl rfl hl.1 rfl (lv_room (Nat.le_of_ble_eq_true rfl)) dX9_laysFulls_163 ⟨Nat.le_of_ble_eq_true rfl, Nat.le_of_ble_eq_true rfl⟩) (fun r_163 hr_163 => ?_)
        have hv := hv r_163 hr_163
        refine lv_aload_n hx hb dX9_laysFulls_166 rfl (lv_at hl 0 rfl) ?_
        refine va_get (D := g.1) (ci := 9) (v := .ref q6) (C := RX9) (T := TX9) (N := 29) hx hb hts inX9_laysFulls_9 hown hK hP 0 rfl rfl 17 (by decide) (hts (.fieldLink RX9 27 "RangeCodesModel" "stand" "[I") (List.mem_of_getElem? (i := 3) rfl)) (fun _ h9 => h9) rfl dX9_laysFulls_167 ?_
        refine lv_iconst (v := (0 : Int32)) hx hb dX9_laysFulls_170 (by decide) ?_
        refine va_iald hx hb hK hP 3 0 rfl rfl (by unfold vp_in; decide) dX9_laysFulls_171 ?_
        obtain ⟨s_172, k_172, ho_2, hv⟩ := hv
        refine vp_callSi (W.runS (As := [.int r_163, .int (sd 0)]) (rest := []) S (wX9_has l g r_163 (sd 0) (sX9_has s_172 k_172 r_163 (sd 0) ho_2)) (va_cwS 2 hts gX9_laysFulls_X9_has rfl rfl rfl (by decide +kernel) ⟨Nat.le_of_ble_eq_true rfl, Nat.le_of_ble_eq_true rfl⟩) ⟨blindRO, fun U hU hW => ⟨rfl, by rw [hU]; exact hP.sub (ws' := []) [] rfl, hG.warm hW⟩⟩ rfl rfl hl.1 rfl (lv_room (Nat.le_of_ble_eq_true rfl)) dX9_laysFulls_172 ⟨Nat.le_of_ble_eq_true rfl, Nat.le_of_ble_eq_true rfl⟩) (fun r_172 hr_172 => ?_)
        have hv := hv r_172 hr_172
        refine lv_istore (lv' := [(7, .int r_172), (0, .ref qM), (1, .int p1), (3, .int x3), (4, .int x4), (5, .int x5), (6, .int x6)]) hx hb dX9_laysFulls_175 hl (by decide) rfl (fun ls hl => ?_)
        refine lv_iconst (v := (0 : Int32)) hx hb dX9_laysFulls_177 (by decide) ?_
        refine lv_istore (lv' := [(8, .int (0 : Int32)), (7, .int r_172), (0, .ref qM), (1, .int p1), (3, .int x3), (4, .int x4), (5, .int x5), (6, .int x6)]) hx hb dX9_laysFulls_178 hl (by decide) rfl (fun ls hl => ?_)
        obtain ⟨nn, hv⟩ := hv
        exact kX9_laysFulls_c180 S hr hlocks hG hA kk70 nn _ _ _ _ _ _ _ hv _ _ (hP.sub (ws' := [(qM, .inr (9, [.int (F 0), .ref q1, .ref q2, .ref q3, .int (F 4), .int (F 5), .int (F 6), .int (F 7), .int (F 8), .int (F 9), .long (J 10), .int (F 11), .int (F 12), .int (F 13), .ref q4, .int (F 15), .ref q5, .ref q6, .ref q7, .int (F 19), .ref q8, .int (F 21), .int (F 22), .int (F 23), .int (F 24), .ref q9, .ref q10, .ref q11, .long (J 28)])), (q1, .inl (g.2 0, 376, .inl al)), (q5, .inl (g.2 0, 5, .inl fu)), (q6, .inl (g.2 0, 5, .inl sd))]) [0, 1, 2, 3] rfl) (hD.sub (ws' := [(qM, .inr (9, [.int (F 0), .ref q1, .ref q2, .ref q3, .int (F 4), .int (F 5), .int (F 6), .int (F 7), .int (F 8), .int (F 9), .long (J 10), .int (F 11), .int (F 12), .int (F 13), .ref q4, .int (F 15), .ref q5, .ref q6, .ref q7, .int (F 19), .ref q8, .int (F 21), .int (F 22), .int (F 23), .int (F 24), .ref q9, .ref q10, .ref q11, .long (J 28)])), (q1, .inl (g.2 0, 376, .inl al)), (q5, .inl (g.2 0, 5, .inl fu)), (q6, .inl (g.2 0, 5, .inl sd))]) [0, 1, 2, 3] (by decide) rfl) hS ls (lv_sub hl [2, 3, 4, 5, 6, 1, 0] rfl)
      · have hv := hvf hc
        refine lv_iload hx hb dX9_laysFulls_147 (lv_at hl 5 rfl) ?_
        obtain ⟨hvt, hvf⟩ := hv
        refine lv_if_le (tgt := 156) hx hb dX9_laysFulls_149 (by decide) (fun hc => ?_) (fun hc => ?_)
        · have hv := hvt hc
          refine lv_iconst (v := (0 : Int32)) hx hb dX9_laysFulls_156 (by decide) ?_
          refine lv_goto (tgt := 175) hx hb dX9_laysFulls_157 (by decide) ?_
          refine lv_istore (lv' := [(7, .int (0 : Int32)), (0, .ref qM), (1, .int p1), (3, .int x3), (4, .int x4), (5, .int x5), (6, .int x6)]) hx hb dX9_laysFulls_175 hl (by decide) rfl (fun ls hl => ?_)
          refine lv_iconst (v := (0 : Int32)) hx hb dX9_laysFulls_177 (by decide) ?_
          refine lv_istore (lv' := [(8, .int (0 : Int32)), (7, .int (0 : Int32)), (0, .ref qM), (1, .int p1), (3, .int x3), (4, .int x4), (5, .int x5), (6, .int x6)]) hx hb dX9_laysFulls_178 hl (by decide) rfl (fun ls hl => ?_)
          obtain ⟨nn, hv⟩ := hv
          exact kX9_laysFulls_c180 S hr hlocks hG hA kk70 nn _ _ _ _ _ _ _ hv _ _ (hP.sub (ws' := [(qM, .inr (9, [.int (F 0), .ref q1, .ref q2, .ref q3, .int (F 4), .int (F 5), .int (F 6), .int (F 7), .int (F 8), .int (F 9), .long (J 10), .int (F 11), .int (F 12), .int (F 13), .ref q4, .int (F 15), .ref q5, .ref q6, .ref q7, .int (F 19), .ref q8, .int (F 21), .int (F 22), .int (F 23), .int (F 24), .ref q9, .ref q10, .ref q11, .long (J 28)])), (q1, .inl (g.2 0, 376, .inl al)), (q5, .inl (g.2 0, 5, .inl fu)), (q6, .inl (g.2 0, 5, .inl sd))]) [0, 1, 2, 3] rfl) (hD.sub (ws' := [(qM, .inr (9, [.int (F 0), .ref q1, .ref q2, .ref q3, .int (F 4), .int (F 5), .int (F 6), .int (F 7), .int (F 8), .int (F 9), .long (J 10), .int (F 11), .int (F 12), .int (F 13), .ref q4, .int (F 15), .ref q5, .ref q6, .ref q7, .int (F 19), .ref q8, .int (F 21), .int (F 22), .int (F 23), .int (F 24), .ref q9, .ref q10, .ref q11, .long (J 28)])), (q1, .inl (g.2 0, 376, .inl al)), (q5, .inl (g.2 0, 5, .inl fu)), (q6, .inl (g.2 0, 5, .inl sd))]) [0, 1, 2, 3] (by decide) rfl) hS ls (lv_sub hl [2, 3, 4, 5, 6, 1, 0] rfl)
        · have hv := hvf hc
          refine lv_iconst (v := (1 : Int32)) hx hb dX9_laysFulls_152 (by decide) ?_
          refine lv_goto (tgt := 175) hx hb dX9_laysFulls_153 (by decide) ?_
          refine lv_istore (lv' := [(7, .int (1 : Int32)), (0, .ref qM), (1, .int p1), (3, .int x3), (4, .int x4), (5, .int x5), (6, .int x6)]) hx hb dX9_laysFulls_175 hl (by decide) rfl (fun ls hl => ?_)
          refine lv_iconst (v := (0 : Int32)) hx hb dX9_laysFulls_177 (by decide) ?_
          refine lv_istore (lv' := [(8, .int (0 : Int32)), (7, .int (1 : Int32)), (0, .ref qM), (1, .int p1), (3, .int x3), (4, .int x4), (5, .int x5), (6, .int x6)]) hx hb dX9_laysFulls_178 hl (by decide) rfl (fun ls hl => ?_)
          obtain ⟨nn, hv⟩ := hv
          exact kX9_laysFulls_c180 S hr hlocks hG hA kk70 nn _ _ _ _ _ _ _ hv _ _ (hP.sub (ws' := [(qM, .inr (9, [.int (F 0), .ref q1, .ref q2, .ref q3, .int (F 4), .int (F 5), .int (F 6), .int (F 7), .int (F 8), .int (F 9), .long (J 10), .int (F 11), .int (F 12), .int (F 13), .ref q4, .int (F 15), .ref q5, .ref q6, .ref q7, .int (F 19), .ref q8, .int (F 21), .int (F 22), .int (F 23), .int (F 24), .ref q9, .ref q10, .ref q11, .long (J 28)])), (q1, .inl (g.2 0, 376, .inl al)), (q5, .inl (g.2 0, 5, .inl fu)), (q6, .inl (g.2 0, 5, .inl sd))]) [0, 1, 2, 3] rfl) (hD.sub (ws' := [(qM, .inr (9, [.int (F 0), .ref q1, .ref q2, .ref q3, .int (F 4), .int (F 5), .int (F 6), .int (F 7), .int (F 8), .int (F 9), .long (J 10), .int (F 11), .int (F 12), .int (F 13), .ref q4, .int (F 15), .ref q5, .ref q6, .ref q7, .int (F 19), .ref q8, .int (F 21), .int (F 22), .int (F 23), .int (F 24), .ref q9, .ref q10, .ref q11, .long (J 28)])), (q1, .inl (g.2 0, 376, .inl al)), (q5, .inl (g.2 0, 5, .inl fu)), (q6, .inl (g.2 0, 5, .inl sd))]) [0, 1, 2, 3] (by decide) rfl) hS ls (lv_sub hl [2, 3, 4, 5, 6, 1, 0] rfl)
    · have hv := hvf hc
      refine lv_iload hx hb dX9_laysFulls_93 (lv_at hl 5 rfl) ?_
      refine lv_aload_n hx hb dX9_laysFulls_95 rfl (lv_at hl 0 rfl) ?_
      refine lv_iload hx hb dX9_laysFulls_96 (lv_at hl 6 rfl) ?_
      refine lv_iconst (v := (2 : Int32)) hx hb dX9_laysFulls_98 (by decide) ?_
      obtain ⟨p_99, w_99, ho_3, hv⟩ := hv
      refine vp_callSi (W.runV (As := [.int x7, .int (2 : Int32)]) (rest := [.int x6]) S (wX9_of l g qM q1 q2 q3 q4 q5 q6 q7 q8 q9 q10 q11 F J al x7 (2 : Int32) (sX9_of p_99 w_99 F J al x7 (2 : Int32) ho_3)) (cwV 2 hts gX9_laysFulls_X9_of rfl rfl rfl (by decide +kernel) ⟨Nat.le_of_ble_eq_true rfl, Nat.le_of_ble_eq_true rfl⟩) ⟨blindRO, va_recv hK hP (ci := 9) (q0 := 0) rfl rfl, fun U hU hW => ⟨rfl, by rw [hU]; exact hP.sub (ws' := [(qM, .inr (9, [.int (F 0), .ref q1, .ref q2, .ref q3, .int (F 4), .int (F 5), .int (F 6), .int (F 7), .int (F 8), .int (F 9), .long (J 10), .int (F 11), .int (F 12), .int (F 13), .ref q4, .int (F 15), .ref q5, .ref q6, .ref q7, .int (F 19), .ref q8, .int (F 21), .int (F 22), .int (F 23), .int (F 24), .ref q9, .ref q10, .ref q11, .long (J 28)])), (q1, .inl (g.2 0, 376, .inl al))]) [0, 1] rfl, hG.warm hW⟩⟩ rfl rfl hl.1 rfl (lv_room (Nat.le_of_ble_eq_true rfl)) dX9_laysFulls_99 ⟨Nat.le_of_ble_eq_true rfl, Nat.le_of_ble_eq_true rfl⟩) (fun r_99 hr_99 => ?_)
      have hv := hv r_99 hr_99
      refine lv_aload_n hx hb dX9_laysFulls_102 rfl (lv_at hl 0 rfl) ?_
      refine va_get (D := g.1) (ci := 9) (v := .ref q6) (C := RX9) (T := TX9) (N := 29) hx hb hts inX9_laysFulls_9 hown hK hP 0 rfl rfl 17 (by decide) (hts (.fieldLink RX9 27 "RangeCodesModel" "stand" "[I") (List.mem_of_getElem? (i := 3) rfl)) (fun _ h9 => h9) rfl dX9_laysFulls_103 ?_
      refine lv_iload hx hb dX9_laysFulls_106 (lv_at hl 6 rfl) ?_
      obtain ⟨ho_4, hv⟩ := hv
      refine va_iald hx hb hK hP 3 0 rfl rfl ho_4 dX9_laysFulls_108 ?_
      obtain ⟨s_109, k_109, ho_5, hv⟩ := hv
      refine vp_callSi (W.runS (As := [.int r_99, .int (sd x7.toNatClampNeg)]) (rest := [.int x6]) S (wX9_has l g r_99 (sd x7.toNatClampNeg) (sX9_has s_109 k_109 r_99 (sd x7.toNatClampNeg) ho_5)) (va_cwS 2 hts gX9_laysFulls_X9_has rfl rfl rfl (by decide +kernel) ⟨Nat.le_of_ble_eq_true rfl, Nat.le_of_ble_eq_true rfl⟩) ⟨blindRO, fun U hU hW => ⟨rfl, by rw [hU]; exact hP.sub (ws' := []) [] rfl, hG.warm hW⟩⟩ rfl rfl hl.1 rfl (lv_room (Nat.le_of_ble_eq_true rfl)) dX9_laysFulls_109 ⟨Nat.le_of_ble_eq_true rfl, Nat.le_of_ble_eq_true rfl⟩) (fun r_109 hr_109 => ?_)
      have hv := hv r_109 hr_109
      obtain ⟨hvt, hvf⟩ := hv
      refine lv_if_eq (tgt := 125) hx hb dX9_laysFulls_112 (by decide) (fun hc => ?_) (fun hc => ?_)
      · have hv := hvt hc
        refine lv_aload_n hx hb dX9_laysFulls_125 rfl (lv_at hl 0 rfl) ?_
        refine lv_iload hx hb dX9_laysFulls_126 (lv_at hl 6 rfl) ?_
        refine lv_iconst (v := (1 : Int32)) hx hb dX9_laysFulls_128 (by decide) ?_
        obtain ⟨p_129, w_129, ho_6, hv⟩ := hv
        refine vp_callSi (W.runV (As := [.int x7, .int (1 : Int32)]) (rest := [.int x6]) S (wX9_of l g qM q1 q2 q3 q4 q5 q6 q7 q8 q9 q10 q11 F J al x7 (1 : Int32) (sX9_of p_129 w_129 F J al x7 (1 : Int32) ho_6)) (cwV 2 hts gX9_laysFulls_X9_of rfl rfl rfl (by decide +kernel) ⟨Nat.le_of_ble_eq_true rfl, Nat.le_of_ble_eq_true rfl⟩) ⟨blindRO, va_recv hK hP (ci := 9) (q0 := 0) rfl rfl, fun U hU hW => ⟨rfl, by rw [hU]; exact hP.sub (ws' := [(qM, .inr (9, [.int (F 0), .ref q1, .ref q2, .ref q3, .int (F 4), .int (F 5), .int (F 6), .int (F 7), .int (F 8), .int (F 9), .long (J 10), .int (F 11), .int (F 12), .int (F 13), .ref q4, .int (F 15), .ref q5, .ref q6, .ref q7, .int (F 19), .ref q8, .int (F 21), .int (F 22), .int (F 23), .int (F 24), .ref q9, .ref q10, .ref q11, .long (J 28)])), (q1, .inl (g.2 0, 376, .inl al))]) [0, 1] rfl, hG.warm hW⟩⟩ rfl rfl hl.1 rfl (lv_room (Nat.le_of_ble_eq_true rfl)) dX9_laysFulls_129 ⟨Nat.le_of_ble_eq_true rfl, Nat.le_of_ble_eq_true rfl⟩) (fun r_129 hr_129 => ?_)
        have hv := hv r_129 hr_129
        refine lv_ineg hx hb dX9_laysFulls_132 ?_
        refine lv_iadd hx hb dX9_laysFulls_133 ?_
        refine lv_istore (lv' := [(6, .int (x6 + (-r_129))), (0, .ref qM), (1, .int p1), (3, .int x3), (4, .int x4), (5, .int x5), (7, .int x7)]) hx hb dX9_laysFulls_134 hl (by decide) rfl (fun ls hl => ?_)
        refine lv_iinc (v := (x7 + (1 : Int32))) (lv' := [(7, .int (x7 + (1 : Int32))), (6, .int (x6 + (-r_129))), (0, .ref qM), (1, .int p1), (3, .int x3), (4, .int x4), (5, .int x5)]) hx hb dX9_laysFulls_136 hl (k := 6) rfl rfl (by decide) rfl (fun ls hl => ?_)
        refine lv_goto (tgt := 82) hx hb dX9_laysFulls_139 (by decide) ?_
        exact ih _ _ _ _ _ _ _ hv _ _ (hP.sub (ws' := [(qM, .inr (9, [.int (F 0), .ref q1, .ref q2, .ref q3, .int (F 4), .int (F 5), .int (F 6), .int (F 7), .int (F 8), .int (F 9), .long (J 10), .int (F 11), .int (F 12), .int (F 13), .ref q4, .int (F 15), .ref q5, .ref q6, .ref q7, .int (F 19), .ref q8, .int (F 21), .int (F 22), .int (F 23), .int (F 24), .ref q9, .ref q10, .ref q11, .long (J 28)])), (q1, .inl (g.2 0, 376, .inl al)), (q5, .inl (g.2 0, 5, .inl fu)), (q6, .inl (g.2 0, 5, .inl sd))]) [0, 1, 2, 3] rfl) (hD.sub (ws' := [(qM, .inr (9, [.int (F 0), .ref q1, .ref q2, .ref q3, .int (F 4), .int (F 5), .int (F 6), .int (F 7), .int (F 8), .int (F 9), .long (J 10), .int (F 11), .int (F 12), .int (F 13), .ref q4, .int (F 15), .ref q5, .ref q6, .ref q7, .int (F 19), .ref q8, .int (F 21), .int (F 22), .int (F 23), .int (F 24), .ref q9, .ref q10, .ref q11, .long (J 28)])), (q1, .inl (g.2 0, 376, .inl al)), (q5, .inl (g.2 0, 5, .inl fu)), (q6, .inl (g.2 0, 5, .inl sd))]) [0, 1, 2, 3] (by decide) rfl) hS ls (lv_sub hl [2, 3, 4, 5, 6, 1, 0] rfl)
      · have hv := hvf hc
        refine lv_aload_n hx hb dX9_laysFulls_115 rfl (lv_at hl 0 rfl) ?_
        refine lv_iload hx hb dX9_laysFulls_116 (lv_at hl 6 rfl) ?_
        refine lv_iconst (v := (1 : Int32)) hx hb dX9_laysFulls_118 (by decide) ?_
        obtain ⟨p_119, w_119, ho_7, hv⟩ := hv
        refine vp_callSi (W.runV (As := [.int x7, .int (1 : Int32)]) (rest := [.int x6]) S (wX9_of l g qM q1 q2 q3 q4 q5 q6 q7 q8 q9 q10 q11 F J al x7 (1 : Int32) (sX9_of p_119 w_119 F J al x7 (1 : Int32) ho_7)) (cwV 2 hts gX9_laysFulls_X9_of rfl rfl rfl (by decide +kernel) ⟨Nat.le_of_ble_eq_true rfl, Nat.le_of_ble_eq_true rfl⟩) ⟨blindRO, va_recv hK hP (ci := 9) (q0 := 0) rfl rfl, fun U hU hW => ⟨rfl, by rw [hU]; exact hP.sub (ws' := [(qM, .inr (9, [.int (F 0), .ref q1, .ref q2, .ref q3, .int (F 4), .int (F 5), .int (F 6), .int (F 7), .int (F 8), .int (F 9), .long (J 10), .int (F 11), .int (F 12), .int (F 13), .ref q4, .int (F 15), .ref q5, .ref q6, .ref q7, .int (F 19), .ref q8, .int (F 21), .int (F 22), .int (F 23), .int (F 24), .ref q9, .ref q10, .ref q11, .long (J 28)])), (q1, .inl (g.2 0, 376, .inl al))]) [0, 1] rfl, hG.warm hW⟩⟩ rfl rfl hl.1 rfl (lv_room (Nat.le_of_ble_eq_true rfl)) dX9_laysFulls_119 ⟨Nat.le_of_ble_eq_true rfl, Nat.le_of_ble_eq_true rfl⟩) (fun r_119 hr_119 => ?_)
        have hv := hv r_119 hr_119
        refine lv_goto (tgt := 133) hx hb dX9_laysFulls_122 (by decide) ?_
        refine lv_iadd hx hb dX9_laysFulls_133 ?_
        refine lv_istore (lv' := [(6, .int (x6 + r_119)), (0, .ref qM), (1, .int p1), (3, .int x3), (4, .int x4), (5, .int x5), (7, .int x7)]) hx hb dX9_laysFulls_134 hl (by decide) rfl (fun ls hl => ?_)
        refine lv_iinc (v := (x7 + (1 : Int32))) (lv' := [(7, .int (x7 + (1 : Int32))), (6, .int (x6 + r_119)), (0, .ref qM), (1, .int p1), (3, .int x3), (4, .int x4), (5, .int x5)]) hx hb dX9_laysFulls_136 hl (k := 6) rfl rfl (by decide) rfl (fun ls hl => ?_)
        refine lv_goto (tgt := 82) hx hb dX9_laysFulls_139 (by decide) ?_
        exact ih _ _ _ _ _ _ _ hv _ _ (hP.sub (ws' := [(qM, .inr (9, [.int (F 0), .ref q1, .ref q2, .ref q3, .int (F 4), .int (F 5), .int (F 6), .int (F 7), .int (F 8), .int (F 9), .long (J 10), .int (F 11), .int (F 12), .int (F 13), .ref q4, .int (F 15), .ref q5, .ref q6, .ref q7, .int (F 19), .ref q8, .int (F 21), .int (F 22), .int (F 23), .int (F 24), .ref q9, .ref q10, .ref q11, .long (J 28)])), (q1, .inl (g.2 0, 376, .inl al)), (q5, .inl (g.2 0, 5, .inl fu)), (q6, .inl (g.2 0, 5, .inl sd))]) [0, 1, 2, 3] rfl) (hD.sub (ws' := [(qM, .inr (9, [.int (F 0), .ref q1, .ref q2, .ref q3, .int (F 4), .int (F 5), .int (F 6), .int (F 7), .int (F 8), .int (F 9), .long (J 10), .int (F 11), .int (F 12), .int (F 13), .ref q4, .int (F 15), .ref q5, .ref q6, .ref q7, .int (F 19), .ref q8, .int (F 21), .int (F 22), .int (F 23), .int (F 24), .ref q9, .ref q10, .ref q11, .long (J 28)])), (q1, .inl (g.2 0, 376, .inl al)), (q5, .inl (g.2 0, 5, .inl fu)), (q6, .inl (g.2 0, 5, .inl sd))]) [0, 1, 2, 3] (by decide) rfl) hS ls (lv_sub hl [2, 3, 4, 5, 6, 1, 0] rfl)
def vX9_laysFulls_c70 (F : Nat → Int32) (J : Nat → Int64) (al : Nat → Int32) (p1 : Int32) (p2 : Int32) (Q : (Nat → Int32) → (Nat → Int32) → Prop) : Nat → Int32 → Int32 → Int32 → (Nat → Int32) → (Nat → Int32) → Prop
  | 0, _, _, _, _, _ => False
  | n + 1, x3, x4, x5, fu, sd => ((x3 ≤ x5 → (Q fu sd)) ∧ (¬ x3 ≤ x5 → (∃ nn, vX9_laysFulls_c82 F J al p1 p2 Q (vX9_laysFulls_c70 F J al p1 p2 Q n) nn x3 x4 x5 (0 : Int32) (0 : Int32) fu sd)))
set_option maxHeartbeats 4000000 in
set_option maxRecDepth 100000 in
theorem kX9_laysFulls_c70 {p : Program} {l : Launch} {e : Env} {s : State} {m : MethodId} {args : Array Value} {below : List Frame} {meth : Method} {c : Code} {g : GP} {qM : Nat} {q1 : Nat} {q2 : Nat} {q3 : Nat} {q4 : Nat} {q5 : Nat} {q6 : Nat} {q7 : Nat} {q8 : Nat} {q9 : Nat} {q10 : Nat} {q11 : Nat} {F : Nat → Int32} {J : Nat → Int64} {al : Nat → Int32} {p1 : Int32} {p2 : Int32} {Q : (Nat → Int32) → (Nat → Int32) → Prop} {A : Nat → Prop} (S : CallFix p m c cX9_laysFulls 9 s args wsX9_laysFulls RX9) (hr : meth.sig.returnType = none) (hlocks : meth.locks = false) (hG : GK g s) (hA : ∀ q : Nat, s.heap.size ≤ q → A q) : ∀ (n : Nat), ∀ (x3 : Int32) (x4 : Int32) (x5 : Int32) (fu : Nat → Int32) (sd : Nat → Int32), vX9_laysFulls_c70 F J al p1 p2 Q n x3 x4 x5 fu sd → ∀ (H : Heap) (locs : List Loc), va_P g.1 vwCl [(qM, .inr (9, [.int (F 0), .ref q1, .ref q2, .ref q3, .int (F 4), .int (F 5), .int (F 6), .int (F 7), .int (F 8), .int (F 9), .long (J 10), .int (F 11), .int (F 12), .int (F 13), .ref q4, .int (F 15), .ref q5, .ref q6, .ref q7, .int (F 19), .ref q8, .int (F 21), .int (F 22), .int (F 23), .int (F 24), .ref q9, .ref q10, .ref q11, .long (J 28)])), (q1, .inl (g.2 0, 376, .inl al)), (q5, .inl (g.2 0, 5, .inl fu)), (q6, .inl (g.2 0, 5, .inl sd))] H → va_D A [(qM, .inr (9, [.int (F 0), .ref q1, .ref q2, .ref q3, .int (F 4), .int (F 5), .int (F 6), .int (F 7), .int (F 8), .int (F 9), .long (J 10), .int (F 11), .int (F 12), .int (F 13), .ref q4, .int (F 15), .ref q5, .ref q6, .ref q7, .int (F 19), .ref q8, .int (F 21), .int (F 22), .int (F 23), .int (F 24), .ref q9, .ref q10, .ref q11, .long (J 28)])), (q1, .inl (g.2 0, 376, .inl al)), (q5, .inl (g.2 0, 5, .inl fu)), (q6, .inl (g.2 0, 5, .inl sd))] → va_S A s.heap H locs → ∀ (ls : Array Slot), lv_has ls 9 [(0, .ref qM), (1, .int p1), (3, .int x3), (4, .int x4), (5, .int x5)] → W p l e (headSpec wsX9_laysFulls rmX9_laysFulls).room s m args below meth c H locs 0 0 (MQ below (va_Qv (fun (u : (Nat → Int32) × (Nat → Int32)) => Q u.1 u.2) (fun (u : (Nat → Int32) × (Nat → Int32)) t => va_P g.1 vwCl [(qM, .inr (9, [.int (F 0), .ref q1, .ref q2, .ref q3, .int (F 4), .int (F 5), .int (F 6), .int (F 7), .int (F 8), .int (F 9), .long (J 10), .int (F 11), .int (F 12), .int (F 13), .ref q4, .int (F 15), .ref q5, .ref q6, .ref q7, .int (F 19), .ref q8, .int (F 21), .int (F 22), .int (F 23), .int (F 24), .ref q9, .ref q10, .ref q11, .long (J 28)])), (q1, .inl (g.2 0, 376, .inl al)), (q5, .inl (g.2 0, 5, .inl u.1)), (q6, .inl (g.2 0, 5, .inl u.2))] t.heap ∧ va_D A [(qM, .inr (9, [.int (F 0), .ref q1, .ref q2, .ref q3, .int (F 4), .int (F 5), .int (F 6), .int (F 7), .int (F 8), .int (F 9), .long (J 10), .int (F 11), .int (F 12), .int (F 13), .ref q4, .int (F 15), .ref q5, .ref q6, .ref q7, .int (F 19), .ref q8, .int (F 21), .int (F 22), .int (F 23), .int (F 24), .ref q9, .ref q10, .ref q11, .long (J 28)])), (q1, .inl (g.2 0, 376, .inl al)), (q5, .inl (g.2 0, 5, .inl u.1)), (q6, .inl (g.2 0, 5, .inl u.2))]) A) args s 0 0 A) (F0 m 70 ls []) := by
  obtain ⟨hx, hb, hml, hown, hts⟩ := id S
  have hK := hG.1
  intro n
  induction n with
  | zero => intro x3 x4 x5 fu sd hv; exact hv.elim
  | succ n ih =>
    intro x3 x4 x5 fu sd hv H locs hP hD hS ls hl
    refine lv_iload hx hb dX9_laysFulls_70 (lv_at hl 4 rfl) ?_
    refine lv_iload_n hx hb dX9_laysFulls_72 rfl (lv_at hl 2 rfl) ?_
    obtain ⟨hvt, hvf⟩ := hv
    refine lv_icmp_ge (tgt := 338) hx hb dX9_laysFulls_73 (by decide) (fun hc => ?_) (fun hc => ?_)
    · have hv := hvt hc
      have hP9 := hP.sub (ws' := [(qM, .inr (9, [.int (F 0), .ref q1, .ref q2, .ref q3, .int (F 4), .int (F 5), .int (F 6), .int (F 7), .int (F 8), .int (F 9), .long (J 10), .int (F 11), .int (F 12), .int (F 13), .ref q4, .int (F 15), .ref q5, .ref q6, .ref q7, .int (F 19), .ref q8, .int (F 21), .int (F 22), .int (F 23), .int (F 24), .ref q9, .ref q10, .ref q11, .long (J 28)])), (q1, .inl (g.2 0, 376, .inl al)), (q5, .inl (g.2 0, 5, .inl fu)), (q6, .inl (g.2 0, 5, .inl sd))]) [0, 1, 2, 3] rfl
      have hD9 := hD.sub (ws' := [(qM, .inr (9, [.int (F 0), .ref q1, .ref q2, .ref q3, .int (F 4), .int (F 5), .int (F 6), .int (F 7), .int (F 8), .int (F 9), .long (J 10), .int (F 11), .int (F 12), .int (F 13), .ref q4, .int (F 15), .ref q5, .ref q6, .ref q7, .int (F 19), .ref q8, .int (F 21), .int (F 22), .int (F 23), .int (F 24), .ref q9, .ref q10, .ref q11, .long (J 28)])), (q1, .inl (g.2 0, 376, .inl al)), (q5, .inl (g.2 0, 5, .inl fu)), (q6, .inl (g.2 0, 5, .inl sd))]) [0, 1, 2, 3] (by decide) rfl
      exact W.vret hx hb hr (fun t ht hW => ⟨⟨(fu, sd), rfl, hv, by rw [ht]; exact hP9, hD9⟩, hS.F ht⟩) hS.2.2 dX9_laysFulls_338
    · have hv := hvf hc
      refine lv_iconst (v := (0 : Int32)) hx hb dX9_laysFulls_76 (by decide) ?_
      refine lv_istore (lv' := [(6, .int (0 : Int32)), (0, .ref qM), (1, .int p1), (3, .int x3), (4, .int x4), (5, .int x5)]) hx hb dX9_laysFulls_77 hl (by decide) rfl (fun ls hl => ?_)
      refine lv_iconst (v := (0 : Int32)) hx hb dX9_laysFulls_79 (by decide) ?_
      refine lv_istore (lv' := [(7, .int (0 : Int32)), (6, .int (0 : Int32)), (0, .ref qM), (1, .int p1), (3, .int x3), (4, .int x4), (5, .int x5)]) hx hb dX9_laysFulls_80 hl (by decide) rfl (fun ls hl => ?_)
      obtain ⟨nn, hv⟩ := hv
      exact kX9_laysFulls_c82 S hr hlocks hG hA ih nn _ _ _ _ _ _ _ hv _ _ (hP.sub (ws' := [(qM, .inr (9, [.int (F 0), .ref q1, .ref q2, .ref q3, .int (F 4), .int (F 5), .int (F 6), .int (F 7), .int (F 8), .int (F 9), .long (J 10), .int (F 11), .int (F 12), .int (F 13), .ref q4, .int (F 15), .ref q5, .ref q6, .ref q7, .int (F 19), .ref q8, .int (F 21), .int (F 22), .int (F 23), .int (F 24), .ref q9, .ref q10, .ref q11, .long (J 28)])), (q1, .inl (g.2 0, 376, .inl al)), (q5, .inl (g.2 0, 5, .inl fu)), (q6, .inl (g.2 0, 5, .inl sd))]) [0, 1, 2, 3] rfl) (hD.sub (ws' := [(qM, .inr (9, [.int (F 0), .ref q1, .ref q2, .ref q3, .int (F 4), .int (F 5), .int (F 6), .int (F 7), .int (F 8), .int (F 9), .long (J 10), .int (F 11), .int (F 12), .int (F 13), .ref q4, .int (F 15), .ref q5, .ref q6, .ref q7, .int (F 19), .ref q8, .int (F 21), .int (F 22), .int (F 23), .int (F 24), .ref q9, .ref q10, .ref q11, .long (J 28)])), (q1, .inl (g.2 0, 376, .inl al)), (q5, .inl (g.2 0, 5, .inl fu)), (q6, .inl (g.2 0, 5, .inl sd))]) [0, 1, 2, 3] (by decide) rfl) hS ls (lv_sub hl [2, 3, 4, 5, 6, 1, 0] rfl)
def vX9_laysFulls_c12 (F : Nat → Int32) (J : Nat → Int64) (al : Nat → Int32) (p1 : Int32) (p2 : Int32) (Q : (Nat → Int32) → (Nat → Int32) → Prop) : Nat → Int32 → Int32 → (Nat → Int32) → (Nat → Int32) → Prop
  | 0, _, _, _, _ => False
  | n + 1, x3, x4, fu, sd => (((al 0) ≤ x4 → ((¬ p1 = (-1 : Int32) → (∃ (p_59 : Nat) (w_59 : Nat), preX9_of p_59 w_59 F J al p1 (0 : Int32) ∧ (∀ r_59 : Int32, postX9_of p_59 w_59 F J al p1 (0 : Int32) r_59 → (preX9_rest (-p2) r_59 ∧ (∀ r_62 : Int32, postX9_rest (-p2) r_59 r_62 → (∃ nn, vX9_laysFulls_c70 F J al p1 p2 Q nn x3 r_62 (0 : Int32) fu sd)))))) ∧ (p1 = (-1 : Int32) → (∃ nn, vX9_laysFulls_c70 F J al p1 p2 Q nn x3 (0 : Int32) (0 : Int32) fu sd)))) ∧ (¬ (al 0) ≤ x4 → (vp_in x4 5 ∧ (vp_in x4 5 ∧ (vX9_laysFulls_c12 F J al p1 p2 Q n x3 (x4 + (1 : Int32)) (upd fu x4.toNatClampNeg (0 : Int32)) (upd sd x4.toNatClampNeg (0 : Int32)))))))
set_option maxHeartbeats 4000000 in
set_option maxRecDepth 100000 in
theorem kX9_laysFulls_c12 {p : Program} {l : Launch} {e : Env} {s : State} {m : MethodId} {args : Array Value} {below : List Frame} {meth : Method} {c : Code} {g : GP} {qM : Nat} {q1 : Nat} {q2 : Nat} {q3 : Nat} {q4 : Nat} {q5 : Nat} {q6 : Nat} {q7 : Nat} {q8 : Nat} {q9 : Nat} {q10 : Nat} {q11 : Nat} {F : Nat → Int32} {J : Nat → Int64} {al : Nat → Int32} {p1 : Int32} {p2 : Int32} {Q : (Nat → Int32) → (Nat → Int32) → Prop} {A : Nat → Prop} (S : CallFix p m c cX9_laysFulls 9 s args wsX9_laysFulls RX9) (hr : meth.sig.returnType = none) (hlocks : meth.locks = false) (hG : GK g s) (hA : ∀ q : Nat, s.heap.size ≤ q → A q) : ∀ (n : Nat), ∀ (x3 : Int32) (x4 : Int32) (fu : Nat → Int32) (sd : Nat → Int32), vX9_laysFulls_c12 F J al p1 p2 Q n x3 x4 fu sd → ∀ (H : Heap) (locs : List Loc), va_P g.1 vwCl [(qM, .inr (9, [.int (F 0), .ref q1, .ref q2, .ref q3, .int (F 4), .int (F 5), .int (F 6), .int (F 7), .int (F 8), .int (F 9), .long (J 10), .int (F 11), .int (F 12), .int (F 13), .ref q4, .int (F 15), .ref q5, .ref q6, .ref q7, .int (F 19), .ref q8, .int (F 21), .int (F 22), .int (F 23), .int (F 24), .ref q9, .ref q10, .ref q11, .long (J 28)])), (q1, .inl (g.2 0, 376, .inl al)), (q5, .inl (g.2 0, 5, .inl fu)), (q6, .inl (g.2 0, 5, .inl sd))] H → va_D A [(qM, .inr (9, [.int (F 0), .ref q1, .ref q2, .ref q3, .int (F 4), .int (F 5), .int (F 6), .int (F 7), .int (F 8), .int (F 9), .long (J 10), .int (F 11), .int (F 12), .int (F 13), .ref q4, .int (F 15), .ref q5, .ref q6, .ref q7, .int (F 19), .ref q8, .int (F 21), .int (F 22), .int (F 23), .int (F 24), .ref q9, .ref q10, .ref q11, .long (J 28)])), (q1, .inl (g.2 0, 376, .inl al)), (q5, .inl (g.2 0, 5, .inl fu)), (q6, .inl (g.2 0, 5, .inl sd))] → va_S A s.heap H locs → ∀ (ls : Array Slot), lv_has ls 9 [(0, .ref qM), (1, .int p1), (2, .int p2), (3, .int x3), (4, .int x4)] → W p l e (headSpec wsX9_laysFulls rmX9_laysFulls).room s m args below meth c H locs 0 0 (MQ below (va_Qv (fun (u : (Nat → Int32) × (Nat → Int32)) => Q u.1 u.2) (fun (u : (Nat → Int32) × (Nat → Int32)) t => va_P g.1 vwCl [(qM, .inr (9, [.int (F 0), .ref q1, .ref q2, .ref q3, .int (F 4), .int (F 5), .int (F 6), .int (F 7), .int (F 8), .int (F 9), .long (J 10), .int (F 11), .int (F 12), .int (F 13), .ref q4, .int (F 15), .ref q5, .ref q6, .ref q7, .int (F 19), .ref q8, .int (F 21), .int (F 22), .int (F 23), .int (F 24), .ref q9, .ref q10, .ref q11, .long (J 28)])), (q1, .inl (g.2 0, 376, .inl al)), (q5, .inl (g.2 0, 5, .inl u.1)), (q6, .inl (g.2 0, 5, .inl u.2))] t.heap ∧ va_D A [(qM, .inr (9, [.int (F 0), .ref q1, .ref q2, .ref q3, .int (F 4), .int (F 5), .int (F 6), .int (F 7), .int (F 8), .int (F 9), .long (J 10), .int (F 11), .int (F 12), .int (F 13), .ref q4, .int (F 15), .ref q5, .ref q6, .ref q7, .int (F 19), .ref q8, .int (F 21), .int (F 22), .int (F 23), .int (F 24), .ref q9, .ref q10, .ref q11, .long (J 28)])), (q1, .inl (g.2 0, 376, .inl al)), (q5, .inl (g.2 0, 5, .inl u.1)), (q6, .inl (g.2 0, 5, .inl u.2))]) A) args s 0 0 A) (F0 m 12 ls []) := by
  obtain ⟨hx, hb, hml, hown, hts⟩ := id S
  have hK := hG.1
  intro n
  induction n with
  | zero => intro x3 x4 fu sd hv; exact hv.elim
  | succ n ih =>
    intro x3 x4 fu sd hv H locs hP hD hS ls hl
    refine lv_iload hx hb dX9_laysFulls_12 (lv_at hl 4 rfl) ?_
    refine lv_aload_n hx hb dX9_laysFulls_14 rfl (lv_at hl 0 rfl) ?_
    refine va_get (D := g.1) (ci := 9) (v := .ref q1) (C := RX9) (T := TX9) (N := 29) hx hb hts inX9_laysFulls_9 hown hK hP 0 rfl rfl 1 (by decide) (hts (.fieldLink RX9 7 "RangeCodesModel" "all" "[I") (List.mem_of_getElem? (i := 1) rfl)) (fun _ h9 => h9) rfl dX9_laysFulls_15 ?_
    refine lv_iconst (v := (0 : Int32)) hx hb dX9_laysFulls_18 (by decide) ?_
    refine va_iald hx hb hK hP 1 0 rfl rfl (by unfold vp_in; decide) dX9_laysFulls_19 ?_
    obtain ⟨hvt, hvf⟩ := hv
    refine lv_icmp_ge (tgt := 45) hx hb dX9_laysFulls_20 (by decide) (fun hc => ?_) (fun hc => ?_)
    · have hv := hvt hc
      refine lv_iload_n hx hb dX9_laysFulls_45 rfl (lv_at hl 1 rfl) ?_
      refine lv_iconst (v := (-1 : Int32)) hx hb dX9_laysFulls_46 (by decide) ?_
      obtain ⟨hvt, hvf⟩ := hv
      refine lv_icmp_ne (tgt := 54) hx hb dX9_laysFulls_47 (by decide) (fun hc => ?_) (fun hc => ?_)
      · have hv := hvt hc
        refine lv_iload_n hx hb dX9_laysFulls_54 rfl (lv_at hl 2 rfl) ?_
        refine lv_ineg hx hb dX9_laysFulls_55 ?_
        refine lv_aload_n hx hb dX9_laysFulls_56 rfl (lv_at hl 0 rfl) ?_
        refine lv_iload_n hx hb dX9_laysFulls_57 rfl (lv_at hl 1 rfl) ?_
        refine lv_iconst (v := (0 : Int32)) hx hb dX9_laysFulls_58 (by decide) ?_
        obtain ⟨p_59, w_59, ho_1, hv⟩ := hv
        refine vp_callSi (W.runV (As := [.int p1, .int (0 : Int32)]) (rest := [.int (-p2)]) S (wX9_of l g qM q1 q2 q3 q4 q5 q6 q7 q8 q9 q10 q11 F J al p1 (0 : Int32) (sX9_of p_59 w_59 F J al p1 (0 : Int32) ho_1)) (cwV 2 hts gX9_laysFulls_X9_of rfl rfl rfl (by decide +kernel) ⟨Nat.le_of_ble_eq_true rfl, Nat.le_of_ble_eq_true rfl⟩) ⟨blindRO, va_recv hK hP (ci := 9) (q0 := 0) rfl rfl, fun U hU hW => ⟨rfl, by rw [hU]; exact hP.sub (ws' := [(qM, .inr (9, [.int (F 0), .ref q1, .ref q2, .ref q3, .int (F 4), .int (F 5), .int (F 6), .int (F 7), .int (F 8), .int (F 9), .long (J 10), .int (F 11), .int (F 12), .int (F 13), .ref q4, .int (F 15), .ref q5, .ref q6, .ref q7, .int (F 19), .ref q8, .int (F 21), .int (F 22), .int (F 23), .int (F 24), .ref q9, .ref q10, .ref q11, .long (J 28)])), (q1, .inl (g.2 0, 376, .inl al))]) [0, 1] rfl, hG.warm hW⟩⟩ rfl rfl hl.1 rfl (lv_room (Nat.le_of_ble_eq_true rfl)) dX9_laysFulls_59 ⟨Nat.le_of_ble_eq_true rfl, Nat.le_of_ble_eq_true rfl⟩) (fun r_59 hr_59 => ?_)
        have hv := hv r_59 hr_59
        obtain ⟨ho_2, hv⟩ := hv
        refine vp_callSi (W.runS (As := [.int (-p2), .int r_59]) (rest := []) S (wX9_rest l g (-p2) r_59 (sX9_rest (-p2) r_59 ho_2)) (va_cwS 2 hts gX9_laysFulls_X9_rest rfl rfl rfl (by decide +kernel) ⟨Nat.le_of_ble_eq_true rfl, Nat.le_of_ble_eq_true rfl⟩) ⟨blindRO, fun U hU hW => ⟨rfl, by rw [hU]; exact hP.sub (ws' := []) [] rfl, hG.warm hW⟩⟩ rfl rfl hl.1 rfl (lv_room (Nat.le_of_ble_eq_true rfl)) dX9_laysFulls_62 ⟨Nat.le_of_ble_eq_true rfl, Nat.le_of_ble_eq_true rfl⟩) (fun r_62 hr_62 => ?_)
        have hv := hv r_62 hr_62
        refine lv_istore (lv' := [(4, .int r_62), (0, .ref qM), (1, .int p1), (2, .int p2), (3, .int x3)]) hx hb dX9_laysFulls_65 hl (by decide) rfl (fun ls hl => ?_)
        refine lv_iconst (v := (0 : Int32)) hx hb dX9_laysFulls_67 (by decide) ?_
        refine lv_istore (lv' := [(5, .int (0 : Int32)), (4, .int r_62), (0, .ref qM), (1, .int p1), (2, .int p2), (3, .int x3)]) hx hb dX9_laysFulls_68 hl (by decide) rfl (fun ls hl => ?_)
        obtain ⟨nn, hv⟩ := hv
        exact kX9_laysFulls_c70 S hr hlocks hG hA nn _ _ _ _ _ hv _ _ (hP.sub (ws' := [(qM, .inr (9, [.int (F 0), .ref q1, .ref q2, .ref q3, .int (F 4), .int (F 5), .int (F 6), .int (F 7), .int (F 8), .int (F 9), .long (J 10), .int (F 11), .int (F 12), .int (F 13), .ref q4, .int (F 15), .ref q5, .ref q6, .ref q7, .int (F 19), .ref q8, .int (F 21), .int (F 22), .int (F 23), .int (F 24), .ref q9, .ref q10, .ref q11, .long (J 28)])), (q1, .inl (g.2 0, 376, .inl al)), (q5, .inl (g.2 0, 5, .inl fu)), (q6, .inl (g.2 0, 5, .inl sd))]) [0, 1, 2, 3] rfl) (hD.sub (ws' := [(qM, .inr (9, [.int (F 0), .ref q1, .ref q2, .ref q3, .int (F 4), .int (F 5), .int (F 6), .int (F 7), .int (F 8), .int (F 9), .long (J 10), .int (F 11), .int (F 12), .int (F 13), .ref q4, .int (F 15), .ref q5, .ref q6, .ref q7, .int (F 19), .ref q8, .int (F 21), .int (F 22), .int (F 23), .int (F 24), .ref q9, .ref q10, .ref q11, .long (J 28)])), (q1, .inl (g.2 0, 376, .inl al)), (q5, .inl (g.2 0, 5, .inl fu)), (q6, .inl (g.2 0, 5, .inl sd))]) [0, 1, 2, 3] (by decide) rfl) hS ls (lv_sub hl [2, 3, 5, 1, 0] rfl)
      · have hv := hvf hc
        refine lv_iconst (v := (0 : Int32)) hx hb dX9_laysFulls_50 (by decide) ?_
        refine lv_goto (tgt := 65) hx hb dX9_laysFulls_51 (by decide) ?_
        refine lv_istore (lv' := [(4, .int (0 : Int32)), (0, .ref qM), (1, .int p1), (2, .int p2), (3, .int x3)]) hx hb dX9_laysFulls_65 hl (by decide) rfl (fun ls hl => ?_)
        refine lv_iconst (v := (0 : Int32)) hx hb dX9_laysFulls_67 (by decide) ?_
        refine lv_istore (lv' := [(5, .int (0 : Int32)), (4, .int (0 : Int32)), (0, .ref qM), (1, .int p1), (2, .int p2), (3, .int x3)]) hx hb dX9_laysFulls_68 hl (by decide) rfl (fun ls hl => ?_)
        obtain ⟨nn, hv⟩ := hv
        exact kX9_laysFulls_c70 S hr hlocks hG hA nn _ _ _ _ _ hv _ _ (hP.sub (ws' := [(qM, .inr (9, [.int (F 0), .ref q1, .ref q2, .ref q3, .int (F 4), .int (F 5), .int (F 6), .int (F 7), .int (F 8), .int (F 9), .long (J 10), .int (F 11), .int (F 12), .int (F 13), .ref q4, .int (F 15), .ref q5, .ref q6, .ref q7, .int (F 19), .ref q8, .int (F 21), .int (F 22), .int (F 23), .int (F 24), .ref q9, .ref q10, .ref q11, .long (J 28)])), (q1, .inl (g.2 0, 376, .inl al)), (q5, .inl (g.2 0, 5, .inl fu)), (q6, .inl (g.2 0, 5, .inl sd))]) [0, 1, 2, 3] rfl) (hD.sub (ws' := [(qM, .inr (9, [.int (F 0), .ref q1, .ref q2, .ref q3, .int (F 4), .int (F 5), .int (F 6), .int (F 7), .int (F 8), .int (F 9), .long (J 10), .int (F 11), .int (F 12), .int (F 13), .ref q4, .int (F 15), .ref q5, .ref q6, .ref q7, .int (F 19), .ref q8, .int (F 21), .int (F 22), .int (F 23), .int (F 24), .ref q9, .ref q10, .ref q11, .long (J 28)])), (q1, .inl (g.2 0, 376, .inl al)), (q5, .inl (g.2 0, 5, .inl fu)), (q6, .inl (g.2 0, 5, .inl sd))]) [0, 1, 2, 3] (by decide) rfl) hS ls (lv_sub hl [2, 3, 5, 1, 0] rfl)
    · have hv := hvf hc
      refine lv_aload_n hx hb dX9_laysFulls_23 rfl (lv_at hl 0 rfl) ?_
      refine va_get (D := g.1) (ci := 9) (v := .ref q5) (C := RX9) (T := TX9) (N := 29) hx hb hts inX9_laysFulls_9 hown hK hP 0 rfl rfl 16 (by decide) (hts (.fieldLink RX9 24 "RangeCodesModel" "fulls" "[I") (List.mem_of_getElem? (i := 2) rfl)) (fun _ h9 => h9) rfl dX9_laysFulls_24 ?_
      refine lv_iload hx hb dX9_laysFulls_27 (lv_at hl 4 rfl) ?_
      refine lv_iconst (v := (0 : Int32)) hx hb dX9_laysFulls_29 (by decide) ?_
      obtain ⟨ho_3, hv⟩ := hv
      refine va_iast hx hb hK hP hD hS 2 0 rfl rfl ho_3 dX9_laysFulls_30 (fun H locs hP hD hS => ?_)
      have hP : va_P g.1 vwCl [(qM, .inr (9, [.int (F 0), .ref q1, .ref q2, .ref q3, .int (F 4), .int (F 5), .int (F 6), .int (F 7), .int (F 8), .int (F 9), .long (J 10), .int (F 11), .int (F 12), .int (F 13), .ref q4, .int (F 15), .ref q5, .ref q6, .ref q7, .int (F 19), .ref q8, .int (F 21), .int (F 22), .int (F 23), .int (F 24), .ref q9, .ref q10, .ref q11, .long (J 28)])), (q1, .inl (g.2 0, 376, .inl al)), (q5, .inl (g.2 0, 5, .inl (upd fu x4.toNatClampNeg (0 : Int32)))), (q6, .inl (g.2 0, 5, .inl sd))] H := hP
      have hD : va_D A [(qM, .inr (9, [.int (F 0), .ref q1, .ref q2, .ref q3, .int (F 4), .int (F 5), .int (F 6), .int (F 7), .int (F 8), .int (F 9), .long (J 10), .int (F 11), .int (F 12), .int (F 13), .ref q4, .int (F 15), .ref q5, .ref q6, .ref q7, .int (F 19), .ref q8, .int (F 21), .int (F 22), .int (F 23), .int (F 24), .ref q9, .ref q10, .ref q11, .long (J 28)])), (q1, .inl (g.2 0, 376, .inl al)), (q5, .inl (g.2 0, 5, .inl (upd fu x4.toNatClampNeg (0 : Int32)))), (q6, .inl (g.2 0, 5, .inl sd))] := hD
      refine lv_aload_n hx hb dX9_laysFulls_31 rfl (lv_at hl 0 rfl) ?_
      refine va_get (D := g.1) (ci := 9) (v := .ref q6) (C := RX9) (T := TX9) (N := 29) hx hb hts inX9_laysFulls_9 hown hK hP 0 rfl rfl 17 (by decide) (hts (.fieldLink RX9 27 "RangeCodesModel" "stand" "[I") (List.mem_of_getElem? (i := 3) rfl)) (fun _ h9 => h9) rfl dX9_laysFulls_32 ?_
      refine lv_iload hx hb dX9_laysFulls_35 (lv_at hl 4 rfl) ?_
      refine lv_iconst (v := (0 : Int32)) hx hb dX9_laysFulls_37 (by decide) ?_
      obtain ⟨ho_4, hv⟩ := hv
      refine va_iast hx hb hK hP hD hS 3 0 rfl rfl ho_4 dX9_laysFulls_38 (fun H locs hP hD hS => ?_)
      have hP : va_P g.1 vwCl [(qM, .inr (9, [.int (F 0), .ref q1, .ref q2, .ref q3, .int (F 4), .int (F 5), .int (F 6), .int (F 7), .int (F 8), .int (F 9), .long (J 10), .int (F 11), .int (F 12), .int (F 13), .ref q4, .int (F 15), .ref q5, .ref q6, .ref q7, .int (F 19), .ref q8, .int (F 21), .int (F 22), .int (F 23), .int (F 24), .ref q9, .ref q10, .ref q11, .long (J 28)])), (q1, .inl (g.2 0, 376, .inl al)), (q5, .inl (g.2 0, 5, .inl (upd fu x4.toNatClampNeg (0 : Int32)))), (q6, .inl (g.2 0, 5, .inl (upd sd x4.toNatClampNeg (0 : Int32))))] H := hP
      have hD : va_D A [(qM, .inr (9, [.int (F 0), .ref q1, .ref q2, .ref q3, .int (F 4), .int (F 5), .int (F 6), .int (F 7), .int (F 8), .int (F 9), .long (J 10), .int (F 11), .int (F 12), .int (F 13), .ref q4, .int (F 15), .ref q5, .ref q6, .ref q7, .int (F 19), .ref q8, .int (F 21), .int (F 22), .int (F 23), .int (F 24), .ref q9, .ref q10, .ref q11, .long (J 28)])), (q1, .inl (g.2 0, 376, .inl al)), (q5, .inl (g.2 0, 5, .inl (upd fu x4.toNatClampNeg (0 : Int32)))), (q6, .inl (g.2 0, 5, .inl (upd sd x4.toNatClampNeg (0 : Int32))))] := hD
      refine lv_iinc (v := (x4 + (1 : Int32))) (lv' := [(4, .int (x4 + (1 : Int32))), (0, .ref qM), (1, .int p1), (2, .int p2), (3, .int x3)]) hx hb dX9_laysFulls_39 hl (k := 4) rfl rfl (by decide) rfl (fun ls hl => ?_)
      refine lv_goto (tgt := 12) hx hb dX9_laysFulls_42 (by decide) ?_
      exact ih _ _ _ _ hv _ _ (hP.sub (ws' := [(qM, .inr (9, [.int (F 0), .ref q1, .ref q2, .ref q3, .int (F 4), .int (F 5), .int (F 6), .int (F 7), .int (F 8), .int (F 9), .long (J 10), .int (F 11), .int (F 12), .int (F 13), .ref q4, .int (F 15), .ref q5, .ref q6, .ref q7, .int (F 19), .ref q8, .int (F 21), .int (F 22), .int (F 23), .int (F 24), .ref q9, .ref q10, .ref q11, .long (J 28)])), (q1, .inl (g.2 0, 376, .inl al)), (q5, .inl (g.2 0, 5, .inl (upd fu x4.toNatClampNeg (0 : Int32)))), (q6, .inl (g.2 0, 5, .inl (upd sd x4.toNatClampNeg (0 : Int32))))]) [0, 1, 2, 3] rfl) (hD.sub (ws' := [(qM, .inr (9, [.int (F 0), .ref q1, .ref q2, .ref q3, .int (F 4), .int (F 5), .int (F 6), .int (F 7), .int (F 8), .int (F 9), .long (J 10), .int (F 11), .int (F 12), .int (F 13), .ref q4, .int (F 15), .ref q5, .ref q6, .ref q7, .int (F 19), .ref q8, .int (F 21), .int (F 22), .int (F 23), .int (F 24), .ref q9, .ref q10, .ref q11, .long (J 28)])), (q1, .inl (g.2 0, 376, .inl al)), (q5, .inl (g.2 0, 5, .inl (upd fu x4.toNatClampNeg (0 : Int32)))), (q6, .inl (g.2 0, 5, .inl (upd sd x4.toNatClampNeg (0 : Int32))))]) [0, 1, 2, 3] (by decide) rfl) hS ls (lv_sub hl [1, 2, 3, 4, 0] rfl)
def vX9_laysFulls (F : Nat → Int32) (J : Nat → Int64) (al : Nat → Int32) (fu : Nat → Int32) (sd : Nat → Int32) (p1 : Int32) (p2 : Int32) (Q : (Nat → Int32) → (Nat → Int32) → Prop) : Prop := (∃ (T_2 : Cd), preX9_everyPart T_2 F J al ∧ (∀ r_2 : Int32, postX9_everyPart T_2 F J al r_2 → (∃ (T_5 : Cd) (s_5 : Nat), preX9_commonOf T_5 s_5 F J al r_2 ∧ (∀ r_5 : Int32, postX9_commonOf T_5 s_5 F J al r_2 r_5 → (∃ nn, vX9_laysFulls_c12 F J al p1 p2 Q nn r_5 (0 : Int32) fu sd)))))
set_option maxHeartbeats 4000000 in
set_option maxRecDepth 100000 in
theorem wX9_laysFulls (l : Launch) (g : GP) (qM : Nat) (q1 : Nat) (q2 : Nat) (q3 : Nat) (q4 : Nat) (q5 : Nat) (q6 : Nat) (q7 : Nat) (q8 : Nat) (q9 : Nat) (q10 : Nat) (q11 : Nat) (sz : Nat) (F : Nat → Int32) (J : Nat → Int64) (al : Nat → Int32) (fu : Nat → Int32) (sd : Nat → Int32) (p1 : Int32) (p2 : Int32) {Q : (Nat → Int32) → (Nat → Int32) → Prop} (hv : vX9_laysFulls F J al fu sd p1 p2 Q) : Met l yX9_laysFulls wsX9_laysFulls rmX9_laysFulls (va_Pc [.ref qM, .int p1, .int p2] (fun U => U.heap.size = sz ∧ va_P g.1 vwCl [(qM, .inr (9, [.int (F 0), .ref q1, .ref q2, .ref q3, .int (F 4), .int (F 5), .int (F 6), .int (F 7), .int (F 8), .int (F 9), .long (J 10), .int (F 11), .int (F 12), .int (F 13), .ref q4, .int (F 15), .ref q5, .ref q6, .ref q7, .int (F 19), .ref q8, .int (F 21), .int (F 22), .int (F 23), .int (F 24), .ref q9, .ref q10, .ref q11, .long (J 28)])), (q1, .inl (g.2 0, 376, .inl al)), (q5, .inl (g.2 0, 5, .inl fu)), (q6, .inl (g.2 0, 5, .inl sd))] U.heap ∧ GK g U ∧ va_D (fun _ => True) [(qM, .inr (9, [.int (F 0), .ref q1, .ref q2, .ref q3, .int (F 4), .int (F 5), .int (F 6), .int (F 7), .int (F 8), .int (F 9), .long (J 10), .int (F 11), .int (F 12), .int (F 13), .ref q4, .int (F 15), .ref q5, .ref q6, .ref q7, .int (F 19), .ref q8, .int (F 21), .int (F 22), .int (F 23), .int (F 24), .ref q9, .ref q10, .ref q11, .long (J 28)])), (q1, .inl (g.2 0, 376, .inl al)), (q5, .inl (g.2 0, 5, .inl fu)), (q6, .inl (g.2 0, 5, .inl sd))])) (va_Qv (fun (u : (Nat → Int32) × (Nat → Int32)) => Q u.1 u.2) (fun (u : (Nat → Int32) × (Nat → Int32)) t => va_P g.1 vwCl [(qM, .inr (9, [.int (F 0), .ref q1, .ref q2, .ref q3, .int (F 4), .int (F 5), .int (F 6), .int (F 7), .int (F 8), .int (F 9), .long (J 10), .int (F 11), .int (F 12), .int (F 13), .ref q4, .int (F 15), .ref q5, .ref q6, .ref q7, .int (F 19), .ref q8, .int (F 21), .int (F 22), .int (F 23), .int (F 24), .ref q9, .ref q10, .ref q11, .long (J 28)])), (q1, .inl (g.2 0, 376, .inl al)), (q5, .inl (g.2 0, 5, .inl u.1)), (q6, .inl (g.2 0, 5, .inl u.2))] t.heap ∧ va_D (va_A [(qM, .inr (9, [.int (F 0), .ref q1, .ref q2, .ref q3, .int (F 4), .int (F 5), .int (F 6), .int (F 7), .int (F 8), .int (F 9), .long (J 10), .int (F 11), .int (F 12), .int (F 13), .ref q4, .int (F 15), .ref q5, .ref q6, .ref q7, .int (F 19), .ref q8, .int (F 21), .int (F 22), .int (F 23), .int (F 24), .ref q9, .ref q10, .ref q11, .long (J 28)])), (q1, .inl (g.2 0, 376, .inl al)), (q5, .inl (g.2 0, 5, .inl fu)), (q6, .inl (g.2 0, 5, .inl sd))] sz) [(qM, .inr (9, [.int (F 0), .ref q1, .ref q2, .ref q3, .int (F 4), .int (F 5), .int (F 6), .int (F 7), .int (F 8), .int (F 9), .long (J 10), .int (F 11), .int (F 12), .int (F 13), .ref q4, .int (F 15), .ref q5, .ref q6, .ref q7, .int (F 19), .ref q8, .int (F 21), .int (F 22), .int (F 23), .int (F 24), .ref q9, .ref q10, .ref q11, .long (J 28)])), (q1, .inl (g.2 0, 376, .inl al)), (q5, .inl (g.2 0, 5, .inl u.1)), (q6, .inl (g.2 0, 5, .inl u.2))]) (va_A [(qM, .inr (9, [.int (F 0), .ref q1, .ref q2, .ref q3, .int (F 4), .int (F 5), .int (F 6), .int (F 7), .int (F 8), .int (F 9), .long (J 10), .int (F 11), .int (F 12), .int (F 13), .ref q4, .int (F 15), .ref q5, .ref q6, .ref q7, .int (F 19), .ref q8, .int (F 21), .int (F 22), .int (F 23), .int (F 24), .ref q9, .ref q10, .ref q11, .long (J 28)])), (q1, .inl (g.2 0, 376, .inl al)), (q5, .inl (g.2 0, 5, .inl fu)), (q6, .inl (g.2 0, 5, .inl sd))] sz)) 0 0 (va_A [(qM, .inr (9, [.int (F 0), .ref q1, .ref q2, .ref q3, .int (F 4), .int (F 5), .int (F 6), .int (F 7), .int (F 8), .int (F 9), .long (J 10), .int (F 11), .int (F 12), .int (F 13), .ref q4, .int (F 15), .ref q5, .ref q6, .ref q7, .int (F 19), .ref q8, .int (F 21), .int (F 22), .int (F 23), .int (F 24), .ref q9, .ref q10, .ref q11, .long (J 28)])), (q1, .inl (g.2 0, 376, .inl al)), (q5, .inl (g.2 0, 5, .inl fu)), (q6, .inl (g.2 0, 5, .inl sd))] sz) := by
  refine Met.ofW (cc := cX9_laysFulls) (maxL := 9) (ret := none) (by decide) rfl ?_
  intro p e s m args below meth c s₁ B hml hv'
  obtain ⟨rfl, hsz, hP, hG, hD0⟩ := hv'
  have S : CallFix p m c cX9_laysFulls 9 s _ wsX9_laysFulls RX9 := ⟨B.exec, B.bytes, hml, findClass_of_methodNamed B.named, atoms_spec (ws := wsX9_laysFulls) B.pre⟩
  obtain ⟨hx, hb, hml, hown, hts⟩ := id S
  have hK := hG.1
  have hr := B.returns
  have hlocks := B.notSynchronized
  subst hsz
  have hD := hD0.self (sz := s.heap.size)
  generalize hAe : va_A [(qM, .inr (9, [.int (F 0), .ref q1, .ref q2, .ref q3, .int (F 4), .int (F 5), .int (F 6), .int (F 7), .int (F 8), .int (F 9), .long (J 10), .int (F 11), .int (F 12), .int (F 13), .ref q4, .int (F 15), .ref q5, .ref q6, .ref q7, .int (F 19), .ref q8, .int (F 21), .int (F 22), .int (F 23), .int (F 24), .ref q9, .ref q10, .ref q11, .long (J 28)])), (q1, .inl (g.2 0, 376, .inl al)), (q5, .inl (g.2 0, 5, .inl fu)), (q6, .inl (g.2 0, 5, .inl sd))] s.heap.size = A at hD ⊢
  have hA : ∀ q : Nat, s.heap.size ≤ q → A q := fun q h => by rw [← hAe]; exact Or.inr h
  have hS : va_S A s.heap s.heap [] := va_S.rf
  clear hD0 hAe
  have hl := lv_entry ([.ref qM, .int p1, .int p2]) (n := 9) (Nat.le_of_ble_eq_true rfl)
  rw [lg_entry_eq]
  generalize (lg_sl ([.ref qM, .int p1, .int p2]) ++ List.replicate (9 - (lg_sl ([.ref qM, .int p1, .int p2])).length) Slot.unset).toArray = ls at hl ⊢
  have hl : lv_has ls 9 [(0, .ref qM), (1, .int p1), (2, .int p2)] := hl
  unfold vX9_laysFulls at hv
  refine lv_aload_n hx hb dX9_laysFulls_0 rfl (lv_at hl 0 rfl) ?_
  refine lv_aload_n hx hb dX9_laysFulls_1 rfl (lv_at hl 0 rfl) ?_
  obtain ⟨T_2, ho_1, hv⟩ := hv
  refine vp_callSi (W.runV (As := []) (rest := [.ref qM]) S (wX9_everyPart l g qM q1 q2 q3 q4 q5 q6 q7 q8 q9 q10 q11 F J al (sX9_everyPart T_2 F J al ho_1)) (cwV 0 hts gX9_laysFulls_X9_everyPart rfl rfl rfl (by decide +kernel) ⟨Nat.le_of_ble_eq_true rfl, Nat.le_of_ble_eq_true rfl⟩) ⟨blindRO, va_recv hK hP (ci := 9) (q0 := 0) rfl rfl, fun U hU hW => ⟨rfl, by rw [hU]; exact hP.sub (ws' := [(qM, .inr (9, [.int (F 0), .ref q1, .ref q2, .ref q3, .int (F 4), .int (F 5), .int (F 6), .int (F 7), .int (F 8), .int (F 9), .long (J 10), .int (F 11), .int (F 12), .int (F 13), .ref q4, .int (F 15), .ref q5, .ref q6, .ref q7, .int (F 19), .ref q8, .int (F 21), .int (F 22), .int (F 23), .int (F 24), .ref q9, .ref q10, .ref q11, .long (J 28)])), (q1, .inl (g.2 0, 376, .inl al))]) [0, 1] rfl, hG.warm hW⟩⟩ rfl rfl hl.1 rfl (lv_room (Nat.le_of_ble_eq_true rfl)) dX9_laysFulls_2 ⟨Nat.le_of_ble_eq_true rfl, Nat.le_of_ble_eq_true rfl⟩) (fun r_2 hr_2 => ?_)
  have hv := hv r_2 hr_2
  obtain ⟨T_5, s_5, ho_2, hv⟩ := hv
  refine vp_callSi (W.runV (As := [.int r_2]) (rest := []) S (wX9_commonOf l g qM q1 q2 q3 q4 q5 q6 q7 q8 q9 q10 q11 F J al r_2 (sX9_commonOf T_5 s_5 F J al r_2 ho_2)) (cwV 1 hts gX9_laysFulls_X9_commonOf rfl rfl rfl (by decide +kernel) ⟨Nat.le_of_ble_eq_true rfl, Nat.le_of_ble_eq_true rfl⟩) ⟨blindRO, va_recv hK hP (ci := 9) (q0 := 0) rfl rfl, fun U hU hW => ⟨rfl, by rw [hU]; exact hP.sub (ws' := [(qM, .inr (9, [.int (F 0), .ref q1, .ref q2, .ref q3, .int (F 4), .int (F 5), .int (F 6), .int (F 7), .int (F 8), .int (F 9), .long (J 10), .int (F 11), .int (F 12), .int (F 13), .ref q4, .int (F 15), .ref q5, .ref q6, .ref q7, .int (F 19), .ref q8, .int (F 21), .int (F 22), .int (F 23), .int (F 24), .ref q9, .ref q10, .ref q11, .long (J 28)])), (q1, .inl (g.2 0, 376, .inl al))]) [0, 1] rfl, hG.warm hW⟩⟩ rfl rfl hl.1 rfl (lv_room (Nat.le_of_ble_eq_true rfl)) dX9_laysFulls_5 ⟨Nat.le_of_ble_eq_true rfl, Nat.le_of_ble_eq_true rfl⟩) (fun r_5 hr_5 => ?_)
  have hv := hv r_5 hr_5
  refine lv_istore_n (lv' := [(3, .int r_5), (0, .ref qM), (1, .int p1), (2, .int p2)]) hx hb dX9_laysFulls_8 rfl hl (by decide) rfl (fun ls hl => ?_)
  refine lv_iconst (v := (0 : Int32)) hx hb dX9_laysFulls_9 (by decide) ?_
  refine lv_istore (lv' := [(4, .int (0 : Int32)), (3, .int r_5), (0, .ref qM), (1, .int p1), (2, .int p2)]) hx hb dX9_laysFulls_10 hl (by decide) rfl (fun ls hl => ?_)
  obtain ⟨nn, hv⟩ := hv
  exact kX9_laysFulls_c12 S hr hlocks hG hA nn _ _ _ _ hv _ _ (hP.sub (ws' := [(qM, .inr (9, [.int (F 0), .ref q1, .ref q2, .ref q3, .int (F 4), .int (F 5), .int (F 6), .int (F 7), .int (F 8), .int (F 9), .long (J 10), .int (F 11), .int (F 12), .int (F 13), .ref q4, .int (F 15), .ref q5, .ref q6, .ref q7, .int (F 19), .ref q8, .int (F 21), .int (F 22), .int (F 23), .int (F 24), .ref q9, .ref q10, .ref q11, .long (J 28)])), (q1, .inl (g.2 0, 376, .inl al)), (q5, .inl (g.2 0, 5, .inl fu)), (q6, .inl (g.2 0, 5, .inl sd))]) [0, 1, 2, 3] rfl) (hD.sub (ws' := [(qM, .inr (9, [.int (F 0), .ref q1, .ref q2, .ref q3, .int (F 4), .int (F 5), .int (F 6), .int (F 7), .int (F 8), .int (F 9), .long (J 10), .int (F 11), .int (F 12), .int (F 13), .ref q4, .int (F 15), .ref q5, .ref q6, .ref q7, .int (F 19), .ref q8, .int (F 21), .int (F 22), .int (F 23), .int (F 24), .ref q9, .ref q10, .ref q11, .long (J 28)])), (q1, .inl (g.2 0, 376, .inl al)), (q5, .inl (g.2 0, 5, .inl fu)), (q6, .inl (g.2 0, 5, .inl sd))]) [0, 1, 2, 3] (by decide) rfl) hS ls (lv_sub hl [2, 3, 4, 1, 0] rfl)
def atI (T : Cd) (pt pl : Int) (k : Nat) (x4 : Int32) : Prop := (pt = -1 ∧ x4.toInt = (k : Int)) ∨ ∃ p : Nat, pt = (p : Int) ∧ p < cn T ∧ x4.toInt = ((k : Int) - pl) % (cL T p : Int)
abbrev preX9_laysFulls (T : Cd) (F : Nat → Int32) (J : Nat → Int64) (al : Nat → Int32) (fu : Nat → Int32) (sd : Nat → Int32) (p1 : Int32) (p2 : Int32) : Prop := mT T al ∧ 1 ≤ cn T ∧ (p1.toInt = -1 ∨ ∃ p : Nat, p1.toInt = (p : Int) ∧ p < cn T ∧ 0 ≤ p2.toInt ∧ p2.toInt < (cL T p : Int))
abbrev postX9_laysFulls (T : Cd) (F : Nat → Int32) (J : Nat → Int64) (al : Nat → Int32) (fu : Nat → Int32) (sd : Nat → Int32) (p1 : Int32) (p2 : Int32) (fu' : Nat → Int32) (sd' : Nat → Int32) : Prop := ∀ q, q < cn T → (fu' q).toInt = spFZ T p1.toInt p2.toInt q
theorem sX9_laysFulls_248 (T : Cd) (F : Nat → Int32) (J : Nat → Int64) (al : Nat → Int32) (fu : Nat → Int32) (sd : Nat → Int32) (p1 : Int32) (p2 : Int32) (H : preX9_laysFulls T F J al fu sd p1 p2) (Q : (Nat → Int32) → (Nat → Int32) → Prop) (K70 : Int32 → Int32 → Int32 → (Nat → Int32) → (Nat → Int32) → Prop) (k : Nat) (hk : k < 400000) (x3 x4 x5 : Int32) (h4 : atI T p1.toInt p2.toInt k x4) (fu0 : Nat → Int32) (hK : ∀ (x4' : Int32) (sd' : Nat → Int32), atI T p1.toInt p2.toInt (k + 1) x4' → (∀ r, r < cn T → (sd' r).toInt = (((k + 1) % cL T r : Nat) : Int)) → K70 x3 x4' (x5 + (1 : Int32)) fu0 sd') : ∀ (f q : Nat) (x8 : Int32) (sd' : Nat → Int32), x8.toInt = (q : Int) → q ≤ cn T → (∀ r, r < cn T → (sd' r).toInt = ((if r < q then (k + 1) % cL T r else k % cL T r : Nat) : Int)) → cn T + 1 ≤ q + f → vX9_laysFulls_c248 F J al p1 p2 Q K70 f x3 x4 x5 x8 fu0 sd'
  | 0, q, x8, sd', _, _, _, hf => absurd hf (by omega)
  | f + 1, q, x8, sd', h8, hq, hs, hf => by
    obtain ⟨hT, hn1, hp⟩ := id H
    have hn5 := hT.1.2
    rw [vX9_laysFulls_c248, q_le hT.1.1 h8]
    refine ⟨fun c => ?_, fun c => ⟨q_in h8 (by omega), q, 0, ⟨h8, rfl, by omega⟩, fun r hr => ?_⟩⟩
    · have hs2 : ∀ r, r < cn T → (sd' r).toInt = (((k + 1) % cL T r : Nat) : Int) := fun r hr => by rw [hs r hr, if_pos (by omega)]
      rw [fa_eq p1, zm1]
      refine ⟨fun d => hK _ _ ?_ hs2, fun d => ?_⟩
      · rcases h4 with ⟨a1, a2⟩ | ⟨p, a1, a2, a3⟩
        · exact Or.inl ⟨a1, q_1 a2 (by omega)⟩
        · omega
      · rcases h4 with ⟨a1, a2⟩ | ⟨p, a1, a2, a3⟩
        · exact absurd a1 d
        · refine ⟨p, 0, ⟨a1, rfl, by omega⟩, fun r hr => ?_⟩
          have hL := mT_L hT a2
          have hr : r.toInt = (cL T p : Int) := by rw [hr]; exact hL.1
          have b := Int.emod_nonneg ((k : Int) - p2.toInt) (show (cL T p : Int) ≠ 0 by omega)
          have b2 := Int.emod_lt_of_pos ((k : Int) - p2.toInt) (show (0 : Int) < (cL T p : Int) by omega)
          have e1 : (x4 + (1 : Int32)).toInt = ((k : Int) - p2.toInt) % (cL T p : Int) + 1 := q_add a3 z1 (by omega) (by omega)
          have em := em_1 (z := (k : Int) - p2.toInt) hL.2.1
          have ez : ((k + 1 : Nat) : Int) - p2.toInt = ((k : Int) - p2.toInt) + 1 := by omega
          rw [q_eq e1 hr]
          refine ⟨fun c2 => hK _ _ (Or.inr ⟨p, a1, a2, ?_⟩) hs2, fun c2 => hK _ _ (Or.inr ⟨p, a1, a2, ?_⟩) hs2⟩
          · rw [ez, em, if_neg c2]; exact e1
          · rw [ez, em, if_pos c2]; rfl
    · have hL := mT_L hT (p := q) (by omega)
      have hr : r.toInt = (cL T q : Int) := by rw [hr]; exact hL.1
      have hsq := hs q (by omega)
      rw [if_neg (by omega)] at hsq
      have hm := Nat.mod_lt k (show 0 < cL T q by omega)
      have e1 := q_1 hsq (by omega)
      have em := md_1 (k := k) hL.2.1
      have hin := q_in (N := 5) h8 (by omega)
      rw [q_cl h8, q_eq e1 hr]
      have step : ∀ y : Int32, y.toInt = (((k + 1) % cL T q : Nat) : Int) → vX9_laysFulls_c248 F J al p1 p2 Q K70 f x3 x4 x5 (x8 + (1 : Int32)) fu0 (upd sd' q y) := fun y hy => sX9_laysFulls_248 T F J al fu sd p1 p2 H Q K70 k hk x3 x4 x5 h4 fu0 hK f (q + 1) _ _ (q_1 h8 (by omega)) (by omega) (fun r hr => by
        by_cases e : r = q
        · subst e; rw [upd_eq, if_pos (by omega)]; exact hy
        · rw [upd_ne e, hs r hr]
          by_cases z : r < q
          · rw [if_pos z, if_pos (by omega)]
          · rw [if_neg z, if_neg (by omega)]) (by omega)
      refine ⟨fun d => ⟨hin, fun a ea => ⟨hin, step a ?_⟩⟩, fun d => ⟨hin, step 0 ?_⟩⟩
      · rw [ea, e1, em, if_neg (by omega)]
      · rw [em, if_pos (by omega)]; rfl
theorem sX9_laysFulls_180 (T : Cd) (F : Nat → Int32) (J : Nat → Int64) (al : Nat → Int32) (fu : Nat → Int32) (sd : Nat → Int32) (p1 : Int32) (p2 : Int32) (H : preX9_laysFulls T F J al fu sd p1 p2) (Q : (Nat → Int32) → (Nat → Int32) → Prop) (K70 : Int32 → Int32 → Int32 → (Nat → Int32) → (Nat → Int32) → Prop) (k : Nat) (hk : k < 400000) (x3 x4 x5 x7 : Int32) (h4 : atI T p1.toInt p2.toInt k x4) (h7 : x7 = if coB T (k : Int) then 1 else 0) (sd0 : Nat → Int32) (hs : ∀ r, r < cn T → (sd0 r).toInt = ((k % cL T r : Nat) : Int)) (hK : ∀ fu' : Nat → Int32, (∀ r, r < cn T → (fu' r).toInt = smZ (fsT T p1.toInt p2.toInt r) (k + 1)) → ∃ nn, vX9_laysFulls_c248 F J al p1 p2 Q K70 nn x3 x4 x5 (0 : Int32) fu' sd0) : ∀ (f q : Nat) (x8 : Int32) (fu' : Nat → Int32), x8.toInt = (q : Int) → q ≤ cn T → (∀ r, r < cn T → (fu' r).toInt = smZ (fsT T p1.toInt p2.toInt r) (if r < q then k + 1 else k)) → cn T + 1 ≤ q + f → vX9_laysFulls_c180 F J al p1 p2 Q K70 f x3 x4 x5 x7 x8 fu' sd0
  | 0, q, x8, fu', _, _, _, hf => absurd hf (by omega)
  | f + 1, q, x8, fu', h8, hq, hfu, hf => by
    obtain ⟨hT, hn1, hp⟩ := id H
    have hn5 := hT.1.2
    rw [vX9_laysFulls_c180, q_le hT.1.1 h8]
    refine ⟨fun c => hK _ (fun r hr => by rw [hfu r hr, if_pos (by omega)]), fun c => ⟨q_in h8 (by omega), q, 2, ⟨h8, rfl, by omega⟩, fun r hr => ?_⟩⟩
    have hL := mT_L hT (p := q) (by omega)
    have hR := mT_R hT (p := q) (by omega)
    have hr : r.toInt = (cR T q : Int) := by rw [hr]; exact hR.1
    have hfq := hfu q (by omega)
    rw [if_neg (by omega)] at hfq
    have ab := fsT_ab T p1.toInt p2.toInt q k
    have hin := q_in (N := 5) h8 (by omega)
    have next : ∀ y : Int32, y.toInt = smZ (fsT T p1.toInt p2.toInt q) (k + 1) → vX9_laysFulls_c180 F J al p1 p2 Q K70 f x3 x4 x5 x7 (x8 + (1 : Int32)) (upd fu' q y) sd0 := fun y hy => sX9_laysFulls_180 T F J al fu sd p1 p2 H Q K70 k hk x3 x4 x5 x7 h4 h7 sd0 hs hK f (q + 1) _ _ (q_1 h8 (by omega)) (by omega) (fun r hr => by
      by_cases e : r = q
      · subst e; rw [upd_eq, if_pos (by omega)]; exact hy
      · rw [upd_ne e, hfu r hr]
        by_cases z : r < q
        · rw [if_pos z, if_pos (by omega)]
        · rw [if_neg z, if_neg (by omega)]) (by omega)
    have key : ∀ (s0 : Int32) (j : Nat), s0.toInt = (j : Int) → j < 32 → (cR T q).testBit j = chB T q ((k : Int) - (if (q : Int) = p1.toInt then p2.toInt else 0)) → vX9_laysFulls_c224 F J al p1 p2 Q K70 (vX9_laysFulls_c180 F J al p1 p2 Q K70 f) x3 x4 x5 x7 x8 s0 r (fu' q) x8 fu' sd0 := fun s0 j hj hj2 hb => by
      unfold vX9_laysFulls_c224
      refine ⟨cR T q, j, ⟨hr, hj, hj2⟩, fun r2 hr2 => ?_⟩
      have hr2 : r2 = if (cR T q).testBit j then 1 else 0 := hr2
      have eq : (r2 = x7) = (chB T q ((k : Int) - (if (q : Int) = p1.toInt then p2.toInt else 0)) = coB T (k : Int)) := by
        rw [hr2, h7, hb]
        cases chB T q ((k : Int) - (if (q : Int) = p1.toInt then p2.toInt else 0)) <;> cases coB T (k : Int) <;> simp
      rw [eq, q_cl h8]
      refine ⟨fun d => ⟨hin, next _ ?_⟩, fun d => ⟨hin, next _ ?_⟩⟩
      · rw [q_add hfq zm1 (by omega) (by omega), smZ]
        unfold fsT; rw [if_neg d]
      · rw [q_add hfq z1 (by omega) (by omega), smZ]
        unfold fsT; rw [if_pos d]
    rw [fa_eq x8, h8, q_cl h8]
    refine ⟨fun d => ⟨hin, ?_⟩, fun d => ?_⟩
    · have hm := Nat.mod_lt k (show 0 < cL T q by omega)
      exact key _ (k % cL T q) (hs q (by omega)) (by omega) (by rw [if_neg d, Int.sub_zero, chB_n])
    · rcases h4 with ⟨a1, a2⟩ | ⟨p, a1, a2, a3⟩
      · omega
      · have e : p = q := by omega
        subst e
        have en := emN (t := (k : Int) - p2.toInt) (show 0 < cL T p by omega)
        exact key x4 (((k : Int) - p2.toInt) % (cL T p : Int)).toNat (by rw [en.1]; exact a3) (by omega) (by rw [if_pos d]; rfl)
theorem sX9_laysFulls_82 (T : Cd) (F : Nat → Int32) (J : Nat → Int64) (al : Nat → Int32) (fu : Nat → Int32) (sd : Nat → Int32) (p1 : Int32) (p2 : Int32) (H : preX9_laysFulls T F J al fu sd p1 p2) (Q : (Nat → Int32) → (Nat → Int32) → Prop) (K70 : Int32 → Int32 → Int32 → (Nat → Int32) → (Nat → Int32) → Prop) (k : Nat) (x3 x4 x5 : Int32) (fu0 sd0 : Nat → Int32) (hs : ∀ r, r < cn T → (sd0 r).toInt = ((k % cL T r : Nat) : Int)) (hK : ∀ x7 : Int32, x7 = (if coB T (k : Int) then 1 else 0) → ∃ nn, vX9_laysFulls_c180 F J al p1 p2 Q K70 nn x3 x4 x5 x7 (0 : Int32) fu0 sd0) : ∀ (f q : Nat) (x6 x7 : Int32), x6.toInt = byZ T (k : Int) q → x7.toInt = (q : Int) → q ≤ cn T → cn T + 1 ≤ q + f → vX9_laysFulls_c82 F J al p1 p2 Q K70 f x3 x4 x5 x6 x7 fu0 sd0
  | 0, q, x6, x7, _, _, _, hf => absurd hf (by omega)
  | f + 1, q, x6, x7, h6, h7, hq, hf => by
    obtain ⟨hT, hn1, hp⟩ := id H
    have hn5 := hT.1.2
    rw [vX9_laysFulls_c82, q_le hT.1.1 h7]
    refine ⟨fun c => ?_, fun c => ?_⟩
    · have e : q = cn T := by omega
      subst e
      have hco := coB_by T (k : Int)
      rw [fa_eq x6, z0, h6]
      refine ⟨fun hz => ⟨0, 2, ⟨rfl, rfl, by omega⟩, fun r hr => ?_⟩, fun hz => ?_⟩
      · rw [if_pos hz] at hco
        have hL := mT_L hT (p := 0) (by omega)
        have hR := mT_R hT (p := 0) (by omega)
        have hr : r.toInt = (cR T 0 : Int) := by rw [hr]; exact hR.1
        have hm := Nat.mod_lt k (show 0 < cL T 0 by omega)
        refine ⟨cR T 0, k % cL T 0, ⟨hr, hs 0 (by omega), by omega⟩, fun r2 hr2 => hK r2 ?_⟩
        have hr2 : r2 = if (cR T 0).testBit (k % cL T 0) then 1 else 0 := hr2
        rw [hr2, hco, chB_n]
        simp [show 0 < cn T by omega]
      · rw [if_neg hz] at hco
        rw [fa_le, z0, h6]
        exact ⟨fun d => hK 0 (by rw [hco, decide_eq_false (by omega)]; rfl), fun d => hK 1 (by rw [hco, decide_eq_true (by omega)]; rfl)⟩
    · have hL := mT_L hT (p := q) (by omega)
      have hR := mT_R hT (p := q) (by omega)
      have hV := mT_V hT (p := q) (by omega)
      have hb := byZ_le (fun p hp => (hT.2.2.1 p hp).2) (k : Int) q hq
      have hm := Nat.mod_lt k (show 0 < cL T q by omega)
      refine ⟨q, 2, ⟨h7, rfl, by omega⟩, fun r hr => ⟨q_in h7 (by omega), ?_⟩⟩
      have hr : r.toInt = (cR T q : Int) := by rw [hr]; exact hR.1
      rw [q_cl h7]
      refine ⟨cR T q, k % cL T q, ⟨hr, hs q (by omega), by omega⟩, fun r2 hr2 => ?_⟩
      have hr2 : r2 = if chB T q (k : Int) then 1 else 0 := by rw [chB_n]; exact hr2
      rw [hr2, q_ifB]
      refine ⟨fun d => ⟨q, 1, ⟨h7, rfl, by omega⟩, fun r3 hr3 => ?_⟩, fun d => ⟨q, 1, ⟨h7, rfl, by omega⟩, fun r3 hr3 => ?_⟩⟩
      · refine sX9_laysFulls_82 T F J al fu sd p1 p2 H Q K70 k x3 x4 x5 fu0 sd0 hs hK f (q + 1) _ _ ?_ (q_1 h7 (by omega)) (by omega) (by omega)
        have hr3 : r3.toInt = (cV T q : Int) := by rw [hr3]; exact hV.1
        have e : (-r3).toInt = -(cV T q : Int) := by rw [fb_negI (by omega), hr3]
        rw [q_add h6 e (by omega) (by omega), byZ, d]
        simp
      · refine sX9_laysFulls_82 T F J al fu sd p1 p2 H Q K70 k x3 x4 x5 fu0 sd0 hs hK f (q + 1) _ _ ?_ (q_1 h7 (by omega)) (by omega) (by omega)
        have hr3 : r3.toInt = (cV T q : Int) := by rw [hr3]; exact hV.1
        rw [q_add h6 hr3 (by omega) (by omega), byZ, show chB T q (k : Int) = true by simpa using d]
        simp
theorem sX9_laysFulls_70 (T : Cd) (F : Nat → Int32) (J : Nat → Int64) (al : Nat → Int32) (fu : Nat → Int32) (sd : Nat → Int32) (p1 : Int32) (p2 : Int32) (H : preX9_laysFulls T F J al fu sd p1 p2) (x3 : Int32) (h3 : x3.toInt = ((lcS T (2 ^ cn T - 1) (cn T) : Nat) : Int)) : ∀ (f k : Nat) (x4 x5 : Int32) (fu' sd' : Nat → Int32), x5.toInt = (k : Int) → k ≤ lcS T (2 ^ cn T - 1) (cn T) → atI T p1.toInt p2.toInt k x4 → (∀ r, r < cn T → (sd' r).toInt = ((k % cL T r : Nat) : Int)) → (∀ r, r < cn T → (fu' r).toInt = smZ (fsT T p1.toInt p2.toInt r) k) → lcS T (2 ^ cn T - 1) (cn T) + 1 ≤ k + f → vX9_laysFulls_c70 F J al p1 p2 (postX9_laysFulls T F J al fu sd p1 p2) f x3 x4 x5 fu' sd'
  | 0, k, x4, x5, fu', sd', _, _, _, _, _, hf => absurd hf (by omega)
  | f + 1, k, x4, x5, fu', sd', h5, hk, h4, hs, hfu, hf => by
    obtain ⟨hT, hn1, hp⟩ := id H
    have h13 := lcS_5 (T := T) (fun p hp => (hT.2.1 p hp).2) hT.1.2 (2 ^ cn T - 1)
    rw [vX9_laysFulls_c70, q_le h3 h5]
    refine ⟨fun c r hr => ?_, fun c => ⟨cn T + 1, sX9_laysFulls_82 T F J al fu sd p1 p2 H _ _ k x3 x4 x5 fu' sd' hs (fun x7 h7 => ⟨cn T + 1, sX9_laysFulls_180 T F J al fu sd p1 p2 H _ _ k (by omega) x3 x4 x5 x7 h4 h7 sd' hs (fun fu2 h2 => ⟨cn T + 1, sX9_laysFulls_248 T F J al fu sd p1 p2 H _ _ k (by omega) x3 x4 x5 h4 fu2 (fun x42 sd2 a1 a2 => sX9_laysFulls_70 T F J al fu sd p1 p2 H x3 h3 f (k + 1) x42 _ fu2 sd2 (q_1 h5 (by omega)) (by omega) a1 a2 h2 (by omega)) _ 0 0 sd' rfl (by omega) (fun r hr => by rw [if_neg (by omega)]; exact hs r hr) (by omega)⟩) _ 0 0 fu' rfl (by omega) (fun r hr => by rw [if_neg (by omega)]; exact hfu r hr) (by omega)⟩) _ 0 0 0 rfl rfl (by omega) (by omega)⟩⟩
    have e : k = lcS T (2 ^ cn T - 1) (cn T) := by omega
    rw [hfu r hr, e]; rfl
theorem sX9_laysFulls_12 (T : Cd) (F : Nat → Int32) (J : Nat → Int64) (al : Nat → Int32) (fu : Nat → Int32) (sd : Nat → Int32) (p1 : Int32) (p2 : Int32) (H : preX9_laysFulls T F J al fu sd p1 p2) (x3 : Int32) (h3 : x3.toInt = ((lcS T (2 ^ cn T - 1) (cn T) : Nat) : Int)) : ∀ (f q : Nat) (x4 : Int32) (fu' sd' : Nat → Int32), x4.toInt = (q : Int) → q ≤ cn T → (∀ r, r < q → fu' r = 0 ∧ sd' r = 0) → cn T + 1 ≤ q + f → vX9_laysFulls_c12 F J al p1 p2 (postX9_laysFulls T F J al fu sd p1 p2) f x3 x4 fu' sd'
  | 0, q, x4, fu', sd', _, _, _, hf => absurd hf (by omega)
  | f + 1, q, x4, fu', sd', h4, hq, hz, hf => by
    obtain ⟨hT, hn1, hp⟩ := id H
    have hn5 := hT.1.2
    rw [vX9_laysFulls_c12, q_le hT.1.1 h4]
    have fin : ∀ x : Int32, q = cn T → atI T p1.toInt p2.toInt 0 x → ∃ nn, vX9_laysFulls_c70 F J al p1 p2 (postX9_laysFulls T F J al fu sd p1 p2) nn x3 x (0 : Int32) fu' sd' := fun x e hx => ⟨_, sX9_laysFulls_70 T F J al fu sd p1 p2 H x3 h3 (lcS T (2 ^ cn T - 1) (cn T) + 1) 0 x 0 fu' sd' rfl (by omega) hx (fun r hr => by rw [(hz r (by omega)).2, Nat.zero_mod]; rfl) (fun r hr => by rw [(hz r (by omega)).1]; rfl) (by omega)⟩
    refine ⟨fun c => ?_, fun c => ⟨q_in h4 (by omega), q_in h4 (by omega), ?_⟩⟩
    · rw [fa_eq p1, zm1]
      refine ⟨fun d => ?_, fun d => fin 0 (by omega) (Or.inl ⟨d, rfl⟩)⟩
      rcases hp with hp | ⟨p, a1, a2, a3, a4⟩
      · exact absurd hp d
      · have hL := mT_L hT a2
        refine ⟨p, 0, ⟨a1, rfl, by omega⟩, fun r hr => ?_⟩
        have hr : r.toInt = (cL T p : Int) := by rw [hr]; exact hL.1
        refine ⟨by show 0 < r.toInt; omega, fun r2 hr2 => fin r2 (by omega) (Or.inr ⟨p, a1, a2, ?_⟩)⟩
        have hr2 : r2.toInt = (-p2).toInt % r.toInt := hr2
        rw [hr2, hr, fb_negI (by omega)]
        congr 1
        omega
    · rw [q_cl h4]
      refine sX9_laysFulls_12 T F J al fu sd p1 p2 H x3 h3 f (q + 1) _ _ _ (q_1 h4 (by omega)) (by omega) (fun r hr => ?_) (by omega)
      by_cases e : r = q
      · subst e; rw [upd_eq, upd_eq]; exact ⟨rfl, rfl⟩
      · rw [upd_ne e, upd_ne e]; exact hz r (by omega)
theorem sX9_laysFulls (T : Cd) (F : Nat → Int32) (J : Nat → Int64) (al : Nat → Int32) (fu : Nat → Int32) (sd : Nat → Int32) (p1 : Int32) (p2 : Int32) (H : preX9_laysFulls T F J al fu sd p1 p2) : vX9_laysFulls F J al fu sd p1 p2 (postX9_laysFulls T F J al fu sd p1 p2) := by
  obtain ⟨hT, hn1, hp⟩ := id H
  exact ⟨T, hT.1, fun r hr => ⟨T, 2 ^ cn T - 1, ⟨hT.1, hT.2.1, hr⟩, fun r2 hr2 => ⟨cn T + 1, sX9_laysFulls_12 T F J al fu sd p1 p2 H r2 hr2 _ 0 0 fu sd rfl (by omega) (fun r hr => absurd hr (by omega)) (by omega)⟩⟩⟩
set_option maxRecDepth 20000 in
theorem ggX9_leastFull_X9_lesser : GoodIn wsX9_leastFull wsX9_lesser := goodIn_r _ [6] (by decide +kernel) (by decide +kernel)
set_option maxRecDepth 20000 in
theorem gX9_leastFull_X9_lesser : GoodIn wsX9_leastFull (va_wsS RX9 219 yX9_lesser wsX9_lesser) := goodIn_app (goodIn_of _ (by decide +kernel)) ggX9_leastFull_X9_lesser
theorem dX9_leastFull_0 : decode cX9_leastFull 0 = .ok (.aload_n 0, 1) := by decide +kernel
theorem dX9_leastFull_1 : decode cX9_leastFull 1 = .ok (.getfield 24, 3) := by decide +kernel
theorem dX9_leastFull_4 : decode cX9_leastFull 4 = .ok (.iconst 0, 1) := by decide +kernel
theorem dX9_leastFull_5 : decode cX9_leastFull 5 = .ok (.iaload, 1) := by decide +kernel
theorem dX9_leastFull_6 : decode cX9_leastFull 6 = .ok (.istore_n 1, 1) := by decide +kernel
theorem dX9_leastFull_7 : decode cX9_leastFull 7 = .ok (.iconst 1, 1) := by decide +kernel
theorem dX9_leastFull_8 : decode cX9_leastFull 8 = .ok (.istore_n 2, 1) := by decide +kernel
theorem dX9_leastFull_9 : decode cX9_leastFull 9 = .ok (.iload_n 2, 1) := by decide +kernel
theorem dX9_leastFull_10 : decode cX9_leastFull 10 = .ok (.aload_n 0, 1) := by decide +kernel
theorem dX9_leastFull_11 : decode cX9_leastFull 11 = .ok (.getfield 7, 3) := by decide +kernel
theorem dX9_leastFull_14 : decode cX9_leastFull 14 = .ok (.iconst 0, 1) := by decide +kernel
theorem dX9_leastFull_15 : decode cX9_leastFull 15 = .ok (.iaload, 1) := by decide +kernel
theorem dX9_leastFull_16 : decode cX9_leastFull 16 = .ok (.if_icmp .ge 20, 3) := by decide +kernel
theorem dX9_leastFull_19 : decode cX9_leastFull 19 = .ok (.iload_n 1, 1) := by decide +kernel
theorem dX9_leastFull_20 : decode cX9_leastFull 20 = .ok (.aload_n 0, 1) := by decide +kernel
theorem dX9_leastFull_21 : decode cX9_leastFull 21 = .ok (.getfield 24, 3) := by decide +kernel
theorem dX9_leastFull_24 : decode cX9_leastFull 24 = .ok (.iload_n 2, 1) := by decide +kernel
theorem dX9_leastFull_25 : decode cX9_leastFull 25 = .ok (.iaload, 1) := by decide +kernel
theorem dX9_leastFull_26 : decode cX9_leastFull 26 = .ok (.invokestatic 219, 3) := by decide +kernel
theorem dX9_leastFull_29 : decode cX9_leastFull 29 = .ok (.istore_n 1, 1) := by decide +kernel
theorem dX9_leastFull_30 : decode cX9_leastFull 30 = .ok (.iinc 2 1, 3) := by decide +kernel
theorem dX9_leastFull_33 : decode cX9_leastFull 33 = .ok (.goto (-24), 3) := by decide +kernel
theorem dX9_leastFull_36 : decode cX9_leastFull 36 = .ok (.iload_n 1, 1) := by decide +kernel
theorem dX9_leastFull_37 : decode cX9_leastFull 37 = .ok (.ireturn, 1) := by decide +kernel
abbrev rmX9_leastFull : Room := { frames := 1, cells := 0, slots := 0, locals := 21 }
theorem inX9_leastFull_9 : ∀ w ∈ wsX90, w ∈ wsX9_leastFull := by decide +kernel
def vX9_leastFull_c9 (F : Nat → Int32) (J : Nat → Int64) (al : Nat → Int32) (fu : Nat → Int32) (Q : Int32 → Prop) : Nat → Int32 → Int32 → Prop
  | 0, _, _ => False
  | n + 1, x1, x2 => (((al 0) ≤ x2 → (Q x1)) ∧ (¬ (al 0) ≤ x2 → (vp_in x2 5 ∧ (preX9_lesser x1 (fu x2.toNatClampNeg) ∧ (∀ r_26 : Int32, postX9_lesser x1 (fu x2.toNatClampNeg) r_26 → (vX9_leastFull_c9 F J al fu Q n r_26 (x2 + (1 : Int32))))))))
set_option maxHeartbeats 4000000 in
set_option maxRecDepth 100000 in
theorem kX9_leastFull_c9 {p : Program} {l : Launch} {e : Env} {s : State} {m : MethodId} {args : Array Value} {below : List Frame} {meth : Method} {c : Code} {g : GP} {qM : Nat} {q1 : Nat} {q2 : Nat} {q3 : Nat} {q4 : Nat} {q5 : Nat} {q6 : Nat} {q7 : Nat} {q8 : Nat} {q9 : Nat} {q10 : Nat} {q11 : Nat} {F : Nat → Int32} {J : Nat → Int64} {al : Nat → Int32} {fu : Nat → Int32}  {Q : Int32 → Prop} (S : CallFix p m c cX9_leastFull 3 s args wsX9_leastFull RX9) (hr : meth.sig.returnType = (some .int)) (hlocks : meth.locks = false) (hG : GK g s) (hP : va_P g.1 vwCl [(qM, .inr (9, [.int (F 0), .ref q1, .ref q2, .ref q3, .int (F 4), .int (F 5), .int (F 6), .int (F 7), .int (F 8), .int (F 9), .long (J 10), .int (F 11), .int (F 12), .int (F 13), .ref q4, .int (F 15), .ref q5, .ref q6, .ref q7, .int (F 19), .ref q8, .int (F 21), .int (F 22), .int (F 23), .int (F 24), .ref q9, .ref q10, .ref q11, .long (J 28)])), (q1, .inl (g.2 0, 376, .inl al)), (q5, .inl (g.2 0, 5, .inl fu))] s.heap) : ∀ (n : Nat), ∀ (x1 : Int32) (x2 : Int32), vX9_leastFull_c9 F J al fu Q n x1 x2 → ∀ (ls : Array Slot), lv_has ls 3 [(0, .ref qM), (1, .int x1), (2, .int x2)] → W p l e (headSpec wsX9_leastFull rmX9_leastFull).room s m args below meth c s.heap [] 0 0 (MQ below (vp_Si Q) args s 0 0 (fun _ => False)) (F0 m 9 ls []) := by
  obtain ⟨hx, hb, hml, hown, hts⟩ := id S
  have hK := hG.1
  intro n
  induction n with
  | zero => intro x1 x2 hv; exact hv.elim
  | succ n ih =>
    intro x1 x2 hv ls hl
    refine lv_iload_n hx hb dX9_leastFull_9 rfl (lv_at hl 2 rfl) ?_
    refine lv_aload_n hx hb dX9_leastFull_10 rfl (lv_at hl 0 rfl) ?_
    refine va_get (D := g.1) (ci := 9) (v := .ref q1) (C := RX9) (T := TX9) (N := 29) hx hb hts inX9_leastFull_9 hown hK hP 0 rfl rfl 1 (by decide) (hts (.fieldLink RX9 7 "RangeCodesModel" "all" "[I") (List.mem_of_getElem? (i := 2) rfl)) (fun _ h9 => h9) rfl dX9_leastFull_11 ?_
    refine lv_iconst (v := (0 : Int32)) hx hb dX9_leastFull_14 (by decide) ?_
    refine va_iald hx hb hK hP 1 0 rfl rfl (by unfold vp_in; decide) dX9_leastFull_15 ?_
    obtain ⟨hvt, hvf⟩ := hv
    refine lv_icmp_ge (tgt := 36) hx hb dX9_leastFull_16 (by decide) (fun hc => ?_) (fun hc => ?_)
    · have hv := hvt hc
      refine lv_iload_n hx hb dX9_leastFull_36 rfl (lv_at hl 1 rfl) ?_
      exact W.iret (v := x1) hx hb hr (fun t ht hW => ⟨_, rfl, hv, ht⟩) (fun _ h => by cases h) dX9_leastFull_37
    · have hv := hvf hc
      refine lv_iload_n hx hb dX9_leastFull_19 rfl (lv_at hl 1 rfl) ?_
      refine lv_aload_n hx hb dX9_leastFull_20 rfl (lv_at hl 0 rfl) ?_
      refine va_get (D := g.1) (ci := 9) (v := .ref q5) (C := RX9) (T := TX9) (N := 29) hx hb hts inX9_leastFull_9 hown hK hP 0 rfl rfl 16 (by decide) (hts (.fieldLink RX9 24 "RangeCodesModel" "fulls" "[I") (List.mem_of_getElem? (i := 1) rfl)) (fun _ h9 => h9) rfl dX9_leastFull_21 ?_
      refine lv_iload_n hx hb dX9_leastFull_24 rfl (lv_at hl 2 rfl) ?_
      obtain ⟨ho_1, hv⟩ := hv
      refine va_iald hx hb hK hP 2 0 rfl rfl ho_1 dX9_leastFull_25 ?_
      obtain ⟨ho_2, hv⟩ := hv
      refine vp_callSi (W.runS (As := [.int x1, .int (fu x2.toNatClampNeg)]) (rest := []) S (wX9_lesser l g x1 (fu x2.toNatClampNeg) (sX9_lesser x1 (fu x2.toNatClampNeg) ho_2)) (va_cwS 2 hts gX9_leastFull_X9_lesser rfl rfl rfl (by decide +kernel) ⟨Nat.le_of_ble_eq_true rfl, Nat.le_of_ble_eq_true rfl⟩) ⟨blindRO, fun U hU hW => ⟨rfl, by rw [hU]; exact hP.sub (ws' := []) [] rfl, hG.warm hW⟩⟩ rfl rfl hl.1 rfl (lv_room (Nat.le_of_ble_eq_true rfl)) dX9_leastFull_26 ⟨Nat.le_of_ble_eq_true rfl, Nat.le_of_ble_eq_true rfl⟩) (fun r_26 hr_26 => ?_)
      have hv := hv r_26 hr_26
      refine lv_istore_n (lv' := [(1, .int r_26), (0, .ref qM), (2, .int x2)]) hx hb dX9_leastFull_29 rfl hl (by decide) rfl (fun ls hl => ?_)
      refine lv_iinc (v := (x2 + (1 : Int32))) (lv' := [(2, .int (x2 + (1 : Int32))), (1, .int r_26), (0, .ref qM)]) hx hb dX9_leastFull_30 hl (k := 2) rfl rfl (by decide) rfl (fun ls hl => ?_)
      refine lv_goto (tgt := 9) hx hb dX9_leastFull_33 (by decide) ?_
      exact ih _ _ hv ls (lv_sub hl [2, 1, 0] rfl)
def vX9_leastFull (F : Nat → Int32) (J : Nat → Int64) (al : Nat → Int32) (fu : Nat → Int32) (Q : Int32 → Prop) : Prop := (∃ nn, vX9_leastFull_c9 F J al fu Q nn (fu 0) (1 : Int32))
set_option maxHeartbeats 4000000 in
set_option maxRecDepth 100000 in
theorem wX9_leastFull (l : Launch) (g : GP) (qM : Nat) (q1 : Nat) (q2 : Nat) (q3 : Nat) (q4 : Nat) (q5 : Nat) (q6 : Nat) (q7 : Nat) (q8 : Nat) (q9 : Nat) (q10 : Nat) (q11 : Nat) (F : Nat → Int32) (J : Nat → Int64) (al : Nat → Int32) (fu : Nat → Int32) {Q : Int32 → Prop} (hv : vX9_leastFull F J al fu Q) : Met l yX9_leastFull wsX9_leastFull rmX9_leastFull (va_Pc [.ref qM] (fun U => va_P g.1 vwCl [(qM, .inr (9, [.int (F 0), .ref q1, .ref q2, .ref q3, .int (F 4), .int (F 5), .int (F 6), .int (F 7), .int (F 8), .int (F 9), .long (J 10), .int (F 11), .int (F 12), .int (F 13), .ref q4, .int (F 15), .ref q5, .ref q6, .ref q7, .int (F 19), .ref q8, .int (F 21), .int (F 22), .int (F 23), .int (F 24), .ref q9, .ref q10, .ref q11, .long (J 28)])), (q1, .inl (g.2 0, 376, .inl al)), (q5, .inl (g.2 0, 5, .inl fu))] U.heap ∧ GK g U)) (vp_Si Q) 0 0 (fun _ => False) := by
  refine Met.ofW (cc := cX9_leastFull) (maxL := 3) (ret := (some .int)) (by decide) rfl ?_
  intro p e s m args below meth c s₁ B hml hv'
  obtain ⟨rfl, hP, hG⟩ := hv'
  have S : CallFix p m c cX9_leastFull 3 s _ wsX9_leastFull RX9 := ⟨B.exec, B.bytes, hml, findClass_of_methodNamed B.named, atoms_spec (ws := wsX9_leastFull) B.pre⟩
  obtain ⟨hx, hb, hml, hown, hts⟩ := id S
  have hK := hG.1
  have hr := B.returns
  have hlocks := B.notSynchronized
  have hl := lv_entry ([.ref qM]) (n := 3) (Nat.le_of_ble_eq_true rfl)
  rw [lg_entry_eq]
  generalize (lg_sl ([.ref qM]) ++ List.replicate (3 - (lg_sl ([.ref qM])).length) Slot.unset).toArray = ls at hl ⊢
  have hl : lv_has ls 3 [(0, .ref qM)] := hl
  unfold vX9_leastFull at hv
  refine lv_aload_n hx hb dX9_leastFull_0 rfl (lv_at hl 0 rfl) ?_
  refine va_get (D := g.1) (ci := 9) (v := .ref q5) (C := RX9) (T := TX9) (N := 29) hx hb hts inX9_leastFull_9 hown hK hP 0 rfl rfl 16 (by decide) (hts (.fieldLink RX9 24 "RangeCodesModel" "fulls" "[I") (List.mem_of_getElem? (i := 1) rfl)) (fun _ h9 => h9) rfl dX9_leastFull_1 ?_
  refine lv_iconst (v := (0 : Int32)) hx hb dX9_leastFull_4 (by decide) ?_
  refine va_iald hx hb hK hP 2 0 rfl rfl (by unfold vp_in; decide) dX9_leastFull_5 ?_
  refine lv_istore_n (lv' := [(1, .int (fu 0)), (0, .ref qM)]) hx hb dX9_leastFull_6 rfl hl (by decide) rfl (fun ls hl => ?_)
  refine lv_iconst (v := (1 : Int32)) hx hb dX9_leastFull_7 (by decide) ?_
  refine lv_istore_n (lv' := [(2, .int (1 : Int32)), (1, .int (fu 0)), (0, .ref qM)]) hx hb dX9_leastFull_8 rfl hl (by decide) rfl (fun ls hl => ?_)
  obtain ⟨nn, hv⟩ := hv
  exact kX9_leastFull_c9 S hr hlocks hG hP nn _ _ hv ls (lv_sub hl [2, 1, 0] rfl)
abbrev preX9_leastFull (n : Nat) (z : Nat → Int) (F : Nat → Int32) (J : Nat → Int64) (al : Nat → Int32) (fu : Nat → Int32) : Prop := (al 0).toInt = (n : Int) ∧ 1 ≤ n ∧ n ≤ 5 ∧ ∀ q, q < n → (fu q).toInt = z q
abbrev postX9_leastFull (n : Nat) (z : Nat → Int) (F : Nat → Int32) (J : Nat → Int64) (al : Nat → Int32) (fu : Nat → Int32) (r : Int32) : Prop := r.toInt = lsZ z n
theorem sX9_leastFull_9 (n : Nat) (z : Nat → Int) (F : Nat → Int32) (J : Nat → Int64) (al : Nat → Int32) (fu : Nat → Int32) (H : preX9_leastFull n z F J al fu) : ∀ (f k : Nat) (x1 x2 : Int32), x1.toInt = lsZ z k → x2.toInt = (k : Int) → k ≤ n → n + 1 ≤ k + f → vX9_leastFull_c9 F J al fu (postX9_leastFull n z F J al fu) f x1 x2
  | 0, k, x1, x2, _, _, _, hf => absurd hf (by omega)
  | f + 1, k, x1, x2, h1, h2, hk, hf => by
    obtain ⟨hn, hn1, hn5, hz⟩ := id H
    rw [vX9_leastFull_c9, q_le hn h2]
    refine ⟨fun c => ?_, fun c => ⟨q_in h2 (by omega), trivial, fun r hr => sX9_leastFull_9 n z F J al fu H f (k + 1) _ _ ?_ (q_1 h2 (by omega)) (by omega) (by omega)⟩⟩
    · have e : k = n := by omega
      rw [e] at h1; exact h1
    · have hr : r.toInt = min x1.toInt (fu x2.toNatClampNeg).toInt := hr
      rw [hr, q_cl h2, h1, hz k (by omega), lsZ]
      by_cases d : z k < lsZ z k
      · rw [if_pos d, Int.min_eq_right (by omega)]
      · rw [if_neg d, Int.min_eq_left (by omega)]
theorem sX9_leastFull (n : Nat) (z : Nat → Int) (F : Nat → Int32) (J : Nat → Int64) (al : Nat → Int32) (fu : Nat → Int32) (H : preX9_leastFull n z F J al fu) : vX9_leastFull F J al fu (postX9_leastFull n z F J al fu) := by
  obtain ⟨hn, hn1, hn5, hz⟩ := id H
  refine ⟨n + 1, sX9_leastFull_9 n z F J al fu H _ 1 (fu 0) 1 ?_ rfl hn1 (by omega)⟩
  rw [hz 0 (by omega), lsZ, lsZ, if_neg (by omega)]
