-- what is heard
def rn (s : Nat) : Nat → Nat
  | 0 => s
  | k + 1 => (rn s k * 1103515245 + 12345) % 2147483648
theorem rn_lt {s : Nat} (h : s < 2147483648) : ∀ k, rn s k < 2147483648
  | 0 => h
  | k + 1 => Nat.mod_lt _ (by decide)
def noB (G : Lg) (i : Nat) : Bool := decide (rn (gn G 5).toNat (i + 1) / 65536 % 100 < (gn G 4).toNat)
/-- what is sent at a number: the code so much late, or its chip at 0 -/
def snB (T : Cd) (lt : Option Nat) (n : Int) : Bool := match lt with
  | none => coB T 0
  | some d => coB T (n - (d : Int))
def heN (T : Cd) (lt : Option Nat) (G : Lg) (fr i : Nat) : Nat := if losB G i (gm G) then 2 else if Bool.xor (snB T lt (((fr + i : Nat) : Int) - lagZ G i (fr + i))) (Bool.xor (fliB G i (gm G)) (noB G i)) then 1 else 0
theorem heN_le (T : Cd) (lt : Option Nat) (G : Lg) (fr i : Nat) : heN T lt G fr i ≤ 2 := by
  unfold heN; split
  · omega
  · split <;> omega
def gfr (G : Lg) : Nat := (gn G 2).toNat
def gmn (G : Lg) : Nat := (gn G 3).toNat
/-- a mark's count: of a kind, at i -/
def mkC (G : Lg) (i k : Nat) : Nat → Nat
  | 0 => 0
  | j + 1 => mkC G i k j + if gk G j = k ∧ gf G j ≤ i ∧ i ≤ gl G j then 1 else 0
theorem mkC_le (G : Lg) (i k : Nat) : ∀ j, mkC G i k j ≤ j
  | 0 => Nat.le_refl 0
  | j + 1 => by have := mkC_le G i k j; rw [mkC]; split <;> omega
theorem mkC_los (G : Lg) (i : Nat) : ∀ j, decide (0 < mkC G i 3 j) = losB G i j
  | 0 => rfl
  | j + 1 => by
    have ih := mkC_los G i j
    rw [mkC, losB, ← ih]
    by_cases h : gk G j = 3 ∧ gf G j ≤ i ∧ i ≤ gl G j
    · rw [if_pos h]; simp [h.1, h.2.1, h.2.2]
    · rw [if_neg h]
      have : (decide (gk G j = 3) && decide (gf G j ≤ i) && decide (i ≤ gl G j)) = false := by
        cases hh : (decide (gk G j = 3) && decide (gf G j ≤ i) && decide (i ≤ gl G j)) with
        | false => rfl
        | true => simp at hh; exact absurd ⟨hh.1.1, hh.1.2, hh.2⟩ h
      rw [this]; simp
theorem mkC_fli (G : Lg) (h : ∀ j, j < gm G → gk G j ≠ 3 → gl G j = gf G j) (i : Nat) : ∀ j, j ≤ gm G → decide (mkC G i 0 j % 2 = 1) = fliB G i j
  | 0, _ => rfl
  | j + 1, hj => by
    have ih := mkC_fli G h i j (by omega)
    have hl := h j (by omega)
    rw [mkC, fliB, ← ih]
    by_cases hc : gk G j = 0 ∧ gf G j = i
    · have hx := hl (by omega)
      rw [if_pos ⟨hc.1, by omega, by omega⟩]
      rcases Nat.mod_two_eq_zero_or_one (mkC G i 0 j) with z | z <;> simp [hc.1, hc.2, z] <;> omega
    · have : ¬ (gk G j = 0 ∧ gf G j ≤ i ∧ i ≤ gl G j) := fun q => hc ⟨q.1, by have := hl (by omega); omega⟩
      rw [if_neg this]
      have e : (decide (gk G j = 0) && decide (gf G j = i)) = false := by
        cases hh : (decide (gk G j = 0) && decide (gf G j = i)) with
        | false => rfl
        | true => simp at hh; exact absurd hh hc
      rw [e]; simp
/-- how late what is sent is -/
def isLt (lt : Option Nat) (x : Int32) : Prop := match lt with
  | none => x.toInt = -1
  | some d => x.toInt = (d : Int) ∧ d ≤ 100000
/-- a match at an i -/
def alZ (T : Cd) (h : Nat → Nat) (fr p pl i : Nat) : Int := if h i = 2 then 0 else if decide (h i = 1) = chB T p (((fr + i : Nat) : Int) - (pl : Int)) then 1 else -1
def mtZ (T : Cd) (h : Nat → Nat) (fr p pl : Nat) : Nat → Int
  | 0 => 0
  | i + 1 => mtZ T h fr p pl i + alZ T h fr p pl i
theorem alZ_le (T : Cd) (h : Nat → Nat) (fr p pl i : Nat) : -1 ≤ alZ T h fr p pl i ∧ alZ T h fr p pl i ≤ 1 := by
  unfold alZ; split
  · omega
  · split <;> omega
theorem mtZ_le (T : Cd) (h : Nat → Nat) (fr p pl : Nat) : ∀ k : Nat, -(k : Int) ≤ mtZ T h fr p pl k ∧ mtZ T h fr p pl k ≤ k
  | 0 => by simp [mtZ]
  | k + 1 => by
    have := mtZ_le T h fr p pl k
    have := alZ_le T h fr p pl k
    rw [mtZ]; omega
/-- the least place of the greatest value, of the first so many -/
def bst (m : Nat → Int) : Nat → Nat
  | 0 => 0
  | k + 1 => if m (bst m k) < m k then k else bst m k
theorem bst_lt (m : Nat → Int) : ∀ k, 0 < k → bst m k < k
  | 0, h => absurd h (by omega)
  | k + 1, _ => by
    rw [bst]; split
    · omega
    · rcases Nat.eq_zero_or_pos k with z | z
      · subst z; simp [bst]
      · have := bst_lt m k z; omega
theorem bst_1 (m : Nat → Int) : bst m 1 = 0 := by simp [bst]
/-- a leg's own facts, of the reference's row -/
theorem mG_nu {G : Lg} {l : Nat} {al : Nat → Int32} (h : mG G l al) {j : Nat} (hj : j < 6) : (al (20 + 37 * l + j)).toInt = gn G j := h.2.2.1 j hj
theorem mG_fr {G : Lg} {l : Nat} {al : Nat → Int32} (h : mG G l al) : (al (20 + 37 * l + 2)).toInt = (gfr G : Int) ∧ gfr G ≤ 14000 := by
  have h1 := mG_nu h (j := 2) (by omega)
  have h2 := h.1.2.2.1
  unfold gfr
  omega
theorem mG_mn {G : Lg} {l : Nat} {al : Nat → Int32} (h : mG G l al) : (al (20 + 37 * l + 3)).toInt = (gmn G : Int) ∧ 1 ≤ gmn G ∧ gmn G ≤ 200 := by
  have h1 := mG_nu h (j := 3) (by omega)
  have h2 := h.1.2.2.2.1
  unfold gmn
  omega
theorem mG_mk {G : Lg} {l : Nat} {al : Nat → Int32} (h : mG G l al) : (al (20 + 37 * l + 6)).toInt = (gm G : Int) ∧ gm G ≤ 10 := by
  have h1 := h.2.1
  have e : 20 + 37 * l + 6 = 26 + 37 * l := by omega
  rw [e]
  exact ⟨h1, h.1.2.2.2.2.2.2.1⟩
theorem mG_at {G : Lg} {l : Nat} {al : Nat → Int32} (h : mG G l al) {j : Nat} (hj : j < gm G) : (al (20 + 37 * l + (7 + 3 * j))).toInt = (gk G j : Int) ∧ (al (20 + 37 * l + (7 + 3 * j + 1))).toInt = (gf G j : Int) ∧ (al (20 + 37 * l + (7 + 3 * j + 2))).toInt = (gl G j : Int) := by
  have h1 := h.2.2.2 j hj
  have e0 : 20 + 37 * l + (7 + 3 * j) = 27 + 37 * l + 3 * j := by omega
  have e1 : 20 + 37 * l + (7 + 3 * j + 1) = 28 + 37 * l + 3 * j := by omega
  have e2 : 20 + 37 * l + (7 + 3 * j + 2) = 29 + 37 * l + 3 * j := by omega
  rw [e0, e1, e2]
  exact h1
theorem q_7 {x : Int32} {j : Nat} (h : x.toInt = (j : Int)) (hj : j < 1000) : ((7 : Int32) + ((3 : Int32) * x)).toInt = ((7 + 3 * j : Nat) : Int) := q_addN (a := 7) rfl (q_mulN (a := 3) rfl h (by omega)) (by omega)
theorem q_13 {x y : Int32} {p w : Nat} (h : x.toInt = (p : Int)) (h2 : y.toInt = (w : Int)) (hp : p < 1000) (hw : w < 1000) : (((13 : Int32) * x) + y).toInt = ((13 * p + w : Nat) : Int) := q_addN (q_mulN (a := 13) rfl h (by omega)) h2 (by omega)
set_option maxRecDepth 20000 in
theorem ggX9_behindAt_X9_ofLeg : GoodIn wsX9_behindAt wsX9_ofLeg := goodIn_r _ [5, 6, 13, 14, 15, 16, 17, 18, 19, 20, 21, 22, 23, 24, 25, 26, 27, 28, 29, 30, 31, 32, 33, 34, 35, 36, 37, 38, 39, 40, 41] (by decide +kernel) (by decide +kernel)
set_option maxRecDepth 20000 in
theorem gX9_behindAt_X9_ofLeg : GoodIn wsX9_behindAt (wsV RX9 185 RX9 yX9_ofLeg wsX9_ofLeg) := goodIn_app (goodIn_of _ (by decide +kernel)) ggX9_behindAt_X9_ofLeg
set_option maxRecDepth 20000 in
theorem ggX9_behindAt_X9_floor : GoodIn wsX9_behindAt wsX9_floor := goodIn_r _ [9, 10, 11, 4, 12] (by decide +kernel) (by decide +kernel)
set_option maxRecDepth 20000 in
theorem gX9_behindAt_X9_floor : GoodIn wsX9_behindAt (va_wsS RX9 232 yX9_floor wsX9_floor) := goodIn_app (goodIn_of _ (by decide +kernel)) ggX9_behindAt_X9_floor
theorem dX9_behindAt_0 : decode cX9_behindAt 0 = .ok (.aload_n 0, 1) := by decide +kernel
theorem dX9_behindAt_1 : decode cX9_behindAt 1 = .ok (.iload_n 1, 1) := by decide +kernel
theorem dX9_behindAt_2 : decode cX9_behindAt 2 = .ok (.iconst 2, 1) := by decide +kernel
theorem dX9_behindAt_3 : decode cX9_behindAt 3 = .ok (.invokevirtual 185, 3) := by decide +kernel
theorem dX9_behindAt_6 : decode cX9_behindAt 6 = .ok (.iload_n 2, 1) := by decide +kernel
theorem dX9_behindAt_7 : decode cX9_behindAt 7 = .ok (.iadd, 1) := by decide +kernel
theorem dX9_behindAt_8 : decode cX9_behindAt 8 = .ok (.istore_n 3, 1) := by decide +kernel
theorem dX9_behindAt_9 : decode cX9_behindAt 9 = .ok (.aload_n 0, 1) := by decide +kernel
theorem dX9_behindAt_10 : decode cX9_behindAt 10 = .ok (.iload_n 1, 1) := by decide +kernel
theorem dX9_behindAt_11 : decode cX9_behindAt 11 = .ok (.iconst 0, 1) := by decide +kernel
theorem dX9_behindAt_12 : decode cX9_behindAt 12 = .ok (.invokevirtual 185, 3) := by decide +kernel
theorem dX9_behindAt_15 : decode cX9_behindAt 15 = .ok (.aload_n 0, 1) := by decide +kernel
theorem dX9_behindAt_16 : decode cX9_behindAt 16 = .ok (.iload_n 1, 1) := by decide +kernel
theorem dX9_behindAt_17 : decode cX9_behindAt 17 = .ok (.iconst 1, 1) := by decide +kernel
theorem dX9_behindAt_18 : decode cX9_behindAt 18 = .ok (.invokevirtual 185, 3) := by decide +kernel
theorem dX9_behindAt_21 : decode cX9_behindAt 21 = .ok (.iload_n 3, 1) := by decide +kernel
theorem dX9_behindAt_22 : decode cX9_behindAt 22 = .ok (.imul, 1) := by decide +kernel
theorem dX9_behindAt_23 : decode cX9_behindAt 23 = .ok (.sipush 256, 3) := by decide +kernel
theorem dX9_behindAt_26 : decode cX9_behindAt 26 = .ok (.invokestatic 232, 3) := by decide +kernel
theorem dX9_behindAt_29 : decode cX9_behindAt 29 = .ok (.iadd, 1) := by decide +kernel
theorem dX9_behindAt_30 : decode cX9_behindAt 30 = .ok (.istore 4, 2) := by decide +kernel
theorem dX9_behindAt_32 : decode cX9_behindAt 32 = .ok (.iconst 0, 1) := by decide +kernel
theorem dX9_behindAt_33 : decode cX9_behindAt 33 = .ok (.istore 5, 2) := by decide +kernel
theorem dX9_behindAt_35 : decode cX9_behindAt 35 = .ok (.iload 5, 2) := by decide +kernel
theorem dX9_behindAt_37 : decode cX9_behindAt 37 = .ok (.aload_n 0, 1) := by decide +kernel
theorem dX9_behindAt_38 : decode cX9_behindAt 38 = .ok (.iload_n 1, 1) := by decide +kernel
theorem dX9_behindAt_39 : decode cX9_behindAt 39 = .ok (.bipush 6, 2) := by decide +kernel
theorem dX9_behindAt_41 : decode cX9_behindAt 41 = .ok (.invokevirtual 185, 3) := by decide +kernel
theorem dX9_behindAt_44 : decode cX9_behindAt 44 = .ok (.if_icmp .ge 85, 3) := by decide +kernel
theorem dX9_behindAt_47 : decode cX9_behindAt 47 = .ok (.aload_n 0, 1) := by decide +kernel
theorem dX9_behindAt_48 : decode cX9_behindAt 48 = .ok (.iload_n 1, 1) := by decide +kernel
theorem dX9_behindAt_49 : decode cX9_behindAt 49 = .ok (.bipush 7, 2) := by decide +kernel
theorem dX9_behindAt_51 : decode cX9_behindAt 51 = .ok (.iconst 3, 1) := by decide +kernel
theorem dX9_behindAt_52 : decode cX9_behindAt 52 = .ok (.iload 5, 2) := by decide +kernel
theorem dX9_behindAt_54 : decode cX9_behindAt 54 = .ok (.imul, 1) := by decide +kernel
theorem dX9_behindAt_55 : decode cX9_behindAt 55 = .ok (.iadd, 1) := by decide +kernel
theorem dX9_behindAt_56 : decode cX9_behindAt 56 = .ok (.invokevirtual 185, 3) := by decide +kernel
theorem dX9_behindAt_59 : decode cX9_behindAt 59 = .ok (.istore 6, 2) := by decide +kernel
theorem dX9_behindAt_61 : decode cX9_behindAt 61 = .ok (.iload 6, 2) := by decide +kernel
theorem dX9_behindAt_63 : decode cX9_behindAt 63 = .ok (.iconst 1, 1) := by decide +kernel
theorem dX9_behindAt_64 : decode cX9_behindAt 64 = .ok (.if_icmp .eq 9, 3) := by decide +kernel
theorem dX9_behindAt_67 : decode cX9_behindAt 67 = .ok (.iload 6, 2) := by decide +kernel
theorem dX9_behindAt_69 : decode cX9_behindAt 69 = .ok (.iconst 2, 1) := by decide +kernel
theorem dX9_behindAt_70 : decode cX9_behindAt 70 = .ok (.if_icmp .ne 25, 3) := by decide +kernel
theorem dX9_behindAt_73 : decode cX9_behindAt 73 = .ok (.aload_n 0, 1) := by decide +kernel
theorem dX9_behindAt_74 : decode cX9_behindAt 74 = .ok (.iload_n 1, 1) := by decide +kernel
theorem dX9_behindAt_75 : decode cX9_behindAt 75 = .ok (.bipush 7, 2) := by decide +kernel
theorem dX9_behindAt_77 : decode cX9_behindAt 77 = .ok (.iconst 3, 1) := by decide +kernel
theorem dX9_behindAt_78 : decode cX9_behindAt 78 = .ok (.iload 5, 2) := by decide +kernel
theorem dX9_behindAt_80 : decode cX9_behindAt 80 = .ok (.imul, 1) := by decide +kernel
theorem dX9_behindAt_81 : decode cX9_behindAt 81 = .ok (.iadd, 1) := by decide +kernel
theorem dX9_behindAt_82 : decode cX9_behindAt 82 = .ok (.iconst 1, 1) := by decide +kernel
theorem dX9_behindAt_83 : decode cX9_behindAt 83 = .ok (.iadd, 1) := by decide +kernel
theorem dX9_behindAt_84 : decode cX9_behindAt 84 = .ok (.invokevirtual 185, 3) := by decide +kernel
theorem dX9_behindAt_87 : decode cX9_behindAt 87 = .ok (.iload_n 2, 1) := by decide +kernel
theorem dX9_behindAt_88 : decode cX9_behindAt 88 = .ok (.if_icmp .gt 7, 3) := by decide +kernel
theorem dX9_behindAt_91 : decode cX9_behindAt 91 = .ok (.iconst 1, 1) := by decide +kernel
theorem dX9_behindAt_92 : decode cX9_behindAt 92 = .ok (.goto 4, 3) := by decide +kernel
theorem dX9_behindAt_95 : decode cX9_behindAt 95 = .ok (.iconst 0, 1) := by decide +kernel
theorem dX9_behindAt_96 : decode cX9_behindAt 96 = .ok (.istore 7, 2) := by decide +kernel
theorem dX9_behindAt_98 : decode cX9_behindAt 98 = .ok (.iload 4, 2) := by decide +kernel
theorem dX9_behindAt_100 : decode cX9_behindAt 100 = .ok (.iload 7, 2) := by decide +kernel
theorem dX9_behindAt_102 : decode cX9_behindAt 102 = .ok (.ifCond .eq 17, 3) := by decide +kernel
theorem dX9_behindAt_105 : decode cX9_behindAt 105 = .ok (.iload 6, 2) := by decide +kernel
theorem dX9_behindAt_107 : decode cX9_behindAt 107 = .ok (.iconst 1, 1) := by decide +kernel
theorem dX9_behindAt_108 : decode cX9_behindAt 108 = .ok (.if_icmp .ne 7, 3) := by decide +kernel
theorem dX9_behindAt_111 : decode cX9_behindAt 111 = .ok (.iconst 1, 1) := by decide +kernel
theorem dX9_behindAt_112 : decode cX9_behindAt 112 = .ok (.goto 8, 3) := by decide +kernel
theorem dX9_behindAt_115 : decode cX9_behindAt 115 = .ok (.iconst (-1), 1) := by decide +kernel
theorem dX9_behindAt_116 : decode cX9_behindAt 116 = .ok (.goto 4, 3) := by decide +kernel
theorem dX9_behindAt_119 : decode cX9_behindAt 119 = .ok (.iconst 0, 1) := by decide +kernel
theorem dX9_behindAt_120 : decode cX9_behindAt 120 = .ok (.iadd, 1) := by decide +kernel
theorem dX9_behindAt_121 : decode cX9_behindAt 121 = .ok (.istore 4, 2) := by decide +kernel
theorem dX9_behindAt_123 : decode cX9_behindAt 123 = .ok (.iinc 5 1, 3) := by decide +kernel
theorem dX9_behindAt_126 : decode cX9_behindAt 126 = .ok (.goto (-91), 3) := by decide +kernel
theorem dX9_behindAt_129 : decode cX9_behindAt 129 = .ok (.iload 4, 2) := by decide +kernel
theorem dX9_behindAt_131 : decode cX9_behindAt 131 = .ok (.ireturn, 1) := by decide +kernel
abbrev rmX9_behindAt : Room := { frames := 2, cells := 0, slots := 0, locals := 43 }
def vX9_behindAt_c96 (F : Nat → Int32) (J : Nat → Int64) (al : Nat → Int32) (p1 : Int32) (p2 : Int32) (Q : Int32 → Prop) (K35 : Int32 → Int32 → Prop) (x4 : Int32) (x5 : Int32) (x6 : Int32) (s0 : Int32) : Prop := ((s0 = 0 → (K35 (x4 + (0 : Int32)) (x5 + (1 : Int32)))) ∧ (¬ s0 = 0 → ((¬ x6 = (1 : Int32) → (K35 (x4 + (-1 : Int32)) (x5 + (1 : Int32)))) ∧ (x6 = (1 : Int32) → (K35 (x4 + (1 : Int32)) (x5 + (1 : Int32)))))))
set_option maxHeartbeats 4000000 in
set_option maxRecDepth 100000 in
theorem kX9_behindAt_c96 {p : Program} {l : Launch} {e : Env} {s : State} {m : MethodId} {args : Array Value} {below : List Frame} {meth : Method} {c : Code} {g : GP} {qM q1 q2 q3 q4 q5 q6 q7 q8 q9 q10 q11 : Nat} {F : Nat → Int32} {J : Nat → Int64} {al : Nat → Int32} {p1 : Int32} {p2 : Int32} {Q : Int32 → Prop} {K35 : Int32 → Int32 → Prop} (S : CallFix p m c cX9_behindAt 8 s args wsX9_behindAt RX9) (hr : meth.sig.returnType = (some .int)) (hlocks : meth.locks = false) (hG : GK g s) (hP : va_P g.1 vwCl [(qM, .inr (9, [.int (F 0), .ref q1, .ref q2, .ref q3, .int (F 4), .int (F 5), .int (F 6), .int (F 7), .int (F 8), .int (F 9), .long (J 10), .int (F 11), .int (F 12), .int (F 13), .ref q4, .int (F 15), .ref q5, .ref q6, .ref q7, .int (F 19), .ref q8, .int (F 21), .int (F 22), .int (F 23), .int (F 24), .ref q9, .ref q10, .ref q11, .long (J 28)])), (q1, .inl (g.2 0, 376, .inl al))] s.heap) (kk35 : ∀ (x4 : Int32) (x5 : Int32), K35 x4 x5 → ∀ (ls : Array Slot), lv_has ls 8 [(0, .ref qM), (1, .int p1), (2, .int p2), (4, .int x4), (5, .int x5)] → W p l e (headSpec wsX9_behindAt rmX9_behindAt).room s m args below meth c s.heap [] 0 0 (MQ below (vp_Si Q) args s 0 0 (fun _ => False)) (F0 m 35 ls [])) : ∀ (x4 : Int32) (x5 : Int32) (x6 : Int32) (s0 : Int32), vX9_behindAt_c96 F J al p1 p2 Q K35 x4 x5 x6 s0 → ∀ (ls : Array Slot), lv_has ls 8 [(0, .ref qM), (1, .int p1), (2, .int p2), (4, .int x4), (5, .int x5), (6, .int x6)] → W p l e (headSpec wsX9_behindAt rmX9_behindAt).room s m args below meth c s.heap [] 0 0 (MQ below (vp_Si Q) args s 0 0 (fun _ => False)) (F0 m 96 ls [.int s0]) := by
  obtain ⟨hx, hb, hml, hown, hts⟩ := id S
  have hK := hG.1
  intro x4 x5 x6 s0 hv ls hl
  unfold vX9_behindAt_c96 at hv
  refine lv_istore (lv' := [(7, .int s0), (0, .ref qM), (1, .int p1), (2, .int p2), (4, .int x4), (5, .int x5), (6, .int x6)]) hx hb dX9_behindAt_96 hl (by decide) rfl (fun ls hl => ?_)
  refine lv_iload hx hb dX9_behindAt_98 (lv_at hl 4 rfl) ?_
  refine lv_iload hx hb dX9_behindAt_100 (lv_at hl 0 rfl) ?_
  obtain ⟨hvt, hvf⟩ := hv
  refine lv_if_eq (tgt := 119) hx hb dX9_behindAt_102 (by decide) (fun hc => ?_) (fun hc => ?_)
  · have hv := hvt hc
    refine lv_iconst (v := (0 : Int32)) hx hb dX9_behindAt_119 (by decide) ?_
    refine lv_iadd hx hb dX9_behindAt_120 ?_
    refine lv_istore (lv' := [(4, .int (x4 + (0 : Int32))), (7, .int s0), (0, .ref qM), (1, .int p1), (2, .int p2), (5, .int x5), (6, .int x6)]) hx hb dX9_behindAt_121 hl (by decide) rfl (fun ls hl => ?_)
    refine lv_iinc (v := (x5 + (1 : Int32))) (lv' := [(5, .int (x5 + (1 : Int32))), (4, .int (x4 + (0 : Int32))), (7, .int s0), (0, .ref qM), (1, .int p1), (2, .int p2), (6, .int x6)]) hx hb dX9_behindAt_123 hl (k := 5) rfl rfl (by decide) rfl (fun ls hl => ?_)
    refine lv_goto (tgt := 35) hx hb dX9_behindAt_126 (by decide) ?_
    exact kk35 _ _ hv ls (lv_sub hl [3, 4, 5, 1, 0] rfl)
  · have hv := hvf hc
    refine lv_iload hx hb dX9_behindAt_105 (lv_at hl 6 rfl) ?_
    refine lv_iconst (v := (1 : Int32)) hx hb dX9_behindAt_107 (by decide) ?_
    obtain ⟨hvt, hvf⟩ := hv
    refine lv_icmp_ne (tgt := 115) hx hb dX9_behindAt_108 (by decide) (fun hc => ?_) (fun hc => ?_)
    · have hv := hvt hc
      refine lv_iconst (v := (-1 : Int32)) hx hb dX9_behindAt_115 (by decide) ?_
      refine lv_goto (tgt := 120) hx hb dX9_behindAt_116 (by decide) ?_
      refine lv_iadd hx hb dX9_behindAt_120 ?_
      refine lv_istore (lv' := [(4, .int (x4 + (-1 : Int32))), (7, .int s0), (0, .ref qM), (1, .int p1), (2, .int p2), (5, .int x5), (6, .int x6)]) hx hb dX9_behindAt_121 hl (by decide) rfl (fun ls hl => ?_)
      refine lv_iinc (v := (x5 + (1 : Int32))) (lv' := [(5, .int (x5 + (1 : Int32))), (4, .int (x4 + (-1 : Int32))), (7, .int s0), (0, .ref qM), (1, .int p1), (2, .int p2), (6, .int x6)]) hx hb dX9_behindAt_123 hl (k := 5) rfl rfl (by decide) rfl (fun ls hl => ?_)
      refine lv_goto (tgt := 35) hx hb dX9_behindAt_126 (by decide) ?_
      exact kk35 _ _ hv ls (lv_sub hl [3, 4, 5, 1, 0] rfl)
    · have hv := hvf hc
      refine lv_iconst (v := (1 : Int32)) hx hb dX9_behindAt_111 (by decide) ?_
      refine lv_goto (tgt := 120) hx hb dX9_behindAt_112 (by decide) ?_
      refine lv_iadd hx hb dX9_behindAt_120 ?_
      refine lv_istore (lv' := [(4, .int (x4 + (1 : Int32))), (7, .int s0), (0, .ref qM), (1, .int p1), (2, .int p2), (5, .int x5), (6, .int x6)]) hx hb dX9_behindAt_121 hl (by decide) rfl (fun ls hl => ?_)
      refine lv_iinc (v := (x5 + (1 : Int32))) (lv' := [(5, .int (x5 + (1 : Int32))), (4, .int (x4 + (1 : Int32))), (7, .int s0), (0, .ref qM), (1, .int p1), (2, .int p2), (6, .int x6)]) hx hb dX9_behindAt_123 hl (k := 5) rfl rfl (by decide) rfl (fun ls hl => ?_)
      refine lv_goto (tgt := 35) hx hb dX9_behindAt_126 (by decide) ?_
      exact kk35 _ _ hv ls (lv_sub hl [3, 4, 5, 1, 0] rfl)
def vX9_behindAt_c95 (F : Nat → Int32) (J : Nat → Int64) (al : Nat → Int32) (p1 : Int32) (p2 : Int32) (Q : Int32 → Prop) (K35 : Int32 → Int32 → Prop) (x4 : Int32) (x5 : Int32) (x6 : Int32) : Prop := (vX9_behindAt_c96 F J al p1 p2 Q K35 x4 x5 x6 (0 : Int32))
set_option maxHeartbeats 4000000 in
set_option maxRecDepth 100000 in
theorem kX9_behindAt_c95 {p : Program} {l : Launch} {e : Env} {s : State} {m : MethodId} {args : Array Value} {below : List Frame} {meth : Method} {c : Code} {g : GP} {qM q1 q2 q3 q4 q5 q6 q7 q8 q9 q10 q11 : Nat} {F : Nat → Int32} {J : Nat → Int64} {al : Nat → Int32} {p1 : Int32} {p2 : Int32} {Q : Int32 → Prop} {K35 : Int32 → Int32 → Prop} (S : CallFix p m c cX9_behindAt 8 s args wsX9_behindAt RX9) (hr : meth.sig.returnType = (some .int)) (hlocks : meth.locks = false) (hG : GK g s) (hP : va_P g.1 vwCl [(qM, .inr (9, [.int (F 0), .ref q1, .ref q2, .ref q3, .int (F 4), .int (F 5), .int (F 6), .int (F 7), .int (F 8), .int (F 9), .long (J 10), .int (F 11), .int (F 12), .int (F 13), .ref q4, .int (F 15), .ref q5, .ref q6, .ref q7, .int (F 19), .ref q8, .int (F 21), .int (F 22), .int (F 23), .int (F 24), .ref q9, .ref q10, .ref q11, .long (J 28)])), (q1, .inl (g.2 0, 376, .inl al))] s.heap) (kk35 : ∀ (x4 : Int32) (x5 : Int32), K35 x4 x5 → ∀ (ls : Array Slot), lv_has ls 8 [(0, .ref qM), (1, .int p1), (2, .int p2), (4, .int x4), (5, .int x5)] → W p l e (headSpec wsX9_behindAt rmX9_behindAt).room s m args below meth c s.heap [] 0 0 (MQ below (vp_Si Q) args s 0 0 (fun _ => False)) (F0 m 35 ls [])) : ∀ (x4 : Int32) (x5 : Int32) (x6 : Int32), vX9_behindAt_c95 F J al p1 p2 Q K35 x4 x5 x6 → ∀ (ls : Array Slot), lv_has ls 8 [(0, .ref qM), (1, .int p1), (2, .int p2), (4, .int x4), (5, .int x5), (6, .int x6)] → W p l e (headSpec wsX9_behindAt rmX9_behindAt).room s m args below meth c s.heap [] 0 0 (MQ below (vp_Si Q) args s 0 0 (fun _ => False)) (F0 m 95 ls []) := by
  obtain ⟨hx, hb, hml, hown, hts⟩ := id S
  have hK := hG.1
  intro x4 x5 x6 hv ls hl
  unfold vX9_behindAt_c95 at hv
  refine lv_iconst (v := (0 : Int32)) hx hb dX9_behindAt_95 (by decide) ?_
  exact kX9_behindAt_c96 S hr hlocks hG hP kk35 _ _ _ _ hv ls (lv_sub hl [0, 1, 2, 3, 4, 5] rfl)
def vX9_behindAt_c73 (F : Nat → Int32) (J : Nat → Int64) (al : Nat → Int32) (p1 : Int32) (p2 : Int32) (Q : Int32 → Prop) (K35 : Int32 → Int32 → Prop) (x4 : Int32) (x5 : Int32) (x6 : Int32) : Prop := (∃ (p_84 : Nat) (w_84 : Nat), preX9_ofLeg p_84 w_84 F J al p1 (((7 : Int32) + ((3 : Int32) * x5)) + (1 : Int32)) ∧ (∀ r_84 : Int32, postX9_ofLeg p_84 w_84 F J al p1 (((7 : Int32) + ((3 : Int32) * x5)) + (1 : Int32)) r_84 → ((p2 < r_84 → (vX9_behindAt_c95 F J al p1 p2 Q K35 x4 x5 x6)) ∧ (¬ p2 < r_84 → (vX9_behindAt_c96 F J al p1 p2 Q K35 x4 x5 x6 (1 : Int32))))))
set_option maxHeartbeats 4000000 in
set_option maxRecDepth 100000 in
theorem kX9_behindAt_c73 {p : Program} {l : Launch} {e : Env} {s : State} {m : MethodId} {args : Array Value} {below : List Frame} {meth : Method} {c : Code} {g : GP} {qM q1 q2 q3 q4 q5 q6 q7 q8 q9 q10 q11 : Nat} {F : Nat → Int32} {J : Nat → Int64} {al : Nat → Int32} {p1 : Int32} {p2 : Int32} {Q : Int32 → Prop} {K35 : Int32 → Int32 → Prop} (S : CallFix p m c cX9_behindAt 8 s args wsX9_behindAt RX9) (hr : meth.sig.returnType = (some .int)) (hlocks : meth.locks = false) (hG : GK g s) (hP : va_P g.1 vwCl [(qM, .inr (9, [.int (F 0), .ref q1, .ref q2, .ref q3, .int (F 4), .int (F 5), .int (F 6), .int (F 7), .int (F 8), .int (F 9), .long (J 10), .int (F 11), .int (F 12), .int (F 13), .ref q4, .int (F 15), .ref q5, .ref q6, .ref q7, .int (F 19), .ref q8, .int (F 21), .int (F 22), .int (F 23), .int (F 24), .ref q9, .ref q10, .ref q11, .long (J 28)])), (q1, .inl (g.2 0, 376, .inl al))] s.heap) (kk35 : ∀ (x4 : Int32) (x5 : Int32), K35 x4 x5 → ∀ (ls : Array Slot), lv_has ls 8 [(0, .ref qM), (1, .int p1), (2, .int p2), (4, .int x4), (5, .int x5)] → W p l e (headSpec wsX9_behindAt rmX9_behindAt).room s m args below meth c s.heap [] 0 0 (MQ below (vp_Si Q) args s 0 0 (fun _ => False)) (F0 m 35 ls [])) : ∀ (x4 : Int32) (x5 : Int32) (x6 : Int32), vX9_behindAt_c73 F J al p1 p2 Q K35 x4 x5 x6 → ∀ (ls : Array Slot), lv_has ls 8 [(0, .ref qM), (1, .int p1), (2, .int p2), (4, .int x4), (5, .int x5), (6, .int x6)] → W p l e (headSpec wsX9_behindAt rmX9_behindAt).room s m args below meth c s.heap [] 0 0 (MQ below (vp_Si Q) args s 0 0 (fun _ => False)) (F0 m 73 ls []) := by
  obtain ⟨hx, hb, hml, hown, hts⟩ := id S
  have hK := hG.1
  intro x4 x5 x6 hv ls hl
  unfold vX9_behindAt_c73 at hv
  refine lv_aload_n hx hb dX9_behindAt_73 rfl (lv_at hl 0 rfl) ?_
  refine lv_iload_n hx hb dX9_behindAt_74 rfl (lv_at hl 1 rfl) ?_
  refine lv_bipush (v := (7 : Int32)) hx hb dX9_behindAt_75 (by decide) ?_
  refine lv_iconst (v := (3 : Int32)) hx hb dX9_behindAt_77 (by decide) ?_
  refine lv_iload hx hb dX9_behindAt_78 (lv_at hl 4 rfl) ?_
  refine lv_imul hx hb dX9_behindAt_80 ?_
  refine lv_iadd hx hb dX9_behindAt_81 ?_
  refine lv_iconst (v := (1 : Int32)) hx hb dX9_behindAt_82 (by decide) ?_
  refine lv_iadd hx hb dX9_behindAt_83 ?_
  obtain ⟨p_84, w_84, ho_1, hv⟩ := hv
  refine vp_callSi (W.runV (As := [.int p1, .int (((7 : Int32) + ((3 : Int32) * x5)) + (1 : Int32))]) (rest := []) S (wX9_ofLeg l g qM q1 q2 q3 q4 q5 q6 q7 q8 q9 q10 q11 F J al p1 (((7 : Int32) + ((3 : Int32) * x5)) + (1 : Int32)) (sX9_ofLeg p_84 w_84 F J al p1 (((7 : Int32) + ((3 : Int32) * x5)) + (1 : Int32)) ho_1)) (cwV 2 hts gX9_behindAt_X9_ofLeg rfl rfl rfl (by decide +kernel) ⟨Nat.le_of_ble_eq_true rfl, Nat.le_of_ble_eq_true rfl⟩) ⟨blindRO, va_recv hK hP (ci := 9) (q0 := 0) rfl rfl, fun U hU hW => ⟨rfl, by rw [hU]; exact hP.sub (ws' := [(qM, .inr (9, [.int (F 0), .ref q1, .ref q2, .ref q3, .int (F 4), .int (F 5), .int (F 6), .int (F 7), .int (F 8), .int (F 9), .long (J 10), .int (F 11), .int (F 12), .int (F 13), .ref q4, .int (F 15), .ref q5, .ref q6, .ref q7, .int (F 19), .ref q8, .int (F 21), .int (F 22), .int (F 23), .int (F 24), .ref q9, .ref q10, .ref q11, .long (J 28)])), (q1, .inl (g.2 0, 376, .inl al))]) [0, 1] rfl, hG.warm hW⟩⟩ rfl rfl hl.1 rfl (lv_room (Nat.le_of_ble_eq_true rfl)) dX9_behindAt_84 ⟨Nat.le_of_ble_eq_true rfl, Nat.le_of_ble_eq_true rfl⟩) (fun r_84 hr_84 => ?_)
  have hv := hv r_84 hr_84
  refine lv_iload_n hx hb dX9_behindAt_87 rfl (lv_at hl 2 rfl) ?_
  obtain ⟨hvt, hvf⟩ := hv
  refine lv_icmp_gt (tgt := 95) hx hb dX9_behindAt_88 (by decide) (fun hc => ?_) (fun hc => ?_)
  · have hv := hvt hc
    exact kX9_behindAt_c95 S hr hlocks hG hP kk35 _ _ _ hv ls (lv_sub hl [0, 1, 2, 3, 4, 5] rfl)
  · have hv := hvf hc
    refine lv_iconst (v := (1 : Int32)) hx hb dX9_behindAt_91 (by decide) ?_
    refine lv_goto (tgt := 96) hx hb dX9_behindAt_92 (by decide) ?_
    exact kX9_behindAt_c96 S hr hlocks hG hP kk35 _ _ _ _ hv ls (lv_sub hl [0, 1, 2, 3, 4, 5] rfl)
def vX9_behindAt_c35 (F : Nat → Int32) (J : Nat → Int64) (al : Nat → Int32) (p1 : Int32) (p2 : Int32) (Q : Int32 → Prop) : Nat → Int32 → Int32 → Prop
  | 0, _, _ => False
  | n + 1, x4, x5 => (∃ (p_41 : Nat) (w_41 : Nat), preX9_ofLeg p_41 w_41 F J al p1 (6 : Int32) ∧ (∀ r_41 : Int32, postX9_ofLeg p_41 w_41 F J al p1 (6 : Int32) r_41 → ((r_41 ≤ x5 → (Q x4)) ∧ (¬ r_41 ≤ x5 → (∃ (p_56 : Nat) (w_56 : Nat), preX9_ofLeg p_56 w_56 F J al p1 ((7 : Int32) + ((3 : Int32) * x5)) ∧ (∀ r_56 : Int32, postX9_ofLeg p_56 w_56 F J al p1 ((7 : Int32) + ((3 : Int32) * x5)) r_56 → ((r_56 = (1 : Int32) → (vX9_behindAt_c73 F J al p1 p2 Q (vX9_behindAt_c35 F J al p1 p2 Q n) x4 x5 r_56)) ∧ (¬ r_56 = (1 : Int32) → ((¬ r_56 = (2 : Int32) → (vX9_behindAt_c95 F J al p1 p2 Q (vX9_behindAt_c35 F J al p1 p2 Q n) x4 x5 r_56)) ∧ (r_56 = (2 : Int32) → (vX9_behindAt_c73 F J al p1 p2 Q (vX9_behindAt_c35 F J al p1 p2 Q n) x4 x5 r_56)))))))))))
set_option maxHeartbeats 4000000 in
set_option maxRecDepth 100000 in
theorem kX9_behindAt_c35 {p : Program} {l : Launch} {e : Env} {s : State} {m : MethodId} {args : Array Value} {below : List Frame} {meth : Method} {c : Code} {g : GP} {qM q1 q2 q3 q4 q5 q6 q7 q8 q9 q10 q11 : Nat} {F : Nat → Int32} {J : Nat → Int64} {al : Nat → Int32} {p1 : Int32} {p2 : Int32} {Q : Int32 → Prop} (S : CallFix p m c cX9_behindAt 8 s args wsX9_behindAt RX9) (hr : meth.sig.returnType = (some .int)) (hlocks : meth.locks = false) (hG : GK g s) (hP : va_P g.1 vwCl [(qM, .inr (9, [.int (F 0), .ref q1, .ref q2, .ref q3, .int (F 4), .int (F 5), .int (F 6), .int (F 7), .int (F 8), .int (F 9), .long (J 10), .int (F 11), .int (F 12), .int (F 13), .ref q4, .int (F 15), .ref q5, .ref q6, .ref q7, .int (F 19), .ref q8, .int (F 21), .int (F 22), .int (F 23), .int (F 24), .ref q9, .ref q10, .ref q11, .long (J 28)])), (q1, .inl (g.2 0, 376, .inl al))] s.heap) : ∀ (n : Nat), ∀ (x4 : Int32) (x5 : Int32), vX9_behindAt_c35 F J al p1 p2 Q n x4 x5 → ∀ (ls : Array Slot), lv_has ls 8 [(0, .ref qM), (1, .int p1), (2, .int p2), (4, .int x4), (5, .int x5)] → W p l e (headSpec wsX9_behindAt rmX9_behindAt).room s m args below meth c s.heap [] 0 0 (MQ below (vp_Si Q) args s 0 0 (fun _ => False)) (F0 m 35 ls []) := by
  obtain ⟨hx, hb, hml, hown, hts⟩ := id S
  have hK := hG.1
  intro n
  induction n with
  | zero => intro x4 x5 hv; exact hv.elim
  | succ n ih =>
    intro x4 x5 hv ls hl
    refine lv_iload hx hb dX9_behindAt_35 (lv_at hl 4 rfl) ?_
    refine lv_aload_n hx hb dX9_behindAt_37 rfl (lv_at hl 0 rfl) ?_
    refine lv_iload_n hx hb dX9_behindAt_38 rfl (lv_at hl 1 rfl) ?_
    refine lv_bipush (v := (6 : Int32)) hx hb dX9_behindAt_39 (by decide) ?_
    obtain ⟨p_41, w_41, ho_1, hv⟩ := hv
    refine vp_callSi (W.runV (As := [.int p1, .int (6 : Int32)]) (rest := [.int x5]) S (wX9_ofLeg l g qM q1 q2 q3 q4 q5 q6 q7 q8 q9 q10 q11 F J al p1 (6 : Int32) (sX9_ofLeg p_41 w_41 F J al p1 (6 : Int32) ho_1)) (cwV 2 hts gX9_behindAt_X9_ofLeg rfl rfl rfl (by decide +kernel) ⟨Nat.le_of_ble_eq_true rfl, Nat.le_of_ble_eq_true rfl⟩) ⟨blindRO, va_recv hK hP (ci := 9) (q0 := 0) rfl rfl, fun U hU hW => ⟨rfl, by rw [hU]; exact hP.sub (ws' := [(qM, .inr (9, [.int (F 0), .ref q1, .ref q2, .ref q3, .int (F 4), .int (F 5), .int (F 6), .int (F 7), .int (F 8), .int (F 9), .long (J 10), .int (F 11), .int (F 12), .int (F 13), .ref q4, .int (F 15), .ref q5, .ref q6, .ref q7, .int (F 19), .ref q8, .int (F 21), .int (F 22), .int (F 23), .int (F 24), .ref q9, .ref q10, .ref q11, .long (J 28)])), (q1, .inl (g.2 0, 376, .inl al))]) [0, 1] rfl, hG.warm hW⟩⟩ rfl rfl hl.1 rfl (lv_room (Nat.le_of_ble_eq_true rfl)) dX9_behindAt_41 ⟨Nat.le_of_ble_eq_true rfl, Nat.le_of_ble_eq_true rfl⟩) (fun r_41 hr_41 => ?_)
    have hv := hv r_41 hr_41
    obtain ⟨hvt, hvf⟩ := hv
    refine lv_icmp_ge (tgt := 129) hx hb dX9_behindAt_44 (by decide) (fun hc => ?_) (fun hc => ?_)
    · have hv := hvt hc
      refine lv_iload hx hb dX9_behindAt_129 (lv_at hl 3 rfl) ?_
      exact W.iret (v := x4) hx hb hr (fun t ht hW => ⟨_, rfl, hv, ht⟩) (fun _ h => by cases h) dX9_behindAt_131
    · have hv := hvf hc
      refine lv_aload_n hx hb dX9_behindAt_47 rfl (lv_at hl 0 rfl) ?_
      refine lv_iload_n hx hb dX9_behindAt_48 rfl (lv_at hl 1 rfl) ?_
      refine lv_bipush (v := (7 : Int32)) hx hb dX9_behindAt_49 (by decide) ?_
      refine lv_iconst (v := (3 : Int32)) hx hb dX9_behindAt_51 (by decide) ?_
      refine lv_iload hx hb dX9_behindAt_52 (lv_at hl 4 rfl) ?_
      refine lv_imul hx hb dX9_behindAt_54 ?_
      refine lv_iadd hx hb dX9_behindAt_55 ?_
      obtain ⟨p_56, w_56, ho_2, hv⟩ := hv
      refine vp_callSi (W.runV (As := [.int p1, .int ((7 : Int32) + ((3 : Int32) * x5))]) (rest := []) S (wX9_ofLeg l g qM q1 q2 q3 q4 q5 q6 q7 q8 q9 q10 q11 F J al p1 ((7 : Int32) + ((3 : Int32) * x5)) (sX9_ofLeg p_56 w_56 F J al p1 ((7 : Int32) + ((3 : Int32) * x5)) ho_2)) (cwV 2 hts gX9_behindAt_X9_ofLeg rfl rfl rfl (by decide +kernel) ⟨Nat.le_of_ble_eq_true rfl, Nat.le_of_ble_eq_true rfl⟩) ⟨blindRO, va_recv hK hP (ci := 9) (q0 := 0) rfl rfl, fun U hU hW => ⟨rfl, by rw [hU]; exact hP.sub (ws' := [(qM, .inr (9, [.int (F 0), .ref q1, .ref q2, .ref q3, .int (F 4), .int (F 5), .int (F 6), .int (F 7), .int (F 8), .int (F 9), .long (J 10), .int (F 11), .int (F 12), .int (F 13), .ref q4, .int (F 15), .ref q5, .ref q6, .ref q7, .int (F 19), .ref q8, .int (F 21), .int (F 22), .int (F 23), .int (F 24), .ref q9, .ref q10, .ref q11, .long (J 28)])), (q1, .inl (g.2 0, 376, .inl al))]) [0, 1] rfl, hG.warm hW⟩⟩ rfl rfl hl.1 rfl (lv_room (Nat.le_of_ble_eq_true rfl)) dX9_behindAt_56 ⟨Nat.le_of_ble_eq_true rfl, Nat.le_of_ble_eq_true rfl⟩) (fun r_56 hr_56 => ?_)
      have hv := hv r_56 hr_56
      refine lv_istore (lv' := [(6, .int r_56), (0, .ref qM), (1, .int p1), (2, .int p2), (4, .int x4), (5, .int x5)]) hx hb dX9_behindAt_59 hl (by decide) rfl (fun ls hl => ?_)
      refine lv_iload hx hb dX9_behindAt_61 (lv_at hl 0 rfl) ?_
      refine lv_iconst (v := (1 : Int32)) hx hb dX9_behindAt_63 (by decide) ?_
      obtain ⟨hvt, hvf⟩ := hv
      refine lv_icmp_eq (tgt := 73) hx hb dX9_behindAt_64 (by decide) (fun hc => ?_) (fun hc => ?_)
      · have hv := hvt hc
        exact kX9_behindAt_c73 S hr hlocks hG hP ih _ _ _ hv ls (lv_sub hl [1, 2, 3, 4, 5, 0] rfl)
      · have hv := hvf hc
        refine lv_iload hx hb dX9_behindAt_67 (lv_at hl 0 rfl) ?_
        refine lv_iconst (v := (2 : Int32)) hx hb dX9_behindAt_69 (by decide) ?_
        obtain ⟨hvt, hvf⟩ := hv
        refine lv_icmp_ne (tgt := 95) hx hb dX9_behindAt_70 (by decide) (fun hc => ?_) (fun hc => ?_)
        · have hv := hvt hc
          exact kX9_behindAt_c95 S hr hlocks hG hP ih _ _ _ hv ls (lv_sub hl [1, 2, 3, 4, 5, 0] rfl)
        · have hv := hvf hc
          exact kX9_behindAt_c73 S hr hlocks hG hP ih _ _ _ hv ls (lv_sub hl [1, 2, 3, 4, 5, 0] rfl)
def vX9_behindAt (F : Nat → Int32) (J : Nat → Int64) (al : Nat → Int32) (p1 : Int32) (p2 : Int32) (Q : Int32 → Prop) : Prop := (∃ (p_3 : Nat) (w_3 : Nat), preX9_ofLeg p_3 w_3 F J al p1 (2 : Int32) ∧ (∀ r_3 : Int32, postX9_ofLeg p_3 w_3 F J al p1 (2 : Int32) r_3 → (∃ (p_12 : Nat) (w_12 : Nat), preX9_ofLeg p_12 w_12 F J al p1 (0 : Int32) ∧ (∀ r_12 : Int32, postX9_ofLeg p_12 w_12 F J al p1 (0 : Int32) r_12 → (∃ (p_18 : Nat) (w_18 : Nat), preX9_ofLeg p_18 w_18 F J al p1 (1 : Int32) ∧ (∀ r_18 : Int32, postX9_ofLeg p_18 w_18 F J al p1 (1 : Int32) r_18 → (preX9_floor (r_18 * (r_3 + p2)) (256 : Int32) ∧ (∀ r_26 : Int32, postX9_floor (r_18 * (r_3 + p2)) (256 : Int32) r_26 → (∃ nn, vX9_behindAt_c35 F J al p1 p2 Q nn (r_12 + r_26) (0 : Int32))))))))))
set_option maxHeartbeats 4000000 in
set_option maxRecDepth 100000 in
theorem wX9_behindAt (l : Launch) (g : GP) (qM : Nat) (q1 : Nat) (q2 : Nat) (q3 : Nat) (q4 : Nat) (q5 : Nat) (q6 : Nat) (q7 : Nat) (q8 : Nat) (q9 : Nat) (q10 : Nat) (q11 : Nat) (F : Nat → Int32) (J : Nat → Int64) (al : Nat → Int32) (p1 : Int32) (p2 : Int32) {Q : Int32 → Prop} (hv : vX9_behindAt F J al p1 p2 Q) : Met l yX9_behindAt wsX9_behindAt rmX9_behindAt (va_Pc [.ref qM, .int p1, .int p2] (fun U => va_P g.1 vwCl [(qM, .inr (9, [.int (F 0), .ref q1, .ref q2, .ref q3, .int (F 4), .int (F 5), .int (F 6), .int (F 7), .int (F 8), .int (F 9), .long (J 10), .int (F 11), .int (F 12), .int (F 13), .ref q4, .int (F 15), .ref q5, .ref q6, .ref q7, .int (F 19), .ref q8, .int (F 21), .int (F 22), .int (F 23), .int (F 24), .ref q9, .ref q10, .ref q11, .long (J 28)])), (q1, .inl (g.2 0, 376, .inl al))] U.heap ∧ GK g U)) (vp_Si Q) 0 0 (fun _ => False) := by
  refine Met.ofW (cc := cX9_behindAt) (maxL := 8) (ret := (some .int)) (by decide) rfl ?_
  intro p e s m args below meth c s₁ B hml hv'
  obtain ⟨rfl, hP, hG⟩ := hv'
  have S : CallFix p m c cX9_behindAt 8 s _ wsX9_behindAt RX9 := ⟨B.exec, B.bytes, hml, findClass_of_methodNamed B.named, atoms_spec (ws := wsX9_behindAt) B.pre⟩
  obtain ⟨hx, hb, hml, hown, hts⟩ := id S
  have hK := hG.1
  have hr := B.returns
  have hlocks := B.notSynchronized
  have hl := lv_entry ([.ref qM, .int p1, .int p2]) (n := 8) (Nat.le_of_ble_eq_true rfl)
  rw [lg_entry_eq]
  generalize (lg_sl ([.ref qM, .int p1, .int p2]) ++ List.replicate (8 - (lg_sl ([.ref qM, .int p1, .int p2])).length) Slot.unset).toArray = ls at hl ⊢
  have hl : lv_has ls 8 [(0, .ref qM), (1, .int p1), (2, .int p2)] := hl
  unfold vX9_behindAt at hv
  refine lv_aload_n hx hb dX9_behindAt_0 rfl (lv_at hl 0 rfl) ?_
  refine lv_iload_n hx hb dX9_behindAt_1 rfl (lv_at hl 1 rfl) ?_
  refine lv_iconst (v := (2 : Int32)) hx hb dX9_behindAt_2 (by decide) ?_
  obtain ⟨p_3, w_3, ho_1, hv⟩ := hv
  refine vp_callSi (W.runV (As := [.int p1, .int (2 : Int32)]) (rest := []) S (wX9_ofLeg l g qM q1 q2 q3 q4 q5 q6 q7 q8 q9 q10 q11 F J al p1 (2 : Int32) (sX9_ofLeg p_3 w_3 F J al p1 (2 : Int32) ho_1)) (cwV 2 hts gX9_behindAt_X9_ofLeg rfl rfl rfl (by decide +kernel) ⟨Nat.le_of_ble_eq_true rfl, Nat.le_of_ble_eq_true rfl⟩) ⟨blindRO, va_recv hK hP (ci := 9) (q0 := 0) rfl rfl, fun U hU hW => ⟨rfl, by rw [hU]; exact hP.sub (ws' := [(qM, .inr (9, [.int (F 0), .ref q1, .ref q2, .ref q3, .int (F 4), .int (F 5), .int (F 6), .int (F 7), .int (F 8), .int (F 9), .long (J 10), .int (F 11), .int (F 12), .int (F 13), .ref q4, .int (F 15), .ref q5, .ref q6, .ref q7, .int (F 19), .ref q8, .int (F 21), .int (F 22), .int (F 23), .int (F 24), .ref q9, .ref q10, .ref q11, .long (J 28)])), (q1, .inl (g.2 0, 376, .inl al))]) [0, 1] rfl, hG.warm hW⟩⟩ rfl rfl hl.1 rfl (lv_room (Nat.le_of_ble_eq_true rfl)) dX9_behindAt_3 ⟨Nat.le_of_ble_eq_true rfl, Nat.le_of_ble_eq_true rfl⟩) (fun r_3 hr_3 => ?_)
  have hv := hv r_3 hr_3
  refine lv_iload_n hx hb dX9_behindAt_6 rfl (lv_at hl 2 rfl) ?_
  refine lv_iadd hx hb dX9_behindAt_7 ?_
  refine lv_istore_n (lv' := [(3, .int (r_3 + p2)), (0, .ref qM), (1, .int p1), (2, .int p2)]) hx hb dX9_behindAt_8 rfl hl (by decide) rfl (fun ls hl => ?_)
  refine lv_aload_n hx hb dX9_behindAt_9 rfl (lv_at hl 1 rfl) ?_
  refine lv_iload_n hx hb dX9_behindAt_10 rfl (lv_at hl 2 rfl) ?_
  refine lv_iconst (v := (0 : Int32)) hx hb dX9_behindAt_11 (by decide) ?_
  obtain ⟨p_12, w_12, ho_2, hv⟩ := hv
  refine vp_callSi (W.runV (As := [.int p1, .int (0 : Int32)]) (rest := []) S (wX9_ofLeg l g qM q1 q2 q3 q4 q5 q6 q7 q8 q9 q10 q11 F J al p1 (0 : Int32) (sX9_ofLeg p_12 w_12 F J al p1 (0 : Int32) ho_2)) (cwV 2 hts gX9_behindAt_X9_ofLeg rfl rfl rfl (by decide +kernel) ⟨Nat.le_of_ble_eq_true rfl, Nat.le_of_ble_eq_true rfl⟩) ⟨blindRO, va_recv hK hP (ci := 9) (q0 := 0) rfl rfl, fun U hU hW => ⟨rfl, by rw [hU]; exact hP.sub (ws' := [(qM, .inr (9, [.int (F 0), .ref q1, .ref q2, .ref q3, .int (F 4), .int (F 5), .int (F 6), .int (F 7), .int (F 8), .int (F 9), .long (J 10), .int (F 11), .int (F 12), .int (F 13), .ref q4, .int (F 15), .ref q5, .ref q6, .ref q7, .int (F 19), .ref q8, .int (F 21), .int (F 22), .int (F 23), .int (F 24), .ref q9, .ref q10, .ref q11, .long (J 28)])), (q1, .inl (g.2 0, 376, .inl al))]) [0, 1] rfl, hG.warm hW⟩⟩ rfl rfl hl.1 rfl (lv_room (Nat.le_of_ble_eq_true rfl)) dX9_behindAt_12 ⟨Nat.le_of_ble_eq_true rfl, Nat.le_of_ble_eq_true rfl⟩) (fun r_12 hr_12 => ?_)
  have hv := hv r_12 hr_12
  refine lv_aload_n hx hb dX9_behindAt_15 rfl (lv_at hl 1 rfl) ?_
  refine lv_iload_n hx hb dX9_behindAt_16 rfl (lv_at hl 2 rfl) ?_
  refine lv_iconst (v := (1 : Int32)) hx hb dX9_behindAt_17 (by decide) ?_
  obtain ⟨p_18, w_18, ho_3, hv⟩ := hv
  refine vp_callSi (W.runV (As := [.int p1, .int (1 : Int32)]) (rest := [.int r_12]) S (wX9_ofLeg l g qM q1 q2 q3 q4 q5 q6 q7 q8 q9 q10 q11 F J al p1 (1 : Int32) (sX9_ofLeg p_18 w_18 F J al p1 (1 : Int32) ho_3)) (cwV 2 hts gX9_behindAt_X9_ofLeg rfl rfl rfl (by decide +kernel) ⟨Nat.le_of_ble_eq_true rfl, Nat.le_of_ble_eq_true rfl⟩) ⟨blindRO, va_recv hK hP (ci := 9) (q0 := 0) rfl rfl, fun U hU hW => ⟨rfl, by rw [hU]; exact hP.sub (ws' := [(qM, .inr (9, [.int (F 0), .ref q1, .ref q2, .ref q3, .int (F 4), .int (F 5), .int (F 6), .int (F 7), .int (F 8), .int (F 9), .long (J 10), .int (F 11), .int (F 12), .int (F 13), .ref q4, .int (F 15), .ref q5, .ref q6, .ref q7, .int (F 19), .ref q8, .int (F 21), .int (F 22), .int (F 23), .int (F 24), .ref q9, .ref q10, .ref q11, .long (J 28)])), (q1, .inl (g.2 0, 376, .inl al))]) [0, 1] rfl, hG.warm hW⟩⟩ rfl rfl hl.1 rfl (lv_room (Nat.le_of_ble_eq_true rfl)) dX9_behindAt_18 ⟨Nat.le_of_ble_eq_true rfl, Nat.le_of_ble_eq_true rfl⟩) (fun r_18 hr_18 => ?_)
  have hv := hv r_18 hr_18
  refine lv_iload_n hx hb dX9_behindAt_21 rfl (lv_at hl 0 rfl) ?_
  refine lv_imul hx hb dX9_behindAt_22 ?_
  refine lv_sipush (v := (256 : Int32)) hx hb dX9_behindAt_23 (by decide) ?_
  obtain ⟨ho_4, hv⟩ := hv
  refine vp_callSi (W.runS (As := [.int (r_18 * (r_3 + p2)), .int (256 : Int32)]) (rest := [.int r_12]) S (wX9_floor l g (r_18 * (r_3 + p2)) (256 : Int32) (sX9_floor (r_18 * (r_3 + p2)) (256 : Int32) ho_4)) (va_cwS 2 hts gX9_behindAt_X9_floor rfl rfl rfl (by decide +kernel) ⟨Nat.le_of_ble_eq_true rfl, Nat.le_of_ble_eq_true rfl⟩) ⟨blindRO, fun U hU hW => ⟨rfl, by rw [hU]; exact hP.sub (ws' := []) [] rfl, hG.warm hW⟩⟩ rfl rfl hl.1 rfl (lv_room (Nat.le_of_ble_eq_true rfl)) dX9_behindAt_26 ⟨Nat.le_of_ble_eq_true rfl, Nat.le_of_ble_eq_true rfl⟩) (fun r_26 hr_26 => ?_)
  have hv := hv r_26 hr_26
  refine lv_iadd hx hb dX9_behindAt_29 ?_
  refine lv_istore (lv' := [(4, .int (r_12 + r_26)), (3, .int (r_3 + p2)), (0, .ref qM), (1, .int p1), (2, .int p2)]) hx hb dX9_behindAt_30 hl (by decide) rfl (fun ls hl => ?_)
  refine lv_iconst (v := (0 : Int32)) hx hb dX9_behindAt_32 (by decide) ?_
  refine lv_istore (lv' := [(5, .int (0 : Int32)), (4, .int (r_12 + r_26)), (3, .int (r_3 + p2)), (0, .ref qM), (1, .int p1), (2, .int p2)]) hx hb dX9_behindAt_33 hl (by decide) rfl (fun ls hl => ?_)
  obtain ⟨nn, hv⟩ := hv
  exact kX9_behindAt_c35 S hr hlocks hG hP nn _ _ hv ls (lv_sub hl [3, 4, 5, 1, 0] rfl)
abbrev preX9_behindAt (G : Lg) (l i : Nat) (_ : Nat → Int32) (_ : Nat → Int64) (al : Nat → Int32) (p1 p2 : Int32) : Prop := mG G l al ∧ l < 2 ∧ p1.toInt = (l : Int) ∧ p2.toInt = (i : Int) ∧ i ≤ 200
abbrev postX9_behindAt (G : Lg) (_ i : Nat) (_ : Nat → Int32) (_ : Nat → Int64) (_ : Nat → Int32) (_ _ r : Int32) : Prop := r.toInt = lagZ G i (gfr G + i)
theorem sX9_behindAt_96 (F : Nat → Int32) (J : Nat → Int64) (al : Nat → Int32) (p1 p2 : Int32) (Q : Int32 → Prop) (K : Int32 → Int32 → Prop) (x4 x5 x6 : Int32) (b : Bool) (s0 : Int32) (hs : s0 = if b then 1 else 0) (z d : Int) (h4 : x4.toInt = z) (hz : -200000 ≤ z ∧ z ≤ 200000) (hd : d = if b then (if x6.toInt = 1 then 1 else -1) else 0) (hK : ∀ y : Int32, y.toInt = z + d → K y (x5 + (1 : Int32))) : vX9_behindAt_c96 F J al p1 p2 Q K x4 x5 x6 s0 := by
  unfold vX9_behindAt_c96
  rw [hs, q_ifB, fa_eq x6, z1]
  refine ⟨fun hb => hK _ ?_, fun hb => ⟨fun hx => hK _ ?_, fun hx => hK _ ?_⟩⟩
  · rw [hb] at hd
    rw [q_add h4 z0 (by omega) (by omega), hd]; rfl
  · rw [show b = true by simpa using hb, if_pos rfl, if_neg hx] at hd
    rw [q_add h4 zm1 (by omega) (by omega), hd]
  · rw [show b = true by simpa using hb, if_pos rfl, if_pos hx] at hd
    rw [q_add h4 z1 (by omega) (by omega), hd]
theorem sX9_behindAt_1 (G : Lg) (l i : Nat) (F : Nat → Int32) (J : Nat → Int64) (al : Nat → Int32) (p1 p2 : Int32) (h : preX9_behindAt G l i F J al p1 p2) (z : Int) (hz : -100000 ≤ z ∧ z ≤ 100000) (hzG : z + jmp G i (gm G) = lagZ G i (gfr G + i)) : ∀ (n j : Nat) (x4 x5 : Int32), x4.toInt = z + jmp G i j → x5.toInt = (j : Int) → j ≤ gm G → gm G + 1 ≤ j + n → vX9_behindAt_c35 F J al p1 p2 (postX9_behindAt G l i F J al p1 p2) n x4 x5
  | 0, j, x4, x5, _, _, hi, hn => absurd hn (by omega)
  | n + 1, j, x4, x5, h4, h5, hj, hn => by
    obtain ⟨hG, hl, h1, h2, hi⟩ := id h
    have hm := mG_mk hG
    have hle := jmp_le G i j
    rw [vX9_behindAt_c35]
    refine ⟨l, 6, ⟨h1, rfl, by omega⟩, fun r hr => ?_⟩
    have hr : r = al (20 + 37 * l + 6) := hr
    rw [hr, q_le hm.1 h5]
    refine ⟨fun hc => ?_, fun hc => ?_⟩
    · have : j = gm G := by omega
      subst this
      show x4.toInt = _
      rw [h4, hzG]
    · have hat := mG_at hG (j := j) (by omega)
      have hok := hG.1.2.2.2.2.2.2.2 j (by omega)
      have h5s := q_1 h5 (by omega)
      have e7 := q_7 h5 (by omega)
      have e8 := q_addN e7 z1 (b := 1) (by omega)
      refine ⟨l, 7 + 3 * j, ⟨h1, e7, by omega⟩, fun r2 hr2 => ?_⟩
      have hr2 : r2 = al (20 + 37 * l + (7 + 3 * j)) := hr2
      have next : ∀ y : Int32, y.toInt = z + jmp G i (j + 1) → vX9_behindAt_c35 F J al p1 p2 (postX9_behindAt G l i F J al p1 p2) n y (x5 + (1 : Int32)) := fun y hy => sX9_behindAt_1 G l i F J al p1 p2 h z hz hzG n (j + 1) y _ hy h5s (by omega) (by omega)
      have stay : ∀ x6 : Int32, jmp G i (j + 1) = jmp G i j → vX9_behindAt_c95 F J al p1 p2 (postX9_behindAt G l i F J al p1 p2) (vX9_behindAt_c35 F J al p1 p2 (postX9_behindAt G l i F J al p1 p2) n) x4 x5 x6 := by
        intro x6 he
        unfold vX9_behindAt_c95
        exact sX9_behindAt_96 F J al p1 p2 _ _ x4 x5 x6 false 0 rfl _ 0 h4 (by omega) rfl (fun y hy => next y (by rw [hy, he]; omega))
      have go : gk G j = 1 ∨ gk G j = 2 → vX9_behindAt_c73 F J al p1 p2 (postX9_behindAt G l i F J al p1 p2) (vX9_behindAt_c35 F J al p1 p2 (postX9_behindAt G l i F J al p1 p2) n) x4 x5 r2 := by
        intro hk
        refine ⟨l, 7 + 3 * j + 1, ⟨h1, e8, by omega⟩, fun r3 hr3 => ?_⟩
        have hr3 : r3 = al (20 + 37 * l + (7 + 3 * j + 1)) := hr3
        rw [hr3, q_lt h2 hat.2.1]
        refine ⟨fun hb => stay _ ?_, fun hb => ?_⟩
        · rw [jmp, if_neg (by omega)]; omega
        · have h6 : r2.toInt = (gk G j : Int) := by rw [hr2]; exact hat.1
          refine sX9_behindAt_96 F J al p1 p2 _ _ x4 x5 r2 true 1 rfl _ (if gk G j = 1 then 1 else -1) h4 (by omega) ?_ (fun y hy => next y ?_)
          · rw [if_pos rfl, h6]
            by_cases q : gk G j = 1
            · rw [if_pos q, if_pos (by omega)]
            · rw [if_neg q, if_neg (by omega)]
          · have hle3 : gf G j ≤ i := by omega
            have ej : jmp G i (j + 1) = jmp G i j + (if gk G j = 1 then 1 else if gk G j = 2 then -1 else 0) := by rw [jmp, if_pos hle3]
            rw [ej, hy]
            rcases hk with q | q
            · rw [if_pos q, if_pos q]; omega
            · rw [if_neg (by omega), if_neg (by omega), if_pos q]; omega
      have hkk : r2.toInt = (gk G j : Int) := by rw [hr2]; exact hat.1
      rw [fa_eq r2, z1, hkk]
      refine ⟨fun hq => go (Or.inl (by omega)), fun hq => ?_⟩
      rw [fa_eq r2, z2, hkk]
      refine ⟨fun hq2 => stay _ ?_, fun hq2 => go (Or.inr (by omega))⟩
      rw [jmp]; split
      · rw [if_neg (by omega), if_neg (by omega)]; omega
      · omega
theorem sX9_behindAt (G : Lg) (l i : Nat) (F : Nat → Int32) (J : Nat → Int64) (al : Nat → Int32) (p1 p2 : Int32) (h : preX9_behindAt G l i F J al p1 p2) : vX9_behindAt F J al p1 p2 (postX9_behindAt G l i F J al p1 p2) := by
  obtain ⟨hG, hl, h1, h2, hi⟩ := id h
  have hfr := mG_fr hG
  have ok := hG.1
  have u0 := mG_nu hG (j := 0) (by omega)
  have u1 := mG_nu hG (j := 1) (by omega)
  refine ⟨l, 2, ⟨h1, rfl, by omega⟩, fun r hr => ⟨l, 0, ⟨h1, rfl, by omega⟩, fun r0 hr0 => ⟨l, 1, ⟨h1, rfl, by omega⟩, fun r1 hr1 => ?_⟩⟩⟩
  have hr : r.toInt = (gfr G : Int) := by rw [hr]; exact hfr.1
  have hr0 : r0.toInt = gn G 0 := by rw [hr0]; exact u0
  have hr1 : r1.toInt = gn G 1 := by rw [hr1]; exact u1
  have et : (r + p2).toInt = ((gfr G + i : Nat) : Int) := q_addN hr h2 (by omega)
  have hb := q_mulb (x := gn G 1) (y := ((gfr G + i : Nat) : Int)) (b := 64) (c := 20000) ok.2.1.1 ok.2.1.2 (by omega) (by omega) (by omega)
  have e := q_mul hr1 et (by omega) (by omega)
  have o0 := ok.1
  refine ⟨⟨by decide, by decide, by show _ < (r1 * (r + p2)).toInt; omega, by show (r1 * (r + p2)).toInt < _; omega⟩, fun r4 hr4 => ⟨gm G + 1, ?_⟩⟩
  have hr4 : r4.toInt = gn G 1 * ((gfr G + i : Nat) : Int) / 256 := by
    have hr4 : r4.toInt = (r1 * (r + p2)).toInt / (256 : Int32).toInt := hr4
    rw [hr4, e, z256]
  have hd : -5000 ≤ gn G 1 * ((gfr G + i : Nat) : Int) / 256 ∧ gn G 1 * ((gfr G + i : Nat) : Int) / 256 ≤ 5000 := by omega
  exact sX9_behindAt_1 G l i F J al p1 p2 h (gn G 0 + gn G 1 * ((gfr G + i : Nat) : Int) / 256) (by omega) rfl (gm G + 1) 0 _ 0 (by rw [q_add hr0 hr4 (by omega) (by omega), jmp]; omega) rfl (by omega) (by omega)
set_option maxRecDepth 20000 in
theorem ggX9_marksAt_X9_ofLeg : GoodIn wsX9_marksAt wsX9_ofLeg := goodIn_r _ [5, 6, 10, 11, 12, 13, 14, 15, 16, 17, 18, 19, 20, 21, 22, 23, 24, 25, 26, 27, 28, 29, 30, 31, 32, 33, 34, 35, 36, 37, 38] (by decide +kernel) (by decide +kernel)
set_option maxRecDepth 20000 in
theorem gX9_marksAt_X9_ofLeg : GoodIn wsX9_marksAt (wsV RX9 185 RX9 yX9_ofLeg wsX9_ofLeg) := goodIn_app (goodIn_of _ (by decide +kernel)) ggX9_marksAt_X9_ofLeg
set_option maxRecDepth 20000 in
theorem ggX9_marksAt_X9_in : GoodIn wsX9_marksAt wsX9_in := goodIn_r _ [9] (by decide +kernel) (by decide +kernel)
set_option maxRecDepth 20000 in
theorem gX9_marksAt_X9_in : GoodIn wsX9_marksAt (va_wsS RX9 63 yX9_in wsX9_in) := goodIn_app (goodIn_of _ (by decide +kernel)) ggX9_marksAt_X9_in
theorem dX9_marksAt_0 : decode cX9_marksAt 0 = .ok (.iconst 0, 1) := by decide +kernel
theorem dX9_marksAt_1 : decode cX9_marksAt 1 = .ok (.istore 4, 2) := by decide +kernel
theorem dX9_marksAt_3 : decode cX9_marksAt 3 = .ok (.iconst 0, 1) := by decide +kernel
theorem dX9_marksAt_4 : decode cX9_marksAt 4 = .ok (.istore 5, 2) := by decide +kernel
theorem dX9_marksAt_6 : decode cX9_marksAt 6 = .ok (.iload 5, 2) := by decide +kernel
theorem dX9_marksAt_8 : decode cX9_marksAt 8 = .ok (.aload_n 0, 1) := by decide +kernel
theorem dX9_marksAt_9 : decode cX9_marksAt 9 = .ok (.iload_n 1, 1) := by decide +kernel
theorem dX9_marksAt_10 : decode cX9_marksAt 10 = .ok (.bipush 6, 2) := by decide +kernel
theorem dX9_marksAt_12 : decode cX9_marksAt 12 = .ok (.invokevirtual 185, 3) := by decide +kernel
theorem dX9_marksAt_15 : decode cX9_marksAt 15 = .ok (.if_icmp .ge 64, 3) := by decide +kernel
theorem dX9_marksAt_18 : decode cX9_marksAt 18 = .ok (.bipush 7, 2) := by decide +kernel
theorem dX9_marksAt_20 : decode cX9_marksAt 20 = .ok (.iconst 3, 1) := by decide +kernel
theorem dX9_marksAt_21 : decode cX9_marksAt 21 = .ok (.iload 5, 2) := by decide +kernel
theorem dX9_marksAt_23 : decode cX9_marksAt 23 = .ok (.imul, 1) := by decide +kernel
theorem dX9_marksAt_24 : decode cX9_marksAt 24 = .ok (.iadd, 1) := by decide +kernel
theorem dX9_marksAt_25 : decode cX9_marksAt 25 = .ok (.istore 6, 2) := by decide +kernel
theorem dX9_marksAt_27 : decode cX9_marksAt 27 = .ok (.iload 4, 2) := by decide +kernel
theorem dX9_marksAt_29 : decode cX9_marksAt 29 = .ok (.aload_n 0, 1) := by decide +kernel
theorem dX9_marksAt_30 : decode cX9_marksAt 30 = .ok (.iload_n 1, 1) := by decide +kernel
theorem dX9_marksAt_31 : decode cX9_marksAt 31 = .ok (.iload 6, 2) := by decide +kernel
theorem dX9_marksAt_33 : decode cX9_marksAt 33 = .ok (.invokevirtual 185, 3) := by decide +kernel
theorem dX9_marksAt_36 : decode cX9_marksAt 36 = .ok (.iload_n 3, 1) := by decide +kernel
theorem dX9_marksAt_37 : decode cX9_marksAt 37 = .ok (.if_icmp .ne 32, 3) := by decide +kernel
theorem dX9_marksAt_40 : decode cX9_marksAt 40 = .ok (.iload_n 2, 1) := by decide +kernel
theorem dX9_marksAt_41 : decode cX9_marksAt 41 = .ok (.aload_n 0, 1) := by decide +kernel
theorem dX9_marksAt_42 : decode cX9_marksAt 42 = .ok (.iload_n 1, 1) := by decide +kernel
theorem dX9_marksAt_43 : decode cX9_marksAt 43 = .ok (.iload 6, 2) := by decide +kernel
theorem dX9_marksAt_45 : decode cX9_marksAt 45 = .ok (.iconst 1, 1) := by decide +kernel
theorem dX9_marksAt_46 : decode cX9_marksAt 46 = .ok (.iadd, 1) := by decide +kernel
theorem dX9_marksAt_47 : decode cX9_marksAt 47 = .ok (.invokevirtual 185, 3) := by decide +kernel
theorem dX9_marksAt_50 : decode cX9_marksAt 50 = .ok (.aload_n 0, 1) := by decide +kernel
theorem dX9_marksAt_51 : decode cX9_marksAt 51 = .ok (.iload_n 1, 1) := by decide +kernel
theorem dX9_marksAt_52 : decode cX9_marksAt 52 = .ok (.iload 6, 2) := by decide +kernel
theorem dX9_marksAt_54 : decode cX9_marksAt 54 = .ok (.iconst 2, 1) := by decide +kernel
theorem dX9_marksAt_55 : decode cX9_marksAt 55 = .ok (.iadd, 1) := by decide +kernel
theorem dX9_marksAt_56 : decode cX9_marksAt 56 = .ok (.invokevirtual 185, 3) := by decide +kernel
theorem dX9_marksAt_59 : decode cX9_marksAt 59 = .ok (.invokestatic 63, 3) := by decide +kernel
theorem dX9_marksAt_62 : decode cX9_marksAt 62 = .ok (.ifCond .eq 7, 3) := by decide +kernel
theorem dX9_marksAt_65 : decode cX9_marksAt 65 = .ok (.iconst 1, 1) := by decide +kernel
theorem dX9_marksAt_66 : decode cX9_marksAt 66 = .ok (.goto 4, 3) := by decide +kernel
theorem dX9_marksAt_69 : decode cX9_marksAt 69 = .ok (.iconst 0, 1) := by decide +kernel
theorem dX9_marksAt_70 : decode cX9_marksAt 70 = .ok (.iadd, 1) := by decide +kernel
theorem dX9_marksAt_71 : decode cX9_marksAt 71 = .ok (.istore 4, 2) := by decide +kernel
theorem dX9_marksAt_73 : decode cX9_marksAt 73 = .ok (.iinc 5 1, 3) := by decide +kernel
theorem dX9_marksAt_76 : decode cX9_marksAt 76 = .ok (.goto (-70), 3) := by decide +kernel
theorem dX9_marksAt_79 : decode cX9_marksAt 79 = .ok (.iload 4, 2) := by decide +kernel
theorem dX9_marksAt_81 : decode cX9_marksAt 81 = .ok (.ireturn, 1) := by decide +kernel
abbrev rmX9_marksAt : Room := { frames := 1, cells := 0, slots := 0, locals := 22 }
def vX9_marksAt_c6 (F : Nat → Int32) (J : Nat → Int64) (al : Nat → Int32) (p1 : Int32) (p2 : Int32) (p3 : Int32) (Q : Int32 → Prop) : Nat → Int32 → Int32 → Prop
  | 0, _, _ => False
  | n + 1, x4, x5 => (∃ (p_12 : Nat) (w_12 : Nat), preX9_ofLeg p_12 w_12 F J al p1 (6 : Int32) ∧ (∀ r_12 : Int32, postX9_ofLeg p_12 w_12 F J al p1 (6 : Int32) r_12 → ((r_12 ≤ x5 → (Q x4)) ∧ (¬ r_12 ≤ x5 → (∀ y_25 : Int32, y_25 = ((7 : Int32) + ((3 : Int32) * x5)) → (∃ (p_33 : Nat) (w_33 : Nat), preX9_ofLeg p_33 w_33 F J al p1 y_25 ∧ (∀ r_33 : Int32, postX9_ofLeg p_33 w_33 F J al p1 y_25 r_33 → ((¬ r_33 = p3 → (vX9_marksAt_c6 F J al p1 p2 p3 Q n (x4 + (0 : Int32)) (x5 + (1 : Int32)))) ∧ (r_33 = p3 → (∃ (p_47 : Nat) (w_47 : Nat), preX9_ofLeg p_47 w_47 F J al p1 (y_25 + (1 : Int32)) ∧ (∀ r_47 : Int32, postX9_ofLeg p_47 w_47 F J al p1 (y_25 + (1 : Int32)) r_47 → (∃ (p_56 : Nat) (w_56 : Nat), preX9_ofLeg p_56 w_56 F J al p1 (y_25 + (2 : Int32)) ∧ (∀ r_56 : Int32, postX9_ofLeg p_56 w_56 F J al p1 (y_25 + (2 : Int32)) r_56 → (preX9_in p2 r_47 r_56 ∧ (∀ r_59 : Int32, postX9_in p2 r_47 r_56 r_59 → ((r_59 = 0 → (vX9_marksAt_c6 F J al p1 p2 p3 Q n (x4 + (0 : Int32)) (x5 + (1 : Int32)))) ∧ (¬ r_59 = 0 → (vX9_marksAt_c6 F J al p1 p2 p3 Q n (x4 + (1 : Int32)) (x5 + (1 : Int32))))))))))))))))))))
set_option maxHeartbeats 4000000 in
set_option maxRecDepth 100000 in
theorem kX9_marksAt_c6 {p : Program} {l : Launch} {e : Env} {s : State} {m : MethodId} {args : Array Value} {below : List Frame} {meth : Method} {c : Code} {g : GP} {qM q1 q2 q3 q4 q5 q6 q7 q8 q9 q10 q11 : Nat} {F : Nat → Int32} {J : Nat → Int64} {al : Nat → Int32} {p1 : Int32} {p2 : Int32} {p3 : Int32} {Q : Int32 → Prop} (S : CallFix p m c cX9_marksAt 7 s args wsX9_marksAt RX9) (hr : meth.sig.returnType = (some .int)) (hlocks : meth.locks = false) (hG : GK g s) (hP : va_P g.1 vwCl [(qM, .inr (9, [.int (F 0), .ref q1, .ref q2, .ref q3, .int (F 4), .int (F 5), .int (F 6), .int (F 7), .int (F 8), .int (F 9), .long (J 10), .int (F 11), .int (F 12), .int (F 13), .ref q4, .int (F 15), .ref q5, .ref q6, .ref q7, .int (F 19), .ref q8, .int (F 21), .int (F 22), .int (F 23), .int (F 24), .ref q9, .ref q10, .ref q11, .long (J 28)])), (q1, .inl (g.2 0, 376, .inl al))] s.heap) : ∀ (n : Nat), ∀ (x4 : Int32) (x5 : Int32), vX9_marksAt_c6 F J al p1 p2 p3 Q n x4 x5 → ∀ (ls : Array Slot), lv_has ls 7 [(0, .ref qM), (1, .int p1), (2, .int p2), (3, .int p3), (4, .int x4), (5, .int x5)] → W p l e (headSpec wsX9_marksAt rmX9_marksAt).room s m args below meth c s.heap [] 0 0 (MQ below (vp_Si Q) args s 0 0 (fun _ => False)) (F0 m 6 ls []) := by
  obtain ⟨hx, hb, hml, hown, hts⟩ := id S
  have hK := hG.1
  intro n
  induction n with
  | zero => intro x4 x5 hv; exact hv.elim
  | succ n ih =>
    intro x4 x5 hv ls hl
    refine lv_iload hx hb dX9_marksAt_6 (lv_at hl 5 rfl) ?_
    refine lv_aload_n hx hb dX9_marksAt_8 rfl (lv_at hl 0 rfl) ?_
    refine lv_iload_n hx hb dX9_marksAt_9 rfl (lv_at hl 1 rfl) ?_
    refine lv_bipush (v := (6 : Int32)) hx hb dX9_marksAt_10 (by decide) ?_
    obtain ⟨p_12, w_12, ho_1, hv⟩ := hv
    refine vp_callSi (W.runV (As := [.int p1, .int (6 : Int32)]) (rest := [.int x5]) S (wX9_ofLeg l g qM q1 q2 q3 q4 q5 q6 q7 q8 q9 q10 q11 F J al p1 (6 : Int32) (sX9_ofLeg p_12 w_12 F J al p1 (6 : Int32) ho_1)) (cwV 2 hts gX9_marksAt_X9_ofLeg rfl rfl rfl (by decide +kernel) ⟨Nat.le_of_ble_eq_true rfl, Nat.le_of_ble_eq_true rfl⟩) ⟨blindRO, va_recv hK hP (ci := 9) (q0 := 0) rfl rfl, fun U hU hW => ⟨rfl, by rw [hU]; exact hP.sub (ws' := [(qM, .inr (9, [.int (F 0), .ref q1, .ref q2, .ref q3, .int (F 4), .int (F 5), .int (F 6), .int (F 7), .int (F 8), .int (F 9), .long (J 10), .int (F 11), .int (F 12), .int (F 13), .ref q4, .int (F 15), .ref q5, .ref q6, .ref q7, .int (F 19), .ref q8, .int (F 21), .int (F 22), .int (F 23), .int (F 24), .ref q9, .ref q10, .ref q11, .long (J 28)])), (q1, .inl (g.2 0, 376, .inl al))]) [0, 1] rfl, hG.warm hW⟩⟩ rfl rfl hl.1 rfl (lv_room (Nat.le_of_ble_eq_true rfl)) dX9_marksAt_12 ⟨Nat.le_of_ble_eq_true rfl, Nat.le_of_ble_eq_true rfl⟩) (fun r_12 hr_12 => ?_)
    have hv := hv r_12 hr_12
    obtain ⟨hvt, hvf⟩ := hv
    refine lv_icmp_ge (tgt := 79) hx hb dX9_marksAt_15 (by decide) (fun hc => ?_) (fun hc => ?_)
    · have hv := hvt hc
      refine lv_iload hx hb dX9_marksAt_79 (lv_at hl 4 rfl) ?_
      exact W.iret (v := x4) hx hb hr (fun t ht hW => ⟨_, rfl, hv, ht⟩) (fun _ h => by cases h) dX9_marksAt_81
    · have hv := hvf hc
      refine lv_bipush (v := (7 : Int32)) hx hb dX9_marksAt_18 (by decide) ?_
      refine lv_iconst (v := (3 : Int32)) hx hb dX9_marksAt_20 (by decide) ?_
      refine lv_iload hx hb dX9_marksAt_21 (lv_at hl 5 rfl) ?_
      refine lv_imul hx hb dX9_marksAt_23 ?_
      refine lv_iadd hx hb dX9_marksAt_24 ?_
      refine lv_topi (fun y_25 ey_25 => ?_)
      have hv := hv y_25 ey_25
      refine lv_istore (lv' := [(6, .int y_25), (0, .ref qM), (1, .int p1), (2, .int p2), (3, .int p3), (4, .int x4), (5, .int x5)]) hx hb dX9_marksAt_25 hl (by decide) rfl (fun ls hl => ?_)
      refine lv_iload hx hb dX9_marksAt_27 (lv_at hl 5 rfl) ?_
      refine lv_aload_n hx hb dX9_marksAt_29 rfl (lv_at hl 1 rfl) ?_
      refine lv_iload_n hx hb dX9_marksAt_30 rfl (lv_at hl 2 rfl) ?_
      refine lv_iload hx hb dX9_marksAt_31 (lv_at hl 0 rfl) ?_
      obtain ⟨p_33, w_33, ho_2, hv⟩ := hv
      refine vp_callSi (W.runV (As := [.int p1, .int y_25]) (rest := [.int x4]) S (wX9_ofLeg l g qM q1 q2 q3 q4 q5 q6 q7 q8 q9 q10 q11 F J al p1 y_25 (sX9_ofLeg p_33 w_33 F J al p1 y_25 ho_2)) (cwV 2 hts gX9_marksAt_X9_ofLeg rfl rfl rfl (by decide +kernel) ⟨Nat.le_of_ble_eq_true rfl, Nat.le_of_ble_eq_true rfl⟩) ⟨blindRO, va_recv hK hP (ci := 9) (q0 := 0) rfl rfl, fun U hU hW => ⟨rfl, by rw [hU]; exact hP.sub (ws' := [(qM, .inr (9, [.int (F 0), .ref q1, .ref q2, .ref q3, .int (F 4), .int (F 5), .int (F 6), .int (F 7), .int (F 8), .int (F 9), .long (J 10), .int (F 11), .int (F 12), .int (F 13), .ref q4, .int (F 15), .ref q5, .ref q6, .ref q7, .int (F 19), .ref q8, .int (F 21), .int (F 22), .int (F 23), .int (F 24), .ref q9, .ref q10, .ref q11, .long (J 28)])), (q1, .inl (g.2 0, 376, .inl al))]) [0, 1] rfl, hG.warm hW⟩⟩ rfl rfl hl.1 rfl (lv_room (Nat.le_of_ble_eq_true rfl)) dX9_marksAt_33 ⟨Nat.le_of_ble_eq_true rfl, Nat.le_of_ble_eq_true rfl⟩) (fun r_33 hr_33 => ?_)
      have hv := hv r_33 hr_33
      refine lv_iload_n hx hb dX9_marksAt_36 rfl (lv_at hl 4 rfl) ?_
      obtain ⟨hvt, hvf⟩ := hv
      refine lv_icmp_ne (tgt := 69) hx hb dX9_marksAt_37 (by decide) (fun hc => ?_) (fun hc => ?_)
      · have hv := hvt hc
        refine lv_iconst (v := (0 : Int32)) hx hb dX9_marksAt_69 (by decide) ?_
        refine lv_iadd hx hb dX9_marksAt_70 ?_
        refine lv_istore (lv' := [(4, .int (x4 + (0 : Int32))), (6, .int y_25), (0, .ref qM), (1, .int p1), (2, .int p2), (3, .int p3), (5, .int x5)]) hx hb dX9_marksAt_71 hl (by decide) rfl (fun ls hl => ?_)
        refine lv_iinc (v := (x5 + (1 : Int32))) (lv' := [(5, .int (x5 + (1 : Int32))), (4, .int (x4 + (0 : Int32))), (6, .int y_25), (0, .ref qM), (1, .int p1), (2, .int p2), (3, .int p3)]) hx hb dX9_marksAt_73 hl (k := 6) rfl rfl (by decide) rfl (fun ls hl => ?_)
        refine lv_goto (tgt := 6) hx hb dX9_marksAt_76 (by decide) ?_
        exact ih _ _ hv ls (lv_sub hl [3, 4, 5, 6, 1, 0] rfl)
      · have hv := hvf hc
        refine lv_iload_n hx hb dX9_marksAt_40 rfl (lv_at hl 3 rfl) ?_
        refine lv_aload_n hx hb dX9_marksAt_41 rfl (lv_at hl 1 rfl) ?_
        refine lv_iload_n hx hb dX9_marksAt_42 rfl (lv_at hl 2 rfl) ?_
        refine lv_iload hx hb dX9_marksAt_43 (lv_at hl 0 rfl) ?_
        refine lv_iconst (v := (1 : Int32)) hx hb dX9_marksAt_45 (by decide) ?_
        refine lv_iadd hx hb dX9_marksAt_46 ?_
        obtain ⟨p_47, w_47, ho_3, hv⟩ := hv
        refine vp_callSi (W.runV (As := [.int p1, .int (y_25 + (1 : Int32))]) (rest := [.int p2, .int x4]) S (wX9_ofLeg l g qM q1 q2 q3 q4 q5 q6 q7 q8 q9 q10 q11 F J al p1 (y_25 + (1 : Int32)) (sX9_ofLeg p_47 w_47 F J al p1 (y_25 + (1 : Int32)) ho_3)) (cwV 2 hts gX9_marksAt_X9_ofLeg rfl rfl rfl (by decide +kernel) ⟨Nat.le_of_ble_eq_true rfl, Nat.le_of_ble_eq_true rfl⟩) ⟨blindRO, va_recv hK hP (ci := 9) (q0 := 0) rfl rfl, fun U hU hW => ⟨rfl, by rw [hU]; exact hP.sub (ws' := [(qM, .inr (9, [.int (F 0), .ref q1, .ref q2, .ref q3, .int (F 4), .int (F 5), .int (F 6), .int (F 7), .int (F 8), .int (F 9), .long (J 10), .int (F 11), .int (F 12), .int (F 13), .ref q4, .int (F 15), .ref q5, .ref q6, .ref q7, .int (F 19), .ref q8, .int (F 21), .int (F 22), .int (F 23), .int (F 24), .ref q9, .ref q10, .ref q11, .long (J 28)])), (q1, .inl (g.2 0, 376, .inl al))]) [0, 1] rfl, hG.warm hW⟩⟩ rfl rfl hl.1 rfl (lv_room (Nat.le_of_ble_eq_true rfl)) dX9_marksAt_47 ⟨Nat.le_of_ble_eq_true rfl, Nat.le_of_ble_eq_true rfl⟩) (fun r_47 hr_47 => ?_)
        have hv := hv r_47 hr_47
        refine lv_aload_n hx hb dX9_marksAt_50 rfl (lv_at hl 1 rfl) ?_
        refine lv_iload_n hx hb dX9_marksAt_51 rfl (lv_at hl 2 rfl) ?_
        refine lv_iload hx hb dX9_marksAt_52 (lv_at hl 0 rfl) ?_
        refine lv_iconst (v := (2 : Int32)) hx hb dX9_marksAt_54 (by decide) ?_
        refine lv_iadd hx hb dX9_marksAt_55 ?_
        obtain ⟨p_56, w_56, ho_4, hv⟩ := hv
        refine vp_callSi (W.runV (As := [.int p1, .int (y_25 + (2 : Int32))]) (rest := [.int r_47, .int p2, .int x4]) S (wX9_ofLeg l g qM q1 q2 q3 q4 q5 q6 q7 q8 q9 q10 q11 F J al p1 (y_25 + (2 : Int32)) (sX9_ofLeg p_56 w_56 F J al p1 (y_25 + (2 : Int32)) ho_4)) (cwV 2 hts gX9_marksAt_X9_ofLeg rfl rfl rfl (by decide +kernel) ⟨Nat.le_of_ble_eq_true rfl, Nat.le_of_ble_eq_true rfl⟩) ⟨blindRO, va_recv hK hP (ci := 9) (q0 := 0) rfl rfl, fun U hU hW => ⟨rfl, by rw [hU]; exact hP.sub (ws' := [(qM, .inr (9, [.int (F 0), .ref q1, .ref q2, .ref q3, .int (F 4), .int (F 5), .int (F 6), .int (F 7), .int (F 8), .int (F 9), .long (J 10), .int (F 11), .int (F 12), .int (F 13), .ref q4, .int (F 15), .ref q5, .ref q6, .ref q7, .int (F 19), .ref q8, .int (F 21), .int (F 22), .int (F 23), .int (F 24), .ref q9, .ref q10, .ref q11, .long (J 28)])), (q1, .inl (g.2 0, 376, .inl al))]) [0, 1] rfl, hG.warm hW⟩⟩ rfl rfl hl.1 rfl (lv_room (Nat.le_of_ble_eq_true rfl)) dX9_marksAt_56 ⟨Nat.le_of_ble_eq_true rfl, Nat.le_of_ble_eq_true rfl⟩) (fun r_56 hr_56 => ?_)
        have hv := hv r_56 hr_56
        obtain ⟨ho_5, hv⟩ := hv
        refine vp_callSi (W.runS (As := [.int p2, .int r_47, .int r_56]) (rest := [.int x4]) S (wX9_in l g p2 r_47 r_56 (sX9_in p2 r_47 r_56 ho_5)) (va_cwS 3 hts gX9_marksAt_X9_in rfl rfl rfl (by decide +kernel) ⟨Nat.le_of_ble_eq_true rfl, Nat.le_of_ble_eq_true rfl⟩) ⟨blindRO, fun U hU hW => ⟨rfl, by rw [hU]; exact hP.sub (ws' := []) [] rfl, hG.warm hW⟩⟩ rfl rfl hl.1 rfl (lv_room (Nat.le_of_ble_eq_true rfl)) dX9_marksAt_59 ⟨Nat.le_of_ble_eq_true rfl, Nat.le_of_ble_eq_true rfl⟩) (fun r_59 hr_59 => ?_)
        have hv := hv r_59 hr_59
        obtain ⟨hvt, hvf⟩ := hv
        refine lv_if_eq (tgt := 69) hx hb dX9_marksAt_62 (by decide) (fun hc => ?_) (fun hc => ?_)
        · have hv := hvt hc
          refine lv_iconst (v := (0 : Int32)) hx hb dX9_marksAt_69 (by decide) ?_
          refine lv_iadd hx hb dX9_marksAt_70 ?_
          refine lv_istore (lv' := [(4, .int (x4 + (0 : Int32))), (6, .int y_25), (0, .ref qM), (1, .int p1), (2, .int p2), (3, .int p3), (5, .int x5)]) hx hb dX9_marksAt_71 hl (by decide) rfl (fun ls hl => ?_)
          refine lv_iinc (v := (x5 + (1 : Int32))) (lv' := [(5, .int (x5 + (1 : Int32))), (4, .int (x4 + (0 : Int32))), (6, .int y_25), (0, .ref qM), (1, .int p1), (2, .int p2), (3, .int p3)]) hx hb dX9_marksAt_73 hl (k := 6) rfl rfl (by decide) rfl (fun ls hl => ?_)
          refine lv_goto (tgt := 6) hx hb dX9_marksAt_76 (by decide) ?_
          exact ih _ _ hv ls (lv_sub hl [3, 4, 5, 6, 1, 0] rfl)
        · have hv := hvf hc
          refine lv_iconst (v := (1 : Int32)) hx hb dX9_marksAt_65 (by decide) ?_
          refine lv_goto (tgt := 70) hx hb dX9_marksAt_66 (by decide) ?_
          refine lv_iadd hx hb dX9_marksAt_70 ?_
          refine lv_istore (lv' := [(4, .int (x4 + (1 : Int32))), (6, .int y_25), (0, .ref qM), (1, .int p1), (2, .int p2), (3, .int p3), (5, .int x5)]) hx hb dX9_marksAt_71 hl (by decide) rfl (fun ls hl => ?_)
          refine lv_iinc (v := (x5 + (1 : Int32))) (lv' := [(5, .int (x5 + (1 : Int32))), (4, .int (x4 + (1 : Int32))), (6, .int y_25), (0, .ref qM), (1, .int p1), (2, .int p2), (3, .int p3)]) hx hb dX9_marksAt_73 hl (k := 6) rfl rfl (by decide) rfl (fun ls hl => ?_)
          refine lv_goto (tgt := 6) hx hb dX9_marksAt_76 (by decide) ?_
          exact ih _ _ hv ls (lv_sub hl [3, 4, 5, 6, 1, 0] rfl)
def vX9_marksAt (F : Nat → Int32) (J : Nat → Int64) (al : Nat → Int32) (p1 : Int32) (p2 : Int32) (p3 : Int32) (Q : Int32 → Prop) : Prop := (∃ nn, vX9_marksAt_c6 F J al p1 p2 p3 Q nn (0 : Int32) (0 : Int32))
set_option maxHeartbeats 4000000 in
set_option maxRecDepth 100000 in
theorem wX9_marksAt (l : Launch) (g : GP) (qM : Nat) (q1 : Nat) (q2 : Nat) (q3 : Nat) (q4 : Nat) (q5 : Nat) (q6 : Nat) (q7 : Nat) (q8 : Nat) (q9 : Nat) (q10 : Nat) (q11 : Nat) (F : Nat → Int32) (J : Nat → Int64) (al : Nat → Int32) (p1 : Int32) (p2 : Int32) (p3 : Int32) {Q : Int32 → Prop} (hv : vX9_marksAt F J al p1 p2 p3 Q) : Met l yX9_marksAt wsX9_marksAt rmX9_marksAt (va_Pc [.ref qM, .int p1, .int p2, .int p3] (fun U => va_P g.1 vwCl [(qM, .inr (9, [.int (F 0), .ref q1, .ref q2, .ref q3, .int (F 4), .int (F 5), .int (F 6), .int (F 7), .int (F 8), .int (F 9), .long (J 10), .int (F 11), .int (F 12), .int (F 13), .ref q4, .int (F 15), .ref q5, .ref q6, .ref q7, .int (F 19), .ref q8, .int (F 21), .int (F 22), .int (F 23), .int (F 24), .ref q9, .ref q10, .ref q11, .long (J 28)])), (q1, .inl (g.2 0, 376, .inl al))] U.heap ∧ GK g U)) (vp_Si Q) 0 0 (fun _ => False) := by
  refine Met.ofW (cc := cX9_marksAt) (maxL := 7) (ret := (some .int)) (by decide) rfl ?_
  intro p e s m args below meth c s₁ B hml hv'
  obtain ⟨rfl, hP, hG⟩ := hv'
  have S : CallFix p m c cX9_marksAt 7 s _ wsX9_marksAt RX9 := ⟨B.exec, B.bytes, hml, findClass_of_methodNamed B.named, atoms_spec (ws := wsX9_marksAt) B.pre⟩
  obtain ⟨hx, hb, hml, hown, hts⟩ := id S
  have hK := hG.1
  have hr := B.returns
  have hlocks := B.notSynchronized
  have hl := lv_entry ([.ref qM, .int p1, .int p2, .int p3]) (n := 7) (Nat.le_of_ble_eq_true rfl)
  rw [lg_entry_eq]
  generalize (lg_sl ([.ref qM, .int p1, .int p2, .int p3]) ++ List.replicate (7 - (lg_sl ([.ref qM, .int p1, .int p2, .int p3])).length) Slot.unset).toArray = ls at hl ⊢
  have hl : lv_has ls 7 [(0, .ref qM), (1, .int p1), (2, .int p2), (3, .int p3)] := hl
  unfold vX9_marksAt at hv
  refine lv_iconst (v := (0 : Int32)) hx hb dX9_marksAt_0 (by decide) ?_
  refine lv_istore (lv' := [(4, .int (0 : Int32)), (0, .ref qM), (1, .int p1), (2, .int p2), (3, .int p3)]) hx hb dX9_marksAt_1 hl (by decide) rfl (fun ls hl => ?_)
  refine lv_iconst (v := (0 : Int32)) hx hb dX9_marksAt_3 (by decide) ?_
  refine lv_istore (lv' := [(5, .int (0 : Int32)), (4, .int (0 : Int32)), (0, .ref qM), (1, .int p1), (2, .int p2), (3, .int p3)]) hx hb dX9_marksAt_4 hl (by decide) rfl (fun ls hl => ?_)
  obtain ⟨nn, hv⟩ := hv
  exact kX9_marksAt_c6 S hr hlocks hG hP nn _ _ hv ls (lv_sub hl [2, 3, 4, 5, 1, 0] rfl)
abbrev preX9_marksAt (G : Lg) (l i k : Nat) (_ : Nat → Int32) (_ : Nat → Int64) (al : Nat → Int32) (p1 p2 p3 : Int32) : Prop := mG G l al ∧ l < 2 ∧ p1.toInt = (l : Int) ∧ p2.toInt = (i : Int) ∧ p3.toInt = (k : Int)
abbrev postX9_marksAt (G : Lg) (_ i k : Nat) (_ : Nat → Int32) (_ : Nat → Int64) (_ : Nat → Int32) (_ _ _ r : Int32) : Prop := r.toInt = ((mkC G i k (gm G) : Nat) : Int)
theorem sX9_marksAt_1 (G : Lg) (l i k : Nat) (F : Nat → Int32) (J : Nat → Int64) (al : Nat → Int32) (p1 p2 p3 : Int32) (h : preX9_marksAt G l i k F J al p1 p2 p3) : ∀ (n j : Nat) (x4 x5 : Int32), x4.toInt = ((mkC G i k j : Nat) : Int) → x5.toInt = (j : Int) → j ≤ gm G → gm G + 1 ≤ j + n → vX9_marksAt_c6 F J al p1 p2 p3 (postX9_marksAt G l i k F J al p1 p2 p3) n x4 x5
  | 0, j, x4, x5, _, _, hi, hn => absurd hn (by omega)
  | n + 1, j, x4, x5, h4, h5, hj, hn => by
    obtain ⟨hG, hl, h1, h2, h3⟩ := id h
    have hm := mG_mk hG
    have hle := mkC_le G i k j
    rw [vX9_marksAt_c6]
    refine ⟨l, 6, ⟨h1, rfl, by omega⟩, fun r hr => ?_⟩
    have hr : r = al (20 + 37 * l + 6) := hr
    rw [hr, q_le hm.1 h5]
    refine ⟨fun hc => ?_, fun hc => ?_⟩
    · have : j = gm G := by omega
      subst this
      exact h4
    · have hat := mG_at hG (j := j) (by omega)
      have h5s := q_1 h5 (by omega)
      intro y hy
      have e7 : y.toInt = ((7 + 3 * j : Nat) : Int) := by rw [hy]; exact q_7 h5 (by omega)
      have no : ¬ (gk G j = k ∧ gf G j ≤ i ∧ i ≤ gl G j) → vX9_marksAt_c6 F J al p1 p2 p3 (postX9_marksAt G l i k F J al p1 p2 p3) n (x4 + (0 : Int32)) (x5 + (1 : Int32)) := fun hno => by
        refine sX9_marksAt_1 G l i k F J al p1 p2 p3 h n (j + 1) _ _ ?_ h5s (by omega) (by omega)
        rw [mkC, if_neg hno]
        exact q_addN h4 z0 (b := 0) (by omega)
      refine ⟨l, 7 + 3 * j, ⟨h1, e7, by omega⟩, fun r2 hr2 => ?_⟩
      have hr2 : r2 = al (20 + 37 * l + (7 + 3 * j)) := hr2
      rw [hr2, q_eq hat.1 h3]
      refine ⟨fun hq => no (by omega), fun hq => ⟨l, 7 + 3 * j + 1, ⟨h1, q_addN e7 z1 (b := 1) (by omega), by omega⟩, fun r3 hr3 => ⟨l, 7 + 3 * j + 2, ⟨h1, q_addN e7 z2 (b := 2) (by omega), by omega⟩, fun r4 hr4 => ⟨trivial, fun r5 hr5 => ?_⟩⟩⟩⟩
      have hr3 : r3.toInt = (gf G j : Int) := by rw [hr3]; exact hat.2.1
      have hr4 : r4.toInt = (gl G j : Int) := by rw [hr4]; exact hat.2.2
      have hr5 : r5 = if r3.toInt ≤ p2.toInt ∧ p2.toInt ≤ r4.toInt then 1 else 0 := hr5
      rw [hr3, hr4, h2] at hr5
      refine ⟨fun hz => no (fun q => ?_), fun hz => ?_⟩
      · rw [if_pos (by omega)] at hr5
        rw [hr5] at hz
        exact absurd hz (by decide)
      · have hin : (gf G j : Int) ≤ (i : Int) ∧ (i : Int) ≤ (gl G j : Int) := by
          by_cases q : (gf G j : Int) ≤ (i : Int) ∧ (i : Int) ≤ (gl G j : Int)
          · exact q
          · rw [if_neg q] at hr5; exact absurd hr5 hz
        refine sX9_marksAt_1 G l i k F J al p1 p2 p3 h n (j + 1) _ _ ?_ h5s (by omega) (by omega)
        rw [mkC, if_pos (by omega)]
        exact q_addN h4 z1 (b := 1) (by omega)
theorem sX9_marksAt (G : Lg) (l i k : Nat) (F : Nat → Int32) (J : Nat → Int64) (al : Nat → Int32) (p1 p2 p3 : Int32) (h : preX9_marksAt G l i k F J al p1 p2 p3) : vX9_marksAt F J al p1 p2 p3 (postX9_marksAt G l i k F J al p1 p2 p3) :=
  ⟨gm G + 1, sX9_marksAt_1 G l i k F J al p1 p2 p3 h (gm G + 1) 0 0 0 rfl rfl (by omega) (by omega)⟩
set_option maxRecDepth 20000 in
theorem ggX9_sentAt_X9_chipAt : GoodIn wsX9_sentAt wsX9_chipAt := goodIn_r _ [6, 7, 8, 9, 10, 5, 11, 12, 13, 14, 15, 16, 17, 18, 19, 20, 21, 22, 23, 24, 25, 26, 27, 28, 29, 30, 31, 32, 33, 34, 35, 36, 37, 38, 39, 40, 41, 42, 43, 44, 45, 46, 47, 48, 49, 50] (by decide +kernel) (by decide +kernel)
set_option maxRecDepth 20000 in
theorem gX9_sentAt_X9_chipAt : GoodIn wsX9_sentAt (wsV RX9 229 RX9 yX9_chipAt wsX9_chipAt) := goodIn_app (goodIn_of _ (by decide +kernel)) ggX9_sentAt_X9_chipAt
theorem dX9_sentAt_0 : decode cX9_sentAt 0 = .ok (.iload_n 1, 1) := by decide +kernel
theorem dX9_sentAt_1 : decode cX9_sentAt 1 = .ok (.ifCond .ne 11, 3) := by decide +kernel
theorem dX9_sentAt_4 : decode cX9_sentAt 4 = .ok (.aload_n 0, 1) := by decide +kernel
theorem dX9_sentAt_5 : decode cX9_sentAt 5 = .ok (.iload_n 2, 1) := by decide +kernel
theorem dX9_sentAt_6 : decode cX9_sentAt 6 = .ok (.invokevirtual 229, 3) := by decide +kernel
theorem dX9_sentAt_9 : decode cX9_sentAt 9 = .ok (.goto 29, 3) := by decide +kernel
theorem dX9_sentAt_12 : decode cX9_sentAt 12 = .ok (.aload_n 0, 1) := by decide +kernel
theorem dX9_sentAt_13 : decode cX9_sentAt 13 = .ok (.getfield 235, 3) := by decide +kernel
theorem dX9_sentAt_16 : decode cX9_sentAt 16 = .ok (.iconst (-1), 1) := by decide +kernel
theorem dX9_sentAt_17 : decode cX9_sentAt 17 = .ok (.if_icmp .ne 11, 3) := by decide +kernel
theorem dX9_sentAt_20 : decode cX9_sentAt 20 = .ok (.aload_n 0, 1) := by decide +kernel
theorem dX9_sentAt_21 : decode cX9_sentAt 21 = .ok (.iconst 0, 1) := by decide +kernel
theorem dX9_sentAt_22 : decode cX9_sentAt 22 = .ok (.invokevirtual 229, 3) := by decide +kernel
theorem dX9_sentAt_25 : decode cX9_sentAt 25 = .ok (.goto 13, 3) := by decide +kernel
theorem dX9_sentAt_28 : decode cX9_sentAt 28 = .ok (.aload_n 0, 1) := by decide +kernel
theorem dX9_sentAt_29 : decode cX9_sentAt 29 = .ok (.iload_n 2, 1) := by decide +kernel
theorem dX9_sentAt_30 : decode cX9_sentAt 30 = .ok (.aload_n 0, 1) := by decide +kernel
theorem dX9_sentAt_31 : decode cX9_sentAt 31 = .ok (.getfield 235, 3) := by decide +kernel
theorem dX9_sentAt_34 : decode cX9_sentAt 34 = .ok (.isub, 1) := by decide +kernel
theorem dX9_sentAt_35 : decode cX9_sentAt 35 = .ok (.invokevirtual 229, 3) := by decide +kernel
theorem dX9_sentAt_38 : decode cX9_sentAt 38 = .ok (.ireturn, 1) := by decide +kernel
abbrev rmX9_sentAt : Room := { frames := 3, cells := 0, slots := 0, locals := 67 }
theorem inX9_sentAt_9 : ∀ w ∈ wsX90, w ∈ wsX9_sentAt := by decide +kernel
def vX9_sentAt (F : Nat → Int32) (J : Nat → Int64) (al : Nat → Int32) (p1 : Int32) (p2 : Int32) (Q : Int32 → Prop) : Prop := ((¬ p1 = 0 → ((¬ (F 19) = (-1 : Int32) → (∃ (T_35 : Cd), preX9_chipAt T_35 F J al (p2 - (F 19)) ∧ (∀ r_35 : Int32, postX9_chipAt T_35 F J al (p2 - (F 19)) r_35 → (narrow .boolean (.int r_35) = .int r_35 ∧ Q r_35)))) ∧ ((F 19) = (-1 : Int32) → (∃ (T_22 : Cd), preX9_chipAt T_22 F J al (0 : Int32) ∧ (∀ r_22 : Int32, postX9_chipAt T_22 F J al (0 : Int32) r_22 → (narrow .boolean (.int r_22) = .int r_22 ∧ Q r_22)))))) ∧ (p1 = 0 → (∃ (T_6 : Cd), preX9_chipAt T_6 F J al p2 ∧ (∀ r_6 : Int32, postX9_chipAt T_6 F J al p2 r_6 → (narrow .boolean (.int r_6) = .int r_6 ∧ Q r_6)))))
set_option maxHeartbeats 4000000 in
set_option maxRecDepth 100000 in
theorem wX9_sentAt (l : Launch) (g : GP) (qM : Nat) (q1 : Nat) (q2 : Nat) (q3 : Nat) (q4 : Nat) (q5 : Nat) (q6 : Nat) (q7 : Nat) (q8 : Nat) (q9 : Nat) (q10 : Nat) (q11 : Nat) (F : Nat → Int32) (J : Nat → Int64) (al : Nat → Int32) (p1 : Int32) (p2 : Int32) {Q : Int32 → Prop} (hv : vX9_sentAt F J al p1 p2 Q) : Met l yX9_sentAt wsX9_sentAt rmX9_sentAt (va_Pc [.ref qM, .int p1, .int p2] (fun U => va_P g.1 vwCl [(qM, .inr (9, [.int (F 0), .ref q1, .ref q2, .ref q3, .int (F 4), .int (F 5), .int (F 6), .int (F 7), .int (F 8), .int (F 9), .long (J 10), .int (F 11), .int (F 12), .int (F 13), .ref q4, .int (F 15), .ref q5, .ref q6, .ref q7, .int (F 19), .ref q8, .int (F 21), .int (F 22), .int (F 23), .int (F 24), .ref q9, .ref q10, .ref q11, .long (J 28)])), (q1, .inl (g.2 0, 376, .inl al))] U.heap ∧ GK g U)) (vp_Si Q) 0 0 (fun _ => False) := by
  refine Met.ofW (cc := cX9_sentAt) (maxL := 3) (ret := (some .boolean)) (by decide) rfl ?_
  intro p e s m args below meth c s₁ B hml hv'
  obtain ⟨rfl, hP, hG⟩ := hv'
  have S : CallFix p m c cX9_sentAt 3 s _ wsX9_sentAt RX9 := ⟨B.exec, B.bytes, hml, findClass_of_methodNamed B.named, atoms_spec (ws := wsX9_sentAt) B.pre⟩
  obtain ⟨hx, hb, hml, hown, hts⟩ := id S
  have hK := hG.1
  have hr := B.returns
  have hlocks := B.notSynchronized
  have hl := lv_entry ([.ref qM, .int p1, .int p2]) (n := 3) (Nat.le_of_ble_eq_true rfl)
  rw [lg_entry_eq]
  generalize (lg_sl ([.ref qM, .int p1, .int p2]) ++ List.replicate (3 - (lg_sl ([.ref qM, .int p1, .int p2])).length) Slot.unset).toArray = ls at hl ⊢
  have hl : lv_has ls 3 [(0, .ref qM), (1, .int p1), (2, .int p2)] := hl
  unfold vX9_sentAt at hv
  refine lv_iload_n hx hb dX9_sentAt_0 rfl (lv_at hl 1 rfl) ?_
  obtain ⟨hvt, hvf⟩ := hv
  refine lv_if_ne (tgt := 12) hx hb dX9_sentAt_1 (by decide) (fun hc => ?_) (fun hc => ?_)
  · have hv := hvt hc
    refine lv_aload_n hx hb dX9_sentAt_12 rfl (lv_at hl 0 rfl) ?_
    refine va_get (D := g.1) (ci := 9) (v := .int (F 19)) (C := RX9) (T := TX9) (N := 29) hx hb hts inX9_sentAt_9 hown hK hP 0 rfl rfl 19 (by decide) (hts (.fieldLink RX9 235 "RangeCodesModel" "late" "I") (List.mem_of_getElem? (i := 1) rfl)) (fun _ h9 => h9) rfl dX9_sentAt_13 ?_
    refine lv_iconst (v := (-1 : Int32)) hx hb dX9_sentAt_16 (by decide) ?_
    obtain ⟨hvt, hvf⟩ := hv
    refine lv_icmp_ne (tgt := 28) hx hb dX9_sentAt_17 (by decide) (fun hc => ?_) (fun hc => ?_)
    · have hv := hvt hc
      refine lv_aload_n hx hb dX9_sentAt_28 rfl (lv_at hl 0 rfl) ?_
      refine lv_iload_n hx hb dX9_sentAt_29 rfl (lv_at hl 2 rfl) ?_
      refine lv_aload_n hx hb dX9_sentAt_30 rfl (lv_at hl 0 rfl) ?_
      refine va_get (D := g.1) (ci := 9) (v := .int (F 19)) (C := RX9) (T := TX9) (N := 29) hx hb hts inX9_sentAt_9 hown hK hP 0 rfl rfl 19 (by decide) (hts (.fieldLink RX9 235 "RangeCodesModel" "late" "I") (List.mem_of_getElem? (i := 1) rfl)) (fun _ h9 => h9) rfl dX9_sentAt_31 ?_
      refine lv_isub hx hb dX9_sentAt_34 ?_
      obtain ⟨T_35, ho_1, hv⟩ := hv
      refine vp_callSi (W.runV (As := [.int (p2 - (F 19))]) (rest := []) S (wX9_chipAt l g qM q1 q2 q3 q4 q5 q6 q7 q8 q9 q10 q11 F J al (p2 - (F 19)) (sX9_chipAt T_35 F J al (p2 - (F 19)) ho_1)) (cwV 1 hts gX9_sentAt_X9_chipAt rfl rfl rfl (by decide +kernel) ⟨Nat.le_of_ble_eq_true rfl, Nat.le_of_ble_eq_true rfl⟩) ⟨blindRO, va_recv hK hP (ci := 9) (q0 := 0) rfl rfl, fun U hU hW => ⟨rfl, by rw [hU]; exact hP.sub (ws' := [(qM, .inr (9, [.int (F 0), .ref q1, .ref q2, .ref q3, .int (F 4), .int (F 5), .int (F 6), .int (F 7), .int (F 8), .int (F 9), .long (J 10), .int (F 11), .int (F 12), .int (F 13), .ref q4, .int (F 15), .ref q5, .ref q6, .ref q7, .int (F 19), .ref q8, .int (F 21), .int (F 22), .int (F 23), .int (F 24), .ref q9, .ref q10, .ref q11, .long (J 28)])), (q1, .inl (g.2 0, 376, .inl al))]) [0, 1] rfl, hG.warm hW⟩⟩ rfl rfl hl.1 rfl (lv_room (Nat.le_of_ble_eq_true rfl)) dX9_sentAt_35 ⟨Nat.le_of_ble_eq_true rfl, Nat.le_of_ble_eq_true rfl⟩) (fun r_35 hr_35 => ?_)
      have hv := hv r_35 hr_35
      obtain ⟨hn, hv⟩ := hv
      exact W.zret (v := r_35) (ty := .boolean) hx hb hr hn (fun t ht hW => ⟨_, rfl, hv, ht⟩) (fun _ h => by cases h) dX9_sentAt_38
    · have hv := hvf hc
      refine lv_aload_n hx hb dX9_sentAt_20 rfl (lv_at hl 0 rfl) ?_
      refine lv_iconst (v := (0 : Int32)) hx hb dX9_sentAt_21 (by decide) ?_
      obtain ⟨T_22, ho_2, hv⟩ := hv
      refine vp_callSi (W.runV (As := [.int (0 : Int32)]) (rest := []) S (wX9_chipAt l g qM q1 q2 q3 q4 q5 q6 q7 q8 q9 q10 q11 F J al (0 : Int32) (sX9_chipAt T_22 F J al (0 : Int32) ho_2)) (cwV 1 hts gX9_sentAt_X9_chipAt rfl rfl rfl (by decide +kernel) ⟨Nat.le_of_ble_eq_true rfl, Nat.le_of_ble_eq_true rfl⟩) ⟨blindRO, va_recv hK hP (ci := 9) (q0 := 0) rfl rfl, fun U hU hW => ⟨rfl, by rw [hU]; exact hP.sub (ws' := [(qM, .inr (9, [.int (F 0), .ref q1, .ref q2, .ref q3, .int (F 4), .int (F 5), .int (F 6), .int (F 7), .int (F 8), .int (F 9), .long (J 10), .int (F 11), .int (F 12), .int (F 13), .ref q4, .int (F 15), .ref q5, .ref q6, .ref q7, .int (F 19), .ref q8, .int (F 21), .int (F 22), .int (F 23), .int (F 24), .ref q9, .ref q10, .ref q11, .long (J 28)])), (q1, .inl (g.2 0, 376, .inl al))]) [0, 1] rfl, hG.warm hW⟩⟩ rfl rfl hl.1 rfl (lv_room (Nat.le_of_ble_eq_true rfl)) dX9_sentAt_22 ⟨Nat.le_of_ble_eq_true rfl, Nat.le_of_ble_eq_true rfl⟩) (fun r_22 hr_22 => ?_)
      have hv := hv r_22 hr_22
      refine lv_goto (tgt := 38) hx hb dX9_sentAt_25 (by decide) ?_
      obtain ⟨hn, hv⟩ := hv
      exact W.zret (v := r_22) (ty := .boolean) hx hb hr hn (fun t ht hW => ⟨_, rfl, hv, ht⟩) (fun _ h => by cases h) dX9_sentAt_38
  · have hv := hvf hc
    refine lv_aload_n hx hb dX9_sentAt_4 rfl (lv_at hl 0 rfl) ?_
    refine lv_iload_n hx hb dX9_sentAt_5 rfl (lv_at hl 2 rfl) ?_
    obtain ⟨T_6, ho_3, hv⟩ := hv
    refine vp_callSi (W.runV (As := [.int p2]) (rest := []) S (wX9_chipAt l g qM q1 q2 q3 q4 q5 q6 q7 q8 q9 q10 q11 F J al p2 (sX9_chipAt T_6 F J al p2 ho_3)) (cwV 1 hts gX9_sentAt_X9_chipAt rfl rfl rfl (by decide +kernel) ⟨Nat.le_of_ble_eq_true rfl, Nat.le_of_ble_eq_true rfl⟩) ⟨blindRO, va_recv hK hP (ci := 9) (q0 := 0) rfl rfl, fun U hU hW => ⟨rfl, by rw [hU]; exact hP.sub (ws' := [(qM, .inr (9, [.int (F 0), .ref q1, .ref q2, .ref q3, .int (F 4), .int (F 5), .int (F 6), .int (F 7), .int (F 8), .int (F 9), .long (J 10), .int (F 11), .int (F 12), .int (F 13), .ref q4, .int (F 15), .ref q5, .ref q6, .ref q7, .int (F 19), .ref q8, .int (F 21), .int (F 22), .int (F 23), .int (F 24), .ref q9, .ref q10, .ref q11, .long (J 28)])), (q1, .inl (g.2 0, 376, .inl al))]) [0, 1] rfl, hG.warm hW⟩⟩ rfl rfl hl.1 rfl (lv_room (Nat.le_of_ble_eq_true rfl)) dX9_sentAt_6 ⟨Nat.le_of_ble_eq_true rfl, Nat.le_of_ble_eq_true rfl⟩) (fun r_6 hr_6 => ?_)
    have hv := hv r_6 hr_6
    refine lv_goto (tgt := 38) hx hb dX9_sentAt_9 (by decide) ?_
    obtain ⟨hn, hv⟩ := hv
    exact W.zret (v := r_6) (ty := .boolean) hx hb hr hn (fun t ht hW => ⟨_, rfl, hv, ht⟩) (fun _ h => by cases h) dX9_sentAt_38
def ltOf (l : Nat) (lt : Option Nat) (x : Int32) : Prop := (l = 0 ∧ lt = some 0) ∨ (l = 1 ∧ isLt lt x)
abbrev preX9_sentAt (T : Cd) (lt : Option Nat) (F : Nat → Int32) (_ : Nat → Int64) (al : Nat → Int32) (p1 p2 : Int32) : Prop := mT T al ∧ ((p1.toInt = 0 ∧ lt = some 0) ∨ (p1.toInt = 1 ∧ isLt lt (F 19))) ∧ -1000000 ≤ p2.toInt ∧ p2.toInt ≤ 1000000
abbrev postX9_sentAt (T : Cd) (lt : Option Nat) (_ : Nat → Int32) (_ : Nat → Int64) (_ : Nat → Int32) (_ p2 r : Int32) : Prop := r = if snB T lt p2.toInt then 1 else 0
theorem sX9_sentAt (T : Cd) (lt : Option Nat) (F : Nat → Int32) (J : Nat → Int64) (al : Nat → Int32) (p1 p2 : Int32) (h : preX9_sentAt T lt F J al p1 p2) : vX9_sentAt F J al p1 p2 (postX9_sentAt T lt F J al p1 p2) := by
  obtain ⟨hT, hl, hb1, hb2⟩ := h
  unfold vX9_sentAt
  rw [fa_eq p1, z0]
  refine ⟨fun hz => ?_, fun hz => ⟨T, hT, fun r hr => ?_⟩⟩
  · have hl2 : isLt lt (F 19) := by
      rcases hl with q | q
      · exact absurd q.1 hz
      · exact q.2
    rw [fa_eq (F 19), zm1]
    cases lt with
    | none =>
      have hl2 : (F 19).toInt = -1 := hl2
      refine ⟨fun q => absurd hl2 q, fun q => ⟨T, hT, fun r hr => ?_⟩⟩
      rw [hr]
      exact ⟨q_narB _, rfl⟩
    | some d =>
      have hl2 : (F 19).toInt = (d : Int) ∧ d ≤ 100000 := hl2
      refine ⟨fun q => ⟨T, hT, fun r hr => ?_⟩, fun q => absurd q (by omega)⟩
      have e : (p2 - (F 19)).toInt = p2.toInt - (d : Int) := q_sub rfl hl2.1 (by omega) (by omega)
      have hr : r = if coB T (p2 - (F 19)).toInt then 1 else 0 := hr
      rw [e] at hr
      rw [hr]
      exact ⟨q_narB _, rfl⟩
  · have hl2 : lt = some 0 := by
      rcases hl with q | q
      · exact q.2
      · exact absurd q.1 (by omega)
    subst hl2
    have e : snB T (some 0) p2.toInt = coB T p2.toInt := by
      show coB T (p2.toInt - ((0 : Nat) : Int)) = _
      congr 1
      omega
    have hr : r = if coB T p2.toInt then 1 else 0 := hr
    rw [hr]
    refine ⟨q_narB _, ?_⟩
    show _ = _
    rw [e]
