theorem yS_bit (R : Cd) (t k : Nat) : (yS R (2 ^ cn R - 1) t).testBit k = (decide (k < cn R) && chB R k (t : Int)) := by
  unfold yS
  rw [trN_bit, Nat.testBit_two_pow_sub_one]
  cases decide (k < cn R) <;> simp
theorem yS_low {R T : Cd} {n t : Nat} (hn : n ≤ cn R) (h : ∀ k, k < n → chB R k (t : Int) = chB T k (t : Int)) : yS R (2 ^ cn R - 1) t % 2 ^ n = chS T (t : Int) n := by
  apply Nat.eq_of_testBit_eq
  intro i
  rw [Nat.testBit_mod_two_pow, yS_bit, chS_bit]
  by_cases c : i < n
  · simp [c, show i < cn R by omega, h i c]
  · simp [c]
theorem fu_gen {T R : Cd} {P r0 q : Nat} {pt pl : Int} (hP : P = lcS T (2 ^ cn T - 1) (cn T)) (h1 : ∀ t : Nat, yS R (2 ^ cn R - 1) t % 2 ^ cn T = chS T (t : Int) (cn T)) (h2 : ∀ t : Nat, (yS R (2 ^ cn R - 1) t).testBit r0 = chB T q ((t : Int) - (if (q : Int) = pt then pl else 0))) : fuN (cn T) P (yS R (2 ^ cn R - 1)) (elB T) r0 = spFZ T pt pl q := by
  rw [hP]
  unfold fuN spFZ
  refine smZ_cong (fun t _ => ?_)
  unfold sgE fsT coB
  rw [h1 t, h2 t]
  by_cases e : elB T (chS T (t : Int) (cn T)) = chB T q ((t : Int) - (if (q : Int) = pt then pl else 0))
  · rw [if_pos e, if_pos e.symm]
  · rw [if_neg e, if_neg (fun z => e z.symm)]
theorem lcS_bits (T : Cd) {s s' : Nat} : ∀ m, (∀ k, k < m → s.testBit k = s'.testBit k) → lcS T s m = lcS T s' m
  | 0, _ => rfl
  | m + 1, h => by rw [lcS, lcS, lcS_bits T m (fun k hk => h k (by omega)), h m (by omega)]
theorem lcS_adR (T : Cd) (l b s : Nat) : ∀ k, k ≤ cn T → lcS (adR T l b) s k = lcS T s k
  | 0, _ => rfl
  | k + 1, hk => by
    have e : cL (adR T l b) k = cL T k := if_neg (by omega)
    rw [lcS, lcS, lcS_adR T l b s k (by omega), e]
theorem lcS_ad1 (T : Cd) (p b : Nat) (hp : p < cn T) : lcS (adR T (cL T p) b) (2 ^ cn (adR T (cL T p) b) - 1) (cn (adR T (cL T p) b)) = lcS T (2 ^ cn T - 1) (cn T) := by
  have e1 : cn (adR T (cL T p) b) = cn T + 1 := rfl
  have e2 : cL (adR T (cL T p) b) (cn T) = cL T p := if_pos rfl
  rw [e1, lcS, if_pos (by rw [Nat.testBit_two_pow_sub_one]; simp), e2, lcS_adR T _ _ _ _ (Nat.le_refl _)]
  rw [lcS_bits T (s := 2 ^ (cn T + 1) - 1) (s' := 2 ^ cn T - 1) (cn T) (fun k hk => by
    rw [Nat.testBit_two_pow_sub_one, Nat.testBit_two_pow_sub_one, decide_eq_true hk, decide_eq_true (by omega)])]
  exact Nat.lcm_eq_left (lcS_in _ _ _ hp (by rw [Nat.testBit_two_pow_sub_one]; exact decide_eq_true hp))
theorem tr_mod {t L pl : Nat} (hL : 0 < L) (hp : pl < L) : (((t : Int) - (pl : Int)) % (L : Int)).toNat = (t % L + L - pl) % L := by
  have h1 := Nat.div_add_mod t L
  have hm := Nat.mod_lt t hL
  have e : ((t % L + L - pl : Nat) : Int) = ((t : Int) - (pl : Int)) + (L : Int) * (1 - ((t / L : Nat) : Int)) := by
    have h2 : (t : Int) = (L : Int) * ((t / L : Nat) : Int) + ((t % L : Nat) : Int) := by
      rw [← Int.natCast_mul, ← Int.natCast_add, h1]
    rw [Int.mul_sub, Int.mul_one]
    omega
  have e2 : (((t % L + L - pl) % L : Nat) : Int) = ((t : Int) - (pl : Int)) % (L : Int) := by
    rw [Int.natCast_emod, e, Int.add_mul_emod_self_left]
  omega
theorem chB_adR {T : Cd} {l b k : Nat} (hk : k < cn T) (z : Int) : chB (adR T l b) k z = chB T k z := by
  have e1 : cL (adR T l b) k = cL T k := if_neg (by omega)
  have e2 : cR (adR T l b) k = cR T k := if_neg (by omega)
  unfold chB
  rw [e1, e2]
theorem chB_adn {T : Cd} {p pl : Nat} (hL : 0 < cL T p) (hpl : pl < cL T p) (t : Nat) : chB (adR T (cL T p) (trX (cR T p) (cL T p) pl)) (cn T) (t : Int) = chB T p ((t : Int) - (pl : Int)) := by
  have e1 : cL (adR T (cL T p) (trX (cR T p) (cL T p) pl)) (cn T) = cL T p := if_pos rfl
  have e2 : cR (adR T (cL T p) (trX (cR T p) (cL T p) pl)) (cn T) = trX (cR T p) (cL T p) pl := if_pos rfl
  rw [chB_n, e1, e2]
  unfold chB trX
  rw [trN_bit, tr_mod hL hpl, decide_eq_true (Nat.mod_lt t hL)]
  rfl
theorem lsf_be {T : Cd} {p v : Nat} (hn1 : 1 ≤ cn T) : lsZ (fuN (cn T) (lcS T (2 ^ cn T - 1) (cn T)) (yS T (2 ^ cn T - 1)) (elB (wV T p v))) (cn T) = beF T p v := by
  refine lsZ_cong hn1 (fun q hq => ?_) (cn T) (Nat.le_refl _)
  refine fu_gen (T := wV T p v) (R := T) (lcS_wV T p v _ _).symm (fun t => yS_low (T := wV T p v) (Nat.le_refl _) (fun k _ => rfl)) (fun t => ?_)
  rw [yS_bit, decide_eq_true hq, if_neg (by omega), Int.sub_zero]
  rfl
set_option maxRecDepth 20000 in
theorem ggX8_full_X7_hasPart : GoodIn wsX8_full wsX7_hasPart := goodIn_r _ [10, 11, 101, 102, 103, 104, 105, 106] (by decide +kernel) (by decide +kernel)
set_option maxRecDepth 20000 in
theorem gX8_full_X7_hasPart : GoodIn wsX8_full (wsV RX8 119 RX7 yX7_hasPart wsX7_hasPart) := goodIn_app (goodIn_of _ (by decide +kernel)) ggX8_full_X7_hasPart
set_option maxRecDepth 20000 in
theorem ggX8_full_X7_hasPlace : GoodIn wsX8_full wsX7_hasPlace := goodIn_r _ [15, 16, 101, 102, 103, 104, 105, 106] (by decide +kernel) (by decide +kernel)
set_option maxRecDepth 20000 in
theorem gX8_full_X7_hasPlace : GoodIn wsX8_full (wsV RX8 186 RX7 yX7_hasPlace wsX7_hasPlace) := goodIn_app (goodIn_of _ (by decide +kernel)) ggX8_full_X7_hasPlace
set_option maxRecDepth 20000 in
theorem ggX8_full_X6_takeCode : GoodIn wsX8_full wsX6_takeCode := goodIn_r _ [21, 22, 23, 24, 25, 26, 27, 28, 29, 30, 31, 32, 101, 102, 103, 104, 105, 106, 107, 108, 109, 110, 111, 112, 113] (by decide +kernel) (by decide +kernel)
set_option maxRecDepth 20000 in
theorem gX8_full_X6_takeCode : GoodIn wsX8_full (wsV RX8 163 RX6 yX6_takeCode wsX6_takeCode) := goodIn_app (goodIn_of _ (by decide +kernel)) ggX8_full_X6_takeCode
set_option maxRecDepth 20000 in
theorem ggX8_full_X8_turned : GoodIn wsX8_full wsX8_turned := goodIn_r _ [36] (by decide +kernel) (by decide +kernel)
set_option maxRecDepth 20000 in
theorem gX8_full_X8_turned : GoodIn wsX8_full (va_wsS RX8 141 yX8_turned wsX8_turned) := goodIn_app (goodIn_of _ (by decide +kernel)) ggX8_full_X8_turned
set_option maxRecDepth 20000 in
theorem ggX8_full_X6_addRow : GoodIn wsX8_full wsX6_addRow := goodIn_r _ [40, 26, 23, 32, 24, 107, 108, 109, 110, 111, 112, 113] (by decide +kernel) (by decide +kernel)
set_option maxRecDepth 20000 in
theorem gX8_full_X6_addRow : GoodIn wsX8_full (wsV RX8 198 RX6 yX6_addRow wsX6_addRow) := goodIn_app (goodIn_of _ (by decide +kernel)) ggX8_full_X6_addRow
set_option maxRecDepth 20000 in
theorem ggX8_full_X6_countAll : GoodIn wsX8_full wsX6_countAll := goodIn_r _ [44, 45, 24, 46, 47, 48, 49, 50, 51, 52, 20, 53, 26, 54, 35, 55, 56, 57, 58, 59, 60, 61, 62, 63, 64, 65, 66, 67, 32, 68, 69, 70, 71, 72, 73, 74, 27, 28, 29, 30, 107, 108, 109, 110, 111, 112, 113] (by decide +kernel) (by decide +kernel)
set_option maxRecDepth 20000 in
theorem gX8_full_X6_countAll : GoodIn wsX8_full (wsV RX8 166 RX6 yX6_countAll wsX6_countAll) := goodIn_app (goodIn_of _ (by decide +kernel)) ggX8_full_X6_countAll
set_option maxRecDepth 20000 in
theorem ggX8_full_X7_election : GoodIn wsX8_full wsX7_election := goodIn_r _ [78, 79, 80, 7, 8, 9, 10, 11, 81, 82, 83, 84, 85, 86, 87, 88, 101, 102, 103, 104, 105, 106] (by decide +kernel) (by decide +kernel)
set_option maxRecDepth 20000 in
theorem gX8_full_X7_election : GoodIn wsX8_full (wsV RX8 169 RX7 yX7_election wsX7_election) := goodIn_app (goodIn_of _ (by decide +kernel)) ggX8_full_X7_election
set_option maxRecDepth 20000 in
theorem ggX8_full_X6_fullOf : GoodIn wsX8_full wsX6_fullOf := goodIn_r _ [92, 23, 45, 107, 108, 109, 110, 111, 112, 113] (by decide +kernel) (by decide +kernel)
set_option maxRecDepth 20000 in
theorem gX8_full_X6_fullOf : GoodIn wsX8_full (wsV RX8 201 RX6 yX6_fullOf wsX6_fullOf) := goodIn_app (goodIn_of _ (by decide +kernel)) ggX8_full_X6_fullOf
theorem dX8_full_0 : decode cX8_full 0 = .ok (.aload_n 0, 1) := by decide +kernel
theorem dX8_full_1 : decode cX8_full 1 = .ok (.getfield 24, 3) := by decide +kernel
theorem dX8_full_4 : decode cX8_full 4 = .ok (.iload_n 1, 1) := by decide +kernel
theorem dX8_full_5 : decode cX8_full 5 = .ok (.invokevirtual 119, 3) := by decide +kernel
theorem dX8_full_8 : decode cX8_full 8 = .ok (.ifCond .eq 15, 3) := by decide +kernel
theorem dX8_full_11 : decode cX8_full 11 = .ok (.aload_n 0, 1) := by decide +kernel
theorem dX8_full_12 : decode cX8_full 12 = .ok (.getfield 24, 3) := by decide +kernel
theorem dX8_full_15 : decode cX8_full 15 = .ok (.iload_n 1, 1) := by decide +kernel
theorem dX8_full_16 : decode cX8_full 16 = .ok (.iload_n 2, 1) := by decide +kernel
theorem dX8_full_17 : decode cX8_full 17 = .ok (.invokevirtual 186, 3) := by decide +kernel
theorem dX8_full_20 : decode cX8_full 20 = .ok (.ifCond .ne 6, 3) := by decide +kernel
theorem dX8_full_23 : decode cX8_full 23 = .ok (.ldc 162, 2) := by decide +kernel
theorem dX8_full_25 : decode cX8_full 25 = .ok (.ireturn, 1) := by decide +kernel
theorem dX8_full_26 : decode cX8_full 26 = .ok (.aload_n 0, 1) := by decide +kernel
theorem dX8_full_27 : decode cX8_full 27 = .ok (.getfield 66, 3) := by decide +kernel
theorem dX8_full_30 : decode cX8_full 30 = .ok (.aload_n 0, 1) := by decide +kernel
theorem dX8_full_31 : decode cX8_full 31 = .ok (.getfield 24, 3) := by decide +kernel
theorem dX8_full_34 : decode cX8_full 34 = .ok (.invokevirtual 163, 3) := by decide +kernel
theorem dX8_full_37 : decode cX8_full 37 = .ok (.aload_n 0, 1) := by decide +kernel
theorem dX8_full_38 : decode cX8_full 38 = .ok (.getfield 24, 3) := by decide +kernel
theorem dX8_full_41 : decode cX8_full 41 = .ok (.getfield 135, 3) := by decide +kernel
theorem dX8_full_44 : decode cX8_full 44 = .ok (.iload_n 1, 1) := by decide +kernel
theorem dX8_full_45 : decode cX8_full 45 = .ok (.iaload, 1) := by decide +kernel
theorem dX8_full_46 : decode cX8_full 46 = .ok (.istore_n 3, 1) := by decide +kernel
theorem dX8_full_47 : decode cX8_full 47 = .ok (.aload_n 0, 1) := by decide +kernel
theorem dX8_full_48 : decode cX8_full 48 = .ok (.getfield 66, 3) := by decide +kernel
theorem dX8_full_51 : decode cX8_full 51 = .ok (.iload_n 3, 1) := by decide +kernel
theorem dX8_full_52 : decode cX8_full 52 = .ok (.aload_n 0, 1) := by decide +kernel
theorem dX8_full_53 : decode cX8_full 53 = .ok (.getfield 24, 3) := by decide +kernel
theorem dX8_full_56 : decode cX8_full 56 = .ok (.getfield 138, 3) := by decide +kernel
theorem dX8_full_59 : decode cX8_full 59 = .ok (.iload_n 1, 1) := by decide +kernel
theorem dX8_full_60 : decode cX8_full 60 = .ok (.iaload, 1) := by decide +kernel
theorem dX8_full_61 : decode cX8_full 61 = .ok (.iload_n 3, 1) := by decide +kernel
theorem dX8_full_62 : decode cX8_full 62 = .ok (.iload_n 2, 1) := by decide +kernel
theorem dX8_full_63 : decode cX8_full 63 = .ok (.invokestatic 141, 3) := by decide +kernel
theorem dX8_full_66 : decode cX8_full 66 = .ok (.invokevirtual 198, 3) := by decide +kernel
theorem dX8_full_69 : decode cX8_full 69 = .ok (.istore 4, 2) := by decide +kernel
theorem dX8_full_71 : decode cX8_full 71 = .ok (.aload_n 0, 1) := by decide +kernel
theorem dX8_full_72 : decode cX8_full 72 = .ok (.getfield 66, 3) := by decide +kernel
theorem dX8_full_75 : decode cX8_full 75 = .ok (.invokevirtual 166, 3) := by decide +kernel
theorem dX8_full_78 : decode cX8_full 78 = .ok (.aload_n 0, 1) := by decide +kernel
theorem dX8_full_79 : decode cX8_full 79 = .ok (.getfield 66, 3) := by decide +kernel
theorem dX8_full_82 : decode cX8_full 82 = .ok (.iload 4, 2) := by decide +kernel
theorem dX8_full_84 : decode cX8_full 84 = .ok (.aload_n 0, 1) := by decide +kernel
theorem dX8_full_85 : decode cX8_full 85 = .ok (.getfield 24, 3) := by decide +kernel
theorem dX8_full_88 : decode cX8_full 88 = .ok (.iconst (-1), 1) := by decide +kernel
theorem dX8_full_89 : decode cX8_full 89 = .ok (.iconst 0, 1) := by decide +kernel
theorem dX8_full_90 : decode cX8_full 90 = .ok (.invokevirtual 169, 3) := by decide +kernel
theorem dX8_full_93 : decode cX8_full 93 = .ok (.invokevirtual 201, 3) := by decide +kernel
theorem dX8_full_96 : decode cX8_full 96 = .ok (.ireturn, 1) := by decide +kernel
abbrev rmX8_full : Room := { frames := 4, cells := 0, slots := 0, locals := 100 }
theorem inX8_full_7 : ∀ w ∈ wsX70, w ∈ wsX8_full := by decide +kernel
theorem inX8_full_8 : ∀ w ∈ wsX80, w ∈ wsX8_full := by decide +kernel
def vX8_full (parts : Int32) (limit : Int32) (len : Nat → Int32) (row : Nat → Int32) (vot : Nat → Int32) (pa6 : Int32) (rw6 : Int32) (le6 : Nat → Int32) (bi6 : Nat → Int32) (co6 : Nat → Int32) (ki6 : Nat → Int32) (mi6 : Nat → Int32) (p1 : Int32) (p2 : Int32) (Q : Int32 → (Int32) → (Int32) → (Nat → Int32) → (Nat → Int32) → (Nat → Int32) → (Nat → Int32) → (Nat → Int32) → Prop) : Prop := (preX7_hasPart parts limit p1 ∧ (∀ r_5 : Int32, postX7_hasPart parts limit p1 r_5 → ((r_5 = 0 → (Q (-1000000 : Int32) pa6 rw6 le6 bi6 co6 ki6 mi6)) ∧ (¬ r_5 = 0 → (∃ (T_17 : Cd) (pp_17 : Nat), preX7_hasPlace T_17 pp_17 parts limit len p1 p2 ∧ (∀ r_17 : Int32, postX7_hasPlace T_17 pp_17 parts limit len p1 p2 r_17 → ((¬ r_17 = 0 → (∃ (T_34 : Cd), preX6_takeCode T_34 pa6 rw6 le6 bi6 parts limit len row ∧ (∀ (pa6_34 : Int32) (rw6_34 : Int32) (le6_34 : Nat → Int32) (bi6_34 : Nat → Int32), postX6_takeCode T_34 pa6 rw6 le6 bi6 parts limit len row pa6_34 rw6_34 le6_34 bi6_34 → (vp_in p1 5 ∧ (vp_in p1 5 ∧ (preX8_turned (row p1.toNatClampNeg) (len p1.toNatClampNeg) p2 ∧ (∀ r_63 : Int32, postX8_turned (row p1.toNatClampNeg) (len p1.toNatClampNeg) p2 r_63 → (∃ (R_66 : Cd), preX6_addRow R_66 pa6_34 rw6_34 le6_34 bi6_34 (len p1.toNatClampNeg) r_63 ∧ (∀ (r_66 : Int32) (rw6_66 : Int32) (le6_66 : Nat → Int32) (bi6_66 : Nat → Int32), postX6_addRow R_66 pa6_34 rw6_34 le6_34 bi6_34 (len p1.toNatClampNeg) r_63 r_66 rw6_66 le6_66 bi6_66 → (∃ (R_75 : Cd), preX6_countAll R_75 pa6_34 rw6_66 le6_66 bi6_66 co6 ki6 mi6 ∧ (∀ (co6_75 : Nat → Int32) (ki6_75 : Nat → Int32) (mi6_75 : Nat → Int32), postX6_countAll R_75 pa6_34 rw6_66 le6_66 bi6_66 co6 ki6 mi6 co6_75 ki6_75 mi6_75 → (∃ (T_90 : Cd) (T1_90 : Cd), preX7_election T_90 T1_90 parts limit vot (-1 : Int32) (0 : Int32) ∧ (∀ r_90 : Int32, postX7_election T_90 T1_90 parts limit vot (-1 : Int32) (0 : Int32) r_90 → (∃ (n_93 : Nat) (P_93 : Nat) (u_93 : Nat → Nat) (E_93 : Nat → Bool) (r0_93 : Nat), preX6_fullOf n_93 P_93 u_93 E_93 r0_93 pa6_34 rw6_66 co6_75 r_66 r_90 ∧ (∀ r_93 : Int32, postX6_fullOf n_93 P_93 u_93 E_93 r0_93 pa6_34 rw6_66 co6_75 r_66 r_90 r_93 → (Q r_93 pa6_34 rw6_66 le6_66 bi6_66 co6_75 ki6_75 mi6_75)))))))))))))))) ∧ (r_17 = 0 → (Q (-1000000 : Int32) pa6 rw6 le6 bi6 co6 ki6 mi6)))))))))
set_option maxHeartbeats 4000000 in
set_option maxRecDepth 100000 in
theorem wX8_full (l : Launch) (g : GP) (qX : Nat) (qP : Nat) (qI : Nat) (qt : Nat) (qd : Nat) (qe : Nat) (qsp : Nat) (qrk : Nat) (qty : Nat) (ql : Nat) (qr : Nat) (qv : Nat) (qg : Nat) (ql6 : Nat) (qb6 : Nat) (qc6 : Nat) (qk6 : Nat) (qm6 : Nat) (sz : Nat) (parts : Int32) (limit : Int32) (len : Nat → Int32) (row : Nat → Int32) (vot : Nat → Int32) (pa6 : Int32) (rw6 : Int32) (le6 : Nat → Int32) (bi6 : Nat → Int32) (co6 : Nat → Int32) (ki6 : Nat → Int32) (mi6 : Nat → Int32) (p1 : Int32) (p2 : Int32) {Q : Int32 → (Int32) → (Int32) → (Nat → Int32) → (Nat → Int32) → (Nat → Int32) → (Nat → Int32) → (Nat → Int32) → Prop} (hv : vX8_full parts limit len row vot pa6 rw6 le6 bi6 co6 ki6 mi6 p1 p2 Q) : Met l yX8_full wsX8_full rmX8_full (va_Pc [.ref qX, .int p1, .int p2] (fun U => U.heap.size = sz ∧ va_P g.1 vwCl [(qX, .inr (8, [.ref qP, .ref qI, .ref qt, .ref qd, .ref qe, .ref qsp, .ref qrk, .ref qty])), (qt, .inr (7, [.ref ql, .ref qr, .ref qv, .ref qg, .int parts, .int limit])), (ql, .inl (g.2 0, 5, .inl len)), (qr, .inl (g.2 0, 5, .inl row)), (qv, .inl (g.2 0, 5, .inl vot)), (qty, .inr (6, [.ref ql6, .ref qb6, .ref qc6, .ref qk6, .ref qm6, .int pa6, .int rw6])), (ql6, .inl (g.2 0, 6, .inl le6)), (qb6, .inl (g.2 0, 6, .inl bi6)), (qc6, .inl (g.2 0, 64, .inl co6)), (qk6, .inl (g.2 0, 64, .inl ki6)), (qm6, .inl (g.2 0, 64, .inl mi6))] U.heap ∧ GK g U ∧ va_D (fun _ => True) [(qX, .inr (8, [.ref qP, .ref qI, .ref qt, .ref qd, .ref qe, .ref qsp, .ref qrk, .ref qty])), (qt, .inr (7, [.ref ql, .ref qr, .ref qv, .ref qg, .int parts, .int limit])), (ql, .inl (g.2 0, 5, .inl len)), (qr, .inl (g.2 0, 5, .inl row)), (qv, .inl (g.2 0, 5, .inl vot)), (qty, .inr (6, [.ref ql6, .ref qb6, .ref qc6, .ref qk6, .ref qm6, .int pa6, .int rw6])), (ql6, .inl (g.2 0, 6, .inl le6)), (qb6, .inl (g.2 0, 6, .inl bi6)), (qc6, .inl (g.2 0, 64, .inl co6)), (qk6, .inl (g.2 0, 64, .inl ki6)), (qm6, .inl (g.2 0, 64, .inl mi6))])) (va_Qi (fun (r : Int32) (u : Int32 × Int32 × (Nat → Int32) × (Nat → Int32) × (Nat → Int32) × (Nat → Int32) × (Nat → Int32)) => Q r u.1 u.2.1 u.2.2.1 u.2.2.2.1 u.2.2.2.2.1 u.2.2.2.2.2.1 u.2.2.2.2.2.2) (fun (u : Int32 × Int32 × (Nat → Int32) × (Nat → Int32) × (Nat → Int32) × (Nat → Int32) × (Nat → Int32)) t => va_P g.1 vwCl [(qX, .inr (8, [.ref qP, .ref qI, .ref qt, .ref qd, .ref qe, .ref qsp, .ref qrk, .ref qty])), (qt, .inr (7, [.ref ql, .ref qr, .ref qv, .ref qg, .int parts, .int limit])), (ql, .inl (g.2 0, 5, .inl len)), (qr, .inl (g.2 0, 5, .inl row)), (qv, .inl (g.2 0, 5, .inl vot)), (qty, .inr (6, [.ref ql6, .ref qb6, .ref qc6, .ref qk6, .ref qm6, .int u.1, .int u.2.1])), (ql6, .inl (g.2 0, 6, .inl u.2.2.1)), (qb6, .inl (g.2 0, 6, .inl u.2.2.2.1)), (qc6, .inl (g.2 0, 64, .inl u.2.2.2.2.1)), (qk6, .inl (g.2 0, 64, .inl u.2.2.2.2.2.1)), (qm6, .inl (g.2 0, 64, .inl u.2.2.2.2.2.2))] t.heap ∧ va_D (va_A [(qX, .inr (8, [.ref qP, .ref qI, .ref qt, .ref qd, .ref qe, .ref qsp, .ref qrk, .ref qty])), (qt, .inr (7, [.ref ql, .ref qr, .ref qv, .ref qg, .int parts, .int limit])), (ql, .inl (g.2 0, 5, .inl len)), (qr, .inl (g.2 0, 5, .inl row)), (qv, .inl (g.2 0, 5, .inl vot)), (qty, .inr (6, [.ref ql6, .ref qb6, .ref qc6, .ref qk6, .ref qm6, .int pa6, .int rw6])), (ql6, .inl (g.2 0, 6, .inl le6)), (qb6, .inl (g.2 0, 6, .inl bi6)), (qc6, .inl (g.2 0, 64, .inl co6)), (qk6, .inl (g.2 0, 64, .inl ki6)), (qm6, .inl (g.2 0, 64, .inl mi6))] sz) [(qX, .inr (8, [.ref qP, .ref qI, .ref qt, .ref qd, .ref qe, .ref qsp, .ref qrk, .ref qty])), (qt, .inr (7, [.ref ql, .ref qr, .ref qv, .ref qg, .int parts, .int limit])), (ql, .inl (g.2 0, 5, .inl len)), (qr, .inl (g.2 0, 5, .inl row)), (qv, .inl (g.2 0, 5, .inl vot)), (qty, .inr (6, [.ref ql6, .ref qb6, .ref qc6, .ref qk6, .ref qm6, .int u.1, .int u.2.1])), (ql6, .inl (g.2 0, 6, .inl u.2.2.1)), (qb6, .inl (g.2 0, 6, .inl u.2.2.2.1)), (qc6, .inl (g.2 0, 64, .inl u.2.2.2.2.1)), (qk6, .inl (g.2 0, 64, .inl u.2.2.2.2.2.1)), (qm6, .inl (g.2 0, 64, .inl u.2.2.2.2.2.2))]) (va_A [(qX, .inr (8, [.ref qP, .ref qI, .ref qt, .ref qd, .ref qe, .ref qsp, .ref qrk, .ref qty])), (qt, .inr (7, [.ref ql, .ref qr, .ref qv, .ref qg, .int parts, .int limit])), (ql, .inl (g.2 0, 5, .inl len)), (qr, .inl (g.2 0, 5, .inl row)), (qv, .inl (g.2 0, 5, .inl vot)), (qty, .inr (6, [.ref ql6, .ref qb6, .ref qc6, .ref qk6, .ref qm6, .int pa6, .int rw6])), (ql6, .inl (g.2 0, 6, .inl le6)), (qb6, .inl (g.2 0, 6, .inl bi6)), (qc6, .inl (g.2 0, 64, .inl co6)), (qk6, .inl (g.2 0, 64, .inl ki6)), (qm6, .inl (g.2 0, 64, .inl mi6))] sz)) 0 0 (va_A [(qX, .inr (8, [.ref qP, .ref qI, .ref qt, .ref qd, .ref qe, .ref qsp, .ref qrk, .ref qty])), (qt, .inr (7, [.ref ql, .ref qr, .ref qv, .ref qg, .int parts, .int limit])), (ql, .inl (g.2 0, 5, .inl len)), (qr, .inl (g.2 0, 5, .inl row)), (qv, .inl (g.2 0, 5, .inl vot)), (qty, .inr (6, [.ref ql6, .ref qb6, .ref qc6, .ref qk6, .ref qm6, .int pa6, .int rw6])), (ql6, .inl (g.2 0, 6, .inl le6)), (qb6, .inl (g.2 0, 6, .inl bi6)), (qc6, .inl (g.2 0, 64, .inl co6)), (qk6, .inl (g.2 0, 64, .inl ki6)), (qm6, .inl (g.2 0, 64, .inl mi6))] sz) := by
  refine Met.ofW (cc := cX8_full) (maxL := 5) (ret := (some .int)) (by decide) rfl ?_
  intro p e s m args below meth c s₁ B hml hv'
  obtain ⟨rfl, hsz, hP, hG, hD0⟩ := hv'
  have S : CallFix p m c cX8_full 5 s _ wsX8_full RX8 := ⟨B.exec, B.bytes, hml, findClass_of_methodNamed B.named, atoms_spec (ws := wsX8_full) B.pre⟩
  obtain ⟨hx, hb, hml, hown, hts⟩ := id S
  have hK := hG.1
  have hr := B.returns
  have hlocks := B.notSynchronized
  subst hsz
  have hD := hD0.self (sz := s.heap.size)
  generalize hAe : va_A [(qX, .inr (8, [.ref qP, .ref qI, .ref qt, .ref qd, .ref qe, .ref qsp, .ref qrk, .ref qty])), (qt, .inr (7, [.ref ql, .ref qr, .ref qv, .ref qg, .int parts, .int limit])), (ql, .inl (g.2 0, 5, .inl len)), (qr, .inl (g.2 0, 5, .inl row)), (qv, .inl (g.2 0, 5, .inl vot)), (qty, .inr (6, [.ref ql6, .ref qb6, .ref qc6, .ref qk6, .ref qm6, .int pa6, .int rw6])), (ql6, .inl (g.2 0, 6, .inl le6)), (qb6, .inl (g.2 0, 6, .inl bi6)), (qc6, .inl (g.2 0, 64, .inl co6)), (qk6, .inl (g.2 0, 64, .inl ki6)), (qm6, .inl (g.2 0, 64, .inl mi6))] s.heap.size = A at hD ⊢
  have hA : ∀ q : Nat, s.heap.size ≤ q → A q := fun q h => by rw [← hAe]; exact Or.inr h
  have hS : va_S A s.heap s.heap [] := va_S.rf
  clear hD0 hAe
  have hl := lv_entry ([.ref qX, .int p1, .int p2]) (n := 5) (Nat.le_of_ble_eq_true rfl)
  rw [lg_entry_eq]
  generalize (lg_sl ([.ref qX, .int p1, .int p2]) ++ List.replicate (5 - (lg_sl ([.ref qX, .int p1, .int p2])).length) Slot.unset).toArray = ls at hl ⊢
  have hl : lv_has ls 5 [(0, .ref qX), (1, .int p1), (2, .int p2)] := hl
  unfold vX8_full at hv
  refine lv_aload_n hx hb dX8_full_0 rfl (lv_at hl 0 rfl) ?_
  refine va_get (D := g.1) (ci := 8) (v := .ref qt) (C := RX8) (T := TX8) (N := 8) hx hb hts inX8_full_8 hown hK hP 0 rfl rfl 2 (by decide) (hts (.fieldLink RX8 24 "RangeCodes" "told" "LRangeCodes$Told;") (List.mem_of_getElem? (i := 1) rfl)) (fun _ h9 => h9) rfl dX8_full_1 ?_
  refine lv_iload_n hx hb dX8_full_4 rfl (lv_at hl 1 rfl) ?_
  obtain ⟨ho_1, hv⟩ := hv
  refine vp_callSi (W.runV (As := [.int p1]) (rest := []) S (wX7_hasPart l g qt ql qr qv qg parts limit p1 (sX7_hasPart parts limit p1 ho_1)) (cwV 1 hts gX8_full_X7_hasPart rfl rfl rfl (by decide +kernel) ⟨Nat.le_of_ble_eq_true rfl, Nat.le_of_ble_eq_true rfl⟩) ⟨blindRO, va_recv hK hP (ci := 7) (q0 := 1) rfl rfl, fun U hU hW => ⟨rfl, by rw [hU]; exact hP.sub (ws' := [(qt, .inr (7, [.ref ql, .ref qr, .ref qv, .ref qg, .int parts, .int limit]))]) [1] rfl, hG.warm hW⟩⟩ rfl rfl hl.1 rfl (lv_room (Nat.le_of_ble_eq_true rfl)) dX8_full_5 ⟨Nat.le_of_ble_eq_true rfl, Nat.le_of_ble_eq_true rfl⟩) (fun r_5 hr_5 => ?_)
  have hv := hv r_5 hr_5
  obtain ⟨hvt, hvf⟩ := hv
  refine lv_if_eq (tgt := 23) hx hb dX8_full_8 (by decide) (fun hc => ?_) (fun hc => ?_)
  · have hv := hvt hc
    refine lv_ldc (v := (-1000000 : Int32)) hx hb hown (hts (.constant RX8 162 (-1000000)) (List.mem_of_getElem? (i := 2) rfl)) dX8_full_23 ?_
    have hP9 := hP.sub (ws' := [(qX, .inr (8, [.ref qP, .ref qI, .ref qt, .ref qd, .ref qe, .ref qsp, .ref qrk, .ref qty])), (qt, .inr (7, [.ref ql, .ref qr, .ref qv, .ref qg, .int parts, .int limit])), (ql, .inl (g.2 0, 5, .inl len)), (qr, .inl (g.2 0, 5, .inl row)), (qv, .inl (g.2 0, 5, .inl vot)), (qty, .inr (6, [.ref ql6, .ref qb6, .ref qc6, .ref qk6, .ref qm6, .int pa6, .int rw6])), (ql6, .inl (g.2 0, 6, .inl le6)), (qb6, .inl (g.2 0, 6, .inl bi6)), (qc6, .inl (g.2 0, 64, .inl co6)), (qk6, .inl (g.2 0, 64, .inl ki6)), (qm6, .inl (g.2 0, 64, .inl mi6))]) [0, 1, 2, 3, 4, 5, 6, 7, 8, 9, 10] rfl
    have hD9 := hD.sub (ws' := [(qX, .inr (8, [.ref qP, .ref qI, .ref qt, .ref qd, .ref qe, .ref qsp, .ref qrk, .ref qty])), (qt, .inr (7, [.ref ql, .ref qr, .ref qv, .ref qg, .int parts, .int limit])), (ql, .inl (g.2 0, 5, .inl len)), (qr, .inl (g.2 0, 5, .inl row)), (qv, .inl (g.2 0, 5, .inl vot)), (qty, .inr (6, [.ref ql6, .ref qb6, .ref qc6, .ref qk6, .ref qm6, .int pa6, .int rw6])), (ql6, .inl (g.2 0, 6, .inl le6)), (qb6, .inl (g.2 0, 6, .inl bi6)), (qc6, .inl (g.2 0, 64, .inl co6)), (qk6, .inl (g.2 0, 64, .inl ki6)), (qm6, .inl (g.2 0, 64, .inl mi6))]) [0, 1, 2, 3, 4, 5, 6, 7, 8, 9, 10] (by decide) rfl
    exact W.iret (v := (-1000000 : Int32)) hx hb hr (fun t ht hW => ⟨⟨_, (pa6, rw6, le6, bi6, co6, ki6, mi6), rfl, hv, by rw [ht]; exact hP9, hD9⟩, hS.F ht⟩) hS.2.2 dX8_full_25
  · have hv := hvf hc
    refine lv_aload_n hx hb dX8_full_11 rfl (lv_at hl 0 rfl) ?_
    refine va_get (D := g.1) (ci := 8) (v := .ref qt) (C := RX8) (T := TX8) (N := 8) hx hb hts inX8_full_8 hown hK hP 0 rfl rfl 2 (by decide) (hts (.fieldLink RX8 24 "RangeCodes" "told" "LRangeCodes$Told;") (List.mem_of_getElem? (i := 1) rfl)) (fun _ h9 => h9) rfl dX8_full_12 ?_
    refine lv_iload_n hx hb dX8_full_15 rfl (lv_at hl 1 rfl) ?_
    refine lv_iload_n hx hb dX8_full_16 rfl (lv_at hl 2 rfl) ?_
    obtain ⟨T_17, pp_17, ho_2, hv⟩ := hv
    refine vp_callSi (W.runV (As := [.int p1, .int p2]) (rest := []) S (wX7_hasPlace l g qt ql qr qv qg parts limit len p1 p2 (sX7_hasPlace T_17 pp_17 parts limit len p1 p2 ho_2)) (cwV 2 hts gX8_full_X7_hasPlace rfl rfl rfl (by decide +kernel) ⟨Nat.le_of_ble_eq_true rfl, Nat.le_of_ble_eq_true rfl⟩) ⟨blindRO, va_recv hK hP (ci := 7) (q0 := 1) rfl rfl, fun U hU hW => ⟨rfl, by rw [hU]; exact hP.sub (ws' := [(qt, .inr (7, [.ref ql, .ref qr, .ref qv, .ref qg, .int parts, .int limit])), (ql, .inl (g.2 0, 5, .inl len))]) [1, 2] rfl, hG.warm hW⟩⟩ rfl rfl hl.1 rfl (lv_room (Nat.le_of_ble_eq_true rfl)) dX8_full_17 ⟨Nat.le_of_ble_eq_true rfl, Nat.le_of_ble_eq_true rfl⟩) (fun r_17 hr_17 => ?_)
    have hv := hv r_17 hr_17
    obtain ⟨hvt, hvf⟩ := hv
    refine lv_if_ne (tgt := 26) hx hb dX8_full_20 (by decide) (fun hc => ?_) (fun hc => ?_)
    · have hv := hvt hc
      refine lv_aload_n hx hb dX8_full_26 rfl (lv_at hl 0 rfl) ?_
      refine va_get (D := g.1) (ci := 8) (v := .ref qty) (C := RX8) (T := TX8) (N := 8) hx hb hts inX8_full_8 hown hK hP 0 rfl rfl 7 (by decide) (hts (.fieldLink RX8 66 "RangeCodes" "tally" "LRangeCodes$Tally;") (List.mem_of_getElem? (i := 3) rfl)) (fun _ h9 => h9) rfl dX8_full_27 ?_
      refine lv_aload_n hx hb dX8_full_30 rfl (lv_at hl 0 rfl) ?_
      refine va_get (D := g.1) (ci := 8) (v := .ref qt) (C := RX8) (T := TX8) (N := 8) hx hb hts inX8_full_8 hown hK hP 0 rfl rfl 2 (by decide) (hts (.fieldLink RX8 24 "RangeCodes" "told" "LRangeCodes$Told;") (List.mem_of_getElem? (i := 1) rfl)) (fun _ h9 => h9) rfl dX8_full_31 ?_
      obtain ⟨T_34, ho_3, hv⟩ := hv
      have hPc := hP.sub (ws' := [(qty, .inr (6, [.ref ql6, .ref qb6, .ref qc6, .ref qk6, .ref qm6, .int pa6, .int rw6])), (ql6, .inl (g.2 0, 6, .inl le6)), (qb6, .inl (g.2 0, 6, .inl bi6)), (qt, .inr (7, [.ref ql, .ref qr, .ref qv, .ref qg, .int parts, .int limit])), (ql, .inl (g.2 0, 5, .inl len)), (qr, .inl (g.2 0, 5, .inl row))]) [5, 6, 7, 1, 2, 3] rfl
      have hDc := hD.sub (ws' := [(qty, .inr (6, [.ref ql6, .ref qb6, .ref qc6, .ref qk6, .ref qm6, .int pa6, .int rw6])), (ql6, .inl (g.2 0, 6, .inl le6)), (qb6, .inl (g.2 0, 6, .inl bi6)), (qt, .inr (7, [.ref ql, .ref qr, .ref qv, .ref qg, .int parts, .int limit])), (ql, .inl (g.2 0, 5, .inl len)), (qr, .inl (g.2 0, 5, .inl row))]) [5, 6, 7, 1, 2, 3] (by decide) rfl
      have hFc := va_free (wc := [(qty, .inr (6, [.ref ql6, .ref qb6, .ref qc6, .ref qk6, .ref qm6, .int pa6, .int rw6])), (ql6, .inl (g.2 0, 6, .inl le6)), (qb6, .inl (g.2 0, 6, .inl bi6)), (qt, .inr (7, [.ref ql, .ref qr, .ref qv, .ref qg, .int parts, .int limit])), (ql, .inl (g.2 0, 5, .inl len)), (qr, .inl (g.2 0, 5, .inl row))]) hD hS hA [5, 6, 7, 1, 2, 3] rfl
      refine va_callv (va_runV (As := [.ref qt]) (rest := []) S (wX6_takeCode l g qty ql6 qb6 qc6 qk6 qm6 qt ql qr qv qg s.heap.size pa6 rw6 le6 bi6 parts limit len row (sX6_takeCode T_34 pa6 rw6 le6 bi6 parts limit len row ho_3)) (cwV 1 hts gX8_full_X6_takeCode rfl rfl rfl (by decide +kernel) ⟨Nat.le_of_ble_eq_true rfl, Nat.le_of_ble_eq_true rfl⟩) ⟨blindRW, va_recv hK hP (ci := 6) (q0 := 5) rfl rfl, fun U hU hW => ⟨rfl, by rw [hU], by rw [hU]; exact hPc, hG.warm hW, hDc.weaken (fun _ _ _ _ => trivial)⟩⟩ rfl rfl hl.1 rfl (lv_room (Nat.le_of_ble_eq_true rfl)) dX8_full_34 ⟨Nat.le_of_ble_eq_true rfl, Nat.le_of_ble_eq_true rfl⟩) hS (fun q _ h => hFc q h) hFc (fun u t H1 locs ht hvm hw hB hz1 hk1 hS => ?_)
      obtain ⟨pa6_34, rw6_34, le6_34, bi6_34⟩ := u
      obtain ⟨hP1, hD1⟩ := hB
      rw [ht] at hP1
      have hv := hv pa6_34 rw6_34 le6_34 bi6_34 hw
      obtain ⟨hP, hD⟩ := va_join (wr := [(qX, .inr (8, [.ref qP, .ref qI, .ref qt, .ref qd, .ref qe, .ref qsp, .ref qrk, .ref qty])), (qv, .inl (g.2 0, 5, .inl vot)), (qc6, .inl (g.2 0, 64, .inl co6)), (qk6, .inl (g.2 0, 64, .inl ki6)), (qm6, .inl (g.2 0, 64, .inl mi6))]) (w1 := [(qty, .inr (6, [.ref ql6, .ref qb6, .ref qc6, .ref qk6, .ref qm6, .int pa6_34, .int rw6_34])), (ql6, .inl (g.2 0, 6, .inl le6_34)), (qb6, .inl (g.2 0, 6, .inl bi6_34)), (qt, .inr (7, [.ref ql, .ref qr, .ref qv, .ref qg, .int parts, .int limit])), (ql, .inl (g.2 0, 5, .inl len)), (qr, .inl (g.2 0, 5, .inl row))]) hP hD [5, 6, 7, 1, 2, 3] [0, 4, 8, 9, 10] rfl rfl (by decide) (by decide) hk1 hFc hP1 hD1
      clear hP1 hD1 hPc hDc hFc hk1
      generalize H1 = H at hP hS ⊢
      have hP : va_P g.1 vwCl [(qX, .inr (8, [.ref qP, .ref qI, .ref qt, .ref qd, .ref qe, .ref qsp, .ref qrk, .ref qty])), (qv, .inl (g.2 0, 5, .inl vot)), (qc6, .inl (g.2 0, 64, .inl co6)), (qk6, .inl (g.2 0, 64, .inl ki6)), (qm6, .inl (g.2 0, 64, .inl mi6)), (qty, .inr (6, [.ref ql6, .ref qb6, .ref qc6, .ref qk6, .ref qm6, .int pa6_34, .int rw6_34])), (ql6, .inl (g.2 0, 6, .inl le6_34)), (qb6, .inl (g.2 0, 6, .inl bi6_34)), (qt, .inr (7, [.ref ql, .ref qr, .ref qv, .ref qg, .int parts, .int limit])), (ql, .inl (g.2 0, 5, .inl len)), (qr, .inl (g.2 0, 5, .inl row))] H := hP
      have hD : va_D A [(qX, .inr (8, [.ref qP, .ref qI, .ref qt, .ref qd, .ref qe, .ref qsp, .ref qrk, .ref qty])), (qv, .inl (g.2 0, 5, .inl vot)), (qc6, .inl (g.2 0, 64, .inl co6)), (qk6, .inl (g.2 0, 64, .inl ki6)), (qm6, .inl (g.2 0, 64, .inl mi6)), (qty, .inr (6, [.ref ql6, .ref qb6, .ref qc6, .ref qk6, .ref qm6, .int pa6_34, .int rw6_34])), (ql6, .inl (g.2 0, 6, .inl le6_34)), (qb6, .inl (g.2 0, 6, .inl bi6_34)), (qt, .inr (7, [.ref ql, .ref qr, .ref qv, .ref qg, .int parts, .int limit])), (ql, .inl (g.2 0, 5, .inl len)), (qr, .inl (g.2 0, 5, .inl row))] := hD
      refine lv_aload_n hx hb dX8_full_37 rfl (lv_at hl 0 rfl) ?_
      refine va_get (D := g.1) (ci := 8) (v := .ref qt) (C := RX8) (T := TX8) (N := 8) hx hb hts inX8_full_8 hown hK hP 0 rfl rfl 2 (by decide) (hts (.fieldLink RX8 24 "RangeCodes" "told" "LRangeCodes$Told;") (List.mem_of_getElem? (i := 1) rfl)) (fun _ h9 => h9) rfl dX8_full_38 ?_
      refine va_get (D := g.1) (ci := 7) (v := .ref ql) (C := RX7) (T := TX7) (N := 6) hx hb hts inX8_full_7 hown hK hP 8 rfl rfl 0 (by decide) (hts (.fieldLink RX8 135 "RangeCodes$Told" "lengths" "[I") (List.mem_of_getElem? (i := 4) rfl)) (fun _ h9 => h9) rfl dX8_full_41 ?_
      refine lv_iload_n hx hb dX8_full_44 rfl (lv_at hl 1 rfl) ?_
      obtain ⟨ho_4, hv⟩ := hv
      refine va_iald hx hb hK hP 9 0 rfl rfl ho_4 dX8_full_45 ?_
      refine lv_istore_n (lv' := [(3, .int (len p1.toNatClampNeg)), (0, .ref qX), (1, .int p1), (2, .int p2)]) hx hb dX8_full_46 rfl hl (by decide) rfl (fun ls hl => ?_)
      refine lv_aload_n hx hb dX8_full_47 rfl (lv_at hl 1 rfl) ?_
      refine va_get (D := g.1) (ci := 8) (v := .ref qty) (C := RX8) (T := TX8) (N := 8) hx hb hts inX8_full_8 hown hK hP 0 rfl rfl 7 (by decide) (hts (.fieldLink RX8 66 "RangeCodes" "tally" "LRangeCodes$Tally;") (List.mem_of_getElem? (i := 3) rfl)) (fun _ h9 => h9) rfl dX8_full_48 ?_
      refine lv_iload_n hx hb dX8_full_51 rfl (lv_at hl 0 rfl) ?_
      refine lv_aload_n hx hb dX8_full_52 rfl (lv_at hl 1 rfl) ?_
      refine va_get (D := g.1) (ci := 8) (v := .ref qt) (C := RX8) (T := TX8) (N := 8) hx hb hts inX8_full_8 hown hK hP 0 rfl rfl 2 (by decide) (hts (.fieldLink RX8 24 "RangeCodes" "told" "LRangeCodes$Told;") (List.mem_of_getElem? (i := 1) rfl)) (fun _ h9 => h9) rfl dX8_full_53 ?_
      refine va_get (D := g.1) (ci := 7) (v := .ref qr) (C := RX7) (T := TX7) (N := 6) hx hb hts inX8_full_7 hown hK hP 8 rfl rfl 1 (by decide) (hts (.fieldLink RX8 138 "RangeCodes$Told" "rows" "[I") (List.mem_of_getElem? (i := 5) rfl)) (fun _ h9 => h9) rfl dX8_full_56 ?_
      refine lv_iload_n hx hb dX8_full_59 rfl (lv_at hl 2 rfl) ?_
      obtain ⟨ho_5, hv⟩ := hv
      refine va_iald hx hb hK hP 10 0 rfl rfl ho_5 dX8_full_60 ?_
      refine lv_iload_n hx hb dX8_full_61 rfl (lv_at hl 0 rfl) ?_
      refine lv_iload_n hx hb dX8_full_62 rfl (lv_at hl 3 rfl) ?_
      obtain ⟨ho_6, hv⟩ := hv
      refine vp_callSi (W.runS (As := [.int (row p1.toNatClampNeg), .int (len p1.toNatClampNeg), .int p2]) (rest := [.int (len p1.toNatClampNeg), .ref qty]) S (wX8_turned l g (row p1.toNatClampNeg) (len p1.toNatClampNeg) p2 (sX8_turned (row p1.toNatClampNeg) (len p1.toNatClampNeg) p2 ho_6)) (va_cwS 3 hts gX8_full_X8_turned rfl rfl rfl (by decide +kernel) ⟨Nat.le_of_ble_eq_true rfl, Nat.le_of_ble_eq_true rfl⟩) ⟨blindRO, fun U hU hW => ⟨rfl, by rw [hU]; exact hP.sub (ws' := []) [] rfl, hG.warm hW⟩⟩ rfl rfl hl.1 rfl (lv_room (Nat.le_of_ble_eq_true rfl)) dX8_full_63 ⟨Nat.le_of_ble_eq_true rfl, Nat.le_of_ble_eq_true rfl⟩) (fun r_63 hr_63 => ?_)
      have hv := hv r_63 hr_63
      obtain ⟨R_66, ho_7, hv⟩ := hv
      have hPc := hP.sub (ws' := [(qty, .inr (6, [.ref ql6, .ref qb6, .ref qc6, .ref qk6, .ref qm6, .int pa6_34, .int rw6_34])), (ql6, .inl (g.2 0, 6, .inl le6_34)), (qb6, .inl (g.2 0, 6, .inl bi6_34))]) [5, 6, 7] rfl
      have hDc := hD.sub (ws' := [(qty, .inr (6, [.ref ql6, .ref qb6, .ref qc6, .ref qk6, .ref qm6, .int pa6_34, .int rw6_34])), (ql6, .inl (g.2 0, 6, .inl le6_34)), (qb6, .inl (g.2 0, 6, .inl bi6_34))]) [5, 6, 7] (by decide) rfl
      have hFc := va_free (wc := [(qty, .inr (6, [.ref ql6, .ref qb6, .ref qc6, .ref qk6, .ref qm6, .int pa6_34, .int rw6_34])), (ql6, .inl (g.2 0, 6, .inl le6_34)), (qb6, .inl (g.2 0, 6, .inl bi6_34))]) hD hS hA [5, 6, 7] rfl
      refine va_calli (va_runV (As := [.int (len p1.toNatClampNeg), .int r_63]) (rest := []) S (wX6_addRow l g qty ql6 qb6 qc6 qk6 qm6 H.size pa6_34 rw6_34 le6_34 bi6_34 (len p1.toNatClampNeg) r_63 (sX6_addRow R_66 pa6_34 rw6_34 le6_34 bi6_34 (len p1.toNatClampNeg) r_63 ho_7)) (cwV 2 hts gX8_full_X6_addRow rfl rfl rfl (by decide +kernel) ⟨Nat.le_of_ble_eq_true rfl, Nat.le_of_ble_eq_true rfl⟩) ⟨blindRW, va_recv hK hP (ci := 6) (q0 := 5) rfl rfl, fun U hU hW => ⟨rfl, by rw [hU], by rw [hU]; exact hPc, hG.warm hW, hDc.weaken (fun _ _ _ _ => trivial)⟩⟩ rfl rfl hl.1 rfl (lv_room (Nat.le_of_ble_eq_true rfl)) dX8_full_66 ⟨Nat.le_of_ble_eq_true rfl, Nat.le_of_ble_eq_true rfl⟩) hS (fun q _ h => hFc q h) hFc (fun r_66 u t H1 locs ht hvm hw hB hz1 hk1 hS => ?_)
      obtain ⟨rw6_66, le6_66, bi6_66⟩ := u
      obtain ⟨hP1, hD1⟩ := hB
      rw [ht] at hP1
      have hv := hv r_66 rw6_66 le6_66 bi6_66 hw
      obtain ⟨hP, hD⟩ := va_join (wr := [(qX, .inr (8, [.ref qP, .ref qI, .ref qt, .ref qd, .ref qe, .ref qsp, .ref qrk, .ref qty])), (qv, .inl (g.2 0, 5, .inl vot)), (qc6, .inl (g.2 0, 64, .inl co6)), (qk6, .inl (g.2 0, 64, .inl ki6)), (qm6, .inl (g.2 0, 64, .inl mi6)), (qt, .inr (7, [.ref ql, .ref qr, .ref qv, .ref qg, .int parts, .int limit])), (ql, .inl (g.2 0, 5, .inl len)), (qr, .inl (g.2 0, 5, .inl row))]) (w1 := [(qty, .inr (6, [.ref ql6, .ref qb6, .ref qc6, .ref qk6, .ref qm6, .int pa6_34, .int rw6_66])), (ql6, .inl (g.2 0, 6, .inl le6_66)), (qb6, .inl (g.2 0, 6, .inl bi6_66))]) hP hD [5, 6, 7] [0, 1, 2, 3, 4, 8, 9, 10] rfl rfl (by decide) (by decide) hk1 hFc hP1 hD1
      clear hP1 hD1 hPc hDc hFc hk1
      generalize H1 = H at hP hS ⊢
      have hP : va_P g.1 vwCl [(qX, .inr (8, [.ref qP, .ref qI, .ref qt, .ref qd, .ref qe, .ref qsp, .ref qrk, .ref qty])), (qv, .inl (g.2 0, 5, .inl vot)), (qc6, .inl (g.2 0, 64, .inl co6)), (qk6, .inl (g.2 0, 64, .inl ki6)), (qm6, .inl (g.2 0, 64, .inl mi6)), (qt, .inr (7, [.ref ql, .ref qr, .ref qv, .ref qg, .int parts, .int limit])), (ql, .inl (g.2 0, 5, .inl len)), (qr, .inl (g.2 0, 5, .inl row)), (qty, .inr (6, [.ref ql6, .ref qb6, .ref qc6, .ref qk6, .ref qm6, .int pa6_34, .int rw6_66])), (ql6, .inl (g.2 0, 6, .inl le6_66)), (qb6, .inl (g.2 0, 6, .inl bi6_66))] H := hP
      have hD : va_D A [(qX, .inr (8, [.ref qP, .ref qI, .ref qt, .ref qd, .ref qe, .ref qsp, .ref qrk, .ref qty])), (qv, .inl (g.2 0, 5, .inl vot)), (qc6, .inl (g.2 0, 64, .inl co6)), (qk6, .inl (g.2 0, 64, .inl ki6)), (qm6, .inl (g.2 0, 64, .inl mi6)), (qt, .inr (7, [.ref ql, .ref qr, .ref qv, .ref qg, .int parts, .int limit])), (ql, .inl (g.2 0, 5, .inl len)), (qr, .inl (g.2 0, 5, .inl row)), (qty, .inr (6, [.ref ql6, .ref qb6, .ref qc6, .ref qk6, .ref qm6, .int pa6_34, .int rw6_66])), (ql6, .inl (g.2 0, 6, .inl le6_66)), (qb6, .inl (g.2 0, 6, .inl bi6_66))] := hD
      refine lv_istore (lv' := [(4, .int r_66), (3, .int (len p1.toNatClampNeg)), (0, .ref qX), (1, .int p1), (2, .int p2)]) hx hb dX8_full_69 hl (by decide) rfl (fun ls hl => ?_)
      refine lv_aload_n hx hb dX8_full_71 rfl (lv_at hl 2 rfl) ?_
      refine va_get (D := g.1) (ci := 8) (v := .ref qty) (C := RX8) (T := TX8) (N := 8) hx hb hts inX8_full_8 hown hK hP 0 rfl rfl 7 (by decide) (hts (.fieldLink RX8 66 "RangeCodes" "tally" "LRangeCodes$Tally;") (List.mem_of_getElem? (i := 3) rfl)) (fun _ h9 => h9) rfl dX8_full_72 ?_
      obtain ⟨R_75, ho_8, hv⟩ := hv
      have hPc := hP.sub (ws' := [(qty, .inr (6, [.ref ql6, .ref qb6, .ref qc6, .ref qk6, .ref qm6, .int pa6_34, .int rw6_66])), (ql6, .inl (g.2 0, 6, .inl le6_66)), (qb6, .inl (g.2 0, 6, .inl bi6_66)), (qc6, .inl (g.2 0, 64, .inl co6)), (qk6, .inl (g.2 0, 64, .inl ki6)), (qm6, .inl (g.2 0, 64, .inl mi6))]) [8, 9, 10, 2, 3, 4] rfl
      have hDc := hD.sub (ws' := [(qty, .inr (6, [.ref ql6, .ref qb6, .ref qc6, .ref qk6, .ref qm6, .int pa6_34, .int rw6_66])), (ql6, .inl (g.2 0, 6, .inl le6_66)), (qb6, .inl (g.2 0, 6, .inl bi6_66)), (qc6, .inl (g.2 0, 64, .inl co6)), (qk6, .inl (g.2 0, 64, .inl ki6)), (qm6, .inl (g.2 0, 64, .inl mi6))]) [8, 9, 10, 2, 3, 4] (by decide) rfl
      have hFc := va_free (wc := [(qty, .inr (6, [.ref ql6, .ref qb6, .ref qc6, .ref qk6, .ref qm6, .int pa6_34, .int rw6_66])), (ql6, .inl (g.2 0, 6, .inl le6_66)), (qb6, .inl (g.2 0, 6, .inl bi6_66)), (qc6, .inl (g.2 0, 64, .inl co6)), (qk6, .inl (g.2 0, 64, .inl ki6)), (qm6, .inl (g.2 0, 64, .inl mi6))]) hD hS hA [8, 9, 10, 2, 3, 4] rfl
      refine va_callv (va_runV (As := []) (rest := []) S (wX6_countAll l g qty ql6 qb6 qc6 qk6 qm6 H.size pa6_34 rw6_66 le6_66 bi6_66 co6 ki6 mi6 (sX6_countAll R_75 pa6_34 rw6_66 le6_66 bi6_66 co6 ki6 mi6 ho_8)) (cwV 0 hts gX8_full_X6_countAll rfl rfl rfl (by decide +kernel) ⟨Nat.le_of_ble_eq_true rfl, Nat.le_of_ble_eq_true rfl⟩) ⟨blindRW, va_recv hK hP (ci := 6) (q0 := 8) rfl rfl, fun U hU hW => ⟨rfl, by rw [hU], by rw [hU]; exact hPc, hG.warm hW, hDc.weaken (fun _ _ _ _ => trivial)⟩⟩ rfl rfl hl.1 rfl (lv_room (Nat.le_of_ble_eq_true rfl)) dX8_full_75 ⟨Nat.le_of_ble_eq_true rfl, Nat.le_of_ble_eq_true rfl⟩) hS (fun q _ h => hFc q h) hFc (fun u t H1 locs ht hvm hw hB hz1 hk1 hS => ?_)
      obtain ⟨co6_75, ki6_75, mi6_75⟩ := u
      obtain ⟨hP1, hD1⟩ := hB
      rw [ht] at hP1
      have hv := hv co6_75 ki6_75 mi6_75 hw
      obtain ⟨hP, hD⟩ := va_join (wr := [(qX, .inr (8, [.ref qP, .ref qI, .ref qt, .ref qd, .ref qe, .ref qsp, .ref qrk, .ref qty])), (qv, .inl (g.2 0, 5, .inl vot)), (qt, .inr (7, [.ref ql, .ref qr, .ref qv, .ref qg, .int parts, .int limit])), (ql, .inl (g.2 0, 5, .inl len)), (qr, .inl (g.2 0, 5, .inl row))]) (w1 := [(qty, .inr (6, [.ref ql6, .ref qb6, .ref qc6, .ref qk6, .ref qm6, .int pa6_34, .int rw6_66])), (ql6, .inl (g.2 0, 6, .inl le6_66)), (qb6, .inl (g.2 0, 6, .inl bi6_66)), (qc6, .inl (g.2 0, 64, .inl co6_75)), (qk6, .inl (g.2 0, 64, .inl ki6_75)), (qm6, .inl (g.2 0, 64, .inl mi6_75))]) hP hD [8, 9, 10, 2, 3, 4] [0, 1, 5, 6, 7] rfl rfl (by decide) (by decide) hk1 hFc hP1 hD1
      clear hP1 hD1 hPc hDc hFc hk1
      generalize H1 = H at hP hS ⊢
      have hP : va_P g.1 vwCl [(qX, .inr (8, [.ref qP, .ref qI, .ref qt, .ref qd, .ref qe, .ref qsp, .ref qrk, .ref qty])), (qv, .inl (g.2 0, 5, .inl vot)), (qt, .inr (7, [.ref ql, .ref qr, .ref qv, .ref qg, .int parts, .int limit])), (ql, .inl (g.2 0, 5, .inl len)), (qr, .inl (g.2 0, 5, .inl row)), (qty, .inr (6, [.ref ql6, .ref qb6, .ref qc6, .ref qk6, .ref qm6, .int pa6_34, .int rw6_66])), (ql6, .inl (g.2 0, 6, .inl le6_66)), (qb6, .inl (g.2 0, 6, .inl bi6_66)), (qc6, .inl (g.2 0, 64, .inl co6_75)), (qk6, .inl (g.2 0, 64, .inl ki6_75)), (qm6, .inl (g.2 0, 64, .inl mi6_75))] H := hP
      have hD : va_D A [(qX, .inr (8, [.ref qP, .ref qI, .ref qt, .ref qd, .ref qe, .ref qsp, .ref qrk, .ref qty])), (qv, .inl (g.2 0, 5, .inl vot)), (qt, .inr (7, [.ref ql, .ref qr, .ref qv, .ref qg, .int parts, .int limit])), (ql, .inl (g.2 0, 5, .inl len)), (qr, .inl (g.2 0, 5, .inl row)), (qty, .inr (6, [.ref ql6, .ref qb6, .ref qc6, .ref qk6, .ref qm6, .int pa6_34, .int rw6_66])), (ql6, .inl (g.2 0, 6, .inl le6_66)), (qb6, .inl (g.2 0, 6, .inl bi6_66)), (qc6, .inl (g.2 0, 64, .inl co6_75)), (qk6, .inl (g.2 0, 64, .inl ki6_75)), (qm6, .inl (g.2 0, 64, .inl mi6_75))] := hD
      refine lv_aload_n hx hb dX8_full_78 rfl (lv_at hl 2 rfl) ?_
      refine va_get (D := g.1) (ci := 8) (v := .ref qty) (C := RX8) (T := TX8) (N := 8) hx hb hts inX8_full_8 hown hK hP 0 rfl rfl 7 (by decide) (hts (.fieldLink RX8 66 "RangeCodes" "tally" "LRangeCodes$Tally;") (List.mem_of_getElem? (i := 3) rfl)) (fun _ h9 => h9) rfl dX8_full_79 ?_
      refine lv_iload hx hb dX8_full_82 (lv_at hl 0 rfl) ?_
      refine lv_aload_n hx hb dX8_full_84 rfl (lv_at hl 2 rfl) ?_
      refine va_get (D := g.1) (ci := 8) (v := .ref qt) (C := RX8) (T := TX8) (N := 8) hx hb hts inX8_full_8 hown hK hP 0 rfl rfl 2 (by decide) (hts (.fieldLink RX8 24 "RangeCodes" "told" "LRangeCodes$Told;") (List.mem_of_getElem? (i := 1) rfl)) (fun _ h9 => h9) rfl dX8_full_85 ?_
      refine lv_iconst (v := (-1 : Int32)) hx hb dX8_full_88 (by decide) ?_
      refine lv_iconst (v := (0 : Int32)) hx hb dX8_full_89 (by decide) ?_
      obtain ⟨T_90, T1_90, ho_9, hv⟩ := hv
      refine vp_callSi (W.runV (As := [.int (-1 : Int32), .int (0 : Int32)]) (rest := [.int r_66, .ref qty]) S (wX7_election l g qt ql qr qv qg parts limit vot (-1 : Int32) (0 : Int32) (sX7_election T_90 T1_90 parts limit vot (-1 : Int32) (0 : Int32) ho_9)) (cwV 2 hts gX8_full_X7_election rfl rfl rfl (by decide +kernel) ⟨Nat.le_of_ble_eq_true rfl, Nat.le_of_ble_eq_true rfl⟩) ⟨blindRO, va_recv hK hP (ci := 7) (q0 := 2) rfl rfl, fun U hU hW => ⟨rfl, by rw [hU]; exact hP.sub (ws' := [(qt, .inr (7, [.ref ql, .ref qr, .ref qv, .ref qg, .int parts, .int limit])), (qv, .inl (g.2 0, 5, .inl vot))]) [2, 1] rfl, hG.warm hW⟩⟩ rfl rfl hl.1 rfl (lv_room (Nat.le_of_ble_eq_true rfl)) dX8_full_90 ⟨Nat.le_of_ble_eq_true rfl, Nat.le_of_ble_eq_true rfl⟩) (fun r_90 hr_90 => ?_)
      have hv := hv r_90 hr_90
      obtain ⟨n_93, P_93, u_93, E_93, r0_93, ho_10, hv⟩ := hv
      refine vp_callSi (W.runV (As := [.int r_66, .int r_90]) (rest := []) S (wX6_fullOf l g qty ql6 qb6 qc6 qk6 qm6 pa6_34 rw6_66 co6_75 r_66 r_90 (sX6_fullOf n_93 P_93 u_93 E_93 r0_93 pa6_34 rw6_66 co6_75 r_66 r_90 ho_10)) (cwV 2 hts gX8_full_X6_fullOf rfl rfl rfl (by decide +kernel) ⟨Nat.le_of_ble_eq_true rfl, Nat.le_of_ble_eq_true rfl⟩) ⟨blindRO, va_recv hK hP (ci := 6) (q0 := 5) rfl rfl, fun U hU hW => ⟨rfl, by rw [hU]; exact hP.sub (ws' := [(qty, .inr (6, [.ref ql6, .ref qb6, .ref qc6, .ref qk6, .ref qm6, .int pa6_34, .int rw6_66])), (qc6, .inl (g.2 0, 64, .inl co6_75))]) [5, 8] rfl, hG.warm hW⟩⟩ rfl rfl hl.1 rfl (lv_room (Nat.le_of_ble_eq_true rfl)) dX8_full_93 ⟨Nat.le_of_ble_eq_true rfl, Nat.le_of_ble_eq_true rfl⟩) (fun r_93 hr_93 => ?_)
      have hv := hv r_93 hr_93
      have hP9 := hP.sub (ws' := [(qX, .inr (8, [.ref qP, .ref qI, .ref qt, .ref qd, .ref qe, .ref qsp, .ref qrk, .ref qty])), (qt, .inr (7, [.ref ql, .ref qr, .ref qv, .ref qg, .int parts, .int limit])), (ql, .inl (g.2 0, 5, .inl len)), (qr, .inl (g.2 0, 5, .inl row)), (qv, .inl (g.2 0, 5, .inl vot)), (qty, .inr (6, [.ref ql6, .ref qb6, .ref qc6, .ref qk6, .ref qm6, .int pa6_34, .int rw6_66])), (ql6, .inl (g.2 0, 6, .inl le6_66)), (qb6, .inl (g.2 0, 6, .inl bi6_66)), (qc6, .inl (g.2 0, 64, .inl co6_75)), (qk6, .inl (g.2 0, 64, .inl ki6_75)), (qm6, .inl (g.2 0, 64, .inl mi6_75))]) [0, 2, 3, 4, 1, 5, 6, 7, 8, 9, 10] rfl
      have hD9 := hD.sub (ws' := [(qX, .inr (8, [.ref qP, .ref qI, .ref qt, .ref qd, .ref qe, .ref qsp, .ref qrk, .ref qty])), (qt, .inr (7, [.ref ql, .ref qr, .ref qv, .ref qg, .int parts, .int limit])), (ql, .inl (g.2 0, 5, .inl len)), (qr, .inl (g.2 0, 5, .inl row)), (qv, .inl (g.2 0, 5, .inl vot)), (qty, .inr (6, [.ref ql6, .ref qb6, .ref qc6, .ref qk6, .ref qm6, .int pa6_34, .int rw6_66])), (ql6, .inl (g.2 0, 6, .inl le6_66)), (qb6, .inl (g.2 0, 6, .inl bi6_66)), (qc6, .inl (g.2 0, 64, .inl co6_75)), (qk6, .inl (g.2 0, 64, .inl ki6_75)), (qm6, .inl (g.2 0, 64, .inl mi6_75))]) [0, 2, 3, 4, 1, 5, 6, 7, 8, 9, 10] (by decide) rfl
      exact W.iret (v := r_93) hx hb hr (fun t ht hW => ⟨⟨_, (pa6_34, rw6_66, le6_66, bi6_66, co6_75, ki6_75, mi6_75), rfl, hv, by rw [ht]; exact hP9, hD9⟩, hS.F ht⟩) hS.2.2 dX8_full_96
    · have hv := hvf hc
      refine lv_ldc (v := (-1000000 : Int32)) hx hb hown (hts (.constant RX8 162 (-1000000)) (List.mem_of_getElem? (i := 2) rfl)) dX8_full_23 ?_
      have hP9 := hP.sub (ws' := [(qX, .inr (8, [.ref qP, .ref qI, .ref qt, .ref qd, .ref qe, .ref qsp, .ref qrk, .ref qty])), (qt, .inr (7, [.ref ql, .ref qr, .ref qv, .ref qg, .int parts, .int limit])), (ql, .inl (g.2 0, 5, .inl len)), (qr, .inl (g.2 0, 5, .inl row)), (qv, .inl (g.2 0, 5, .inl vot)), (qty, .inr (6, [.ref ql6, .ref qb6, .ref qc6, .ref qk6, .ref qm6, .int pa6, .int rw6])), (ql6, .inl (g.2 0, 6, .inl le6)), (qb6, .inl (g.2 0, 6, .inl bi6)), (qc6, .inl (g.2 0, 64, .inl co6)), (qk6, .inl (g.2 0, 64, .inl ki6)), (qm6, .inl (g.2 0, 64, .inl mi6))]) [0, 1, 2, 3, 4, 5, 6, 7, 8, 9, 10] rfl
      have hD9 := hD.sub (ws' := [(qX, .inr (8, [.ref qP, .ref qI, .ref qt, .ref qd, .ref qe, .ref qsp, .ref qrk, .ref qty])), (qt, .inr (7, [.ref ql, .ref qr, .ref qv, .ref qg, .int parts, .int limit])), (ql, .inl (g.2 0, 5, .inl len)), (qr, .inl (g.2 0, 5, .inl row)), (qv, .inl (g.2 0, 5, .inl vot)), (qty, .inr (6, [.ref ql6, .ref qb6, .ref qc6, .ref qk6, .ref qm6, .int pa6, .int rw6])), (ql6, .inl (g.2 0, 6, .inl le6)), (qb6, .inl (g.2 0, 6, .inl bi6)), (qc6, .inl (g.2 0, 64, .inl co6)), (qk6, .inl (g.2 0, 64, .inl ki6)), (qm6, .inl (g.2 0, 64, .inl mi6))]) [0, 1, 2, 3, 4, 5, 6, 7, 8, 9, 10] (by decide) rfl
      exact W.iret (v := (-1000000 : Int32)) hx hb hr (fun t ht hW => ⟨⟨_, (pa6, rw6, le6, bi6, co6, ki6, mi6), rfl, hv, by rw [ht]; exact hP9, hD9⟩, hS.F ht⟩) hS.2.2 dX8_full_25
abbrev preX8_full (T : Cd) (G0 : Lg) (G1 : Lg) (lim : Nat) (parts : Int32) (limit : Int32) (len : Nat → Int32) (row : Nat → Int32) (vot : Nat → Int32) (pa6 : Int32) (rw6 : Int32) (le6 : Nat → Int32) (bi6 : Nat → Int32) (co6 : Nat → Int32) (ki6 : Nat → Int32) (mi6 : Nat → Int32) (p1 : Int32) (p2 : Int32) : Prop := isN T parts ∧ isL T len ∧ isR T row ∧ isV T vot
abbrev postX8_full (T : Cd) (G0 : Lg) (G1 : Lg) (lim : Nat) (parts : Int32) (limit : Int32) (len : Nat → Int32) (row : Nat → Int32) (vot : Nat → Int32) (pa6 : Int32) (rw6 : Int32) (le6 : Nat → Int32) (bi6 : Nat → Int32) (co6 : Nat → Int32) (ki6 : Nat → Int32) (mi6 : Nat → Int32) (p1 : Int32) (p2 : Int32) (r : Int32) (pa6' : Int32) (rw6' : Int32) (le6' : Nat → Int32) (bi6' : Nat → Int32) (co6' : Nat → Int32) (ki6' : Nat → Int32) (mi6' : Nat → Int32) : Prop := r.toInt = spFull T p1.toInt p2.toInt
theorem sX8_full (T : Cd) (G0 : Lg) (G1 : Lg) (lim : Nat) (parts : Int32) (limit : Int32) (len : Nat → Int32) (row : Nat → Int32) (vot : Nat → Int32) (pa6 : Int32) (rw6 : Int32) (le6 : Nat → Int32) (bi6 : Nat → Int32) (co6 : Nat → Int32) (ki6 : Nat → Int32) (mi6 : Nat → Int32) (p1 : Int32) (p2 : Int32) (H : preX8_full T G0 G1 lim parts limit len row vot pa6 rw6 le6 bi6 co6 ki6 mi6 p1 p2) : vX8_full parts limit len row vot pa6 rw6 le6 bi6 co6 ki6 mi6 p1 p2 (postX8_full T G0 G1 lim parts limit len row vot pa6 rw6 le6 bi6 co6 ki6 mi6 p1 p2) := by
  obtain ⟨hN, hL, hR, hV⟩ := H
  have hn5 := hN.2
  unfold postX8_full spFull
  refine ⟨trivial, fun r hr => ?_⟩
  have hr : r = if 0 ≤ p1.toInt ∧ p1.toInt < (cn T : Int) then 1 else 0 := by rw [← hN.1]; exact hr
  by_cases c : 0 ≤ p1.toInt ∧ p1.toInt < (cn T : Int)
  · rw [if_pos c] at hr
    rw [hr]
    refine ⟨fun d => absurd d (by decide), fun _ => ?_⟩
    obtain ⟨p, hp⟩ : ∃ p : Nat, p1.toInt = (p : Int) := ⟨p1.toInt.toNat, by omega⟩
    have ep : p1.toInt.toNat = p := by omega
    have hpn : p < cn T := by omega
    have hLp := hL p hpn
    have hRp := hR p hpn
    refine ⟨T, p, ⟨hL, hn5, hp, hpn⟩, fun r2 hr2 => ?_⟩
    have hr2 : r2 = if 0 ≤ p2.toInt ∧ p2.toInt < (cL T p : Int) then 1 else 0 := hr2
    rw [ep]
    by_cases d : 0 ≤ p2.toInt ∧ p2.toInt < (cL T p : Int)
    · rw [if_pos d] at hr2
      rw [if_pos ⟨c, d⟩, hr2]
      refine ⟨fun _ => ⟨T, ⟨hN, hL, hR⟩, fun pa2 rw2 le2 bi2 ht => ⟨q_in hp (by omega), q_in hp (by omega), ?_⟩⟩, fun q => absurd q (by decide)⟩
      obtain ⟨t1, t2⟩ : pa2.toInt = (cn T : Int) ∧ tyR T rw2 le2 bi2 := ht
      obtain ⟨pl, hpl⟩ : ∃ pl : Nat, p2.toInt = (pl : Int) := ⟨p2.toInt.toNat, by omega⟩
      have el : (len p).toInt.toNat = cL T p := by omega
      have er : (row p).toInt.toNat = cR T p := by omega
      have epl : p2.toInt.toNat = pl := by omega
      rw [q_cl hp]
      refine ⟨⟨by omega, by omega, by omega, by rw [el, er]; exact hRp.2, by omega, by omega⟩, fun r3 hr3 => ?_⟩
      have hr3 : r3.toInt = (trX (cR T p) (cL T p) pl : Int) := by rw [← el, ← er, ← epl]; exact hr3
      have hlt : trX (cR T p) (cL T p) pl < 2 ^ cL T p := trN_lt _ _
      have e3 : r3.toInt.toNat = trX (cR T p) (cL T p) pl := by omega
      refine ⟨T, ⟨t2, t1, hn5, by omega, by omega, by rw [el, e3]; exact hlt⟩, fun r4 rw4 le4 bi4 h4 => ?_⟩
      obtain ⟨u1, u2⟩ : r4.toInt = (cn T : Int) ∧ tyR (adR T (cL T p) (trX (cR T p) (cL T p) pl)) rw4 le4 bi4 := by
        have h4 : r4.toInt = (cn T : Int) ∧ tyR (adR T (len p).toInt.toNat r3.toInt.toNat) rw4 le4 bi4 := h4
        rw [el, e3] at h4; exact h4
      refine ⟨_, u2, fun co5 ki5 mi5 h5 => ⟨T, T, el_T hN hV, fun r6 hr6 => ?_⟩⟩
      have hP : lcS (adR T (cL T p) (trX (cR T p) (cL T p) pl)) (2 ^ cn (adR T (cL T p) (trX (cR T p) (cL T p) pl)) - 1) (cn (adR T (cL T p) (trX (cR T p) (cL T p) pl))) ≤ 360360 := Nat.le_of_dvd (by decide) (lcS_dvd (fun q hq => (u2.2.2.1 q hq).2) _ _ (Nat.le_refl _))
      refine ⟨cn T, _, _, elB T, cn T, ⟨t1, hn5, h5, hP, fun t _ => yS_lt _ t u2.2.1, hr6, u1, by omega⟩, fun r7 hr7 => ?_⟩
      have hr7 : r7.toInt = fuN (cn T) _ _ (elB T) (cn T) := hr7
      show r7.toInt = spFZ T p1.toInt p2.toInt p
      rw [hr7]
      refine fu_gen (lcS_ad1 T p _ hpn) (fun t => yS_low (Nat.le_succ _) (fun k hk => chB_adR hk _)) (fun t => ?_)
      rw [yS_bit, decide_eq_true (show cn T < cn (adR T (cL T p) (trX (cR T p) (cL T p) pl)) from Nat.lt_succ_self _), if_pos hp.symm, hpl, chB_adn (by omega) (by omega)]
      rfl
    · rw [if_neg d] at hr2
      rw [if_neg (fun q => d q.2), hr2]
      exact ⟨fun q => absurd rfl q, fun _ => rfl⟩
  · rw [if_neg c] at hr
    rw [hr, if_neg (fun q => c q.1)]
    exact ⟨fun _ => rfl, fun q => absurd rfl q⟩
set_option maxRecDepth 20000 in
theorem ggX8_better_X7_hasPart : GoodIn wsX8_better wsX7_hasPart := goodIn_r _ [8, 9, 95, 96, 97, 98, 99, 100] (by decide +kernel) (by decide +kernel)
set_option maxRecDepth 20000 in
theorem gX8_better_X7_hasPart : GoodIn wsX8_better (wsV RX8 119 RX7 yX7_hasPart wsX7_hasPart) := goodIn_app (goodIn_of _ (by decide +kernel)) ggX8_better_X7_hasPart
set_option maxRecDepth 20000 in
theorem ggX8_better_X6_takeCode : GoodIn wsX8_better wsX6_takeCode := goodIn_r _ [14, 15, 16, 17, 18, 19, 20, 21, 22, 23, 24, 25, 95, 96, 97, 98, 99, 100, 101, 102, 103, 104, 105, 106, 107] (by decide +kernel) (by decide +kernel)
set_option maxRecDepth 20000 in
theorem gX8_better_X6_takeCode : GoodIn wsX8_better (wsV RX8 163 RX6 yX6_takeCode wsX6_takeCode) := goodIn_app (goodIn_of _ (by decide +kernel)) ggX8_better_X6_takeCode
set_option maxRecDepth 20000 in
theorem ggX8_better_X6_countAll : GoodIn wsX8_better wsX6_countAll := goodIn_r _ [29, 30, 17, 31, 32, 33, 34, 35, 36, 37, 13, 38, 19, 39, 40, 41, 42, 43, 44, 45, 46, 47, 48, 49, 50, 51, 52, 53, 25, 54, 55, 56, 57, 58, 59, 60, 20, 21, 22, 23, 101, 102, 103, 104, 105, 106, 107] (by decide +kernel) (by decide +kernel)
set_option maxRecDepth 20000 in
theorem gX8_better_X6_countAll : GoodIn wsX8_better (wsV RX8 166 RX6 yX6_countAll wsX6_countAll) := goodIn_app (goodIn_of _ (by decide +kernel)) ggX8_better_X6_countAll
set_option maxRecDepth 20000 in
theorem ggX8_better_X7_election : GoodIn wsX8_better wsX7_election := goodIn_r _ [64, 65, 66, 5, 6, 7, 8, 9, 67, 68, 69, 70, 71, 72, 73, 74, 95, 96, 97, 98, 99, 100] (by decide +kernel) (by decide +kernel)
set_option maxRecDepth 20000 in
theorem gX8_better_X7_election : GoodIn wsX8_better (wsV RX8 169 RX7 yX7_election wsX7_election) := goodIn_app (goodIn_of _ (by decide +kernel)) ggX8_better_X7_election
set_option maxRecDepth 20000 in
theorem ggX8_better_X6_leastFull : GoodIn wsX8_better wsX6_leastFull := goodIn_r _ [78, 16, 79, 80, 81, 82, 83, 84, 85, 13, 86, 30, 101, 102, 103, 104, 105, 106, 107] (by decide +kernel) (by decide +kernel)
set_option maxRecDepth 20000 in
theorem gX8_better_X6_leastFull : GoodIn wsX8_better (wsV RX8 173 RX6 yX6_leastFull wsX6_leastFull) := goodIn_app (goodIn_of _ (by decide +kernel)) ggX8_better_X6_leastFull
theorem dX8_better_0 : decode cX8_better 0 = .ok (.aload_n 0, 1) := by decide +kernel
theorem dX8_better_1 : decode cX8_better 1 = .ok (.getfield 24, 3) := by decide +kernel
theorem dX8_better_4 : decode cX8_better 4 = .ok (.iload_n 1, 1) := by decide +kernel
theorem dX8_better_5 : decode cX8_better 5 = .ok (.invokevirtual 119, 3) := by decide +kernel
theorem dX8_better_8 : decode cX8_better 8 = .ok (.ifCond .ne 6, 3) := by decide +kernel
theorem dX8_better_11 : decode cX8_better 11 = .ok (.ldc 162, 2) := by decide +kernel
theorem dX8_better_13 : decode cX8_better 13 = .ok (.ireturn, 1) := by decide +kernel
theorem dX8_better_14 : decode cX8_better 14 = .ok (.aload_n 0, 1) := by decide +kernel
theorem dX8_better_15 : decode cX8_better 15 = .ok (.getfield 66, 3) := by decide +kernel
theorem dX8_better_18 : decode cX8_better 18 = .ok (.aload_n 0, 1) := by decide +kernel
theorem dX8_better_19 : decode cX8_better 19 = .ok (.getfield 24, 3) := by decide +kernel
theorem dX8_better_22 : decode cX8_better 22 = .ok (.invokevirtual 163, 3) := by decide +kernel
theorem dX8_better_25 : decode cX8_better 25 = .ok (.aload_n 0, 1) := by decide +kernel
theorem dX8_better_26 : decode cX8_better 26 = .ok (.getfield 66, 3) := by decide +kernel
theorem dX8_better_29 : decode cX8_better 29 = .ok (.invokevirtual 166, 3) := by decide +kernel
theorem dX8_better_32 : decode cX8_better 32 = .ok (.iconst 1, 1) := by decide +kernel
theorem dX8_better_33 : decode cX8_better 33 = .ok (.istore_n 3, 1) := by decide +kernel
theorem dX8_better_34 : decode cX8_better 34 = .ok (.aload_n 0, 1) := by decide +kernel
theorem dX8_better_35 : decode cX8_better 35 = .ok (.getfield 66, 3) := by decide +kernel
theorem dX8_better_38 : decode cX8_better 38 = .ok (.aload_n 0, 1) := by decide +kernel
theorem dX8_better_39 : decode cX8_better 39 = .ok (.getfield 24, 3) := by decide +kernel
theorem dX8_better_42 : decode cX8_better 42 = .ok (.iload_n 1, 1) := by decide +kernel
theorem dX8_better_43 : decode cX8_better 43 = .ok (.iconst 1, 1) := by decide +kernel
theorem dX8_better_44 : decode cX8_better 44 = .ok (.invokevirtual 169, 3) := by decide +kernel
theorem dX8_better_47 : decode cX8_better 47 = .ok (.invokevirtual 173, 3) := by decide +kernel
theorem dX8_better_50 : decode cX8_better 50 = .ok (.istore 4, 2) := by decide +kernel
theorem dX8_better_52 : decode cX8_better 52 = .ok (.iconst 2, 1) := by decide +kernel
theorem dX8_better_53 : decode cX8_better 53 = .ok (.istore 5, 2) := by decide +kernel
theorem dX8_better_55 : decode cX8_better 55 = .ok (.iload 5, 2) := by decide +kernel
theorem dX8_better_57 : decode cX8_better 57 = .ok (.bipush 9, 2) := by decide +kernel
theorem dX8_better_59 : decode cX8_better 59 = .ok (.if_icmp .gt 42, 3) := by decide +kernel
theorem dX8_better_62 : decode cX8_better 62 = .ok (.aload_n 0, 1) := by decide +kernel
theorem dX8_better_63 : decode cX8_better 63 = .ok (.getfield 66, 3) := by decide +kernel
theorem dX8_better_66 : decode cX8_better 66 = .ok (.aload_n 0, 1) := by decide +kernel
theorem dX8_better_67 : decode cX8_better 67 = .ok (.getfield 24, 3) := by decide +kernel
theorem dX8_better_70 : decode cX8_better 70 = .ok (.iload_n 1, 1) := by decide +kernel
theorem dX8_better_71 : decode cX8_better 71 = .ok (.iload 5, 2) := by decide +kernel
theorem dX8_better_73 : decode cX8_better 73 = .ok (.invokevirtual 169, 3) := by decide +kernel
theorem dX8_better_76 : decode cX8_better 76 = .ok (.invokevirtual 173, 3) := by decide +kernel
theorem dX8_better_79 : decode cX8_better 79 = .ok (.istore 6, 2) := by decide +kernel
theorem dX8_better_81 : decode cX8_better 81 = .ok (.iload 6, 2) := by decide +kernel
theorem dX8_better_83 : decode cX8_better 83 = .ok (.iload 4, 2) := by decide +kernel
theorem dX8_better_85 : decode cX8_better 85 = .ok (.if_icmp .le 10, 3) := by decide +kernel
theorem dX8_better_88 : decode cX8_better 88 = .ok (.iload 5, 2) := by decide +kernel
theorem dX8_better_90 : decode cX8_better 90 = .ok (.istore_n 3, 1) := by decide +kernel
theorem dX8_better_91 : decode cX8_better 91 = .ok (.iload 6, 2) := by decide +kernel
theorem dX8_better_93 : decode cX8_better 93 = .ok (.istore 4, 2) := by decide +kernel
theorem dX8_better_95 : decode cX8_better 95 = .ok (.iinc 5 1, 3) := by decide +kernel
theorem dX8_better_98 : decode cX8_better 98 = .ok (.goto (-43), 3) := by decide +kernel
theorem dX8_better_101 : decode cX8_better 101 = .ok (.iload_n 2, 1) := by decide +kernel
theorem dX8_better_102 : decode cX8_better 102 = .ok (.ifCond .eq 8, 3) := by decide +kernel
theorem dX8_better_105 : decode cX8_better 105 = .ok (.iload 4, 2) := by decide +kernel
theorem dX8_better_107 : decode cX8_better 107 = .ok (.goto 4, 3) := by decide +kernel
theorem dX8_better_110 : decode cX8_better 110 = .ok (.iload_n 3, 1) := by decide +kernel
theorem dX8_better_111 : decode cX8_better 111 = .ok (.ireturn, 1) := by decide +kernel
abbrev rmX8_better : Room := { frames := 4, cells := 0, slots := 0, locals := 100 }
theorem inX8_better_8 : ∀ w ∈ wsX80, w ∈ wsX8_better := by decide +kernel
def vX8_better_c55 (parts : Int32) (limit : Int32) (len : Nat → Int32) (row : Nat → Int32) (vot : Nat → Int32) (p1 : Int32) (p2 : Int32) (Q : Int32 → (Int32) → (Int32) → (Nat → Int32) → (Nat → Int32) → (Nat → Int32) → (Nat → Int32) → (Nat → Int32) → Prop) : Nat → Int32 → Int32 → Int32 → Int32 → Int32 → (Nat → Int32) → (Nat → Int32) → (Nat → Int32) → (Nat → Int32) → (Nat → Int32) → Prop
  | 0, _, _, _, _, _, _, _, _, _, _ => False
  | n + 1, x3, x4, x5, pa6, rw6, le6, bi6, co6, ki6, mi6 => (((9 : Int32) < x5 → ((p2 = 0 → (Q x3 pa6 rw6 le6 bi6 co6 ki6 mi6)) ∧ (¬ p2 = 0 → (Q x4 pa6 rw6 le6 bi6 co6 ki6 mi6)))) ∧ (¬ (9 : Int32) < x5 → (∃ (T_73 : Cd) (T1_73 : Cd), preX7_election T_73 T1_73 parts limit vot p1 x5 ∧ (∀ r_73 : Int32, postX7_election T_73 T1_73 parts limit vot p1 x5 r_73 → (∃ (n_76 : Nat) (P_76 : Nat) (u_76 : Nat → Nat) (E_76 : Nat → Bool), preX6_leastFull n_76 P_76 u_76 E_76 pa6 rw6 co6 r_73 ∧ (∀ r_76 : Int32, postX6_leastFull n_76 P_76 u_76 E_76 pa6 rw6 co6 r_73 r_76 → ((r_76 ≤ x4 → (vX8_better_c55 parts limit len row vot p1 p2 Q n x3 x4 (x5 + (1 : Int32)) pa6 rw6 le6 bi6 co6 ki6 mi6)) ∧ (¬ r_76 ≤ x4 → (vX8_better_c55 parts limit len row vot p1 p2 Q n x5 r_76 (x5 + (1 : Int32)) pa6 rw6 le6 bi6 co6 ki6 mi6)))))))))
set_option maxHeartbeats 4000000 in
set_option maxRecDepth 100000 in
theorem kX8_better_c55 {p : Program} {l : Launch} {e : Env} {s : State} {m : MethodId} {args : Array Value} {below : List Frame} {meth : Method} {c : Code} {g : GP} {qX : Nat} {qP : Nat} {qI : Nat} {qt : Nat} {qd : Nat} {qe : Nat} {qsp : Nat} {qrk : Nat} {qty : Nat} {ql : Nat} {qr : Nat} {qv : Nat} {qg : Nat} {ql6 : Nat} {qb6 : Nat} {qc6 : Nat} {qk6 : Nat} {qm6 : Nat} {parts : Int32} {limit : Int32} {len : Nat → Int32} {row : Nat → Int32} {vot : Nat → Int32} {p1 : Int32} {p2 : Int32} {Q : Int32 → (Int32) → (Int32) → (Nat → Int32) → (Nat → Int32) → (Nat → Int32) → (Nat → Int32) → (Nat → Int32) → Prop} {A : Nat → Prop} (S : CallFix p m c cX8_better 7 s args wsX8_better RX8) (hr : meth.sig.returnType = (some .int)) (hlocks : meth.locks = false) (hG : GK g s) (hA : ∀ q : Nat, s.heap.size ≤ q → A q) : ∀ (n : Nat), ∀ (x3 : Int32) (x4 : Int32) (x5 : Int32) (pa6 : Int32) (rw6 : Int32) (le6 : Nat → Int32) (bi6 : Nat → Int32) (co6 : Nat → Int32) (ki6 : Nat → Int32) (mi6 : Nat → Int32), vX8_better_c55 parts limit len row vot p1 p2 Q n x3 x4 x5 pa6 rw6 le6 bi6 co6 ki6 mi6 → ∀ (H : Heap) (locs : List Loc), va_P g.1 vwCl [(qX, .inr (8, [.ref qP, .ref qI, .ref qt, .ref qd, .ref qe, .ref qsp, .ref qrk, .ref qty])), (qt, .inr (7, [.ref ql, .ref qr, .ref qv, .ref qg, .int parts, .int limit])), (ql, .inl (g.2 0, 5, .inl len)), (qr, .inl (g.2 0, 5, .inl row)), (qv, .inl (g.2 0, 5, .inl vot)), (qty, .inr (6, [.ref ql6, .ref qb6, .ref qc6, .ref qk6, .ref qm6, .int pa6, .int rw6])), (ql6, .inl (g.2 0, 6, .inl le6)), (qb6, .inl (g.2 0, 6, .inl bi6)), (qc6, .inl (g.2 0, 64, .inl co6)), (qk6, .inl (g.2 0, 64, .inl ki6)), (qm6, .inl (g.2 0, 64, .inl mi6))] H → va_D A [(qX, .inr (8, [.ref qP, .ref qI, .ref qt, .ref qd, .ref qe, .ref qsp, .ref qrk, .ref qty])), (qt, .inr (7, [.ref ql, .ref qr, .ref qv, .ref qg, .int parts, .int limit])), (ql, .inl (g.2 0, 5, .inl len)), (qr, .inl (g.2 0, 5, .inl row)), (qv, .inl (g.2 0, 5, .inl vot)), (qty, .inr (6, [.ref ql6, .ref qb6, .ref qc6, .ref qk6, .ref qm6, .int pa6, .int rw6])), (ql6, .inl (g.2 0, 6, .inl le6)), (qb6, .inl (g.2 0, 6, .inl bi6)), (qc6, .inl (g.2 0, 64, .inl co6)), (qk6, .inl (g.2 0, 64, .inl ki6)), (qm6, .inl (g.2 0, 64, .inl mi6))] → va_S A s.heap H locs → ∀ (ls : Array Slot), lv_has ls 7 [(0, .ref qX), (1, .int p1), (2, .int p2), (3, .int x3), (4, .int x4), (5, .int x5)] → W p l e (headSpec wsX8_better rmX8_better).room s m args below meth c H locs 0 0 (MQ below (va_Qi (fun (r : Int32) (u : Int32 × Int32 × (Nat → Int32) × (Nat → Int32) × (Nat → Int32) × (Nat → Int32) × (Nat → Int32)) => Q r u.1 u.2.1 u.2.2.1 u.2.2.2.1 u.2.2.2.2.1 u.2.2.2.2.2.1 u.2.2.2.2.2.2) (fun (u : Int32 × Int32 × (Nat → Int32) × (Nat → Int32) × (Nat → Int32) × (Nat → Int32) × (Nat → Int32)) t => va_P g.1 vwCl [(qX, .inr (8, [.ref qP, .ref qI, .ref qt, .ref qd, .ref qe, .ref qsp, .ref qrk, .ref qty])), (qt, .inr (7, [.ref ql, .ref qr, .ref qv, .ref qg, .int parts, .int limit])), (ql, .inl (g.2 0, 5, .inl len)), (qr, .inl (g.2 0, 5, .inl row)), (qv, .inl (g.2 0, 5, .inl vot)), (qty, .inr (6, [.ref ql6, .ref qb6, .ref qc6, .ref qk6, .ref qm6, .int u.1, .int u.2.1])), (ql6, .inl (g.2 0, 6, .inl u.2.2.1)), (qb6, .inl (g.2 0, 6, .inl u.2.2.2.1)), (qc6, .inl (g.2 0, 64, .inl u.2.2.2.2.1)), (qk6, .inl (g.2 0, 64, .inl u.2.2.2.2.2.1)), (qm6, .inl (g.2 0, 64, .inl u.2.2.2.2.2.2))] t.heap ∧ va_D A [(qX, .inr (8, [.ref qP, .ref qI, .ref qt, .ref qd, .ref qe, .ref qsp, .ref qrk, .ref qty])), (qt, .inr (7, [.ref ql, .ref qr, .ref qv, .ref qg, .int parts, .int limit])), (ql, .inl (g.2 0, 5, .inl len)), (qr, .inl (g.2 0, 5, .inl row)), (qv, .inl (g.2 0, 5, .inl vot)), (qty, .inr (6, [.ref ql6, .ref qb6, .ref qc6, .ref qk6, .ref qm6, .int u.1, .int u.2.1])), (ql6, .inl (g.2 0, 6, .inl u.2.2.1)), (qb6, .inl (g.2 0, 6, .inl u.2.2.2.1)), (qc6, .inl (g.2 0, 64, .inl u.2.2.2.2.1)), (qk6, .inl (g.2 0, 64, .inl u.2.2.2.2.2.1)), (qm6, .inl (g.2 0, 64, .inl u.2.2.2.2.2.2))]) A) args s 0 0 A) (F0 m 55 ls []) := by
  obtain ⟨hx, hb, hml, hown, hts⟩ := id S
  have hK := hG.1
  intro n
  induction n with
  | zero => intro x3 x4 x5 pa6 rw6 le6 bi6 co6 ki6 mi6 hv; exact hv.elim
  | succ n ih =>
    intro x3 x4 x5 pa6 rw6 le6 bi6 co6 ki6 mi6 hv H locs hP hD hS ls hl
    refine lv_iload hx hb dX8_better_55 (lv_at hl 5 rfl) ?_
    refine lv_bipush (v := (9 : Int32)) hx hb dX8_better_57 (by decide) ?_
    obtain ⟨hvt, hvf⟩ := hv
    refine lv_icmp_gt (tgt := 101) hx hb dX8_better_59 (by decide) (fun hc => ?_) (fun hc => ?_)
    · have hv := hvt hc
      refine lv_iload_n hx hb dX8_better_101 rfl (lv_at hl 2 rfl) ?_
      obtain ⟨hvt, hvf⟩ := hv
      refine lv_if_eq (tgt := 110) hx hb dX8_better_102 (by decide) (fun hc => ?_) (fun hc => ?_)
      · have hv := hvt hc
        refine lv_iload_n hx hb dX8_better_110 rfl (lv_at hl 3 rfl) ?_
        have hP9 := hP.sub (ws' := [(qX, .inr (8, [.ref qP, .ref qI, .ref qt, .ref qd, .ref qe, .ref qsp, .ref qrk, .ref qty])), (qt, .inr (7, [.ref ql, .ref qr, .ref qv, .ref qg, .int parts, .int limit])), (ql, .inl (g.2 0, 5, .inl len)), (qr, .inl (g.2 0, 5, .inl row)), (qv, .inl (g.2 0, 5, .inl vot)), (qty, .inr (6, [.ref ql6, .ref qb6, .ref qc6, .ref qk6, .ref qm6, .int pa6, .int rw6])), (ql6, .inl (g.2 0, 6, .inl le6)), (qb6, .inl (g.2 0, 6, .inl bi6)), (qc6, .inl (g.2 0, 64, .inl co6)), (qk6, .inl (g.2 0, 64, .inl ki6)), (qm6, .inl (g.2 0, 64, .inl mi6))]) [0, 1, 2, 3, 4, 5, 6, 7, 8, 9, 10] rfl
        have hD9 := hD.sub (ws' := [(qX, .inr (8, [.ref qP, .ref qI, .ref qt, .ref qd, .ref qe, .ref qsp, .ref qrk, .ref qty])), (qt, .inr (7, [.ref ql, .ref qr, .ref qv, .ref qg, .int parts, .int limit])), (ql, .inl (g.2 0, 5, .inl len)), (qr, .inl (g.2 0, 5, .inl row)), (qv, .inl (g.2 0, 5, .inl vot)), (qty, .inr (6, [.ref ql6, .ref qb6, .ref qc6, .ref qk6, .ref qm6, .int pa6, .int rw6])), (ql6, .inl (g.2 0, 6, .inl le6)), (qb6, .inl (g.2 0, 6, .inl bi6)), (qc6, .inl (g.2 0, 64, .inl co6)), (qk6, .inl (g.2 0, 64, .inl ki6)), (qm6, .inl (g.2 0, 64, .inl mi6))]) [0, 1, 2, 3, 4, 5, 6, 7, 8, 9, 10] (by decide) rfl
        exact W.iret (v := x3) hx hb hr (fun t ht hW => ⟨⟨_, (pa6, rw6, le6, bi6, co6, ki6, mi6), rfl, hv, by rw [ht]; exact hP9, hD9⟩, hS.F ht⟩) hS.2.2 dX8_better_111
      · have hv := hvf hc
        refine lv_iload hx hb dX8_better_105 (lv_at hl 4 rfl) ?_
        refine lv_goto (tgt := 111) hx hb dX8_better_107 (by decide) ?_
        have hP9 := hP.sub (ws' := [(qX, .inr (8, [.ref qP, .ref qI, .ref qt, .ref qd, .ref qe, .ref qsp, .ref qrk, .ref qty])), (qt, .inr (7, [.ref ql, .ref qr, .ref qv, .ref qg, .int parts, .int limit])), (ql, .inl (g.2 0, 5, .inl len)), (qr, .inl (g.2 0, 5, .inl row)), (qv, .inl (g.2 0, 5, .inl vot)), (qty, .inr (6, [.ref ql6, .ref qb6, .ref qc6, .ref qk6, .ref qm6, .int pa6, .int rw6])), (ql6, .inl (g.2 0, 6, .inl le6)), (qb6, .inl (g.2 0, 6, .inl bi6)), (qc6, .inl (g.2 0, 64, .inl co6)), (qk6, .inl (g.2 0, 64, .inl ki6)), (qm6, .inl (g.2 0, 64, .inl mi6))]) [0, 1, 2, 3, 4, 5, 6, 7, 8, 9, 10] rfl
        have hD9 := hD.sub (ws' := [(qX, .inr (8, [.ref qP, .ref qI, .ref qt, .ref qd, .ref qe, .ref qsp, .ref qrk, .ref qty])), (qt, .inr (7, [.ref ql, .ref qr, .ref qv, .ref qg, .int parts, .int limit])), (ql, .inl (g.2 0, 5, .inl len)), (qr, .inl (g.2 0, 5, .inl row)), (qv, .inl (g.2 0, 5, .inl vot)), (qty, .inr (6, [.ref ql6, .ref qb6, .ref qc6, .ref qk6, .ref qm6, .int pa6, .int rw6])), (ql6, .inl (g.2 0, 6, .inl le6)), (qb6, .inl (g.2 0, 6, .inl bi6)), (qc6, .inl (g.2 0, 64, .inl co6)), (qk6, .inl (g.2 0, 64, .inl ki6)), (qm6, .inl (g.2 0, 64, .inl mi6))]) [0, 1, 2, 3, 4, 5, 6, 7, 8, 9, 10] (by decide) rfl
        exact W.iret (v := x4) hx hb hr (fun t ht hW => ⟨⟨_, (pa6, rw6, le6, bi6, co6, ki6, mi6), rfl, hv, by rw [ht]; exact hP9, hD9⟩, hS.F ht⟩) hS.2.2 dX8_better_111
    · have hv := hvf hc
      refine lv_aload_n hx hb dX8_better_62 rfl (lv_at hl 0 rfl) ?_
      refine va_get (D := g.1) (ci := 8) (v := .ref qty) (C := RX8) (T := TX8) (N := 8) hx hb hts inX8_better_8 hown hK hP 0 rfl rfl 7 (by decide) (hts (.fieldLink RX8 66 "RangeCodes" "tally" "LRangeCodes$Tally;") (List.mem_of_getElem? (i := 3) rfl)) (fun _ h9 => h9) rfl dX8_better_63 ?_
      refine lv_aload_n hx hb dX8_better_66 rfl (lv_at hl 0 rfl) ?_
      refine va_get (D := g.1) (ci := 8) (v := .ref qt) (C := RX8) (T := TX8) (N := 8) hx hb hts inX8_better_8 hown hK hP 0 rfl rfl 2 (by decide) (hts (.fieldLink RX8 24 "RangeCodes" "told" "LRangeCodes$Told;") (List.mem_of_getElem? (i := 1) rfl)) (fun _ h9 => h9) rfl dX8_better_67 ?_
      refine lv_iload_n hx hb dX8_better_70 rfl (lv_at hl 1 rfl) ?_
      refine lv_iload hx hb dX8_better_71 (lv_at hl 5 rfl) ?_
      obtain ⟨T_73, T1_73, ho_1, hv⟩ := hv
      refine vp_callSi (W.runV (As := [.int p1, .int x5]) (rest := [.ref qty]) S (wX7_election l g qt ql qr qv qg parts limit vot p1 x5 (sX7_election T_73 T1_73 parts limit vot p1 x5 ho_1)) (cwV 2 hts gX8_better_X7_election rfl rfl rfl (by decide +kernel) ⟨Nat.le_of_ble_eq_true rfl, Nat.le_of_ble_eq_true rfl⟩) ⟨blindRO, va_recv hK hP (ci := 7) (q0 := 1) rfl rfl, fun U hU hW => ⟨rfl, by rw [hU]; exact hP.sub (ws' := [(qt, .inr (7, [.ref ql, .ref qr, .ref qv, .ref qg, .int parts, .int limit])), (qv, .inl (g.2 0, 5, .inl vot))]) [1, 4] rfl, hG.warm hW⟩⟩ rfl rfl hl.1 rfl (lv_room (Nat.le_of_ble_eq_true rfl)) dX8_better_73 ⟨Nat.le_of_ble_eq_true rfl, Nat.le_of_ble_eq_true rfl⟩) (fun r_73 hr_73 => ?_)
      have hv := hv r_73 hr_73
      obtain ⟨n_76, P_76, u_76, E_76, ho_2, hv⟩ := hv
      refine vp_callSi (W.runV (As := [.int r_73]) (rest := []) S (wX6_leastFull l g qty ql6 qb6 qc6 qk6 qm6 pa6 rw6 co6 r_73 (sX6_leastFull n_76 P_76 u_76 E_76 pa6 rw6 co6 r_73 ho_2)) (cwV 1 hts gX8_better_X6_leastFull rfl rfl rfl (by decide +kernel) ⟨Nat.le_of_ble_eq_true rfl, Nat.le_of_ble_eq_true rfl⟩) ⟨blindRO, va_recv hK hP (ci := 6) (q0 := 5) rfl rfl, fun U hU hW => ⟨rfl, by rw [hU]; exact hP.sub (ws' := [(qty, .inr (6, [.ref ql6, .ref qb6, .ref qc6, .ref qk6, .ref qm6, .int pa6, .int rw6])), (qc6, .inl (g.2 0, 64, .inl co6))]) [5, 8] rfl, hG.warm hW⟩⟩ rfl rfl hl.1 rfl (lv_room (Nat.le_of_ble_eq_true rfl)) dX8_better_76 ⟨Nat.le_of_ble_eq_true rfl, Nat.le_of_ble_eq_true rfl⟩) (fun r_76 hr_76 => ?_)
      have hv := hv r_76 hr_76
      refine lv_istore (lv' := [(6, .int r_76), (0, .ref qX), (1, .int p1), (2, .int p2), (3, .int x3), (4, .int x4), (5, .int x5)]) hx hb dX8_better_79 hl (by decide) rfl (fun ls hl => ?_)
      refine lv_iload hx hb dX8_better_81 (lv_at hl 0 rfl) ?_
      refine lv_iload hx hb dX8_better_83 (lv_at hl 5 rfl) ?_
      obtain ⟨hvt, hvf⟩ := hv
      refine lv_icmp_le (tgt := 95) hx hb dX8_better_85 (by decide) (fun hc => ?_) (fun hc => ?_)
      · have hv := hvt hc
        refine lv_iinc (v := (x5 + (1 : Int32))) (lv' := [(5, .int (x5 + (1 : Int32))), (6, .int r_76), (0, .ref qX), (1, .int p1), (2, .int p2), (3, .int x3), (4, .int x4)]) hx hb dX8_better_95 hl (k := 6) rfl rfl (by decide) rfl (fun ls hl => ?_)
        refine lv_goto (tgt := 55) hx hb dX8_better_98 (by decide) ?_
        exact ih _ _ _ _ _ _ _ _ _ _ hv _ _ (hP.sub (ws' := [(qX, .inr (8, [.ref qP, .ref qI, .ref qt, .ref qd, .ref qe, .ref qsp, .ref qrk, .ref qty])), (qt, .inr (7, [.ref ql, .ref qr, .ref qv, .ref qg, .int parts, .int limit])), (ql, .inl (g.2 0, 5, .inl len)), (qr, .inl (g.2 0, 5, .inl row)), (qv, .inl (g.2 0, 5, .inl vot)), (qty, .inr (6, [.ref ql6, .ref qb6, .ref qc6, .ref qk6, .ref qm6, .int pa6, .int rw6])), (ql6, .inl (g.2 0, 6, .inl le6)), (qb6, .inl (g.2 0, 6, .inl bi6)), (qc6, .inl (g.2 0, 64, .inl co6)), (qk6, .inl (g.2 0, 64, .inl ki6)), (qm6, .inl (g.2 0, 64, .inl mi6))]) [0, 1, 2, 3, 4, 5, 6, 7, 8, 9, 10] rfl) (hD.sub (ws' := [(qX, .inr (8, [.ref qP, .ref qI, .ref qt, .ref qd, .ref qe, .ref qsp, .ref qrk, .ref qty])), (qt, .inr (7, [.ref ql, .ref qr, .ref qv, .ref qg, .int parts, .int limit])), (ql, .inl (g.2 0, 5, .inl len)), (qr, .inl (g.2 0, 5, .inl row)), (qv, .inl (g.2 0, 5, .inl vot)), (qty, .inr (6, [.ref ql6, .ref qb6, .ref qc6, .ref qk6, .ref qm6, .int pa6, .int rw6])), (ql6, .inl (g.2 0, 6, .inl le6)), (qb6, .inl (g.2 0, 6, .inl bi6)), (qc6, .inl (g.2 0, 64, .inl co6)), (qk6, .inl (g.2 0, 64, .inl ki6)), (qm6, .inl (g.2 0, 64, .inl mi6))]) [0, 1, 2, 3, 4, 5, 6, 7, 8, 9, 10] (by decide) rfl) hS ls (lv_sub hl [2, 3, 4, 5, 6, 0] rfl)
      · have hv := hvf hc
        refine lv_iload hx hb dX8_better_88 (lv_at hl 6 rfl) ?_
        refine lv_istore_n (lv' := [(3, .int x5), (6, .int r_76), (0, .ref qX), (1, .int p1), (2, .int p2), (4, .int x4), (5, .int x5)]) hx hb dX8_better_90 rfl hl (by decide) rfl (fun ls hl => ?_)
        refine lv_iload hx hb dX8_better_91 (lv_at hl 1 rfl) ?_
        refine lv_istore (lv' := [(4, .int r_76), (3, .int x5), (6, .int r_76), (0, .ref qX), (1, .int p1), (2, .int p2), (5, .int x5)]) hx hb dX8_better_93 hl (by decide) rfl (fun ls hl => ?_)
        refine lv_iinc (v := (x5 + (1 : Int32))) (lv' := [(5, .int (x5 + (1 : Int32))), (4, .int r_76), (3, .int x5), (6, .int r_76), (0, .ref qX), (1, .int p1), (2, .int p2)]) hx hb dX8_better_95 hl (k := 6) rfl rfl (by decide) rfl (fun ls hl => ?_)
        refine lv_goto (tgt := 55) hx hb dX8_better_98 (by decide) ?_
        exact ih _ _ _ _ _ _ _ _ _ _ hv _ _ (hP.sub (ws' := [(qX, .inr (8, [.ref qP, .ref qI, .ref qt, .ref qd, .ref qe, .ref qsp, .ref qrk, .ref qty])), (qt, .inr (7, [.ref ql, .ref qr, .ref qv, .ref qg, .int parts, .int limit])), (ql, .inl (g.2 0, 5, .inl len)), (qr, .inl (g.2 0, 5, .inl row)), (qv, .inl (g.2 0, 5, .inl vot)), (qty, .inr (6, [.ref ql6, .ref qb6, .ref qc6, .ref qk6, .ref qm6, .int pa6, .int rw6])), (ql6, .inl (g.2 0, 6, .inl le6)), (qb6, .inl (g.2 0, 6, .inl bi6)), (qc6, .inl (g.2 0, 64, .inl co6)), (qk6, .inl (g.2 0, 64, .inl ki6)), (qm6, .inl (g.2 0, 64, .inl mi6))]) [0, 1, 2, 3, 4, 5, 6, 7, 8, 9, 10] rfl) (hD.sub (ws' := [(qX, .inr (8, [.ref qP, .ref qI, .ref qt, .ref qd, .ref qe, .ref qsp, .ref qrk, .ref qty])), (qt, .inr (7, [.ref ql, .ref qr, .ref qv, .ref qg, .int parts, .int limit])), (ql, .inl (g.2 0, 5, .inl len)), (qr, .inl (g.2 0, 5, .inl row)), (qv, .inl (g.2 0, 5, .inl vot)), (qty, .inr (6, [.ref ql6, .ref qb6, .ref qc6, .ref qk6, .ref qm6, .int pa6, .int rw6])), (ql6, .inl (g.2 0, 6, .inl le6)), (qb6, .inl (g.2 0, 6, .inl bi6)), (qc6, .inl (g.2 0, 64, .inl co6)), (qk6, .inl (g.2 0, 64, .inl ki6)), (qm6, .inl (g.2 0, 64, .inl mi6))]) [0, 1, 2, 3, 4, 5, 6, 7, 8, 9, 10] (by decide) rfl) hS ls (lv_sub hl [4, 5, 6, 2, 1, 0] rfl)
def vX8_better (parts : Int32) (limit : Int32) (len : Nat → Int32) (row : Nat → Int32) (vot : Nat → Int32) (pa6 : Int32) (rw6 : Int32) (le6 : Nat → Int32) (bi6 : Nat → Int32) (co6 : Nat → Int32) (ki6 : Nat → Int32) (mi6 : Nat → Int32) (p1 : Int32) (p2 : Int32) (Q : Int32 → (Int32) → (Int32) → (Nat → Int32) → (Nat → Int32) → (Nat → Int32) → (Nat → Int32) → (Nat → Int32) → Prop) : Prop := (preX7_hasPart parts limit p1 ∧ (∀ r_5 : Int32, postX7_hasPart parts limit p1 r_5 → ((¬ r_5 = 0 → (∃ (T_22 : Cd), preX6_takeCode T_22 pa6 rw6 le6 bi6 parts limit len row ∧ (∀ (pa6_22 : Int32) (rw6_22 : Int32) (le6_22 : Nat → Int32) (bi6_22 : Nat → Int32), postX6_takeCode T_22 pa6 rw6 le6 bi6 parts limit len row pa6_22 rw6_22 le6_22 bi6_22 → (∃ (R_29 : Cd), preX6_countAll R_29 pa6_22 rw6_22 le6_22 bi6_22 co6 ki6 mi6 ∧ (∀ (co6_29 : Nat → Int32) (ki6_29 : Nat → Int32) (mi6_29 : Nat → Int32), postX6_countAll R_29 pa6_22 rw6_22 le6_22 bi6_22 co6 ki6 mi6 co6_29 ki6_29 mi6_29 → (∃ (T_44 : Cd) (T1_44 : Cd), preX7_election T_44 T1_44 parts limit vot p1 (1 : Int32) ∧ (∀ r_44 : Int32, postX7_election T_44 T1_44 parts limit vot p1 (1 : Int32) r_44 → (∃ (n_47 : Nat) (P_47 : Nat) (u_47 : Nat → Nat) (E_47 : Nat → Bool), preX6_leastFull n_47 P_47 u_47 E_47 pa6_22 rw6_22 co6_29 r_44 ∧ (∀ r_47 : Int32, postX6_leastFull n_47 P_47 u_47 E_47 pa6_22 rw6_22 co6_29 r_44 r_47 → (∃ nn, vX8_better_c55 parts limit len row vot p1 p2 Q nn (1 : Int32) r_47 (2 : Int32) pa6_22 rw6_22 le6_22 bi6_22 co6_29 ki6_29 mi6_29)))))))))) ∧ (r_5 = 0 → (Q (-1000000 : Int32) pa6 rw6 le6 bi6 co6 ki6 mi6)))))
set_option maxHeartbeats 4000000 in
set_option maxRecDepth 100000 in
theorem wX8_better (l : Launch) (g : GP) (qX : Nat) (qP : Nat) (qI : Nat) (qt : Nat) (qd : Nat) (qe : Nat) (qsp : Nat) (qrk : Nat) (qty : Nat) (ql : Nat) (qr : Nat) (qv : Nat) (qg : Nat) (ql6 : Nat) (qb6 : Nat) (qc6 : Nat) (qk6 : Nat) (qm6 : Nat) (sz : Nat) (parts : Int32) (limit : Int32) (len : Nat → Int32) (row : Nat → Int32) (vot : Nat → Int32) (pa6 : Int32) (rw6 : Int32) (le6 : Nat → Int32) (bi6 : Nat → Int32) (co6 : Nat → Int32) (ki6 : Nat → Int32) (mi6 : Nat → Int32) (p1 : Int32) (p2 : Int32) {Q : Int32 → (Int32) → (Int32) → (Nat → Int32) → (Nat → Int32) → (Nat → Int32) → (Nat → Int32) → (Nat → Int32) → Prop} (hv : vX8_better parts limit len row vot pa6 rw6 le6 bi6 co6 ki6 mi6 p1 p2 Q) : Met l yX8_better wsX8_better rmX8_better (va_Pc [.ref qX, .int p1, .int p2] (fun U => U.heap.size = sz ∧ va_P g.1 vwCl [(qX, .inr (8, [.ref qP, .ref qI, .ref qt, .ref qd, .ref qe, .ref qsp, .ref qrk, .ref qty])), (qt, .inr (7, [.ref ql, .ref qr, .ref qv, .ref qg, .int parts, .int limit])), (ql, .inl (g.2 0, 5, .inl len)), (qr, .inl (g.2 0, 5, .inl row)), (qv, .inl (g.2 0, 5, .inl vot)), (qty, .inr (6, [.ref ql6, .ref qb6, .ref qc6, .ref qk6, .ref qm6, .int pa6, .int rw6])), (ql6, .inl (g.2 0, 6, .inl le6)), (qb6, .inl (g.2 0, 6, .inl bi6)), (qc6, .inl (g.2 0, 64, .inl co6)), (qk6, .inl (g.2 0, 64, .inl ki6)), (qm6, .inl (g.2 0, 64, .inl mi6))] U.heap ∧ GK g U ∧ va_D (fun _ => True) [(qX, .inr (8, [.ref qP, .ref qI, .ref qt, .ref qd, .ref qe, .ref qsp, .ref qrk, .ref qty])), (qt, .inr (7, [.ref ql, .ref qr, .ref qv, .ref qg, .int parts, .int limit])), (ql, .inl (g.2 0, 5, .inl len)), (qr, .inl (g.2 0, 5, .inl row)), (qv, .inl (g.2 0, 5, .inl vot)), (qty, .inr (6, [.ref ql6, .ref qb6, .ref qc6, .ref qk6, .ref qm6, .int pa6, .int rw6])), (ql6, .inl (g.2 0, 6, .inl le6)), (qb6, .inl (g.2 0, 6, .inl bi6)), (qc6, .inl (g.2 0, 64, .inl co6)), (qk6, .inl (g.2 0, 64, .inl ki6)), (qm6, .inl (g.2 0, 64, .inl mi6))])) (va_Qi (fun (r : Int32) (u : Int32 × Int32 × (Nat → Int32) × (Nat → Int32) × (Nat → Int32) × (Nat → Int32) × (Nat → Int32)) => Q r u.1 u.2.1 u.2.2.1 u.2.2.2.1 u.2.2.2.2.1 u.2.2.2.2.2.1 u.2.2.2.2.2.2) (fun (u : Int32 × Int32 × (Nat → Int32) × (Nat → Int32) × (Nat → Int32) × (Nat → Int32) × (Nat → Int32)) t => va_P g.1 vwCl [(qX, .inr (8, [.ref qP, .ref qI, .ref qt, .ref qd, .ref qe, .ref qsp, .ref qrk, .ref qty])), (qt, .inr (7, [.ref ql, .ref qr, .ref qv, .ref qg, .int parts, .int limit])), (ql, .inl (g.2 0, 5, .inl len)), (qr, .inl (g.2 0, 5, .inl row)), (qv, .inl (g.2 0, 5, .inl vot)), (qty, .inr (6, [.ref ql6, .ref qb6, .ref qc6, .ref qk6, .ref qm6, .int u.1, .int u.2.1])), (ql6, .inl (g.2 0, 6, .inl u.2.2.1)), (qb6, .inl (g.2 0, 6, .inl u.2.2.2.1)), (qc6, .inl (g.2 0, 64, .inl u.2.2.2.2.1)), (qk6, .inl (g.2 0, 64, .inl u.2.2.2.2.2.1)), (qm6, .inl (g.2 0, 64, .inl u.2.2.2.2.2.2))] t.heap ∧ va_D (va_A [(qX, .inr (8, [.ref qP, .ref qI, .ref qt, .ref qd, .ref qe, .ref qsp, .ref qrk, .ref qty])), (qt, .inr (7, [.ref ql, .ref qr, .ref qv, .ref qg, .int parts, .int limit])), (ql, .inl (g.2 0, 5, .inl len)), (qr, .inl (g.2 0, 5, .inl row)), (qv, .inl (g.2 0, 5, .inl vot)), (qty, .inr (6, [.ref ql6, .ref qb6, .ref qc6, .ref qk6, .ref qm6, .int pa6, .int rw6])), (ql6, .inl (g.2 0, 6, .inl le6)), (qb6, .inl (g.2 0, 6, .inl bi6)), (qc6, .inl (g.2 0, 64, .inl co6)), (qk6, .inl (g.2 0, 64, .inl ki6)), (qm6, .inl (g.2 0, 64, .inl mi6))] sz) [(qX, .inr (8, [.ref qP, .ref qI, .ref qt, .ref qd, .ref qe, .ref qsp, .ref qrk, .ref qty])), (qt, .inr (7, [.ref ql, .ref qr, .ref qv, .ref qg, .int parts, .int limit])), (ql, .inl (g.2 0, 5, .inl len)), (qr, .inl (g.2 0, 5, .inl row)), (qv, .inl (g.2 0, 5, .inl vot)), (qty, .inr (6, [.ref ql6, .ref qb6, .ref qc6, .ref qk6, .ref qm6, .int u.1, .int u.2.1])), (ql6, .inl (g.2 0, 6, .inl u.2.2.1)), (qb6, .inl (g.2 0, 6, .inl u.2.2.2.1)), (qc6, .inl (g.2 0, 64, .inl u.2.2.2.2.1)), (qk6, .inl (g.2 0, 64, .inl u.2.2.2.2.2.1)), (qm6, .inl (g.2 0, 64, .inl u.2.2.2.2.2.2))]) (va_A [(qX, .inr (8, [.ref qP, .ref qI, .ref qt, .ref qd, .ref qe, .ref qsp, .ref qrk, .ref qty])), (qt, .inr (7, [.ref ql, .ref qr, .ref qv, .ref qg, .int parts, .int limit])), (ql, .inl (g.2 0, 5, .inl len)), (qr, .inl (g.2 0, 5, .inl row)), (qv, .inl (g.2 0, 5, .inl vot)), (qty, .inr (6, [.ref ql6, .ref qb6, .ref qc6, .ref qk6, .ref qm6, .int pa6, .int rw6])), (ql6, .inl (g.2 0, 6, .inl le6)), (qb6, .inl (g.2 0, 6, .inl bi6)), (qc6, .inl (g.2 0, 64, .inl co6)), (qk6, .inl (g.2 0, 64, .inl ki6)), (qm6, .inl (g.2 0, 64, .inl mi6))] sz)) 0 0 (va_A [(qX, .inr (8, [.ref qP, .ref qI, .ref qt, .ref qd, .ref qe, .ref qsp, .ref qrk, .ref qty])), (qt, .inr (7, [.ref ql, .ref qr, .ref qv, .ref qg, .int parts, .int limit])), (ql, .inl (g.2 0, 5, .inl len)), (qr, .inl (g.2 0, 5, .inl row)), (qv, .inl (g.2 0, 5, .inl vot)), (qty, .inr (6, [.ref ql6, .ref qb6, .ref qc6, .ref qk6, .ref qm6, .int pa6, .int rw6])), (ql6, .inl (g.2 0, 6, .inl le6)), (qb6, .inl (g.2 0, 6, .inl bi6)), (qc6, .inl (g.2 0, 64, .inl co6)), (qk6, .inl (g.2 0, 64, .inl ki6)), (qm6, .inl (g.2 0, 64, .inl mi6))] sz) := by
  refine Met.ofW (cc := cX8_better) (maxL := 7) (ret := (some .int)) (by decide) rfl ?_
  intro p e s m args below meth c s₁ B hml hv'
  obtain ⟨rfl, hsz, hP, hG, hD0⟩ := hv'
  have S : CallFix p m c cX8_better 7 s _ wsX8_better RX8 := ⟨B.exec, B.bytes, hml, findClass_of_methodNamed B.named, atoms_spec (ws := wsX8_better) B.pre⟩
  obtain ⟨hx, hb, hml, hown, hts⟩ := id S
  have hK := hG.1
  have hr := B.returns
  have hlocks := B.notSynchronized
  subst hsz
  have hD := hD0.self (sz := s.heap.size)
  generalize hAe : va_A [(qX, .inr (8, [.ref qP, .ref qI, .ref qt, .ref qd, .ref qe, .ref qsp, .ref qrk, .ref qty])), (qt, .inr (7, [.ref ql, .ref qr, .ref qv, .ref qg, .int parts, .int limit])), (ql, .inl (g.2 0, 5, .inl len)), (qr, .inl (g.2 0, 5, .inl row)), (qv, .inl (g.2 0, 5, .inl vot)), (qty, .inr (6, [.ref ql6, .ref qb6, .ref qc6, .ref qk6, .ref qm6, .int pa6, .int rw6])), (ql6, .inl (g.2 0, 6, .inl le6)), (qb6, .inl (g.2 0, 6, .inl bi6)), (qc6, .inl (g.2 0, 64, .inl co6)), (qk6, .inl (g.2 0, 64, .inl ki6)), (qm6, .inl (g.2 0, 64, .inl mi6))] s.heap.size = A at hD ⊢
  have hA : ∀ q : Nat, s.heap.size ≤ q → A q := fun q h => by rw [← hAe]; exact Or.inr h
  have hS : va_S A s.heap s.heap [] := va_S.rf
  clear hD0 hAe
  have hl := lv_entry ([.ref qX, .int p1, .int p2]) (n := 7) (Nat.le_of_ble_eq_true rfl)
  rw [lg_entry_eq]
  generalize (lg_sl ([.ref qX, .int p1, .int p2]) ++ List.replicate (7 - (lg_sl ([.ref qX, .int p1, .int p2])).length) Slot.unset).toArray = ls at hl ⊢
  have hl : lv_has ls 7 [(0, .ref qX), (1, .int p1), (2, .int p2)] := hl
  unfold vX8_better at hv
  refine lv_aload_n hx hb dX8_better_0 rfl (lv_at hl 0 rfl) ?_
  refine va_get (D := g.1) (ci := 8) (v := .ref qt) (C := RX8) (T := TX8) (N := 8) hx hb hts inX8_better_8 hown hK hP 0 rfl rfl 2 (by decide) (hts (.fieldLink RX8 24 "RangeCodes" "told" "LRangeCodes$Told;") (List.mem_of_getElem? (i := 1) rfl)) (fun _ h9 => h9) rfl dX8_better_1 ?_
  refine lv_iload_n hx hb dX8_better_4 rfl (lv_at hl 1 rfl) ?_
  obtain ⟨ho_1, hv⟩ := hv
  refine vp_callSi (W.runV (As := [.int p1]) (rest := []) S (wX7_hasPart l g qt ql qr qv qg parts limit p1 (sX7_hasPart parts limit p1 ho_1)) (cwV 1 hts gX8_better_X7_hasPart rfl rfl rfl (by decide +kernel) ⟨Nat.le_of_ble_eq_true rfl, Nat.le_of_ble_eq_true rfl⟩) ⟨blindRO, va_recv hK hP (ci := 7) (q0 := 1) rfl rfl, fun U hU hW => ⟨rfl, by rw [hU]; exact hP.sub (ws' := [(qt, .inr (7, [.ref ql, .ref qr, .ref qv, .ref qg, .int parts, .int limit]))]) [1] rfl, hG.warm hW⟩⟩ rfl rfl hl.1 rfl (lv_room (Nat.le_of_ble_eq_true rfl)) dX8_better_5 ⟨Nat.le_of_ble_eq_true rfl, Nat.le_of_ble_eq_true rfl⟩) (fun r_5 hr_5 => ?_)
  have hv := hv r_5 hr_5
  obtain ⟨hvt, hvf⟩ := hv
  refine lv_if_ne (tgt := 14) hx hb dX8_better_8 (by decide) (fun hc => ?_) (fun hc => ?_)
  · have hv := hvt hc
    refine lv_aload_n hx hb dX8_better_14 rfl (lv_at hl 0 rfl) ?_
    refine va_get (D := g.1) (ci := 8) (v := .ref qty) (C := RX8) (T := TX8) (N := 8) hx hb hts inX8_better_8 hown hK hP 0 rfl rfl 7 (by decide) (hts (.fieldLink RX8 66 "RangeCodes" "tally" "LRangeCodes$Tally;") (List.mem_of_getElem? (i := 3) rfl)) (fun _ h9 => h9) rfl dX8_better_15 ?_
    refine lv_aload_n hx hb dX8_better_18 rfl (lv_at hl 0 rfl) ?_
    refine va_get (D := g.1) (ci := 8) (v := .ref qt) (C := RX8) (T := TX8) (N := 8) hx hb hts inX8_better_8 hown hK hP 0 rfl rfl 2 (by decide) (hts (.fieldLink RX8 24 "RangeCodes" "told" "LRangeCodes$Told;") (List.mem_of_getElem? (i := 1) rfl)) (fun _ h9 => h9) rfl dX8_better_19 ?_
    obtain ⟨T_22, ho_2, hv⟩ := hv
    have hPc := hP.sub (ws' := [(qty, .inr (6, [.ref ql6, .ref qb6, .ref qc6, .ref qk6, .ref qm6, .int pa6, .int rw6])), (ql6, .inl (g.2 0, 6, .inl le6)), (qb6, .inl (g.2 0, 6, .inl bi6)), (qt, .inr (7, [.ref ql, .ref qr, .ref qv, .ref qg, .int parts, .int limit])), (ql, .inl (g.2 0, 5, .inl len)), (qr, .inl (g.2 0, 5, .inl row))]) [5, 6, 7, 1, 2, 3] rfl
    have hDc := hD.sub (ws' := [(qty, .inr (6, [.ref ql6, .ref qb6, .ref qc6, .ref qk6, .ref qm6, .int pa6, .int rw6])), (ql6, .inl (g.2 0, 6, .inl le6)), (qb6, .inl (g.2 0, 6, .inl bi6)), (qt, .inr (7, [.ref ql, .ref qr, .ref qv, .ref qg, .int parts, .int limit])), (ql, .inl (g.2 0, 5, .inl len)), (qr, .inl (g.2 0, 5, .inl row))]) [5, 6, 7, 1, 2, 3] (by decide) rfl
    have hFc := va_free (wc := [(qty, .inr (6, [.ref ql6, .ref qb6, .ref qc6, .ref qk6, .ref qm6, .int pa6, .int rw6])), (ql6, .inl (g.2 0, 6, .inl le6)), (qb6, .inl (g.2 0, 6, .inl bi6)), (qt, .inr (7, [.ref ql, .ref qr, .ref qv, .ref qg, .int parts, .int limit])), (ql, .inl (g.2 0, 5, .inl len)), (qr, .inl (g.2 0, 5, .inl row))]) hD hS hA [5, 6, 7, 1, 2, 3] rfl
    refine va_callv (va_runV (As := [.ref qt]) (rest := []) S (wX6_takeCode l g qty ql6 qb6 qc6 qk6 qm6 qt ql qr qv qg s.heap.size pa6 rw6 le6 bi6 parts limit len row (sX6_takeCode T_22 pa6 rw6 le6 bi6 parts limit len row ho_2)) (cwV 1 hts gX8_better_X6_takeCode rfl rfl rfl (by decide +kernel) ⟨Nat.le_of_ble_eq_true rfl, Nat.le_of_ble_eq_true rfl⟩) ⟨blindRW, va_recv hK hP (ci := 6) (q0 := 5) rfl rfl, fun U hU hW => ⟨rfl, by rw [hU], by rw [hU]; exact hPc, hG.warm hW, hDc.weaken (fun _ _ _ _ => trivial)⟩⟩ rfl rfl hl.1 rfl (lv_room (Nat.le_of_ble_eq_true rfl)) dX8_better_22 ⟨Nat.le_of_ble_eq_true rfl, Nat.le_of_ble_eq_true rfl⟩) hS (fun q _ h => hFc q h) hFc (fun u t H1 locs ht hvm hw hB hz1 hk1 hS => ?_)
    obtain ⟨pa6_22, rw6_22, le6_22, bi6_22⟩ := u
    obtain ⟨hP1, hD1⟩ := hB
    rw [ht] at hP1
    have hv := hv pa6_22 rw6_22 le6_22 bi6_22 hw
    obtain ⟨hP, hD⟩ := va_join (wr := [(qX, .inr (8, [.ref qP, .ref qI, .ref qt, .ref qd, .ref qe, .ref qsp, .ref qrk, .ref qty])), (qv, .inl (g.2 0, 5, .inl vot)), (qc6, .inl (g.2 0, 64, .inl co6)), (qk6, .inl (g.2 0, 64, .inl ki6)), (qm6, .inl (g.2 0, 64, .inl mi6))]) (w1 := [(qty, .inr (6, [.ref ql6, .ref qb6, .ref qc6, .ref qk6, .ref qm6, .int pa6_22, .int rw6_22])), (ql6, .inl (g.2 0, 6, .inl le6_22)), (qb6, .inl (g.2 0, 6, .inl bi6_22)), (qt, .inr (7, [.ref ql, .ref qr, .ref qv, .ref qg, .int parts, .int limit])), (ql, .inl (g.2 0, 5, .inl len)), (qr, .inl (g.2 0, 5, .inl row))]) hP hD [5, 6, 7, 1, 2, 3] [0, 4, 8, 9, 10] rfl rfl (by decide) (by decide) hk1 hFc hP1 hD1
    clear hP1 hD1 hPc hDc hFc hk1
    generalize H1 = H at hP hS ⊢
    have hP : va_P g.1 vwCl [(qX, .inr (8, [.ref qP, .ref qI, .ref qt, .ref qd, .ref qe, .ref qsp, .ref qrk, .ref qty])), (qv, .inl (g.2 0, 5, .inl vot)), (qc6, .inl (g.2 0, 64, .inl co6)), (qk6, .inl (g.2 0, 64, .inl ki6)), (qm6, .inl (g.2 0, 64, .inl mi6)), (qty, .inr (6, [.ref ql6, .ref qb6, .ref qc6, .ref qk6, .ref qm6, .int pa6_22, .int rw6_22])), (ql6, .inl (g.2 0, 6, .inl le6_22)), (qb6, .inl (g.2 0, 6, .inl bi6_22)), (qt, .inr (7, [.ref ql, .ref qr, .ref qv, .ref qg, .int parts, .int limit])), (ql, .inl (g.2 0, 5, .inl len)), (qr, .inl (g.2 0, 5, .inl row))] H := hP
    have hD : va_D A [(qX, .inr (8, [.ref qP, .ref qI, .ref qt, .ref qd, .ref qe, .ref qsp, .ref qrk, .ref qty])), (qv, .inl (g.2 0, 5, .inl vot)), (qc6, .inl (g.2 0, 64, .inl co6)), (qk6, .inl (g.2 0, 64, .inl ki6)), (qm6, .inl (g.2 0, 64, .inl mi6)), (qty, .inr (6, [.ref ql6, .ref qb6, .ref qc6, .ref qk6, .ref qm6, .int pa6_22, .int rw6_22])), (ql6, .inl (g.2 0, 6, .inl le6_22)), (qb6, .inl (g.2 0, 6, .inl bi6_22)), (qt, .inr (7, [.ref ql, .ref qr, .ref qv, .ref qg, .int parts, .int limit])), (ql, .inl (g.2 0, 5, .inl len)), (qr, .inl (g.2 0, 5, .inl row))] := hD
    refine lv_aload_n hx hb dX8_better_25 rfl (lv_at hl 0 rfl) ?_
    refine va_get (D := g.1) (ci := 8) (v := .ref qty) (C := RX8) (T := TX8) (N := 8) hx hb hts inX8_better_8 hown hK hP 0 rfl rfl 7 (by decide) (hts (.fieldLink RX8 66 "RangeCodes" "tally" "LRangeCodes$Tally;") (List.mem_of_getElem? (i := 3) rfl)) (fun _ h9 => h9) rfl dX8_better_26 ?_
    obtain ⟨R_29, ho_3, hv⟩ := hv
    have hPc := hP.sub (ws' := [(qty, .inr (6, [.ref ql6, .ref qb6, .ref qc6, .ref qk6, .ref qm6, .int pa6_22, .int rw6_22])), (ql6, .inl (g.2 0, 6, .inl le6_22)), (qb6, .inl (g.2 0, 6, .inl bi6_22)), (qc6, .inl (g.2 0, 64, .inl co6)), (qk6, .inl (g.2 0, 64, .inl ki6)), (qm6, .inl (g.2 0, 64, .inl mi6))]) [5, 6, 7, 2, 3, 4] rfl
    have hDc := hD.sub (ws' := [(qty, .inr (6, [.ref ql6, .ref qb6, .ref qc6, .ref qk6, .ref qm6, .int pa6_22, .int rw6_22])), (ql6, .inl (g.2 0, 6, .inl le6_22)), (qb6, .inl (g.2 0, 6, .inl bi6_22)), (qc6, .inl (g.2 0, 64, .inl co6)), (qk6, .inl (g.2 0, 64, .inl ki6)), (qm6, .inl (g.2 0, 64, .inl mi6))]) [5, 6, 7, 2, 3, 4] (by decide) rfl
    have hFc := va_free (wc := [(qty, .inr (6, [.ref ql6, .ref qb6, .ref qc6, .ref qk6, .ref qm6, .int pa6_22, .int rw6_22])), (ql6, .inl (g.2 0, 6, .inl le6_22)), (qb6, .inl (g.2 0, 6, .inl bi6_22)), (qc6, .inl (g.2 0, 64, .inl co6)), (qk6, .inl (g.2 0, 64, .inl ki6)), (qm6, .inl (g.2 0, 64, .inl mi6))]) hD hS hA [5, 6, 7, 2, 3, 4] rfl
    refine va_callv (va_runV (As := []) (rest := []) S (wX6_countAll l g qty ql6 qb6 qc6 qk6 qm6 H.size pa6_22 rw6_22 le6_22 bi6_22 co6 ki6 mi6 (sX6_countAll R_29 pa6_22 rw6_22 le6_22 bi6_22 co6 ki6 mi6 ho_3)) (cwV 0 hts gX8_better_X6_countAll rfl rfl rfl (by decide +kernel) ⟨Nat.le_of_ble_eq_true rfl, Nat.le_of_ble_eq_true rfl⟩) ⟨blindRW, va_recv hK hP (ci := 6) (q0 := 5) rfl rfl, fun U hU hW => ⟨rfl, by rw [hU], by rw [hU]; exact hPc, hG.warm hW, hDc.weaken (fun _ _ _ _ => trivial)⟩⟩ rfl rfl hl.1 rfl (lv_room (Nat.le_of_ble_eq_true rfl)) dX8_better_29 ⟨Nat.le_of_ble_eq_true rfl, Nat.le_of_ble_eq_true rfl⟩) hS (fun q _ h => hFc q h) hFc (fun u t H1 locs ht hvm hw hB hz1 hk1 hS => ?_)
    obtain ⟨co6_29, ki6_29, mi6_29⟩ := u
    obtain ⟨hP1, hD1⟩ := hB
    rw [ht] at hP1
    have hv := hv co6_29 ki6_29 mi6_29 hw
    obtain ⟨hP, hD⟩ := va_join (wr := [(qX, .inr (8, [.ref qP, .ref qI, .ref qt, .ref qd, .ref qe, .ref qsp, .ref qrk, .ref qty])), (qv, .inl (g.2 0, 5, .inl vot)), (qt, .inr (7, [.ref ql, .ref qr, .ref qv, .ref qg, .int parts, .int limit])), (ql, .inl (g.2 0, 5, .inl len)), (qr, .inl (g.2 0, 5, .inl row))]) (w1 := [(qty, .inr (6, [.ref ql6, .ref qb6, .ref qc6, .ref qk6, .ref qm6, .int pa6_22, .int rw6_22])), (ql6, .inl (g.2 0, 6, .inl le6_22)), (qb6, .inl (g.2 0, 6, .inl bi6_22)), (qc6, .inl (g.2 0, 64, .inl co6_29)), (qk6, .inl (g.2 0, 64, .inl ki6_29)), (qm6, .inl (g.2 0, 64, .inl mi6_29))]) hP hD [5, 6, 7, 2, 3, 4] [0, 1, 8, 9, 10] rfl rfl (by decide) (by decide) hk1 hFc hP1 hD1
    clear hP1 hD1 hPc hDc hFc hk1
    generalize H1 = H at hP hS ⊢
    have hP : va_P g.1 vwCl [(qX, .inr (8, [.ref qP, .ref qI, .ref qt, .ref qd, .ref qe, .ref qsp, .ref qrk, .ref qty])), (qv, .inl (g.2 0, 5, .inl vot)), (qt, .inr (7, [.ref ql, .ref qr, .ref qv, .ref qg, .int parts, .int limit])), (ql, .inl (g.2 0, 5, .inl len)), (qr, .inl (g.2 0, 5, .inl row)), (qty, .inr (6, [.ref ql6, .ref qb6, .ref qc6, .ref qk6, .ref qm6, .int pa6_22, .int rw6_22])), (ql6, .inl (g.2 0, 6, .inl le6_22)), (qb6, .inl (g.2 0, 6, .inl bi6_22)), (qc6, .inl (g.2 0, 64, .inl co6_29)), (qk6, .inl (g.2 0, 64, .inl ki6_29)), (qm6, .inl (g.2 0, 64, .inl mi6_29))] H := hP
    have hD : va_D A [(qX, .inr (8, [.ref qP, .ref qI, .ref qt, .ref qd, .ref qe, .ref qsp, .ref qrk, .ref qty])), (qv, .inl (g.2 0, 5, .inl vot)), (qt, .inr (7, [.ref ql, .ref qr, .ref qv, .ref qg, .int parts, .int limit])), (ql, .inl (g.2 0, 5, .inl len)), (qr, .inl (g.2 0, 5, .inl row)), (qty, .inr (6, [.ref ql6, .ref qb6, .ref qc6, .ref qk6, .ref qm6, .int pa6_22, .int rw6_22])), (ql6, .inl (g.2 0, 6, .inl le6_22)), (qb6, .inl (g.2 0, 6, .inl bi6_22)), (qc6, .inl (g.2 0, 64, .inl co6_29)), (qk6, .inl (g.2 0, 64, .inl ki6_29)), (qm6, .inl (g.2 0, 64, .inl mi6_29))] := hD
    refine lv_iconst (v := (1 : Int32)) hx hb dX8_better_32 (by decide) ?_
    refine lv_istore_n (lv' := [(3, .int (1 : Int32)), (0, .ref qX), (1, .int p1), (2, .int p2)]) hx hb dX8_better_33 rfl hl (by decide) rfl (fun ls hl => ?_)
    refine lv_aload_n hx hb dX8_better_34 rfl (lv_at hl 1 rfl) ?_
    refine va_get (D := g.1) (ci := 8) (v := .ref qty) (C := RX8) (T := TX8) (N := 8) hx hb hts inX8_better_8 hown hK hP 0 rfl rfl 7 (by decide) (hts (.fieldLink RX8 66 "RangeCodes" "tally" "LRangeCodes$Tally;") (List.mem_of_getElem? (i := 3) rfl)) (fun _ h9 => h9) rfl dX8_better_35 ?_
    refine lv_aload_n hx hb dX8_better_38 rfl (lv_at hl 1 rfl) ?_
    refine va_get (D := g.1) (ci := 8) (v := .ref qt) (C := RX8) (T := TX8) (N := 8) hx hb hts inX8_better_8 hown hK hP 0 rfl rfl 2 (by decide) (hts (.fieldLink RX8 24 "RangeCodes" "told" "LRangeCodes$Told;") (List.mem_of_getElem? (i := 1) rfl)) (fun _ h9 => h9) rfl dX8_better_39 ?_
    refine lv_iload_n hx hb dX8_better_42 rfl (lv_at hl 2 rfl) ?_
    refine lv_iconst (v := (1 : Int32)) hx hb dX8_better_43 (by decide) ?_
    obtain ⟨T_44, T1_44, ho_4, hv⟩ := hv
    refine vp_callSi (W.runV (As := [.int p1, .int (1 : Int32)]) (rest := [.ref qty]) S (wX7_election l g qt ql qr qv qg parts limit vot p1 (1 : Int32) (sX7_election T_44 T1_44 parts limit vot p1 (1 : Int32) ho_4)) (cwV 2 hts gX8_better_X7_election rfl rfl rfl (by decide +kernel) ⟨Nat.le_of_ble_eq_true rfl, Nat.le_of_ble_eq_true rfl⟩) ⟨blindRO, va_recv hK hP (ci := 7) (q0 := 2) rfl rfl, fun U hU hW => ⟨rfl, by rw [hU]; exact hP.sub (ws' := [(qt, .inr (7, [.ref ql, .ref qr, .ref qv, .ref qg, .int parts, .int limit])), (qv, .inl (g.2 0, 5, .inl vot))]) [2, 1] rfl, hG.warm hW⟩⟩ rfl rfl hl.1 rfl (lv_room (Nat.le_of_ble_eq_true rfl)) dX8_better_44 ⟨Nat.le_of_ble_eq_true rfl, Nat.le_of_ble_eq_true rfl⟩) (fun r_44 hr_44 => ?_)
    have hv := hv r_44 hr_44
    obtain ⟨n_47, P_47, u_47, E_47, ho_5, hv⟩ := hv
    refine vp_callSi (W.runV (As := [.int r_44]) (rest := []) S (wX6_leastFull l g qty ql6 qb6 qc6 qk6 qm6 pa6_22 rw6_22 co6_29 r_44 (sX6_leastFull n_47 P_47 u_47 E_47 pa6_22 rw6_22 co6_29 r_44 ho_5)) (cwV 1 hts gX8_better_X6_leastFull rfl rfl rfl (by decide +kernel) ⟨Nat.le_of_ble_eq_true rfl, Nat.le_of_ble_eq_true rfl⟩) ⟨blindRO, va_recv hK hP (ci := 6) (q0 := 5) rfl rfl, fun U hU hW => ⟨rfl, by rw [hU]; exact hP.sub (ws' := [(qty, .inr (6, [.ref ql6, .ref qb6, .ref qc6, .ref qk6, .ref qm6, .int pa6_22, .int rw6_22])), (qc6, .inl (g.2 0, 64, .inl co6_29))]) [5, 8] rfl, hG.warm hW⟩⟩ rfl rfl hl.1 rfl (lv_room (Nat.le_of_ble_eq_true rfl)) dX8_better_47 ⟨Nat.le_of_ble_eq_true rfl, Nat.le_of_ble_eq_true rfl⟩) (fun r_47 hr_47 => ?_)
    have hv := hv r_47 hr_47
    refine lv_istore (lv' := [(4, .int r_47), (3, .int (1 : Int32)), (0, .ref qX), (1, .int p1), (2, .int p2)]) hx hb dX8_better_50 hl (by decide) rfl (fun ls hl => ?_)
    refine lv_iconst (v := (2 : Int32)) hx hb dX8_better_52 (by decide) ?_
    refine lv_istore (lv' := [(5, .int (2 : Int32)), (4, .int r_47), (3, .int (1 : Int32)), (0, .ref qX), (1, .int p1), (2, .int p2)]) hx hb dX8_better_53 hl (by decide) rfl (fun ls hl => ?_)
    obtain ⟨nn, hv⟩ := hv
    exact kX8_better_c55 S hr hlocks hG hA nn _ _ _ _ _ _ _ _ _ _ hv _ _ (hP.sub (ws' := [(qX, .inr (8, [.ref qP, .ref qI, .ref qt, .ref qd, .ref qe, .ref qsp, .ref qrk, .ref qty])), (qt, .inr (7, [.ref ql, .ref qr, .ref qv, .ref qg, .int parts, .int limit])), (ql, .inl (g.2 0, 5, .inl len)), (qr, .inl (g.2 0, 5, .inl row)), (qv, .inl (g.2 0, 5, .inl vot)), (qty, .inr (6, [.ref ql6, .ref qb6, .ref qc6, .ref qk6, .ref qm6, .int pa6_22, .int rw6_22])), (ql6, .inl (g.2 0, 6, .inl le6_22)), (qb6, .inl (g.2 0, 6, .inl bi6_22)), (qc6, .inl (g.2 0, 64, .inl co6_29)), (qk6, .inl (g.2 0, 64, .inl ki6_29)), (qm6, .inl (g.2 0, 64, .inl mi6_29))]) [0, 2, 3, 4, 1, 5, 6, 7, 8, 9, 10] rfl) (hD.sub (ws' := [(qX, .inr (8, [.ref qP, .ref qI, .ref qt, .ref qd, .ref qe, .ref qsp, .ref qrk, .ref qty])), (qt, .inr (7, [.ref ql, .ref qr, .ref qv, .ref qg, .int parts, .int limit])), (ql, .inl (g.2 0, 5, .inl len)), (qr, .inl (g.2 0, 5, .inl row)), (qv, .inl (g.2 0, 5, .inl vot)), (qty, .inr (6, [.ref ql6, .ref qb6, .ref qc6, .ref qk6, .ref qm6, .int pa6_22, .int rw6_22])), (ql6, .inl (g.2 0, 6, .inl le6_22)), (qb6, .inl (g.2 0, 6, .inl bi6_22)), (qc6, .inl (g.2 0, 64, .inl co6_29)), (qk6, .inl (g.2 0, 64, .inl ki6_29)), (qm6, .inl (g.2 0, 64, .inl mi6_29))]) [0, 2, 3, 4, 1, 5, 6, 7, 8, 9, 10] (by decide) rfl) hS ls (lv_sub hl [3, 4, 5, 2, 1, 0] rfl)
  · have hv := hvf hc
    refine lv_ldc (v := (-1000000 : Int32)) hx hb hown (hts (.constant RX8 162 (-1000000)) (List.mem_of_getElem? (i := 2) rfl)) dX8_better_11 ?_
    have hP9 := hP.sub (ws' := [(qX, .inr (8, [.ref qP, .ref qI, .ref qt, .ref qd, .ref qe, .ref qsp, .ref qrk, .ref qty])), (qt, .inr (7, [.ref ql, .ref qr, .ref qv, .ref qg, .int parts, .int limit])), (ql, .inl (g.2 0, 5, .inl len)), (qr, .inl (g.2 0, 5, .inl row)), (qv, .inl (g.2 0, 5, .inl vot)), (qty, .inr (6, [.ref ql6, .ref qb6, .ref qc6, .ref qk6, .ref qm6, .int pa6, .int rw6])), (ql6, .inl (g.2 0, 6, .inl le6)), (qb6, .inl (g.2 0, 6, .inl bi6)), (qc6, .inl (g.2 0, 64, .inl co6)), (qk6, .inl (g.2 0, 64, .inl ki6)), (qm6, .inl (g.2 0, 64, .inl mi6))]) [0, 1, 2, 3, 4, 5, 6, 7, 8, 9, 10] rfl
    have hD9 := hD.sub (ws' := [(qX, .inr (8, [.ref qP, .ref qI, .ref qt, .ref qd, .ref qe, .ref qsp, .ref qrk, .ref qty])), (qt, .inr (7, [.ref ql, .ref qr, .ref qv, .ref qg, .int parts, .int limit])), (ql, .inl (g.2 0, 5, .inl len)), (qr, .inl (g.2 0, 5, .inl row)), (qv, .inl (g.2 0, 5, .inl vot)), (qty, .inr (6, [.ref ql6, .ref qb6, .ref qc6, .ref qk6, .ref qm6, .int pa6, .int rw6])), (ql6, .inl (g.2 0, 6, .inl le6)), (qb6, .inl (g.2 0, 6, .inl bi6)), (qc6, .inl (g.2 0, 64, .inl co6)), (qk6, .inl (g.2 0, 64, .inl ki6)), (qm6, .inl (g.2 0, 64, .inl mi6))]) [0, 1, 2, 3, 4, 5, 6, 7, 8, 9, 10] (by decide) rfl
    exact W.iret (v := (-1000000 : Int32)) hx hb hr (fun t ht hW => ⟨⟨_, (pa6, rw6, le6, bi6, co6, ki6, mi6), rfl, hv, by rw [ht]; exact hP9, hD9⟩, hS.F ht⟩) hS.2.2 dX8_better_13
abbrev preX8_better (T : Cd) (G0 : Lg) (G1 : Lg) (lim : Nat) (parts : Int32) (limit : Int32) (len : Nat → Int32) (row : Nat → Int32) (vot : Nat → Int32) (pa6 : Int32) (rw6 : Int32) (le6 : Nat → Int32) (bi6 : Nat → Int32) (co6 : Nat → Int32) (ki6 : Nat → Int32) (mi6 : Nat → Int32) (p1 : Int32) (p2 : Int32) : Prop := isN T parts ∧ isL T len ∧ isR T row ∧ isV T vot
abbrev postX8_better (T : Cd) (G0 : Lg) (G1 : Lg) (lim : Nat) (parts : Int32) (limit : Int32) (len : Nat → Int32) (row : Nat → Int32) (vot : Nat → Int32) (pa6 : Int32) (rw6 : Int32) (le6 : Nat → Int32) (bi6 : Nat → Int32) (co6 : Nat → Int32) (ki6 : Nat → Int32) (mi6 : Nat → Int32) (p1 : Int32) (p2 : Int32) (r : Int32) (pa6' : Int32) (rw6' : Int32) (le6' : Nat → Int32) (bi6' : Nat → Int32) (co6' : Nat → Int32) (ki6' : Nat → Int32) (mi6' : Nat → Int32) : Prop := r.toInt = spBetter T p1.toInt p2.toInt
theorem sX8_better_55 (T : Cd) (G0 : Lg) (G1 : Lg) (lim : Nat) (parts : Int32) (limit : Int32) (len : Nat → Int32) (row : Nat → Int32) (vot : Nat → Int32) (pa6 : Int32) (rw6 : Int32) (le6 : Nat → Int32) (bi6 : Nat → Int32) (co6 : Nat → Int32) (ki6 : Nat → Int32) (mi6 : Nat → Int32) (p1 : Int32) (p2 : Int32) (H : preX8_better T G0 G1 lim parts limit len row vot pa6 rw6 le6 bi6 co6 ki6 mi6 p1 p2) (p : Nat) (hp : p1.toInt = (p : Int)) (hpn : p < cn T) (pa2 rw2 : Int32) (le2 bi2 co2 ki2 mi2 : Nat → Int32) (hpa : pa2.toInt = (cn T : Int)) (hco : isC (yS T (2 ^ cn T - 1)) (lcS T (2 ^ cn T - 1) (cn T)) co2) : ∀ (f v : Nat) (x3 x4 x5 : Int32), x3.toInt = ((btN T p v).1 : Int) → x4.toInt = (btN T p v).2 → x5.toInt = ((v + 1 : Nat) : Int) → v ≤ 9 → 10 ≤ v + f → vX8_better_c55 parts limit len row vot p1 p2 (postX8_better T G0 G1 lim parts limit len row vot pa6 rw6 le6 bi6 co6 ki6 mi6 p1 p2) f x3 x4 x5 pa2 rw2 le2 bi2 co2 ki2 mi2
  | 0, v, x3, x4, x5, _, _, _, _, hf => absurd hf (by omega)
  | f + 1, v, x3, x4, x5, h3, h4, h5, hv, hf => by
    obtain ⟨hN, hL, hR, hV⟩ := id H
    have hn5 := hN.2
    rw [vX8_better_c55, q_lt z9 h5]
    refine ⟨fun c => ?_, fun c => ?_⟩
    · have e : v = 9 := by omega
      subst e
      have cc : 0 ≤ p1.toInt ∧ p1.toInt < (cn T : Int) := by omega
      have ep : p1.toInt.toNat = p := by omega
      unfold postX8_better spBetter
      rw [fa_eq p2, z0, if_pos cc, ep]
      refine ⟨fun d => ?_, fun d => ?_⟩
      · rw [if_pos d]; exact h3
      · rw [if_neg d]; exact h4
    · refine ⟨T, wV T p (v + 1), ⟨hN, hV, Or.inr ⟨p, v + 1, hp, hpn, h5, by omega, rfl⟩⟩, fun r hr => ?_⟩
      have hP : lcS T (2 ^ cn T - 1) (cn T) ≤ 360360 := Nat.le_of_dvd (by decide) (lcS_dvd (fun q hq => (hL q hq).2) _ _ (Nat.le_refl _))
      refine ⟨cn T, _, _, elB (wV T p (v + 1)), ⟨hpa, by omega, hn5, hco, hP, fun t _ => yS_lt _ t (by omega), hr⟩, fun r2 hr2 => ?_⟩
      have hr2 : r2.toInt = beF T p (v + 1) := by rw [← lsf_be (by omega)]; exact hr2
      rw [q_le hr2 h4]
      have eb : btN T p (v + 1) = if (btN T p v).2 < beF T p (v + 1) then (v + 1, beF T p (v + 1)) else btN T p v := rfl
      refine ⟨fun d => ?_, fun d => ?_⟩
      · rw [if_neg (by omega)] at eb
        exact sX8_better_55 T G0 G1 lim parts limit len row vot pa6 rw6 le6 bi6 co6 ki6 mi6 p1 p2 H p hp hpn pa2 rw2 le2 bi2 co2 ki2 mi2 hpa hco f (v + 1) _ _ _ (by rw [eb]; exact h3) (by rw [eb]; exact h4) (q_1 h5 (by omega)) (by omega) (by omega)
      · rw [if_pos (by omega)] at eb
        exact sX8_better_55 T G0 G1 lim parts limit len row vot pa6 rw6 le6 bi6 co6 ki6 mi6 p1 p2 H p hp hpn pa2 rw2 le2 bi2 co2 ki2 mi2 hpa hco f (v + 1) _ _ _ (by rw [eb]; exact h5) (by rw [eb]; exact hr2) (q_1 h5 (by omega)) (by omega) (by omega)
theorem sX8_better (T : Cd) (G0 : Lg) (G1 : Lg) (lim : Nat) (parts : Int32) (limit : Int32) (len : Nat → Int32) (row : Nat → Int32) (vot : Nat → Int32) (pa6 : Int32) (rw6 : Int32) (le6 : Nat → Int32) (bi6 : Nat → Int32) (co6 : Nat → Int32) (ki6 : Nat → Int32) (mi6 : Nat → Int32) (p1 : Int32) (p2 : Int32) (H : preX8_better T G0 G1 lim parts limit len row vot pa6 rw6 le6 bi6 co6 ki6 mi6 p1 p2) : vX8_better parts limit len row vot pa6 rw6 le6 bi6 co6 ki6 mi6 p1 p2 (postX8_better T G0 G1 lim parts limit len row vot pa6 rw6 le6 bi6 co6 ki6 mi6 p1 p2) := by
  obtain ⟨hN, hL, hR, hV⟩ := id H
  have hn5 := hN.2
  refine ⟨trivial, fun r hr => ?_⟩
  have hr : r = if 0 ≤ p1.toInt ∧ p1.toInt < (cn T : Int) then 1 else 0 := by rw [← hN.1]; exact hr
  by_cases c : 0 ≤ p1.toInt ∧ p1.toInt < (cn T : Int)
  · rw [if_pos c] at hr
    rw [hr]
    refine ⟨fun _ => ?_, fun d => absurd d (by decide)⟩
    obtain ⟨p, hp⟩ : ∃ p : Nat, p1.toInt = (p : Int) := ⟨p1.toInt.toNat, by omega⟩
    have hpn : p < cn T := by omega
    refine ⟨T, ⟨hN, hL, hR⟩, fun pa2 rw2 le2 bi2 ht => ?_⟩
    obtain ⟨t1, t2⟩ : pa2.toInt = (cn T : Int) ∧ tyR T rw2 le2 bi2 := ht
    refine ⟨T, t2, fun co2 ki2 mi2 hc => ?_⟩
    have hc : isC (yS T (2 ^ cn T - 1)) (lcS T (2 ^ cn T - 1) (cn T)) co2 := hc
    have hP : lcS T (2 ^ cn T - 1) (cn T) ≤ 360360 := Nat.le_of_dvd (by decide) (lcS_dvd (fun q hq => (hL q hq).2) _ _ (Nat.le_refl _))
    refine ⟨T, wV T p 1, ⟨hN, hV, Or.inr ⟨p, 1, hp, hpn, rfl, by omega, rfl⟩⟩, fun r3 hr3 => ?_⟩
    refine ⟨cn T, _, _, elB (wV T p 1), ⟨t1, by omega, hn5, hc, hP, fun t _ => yS_lt _ t (by omega), hr3⟩, fun r4 hr4 => ⟨10, ?_⟩⟩
    have hr4 : r4.toInt = beF T p 1 := by rw [← lsf_be (by omega)]; exact hr4
    have hlo := beF_lo (T := T) (fun p hp => (hL p hp).2) hn5 (by omega) p 1
    have eb : btN T p 1 = (1, beF T p 1) := by
      show (if (-1000000 : Int) < beF T p 1 then (1, beF T p 1) else btN T p 0) = _
      rw [if_pos (by omega)]
    exact sX8_better_55 T G0 G1 lim parts limit len row vot pa6 rw6 le6 bi6 co6 ki6 mi6 p1 p2 H p hp hpn pa2 rw2 le2 bi2 co2 ki2 mi2 t1 hc 10 1 1 r4 2 (by rw [eb]; rfl) (by rw [eb]; exact hr4) rfl (by omega) (by omega)
  · rw [if_neg c] at hr
    rw [hr]
    refine ⟨fun d => absurd rfl d, fun _ => ?_⟩
    unfold postX8_better spBetter
    rw [if_neg c]; rfl
