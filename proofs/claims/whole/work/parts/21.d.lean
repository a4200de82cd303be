-- lines in the reference's row
theorem mT_cong {T : Cd} {td td' : Nat → Int32} (h : mT T td) (hk : ∀ k, k < 20 → td' k = td k) : mT T td' := by
  have hn := h.1.2
  refine ⟨by rw [hk 0 (by omega)]; exact h.1, fun p hp => ?_, fun p hp => ?_, fun p hp => ?_⟩
  · show (td' (5 + 3 * p)).toInt = _ ∧ _
    rw [hk _ (by omega)]; exact h.2.1 p hp
  · show (td' (6 + 3 * p)).toInt = _ ∧ _
    rw [hk _ (by omega)]; exact h.2.2.1 p hp
  · show (td' (7 + 3 * p)).toInt = _ ∧ _
    rw [hk _ (by omega)]; exact h.2.2.2 p hp
theorem mG_cong {G : Lg} {l : Nat} {td td' : Nat → Int32} (h : mG G l td) (hk : ∀ k, 20 + 37 * l ≤ k → k < 57 + 37 * l → td' k = td k) : mG G l td' := by
  obtain ⟨ok, h2, h3, h4⟩ := h
  have hm := ok.2.2.2.2.2.2.1
  refine ⟨ok, by rw [hk _ (by omega) (by omega)]; exact h2, fun j hj => ?_, fun j hj => ?_⟩
  · show (td' (20 + 37 * l + j)).toInt = _
    rw [hk _ (by omega) (by omega)]; exact h3 j hj
  · show (td' (27 + 37 * l + 3 * j)).toInt = _ ∧ (td' (28 + 37 * l + 3 * j)).toInt = _ ∧ (td' (29 + 37 * l + 3 * j)).toInt = _
    rw [hk _ (by omega) (by omega), hk _ (by omega) (by omega), hk _ (by omega) (by omega)]; exact h4 j hj
theorem mT_part {b : Nat → Int32} {nb i : Nat} {T : Cd} {td : Nat → Int32} (h : mT T td) (hn : cn T < 5) (h2 : 2 ≤ tE b nb i - tS b nb i) (h13 : tE b nb i - tS b nb i ≤ 13) (hv : tV b nb (tE b nb i) ≤ 9) {x y z w : Int32} (hx : x.toInt = ((tE b nb i - tS b nb i : Nat) : Int)) (hy : y.toInt = (tV b nb (tE b nb i) : Int)) (hz : z.toInt = (rwN b nb i : Int)) (hw : w.toInt = ((cn T + 1 : Nat) : Int)) : mT (partT b nb i T) (upd (upd (upd (upd td (5 + 3 * cn T) x) (6 + 3 * cn T) y) (7 + 3 * cn T) z) 0 w) := by
  obtain ⟨a1, a2, a4, a3⟩ := h
  have en : cn (partT b nb i T) = cn T + 1 := rfl
  have eL : ∀ q, cL (partT b nb i T) q = if q = cn T then tE b nb i - tS b nb i else cL T q := fun _ => rfl
  have eR : ∀ q, cR (partT b nb i T) q = if q = cn T then rwN b nb i else cR T q := fun _ => rfl
  have eV : ∀ q, cV (partT b nb i T) q = if q = cn T then tV b nb (tE b nb i) else cV T q := fun _ => rfl
  refine ⟨⟨by rw [upd_eq, en]; exact hw, by rw [en]; omega⟩, fun q hq => ?_, fun q hq => ?_, fun q hq => ?_⟩
  · rw [en] at hq
    show (upd (upd (upd (upd td (5 + 3 * cn T) x) (6 + 3 * cn T) y) (7 + 3 * cn T) z) 0 w (5 + 3 * q)).toInt = _ ∧ _
    rw [eL, upd_ne (by omega), upd_ne (by omega), upd_ne (by omega)]
    by_cases c : q = cn T
    · rw [c, upd_eq, if_pos rfl]; exact ⟨hx, h2, h13⟩
    · rw [upd_ne (by omega), if_neg c]; exact a2 q (by omega)
  · rw [en] at hq
    show (upd (upd (upd (upd td (5 + 3 * cn T) x) (6 + 3 * cn T) y) (7 + 3 * cn T) z) 0 w (6 + 3 * q)).toInt = _ ∧ _
    rw [eV, upd_ne (by omega), upd_ne (by omega)]
    by_cases c : q = cn T
    · rw [c, upd_eq, if_pos rfl]; exact ⟨hy, hv⟩
    · rw [upd_ne (by omega), upd_ne (by omega), if_neg c]; exact a4 q (by omega)
  · rw [en] at hq
    show (upd (upd (upd (upd td (5 + 3 * cn T) x) (6 + 3 * cn T) y) (7 + 3 * cn T) z) 0 w (7 + 3 * q)).toInt = _ ∧ _
    rw [eR, eL, upd_ne (by omega)]
    by_cases c : q = cn T
    · rw [c, upd_eq, if_pos rfl, if_pos rfl]; exact ⟨hz, rwN_lt b nb i⟩
    · rw [upd_ne (by omega), upd_ne (by omega), upd_ne (by omega), if_neg c, if_neg c]; exact a3 q (by omega)
set_option maxRecDepth 20000 in
theorem ggX9_partLine_X9_isBad : GoodIn wsX9_partLine wsX9_isBad := goodIn_r _ [10, 11, 12, 42, 43, 44, 45, 46, 47, 48, 49, 50, 51, 52, 53, 54, 55, 56, 57, 58, 59, 60, 61, 62, 63, 64, 65, 66, 67, 68, 69, 70] (by decide +kernel) (by decide +kernel)
set_option maxRecDepth 20000 in
theorem gX9_partLine_X9_isBad : GoodIn wsX9_partLine (wsV RX9 111 RX9 yX9_isBad wsX9_isBad) := goodIn_app (goodIn_of _ (by decide +kernel)) ggX9_partLine_X9_isBad
set_option maxRecDepth 20000 in
theorem ggX9_partLine_X9_token : GoodIn wsX9_partLine wsX9_token := goodIn_r _ [16, 17, 2, 18, 3, 4, 19, 20, 21, 22, 9, 23, 24, 25, 26, 27, 28, 42, 43, 44, 45, 46, 47, 48, 49, 50, 51, 52, 53, 54, 55, 56, 57, 58, 59, 60, 61, 62, 63, 64, 65, 66, 67, 68, 69, 70] (by decide +kernel) (by decide +kernel)
set_option maxRecDepth 20000 in
theorem gX9_partLine_X9_token : GoodIn wsX9_partLine (wsV RX9 115 RX9 yX9_token wsX9_token) := goodIn_app (goodIn_of _ (by decide +kernel)) ggX9_partLine_X9_token
set_option maxRecDepth 20000 in
theorem ggX9_partLine_X9_rowOf : GoodIn wsX9_partLine wsX9_rowOf := goodIn_r _ [32, 4, 25, 2, 42, 43, 44, 45, 46, 47, 48, 49, 50, 51, 52, 53, 54, 55, 56, 57, 58, 59, 60, 61, 62, 63, 64, 65, 66, 67, 68, 69, 70] (by decide +kernel) (by decide +kernel)
set_option maxRecDepth 20000 in
theorem gX9_partLine_X9_rowOf : GoodIn wsX9_partLine (wsV RX9 118 RX9 yX9_rowOf wsX9_rowOf) := goodIn_app (goodIn_of _ (by decide +kernel)) ggX9_partLine_X9_rowOf
set_option maxRecDepth 20000 in
theorem ggX9_partLine_X9_fails : GoodIn wsX9_partLine wsX9_fails := goodIn_r _ [36, 2, 37, 42, 43, 44, 45, 46, 47, 48, 49, 50, 51, 52, 53, 54, 55, 56, 57, 58, 59, 60, 61, 62, 63, 64, 65, 66, 67, 68, 69, 70] (by decide +kernel) (by decide +kernel)
set_option maxRecDepth 20000 in
theorem gX9_partLine_X9_fails : GoodIn wsX9_partLine (wsV RX9 104 RX9 yX9_fails wsX9_fails) := goodIn_app (goodIn_of _ (by decide +kernel)) ggX9_partLine_X9_fails
set_option maxRecDepth 20000 in
theorem ggX9_partLine_X9_takes : GoodIn wsX9_partLine wsX9_takes := goodIn_r _ [41, 3, 19, 5, 2, 33, 34, 35, 9, 36, 37, 26, 27, 28, 6, 7, 8, 10, 11, 12, 13, 14, 15, 16, 17, 18, 4, 20, 21, 22, 23, 24, 25, 42, 43, 44, 45, 46, 47, 48, 49, 50, 51, 52, 53, 54, 55, 56, 57, 58, 59, 60, 61, 62, 63, 64, 65, 66, 67, 68, 69, 70] (by decide +kernel) (by decide +kernel)
set_option maxRecDepth 20000 in
theorem gX9_partLine_X9_takes : GoodIn wsX9_partLine (wsV RX9 121 RX9 yX9_takes wsX9_takes) := goodIn_app (goodIn_of _ (by decide +kernel)) ggX9_partLine_X9_takes
theorem dX9_partLine_0 : decode cX9_partLine 0 = .ok (.aload_n 0, 1) := by decide +kernel
theorem dX9_partLine_1 : decode cX9_partLine 1 = .ok (.getfield 21, 3) := by decide +kernel
theorem dX9_partLine_4 : decode cX9_partLine 4 = .ok (.iconst 0, 1) := by decide +kernel
theorem dX9_partLine_5 : decode cX9_partLine 5 = .ok (.iaload, 1) := by decide +kernel
theorem dX9_partLine_6 : decode cX9_partLine 6 = .ok (.iconst 5, 1) := by decide +kernel
theorem dX9_partLine_7 : decode cX9_partLine 7 = .ok (.if_icmp .ne 12, 3) := by decide +kernel
theorem dX9_partLine_10 : decode cX9_partLine 10 = .ok (.aload_n 0, 1) := by decide +kernel
theorem dX9_partLine_11 : decode cX9_partLine 11 = .ok (.iconst 3, 1) := by decide +kernel
theorem dX9_partLine_12 : decode cX9_partLine 12 = .ok (.aload_n 0, 1) := by decide +kernel
theorem dX9_partLine_13 : decode cX9_partLine 13 = .ok (.getfield 79, 3) := by decide +kernel
theorem dX9_partLine_16 : decode cX9_partLine 16 = .ok (.invokevirtual 111, 3) := by decide +kernel
theorem dX9_partLine_19 : decode cX9_partLine 19 = .ok (.aload_n 0, 1) := by decide +kernel
theorem dX9_partLine_20 : decode cX9_partLine 20 = .ok (.invokevirtual 115, 3) := by decide +kernel
theorem dX9_partLine_23 : decode cX9_partLine 23 = .ok (.aload_n 0, 1) := by decide +kernel
theorem dX9_partLine_24 : decode cX9_partLine 24 = .ok (.getfield 86, 3) := by decide +kernel
theorem dX9_partLine_27 : decode cX9_partLine 27 = .ok (.iconst 2, 1) := by decide +kernel
theorem dX9_partLine_28 : decode cX9_partLine 28 = .ok (.if_icmp .ne 18, 3) := by decide +kernel
theorem dX9_partLine_31 : decode cX9_partLine 31 = .ok (.aload_n 0, 1) := by decide +kernel
theorem dX9_partLine_32 : decode cX9_partLine 32 = .ok (.getfield 89, 3) := by decide +kernel
theorem dX9_partLine_35 : decode cX9_partLine 35 = .ok (.iconst 1, 1) := by decide +kernel
theorem dX9_partLine_36 : decode cX9_partLine 36 = .ok (.if_icmp .le 10, 3) := by decide +kernel
theorem dX9_partLine_39 : decode cX9_partLine 39 = .ok (.aload_n 0, 1) := by decide +kernel
theorem dX9_partLine_40 : decode cX9_partLine 40 = .ok (.invokevirtual 118, 3) := by decide +kernel
theorem dX9_partLine_43 : decode cX9_partLine 43 = .ok (.goto 4, 3) := by decide +kernel
theorem dX9_partLine_46 : decode cX9_partLine 46 = .ok (.iconst (-1), 1) := by decide +kernel
theorem dX9_partLine_47 : decode cX9_partLine 47 = .ok (.istore_n 1, 1) := by decide +kernel
theorem dX9_partLine_48 : decode cX9_partLine 48 = .ok (.aload_n 0, 1) := by decide +kernel
theorem dX9_partLine_49 : decode cX9_partLine 49 = .ok (.getfield 89, 3) := by decide +kernel
theorem dX9_partLine_52 : decode cX9_partLine 52 = .ok (.istore_n 2, 1) := by decide +kernel
theorem dX9_partLine_53 : decode cX9_partLine 53 = .ok (.iload_n 1, 1) := by decide +kernel
theorem dX9_partLine_54 : decode cX9_partLine 54 = .ok (.iconst (-1), 1) := by decide +kernel
theorem dX9_partLine_55 : decode cX9_partLine 55 = .ok (.if_icmp .ne 8, 3) := by decide +kernel
theorem dX9_partLine_58 : decode cX9_partLine 58 = .ok (.aload_n 0, 1) := by decide +kernel
theorem dX9_partLine_59 : decode cX9_partLine 59 = .ok (.invokevirtual 104, 3) := by decide +kernel
theorem dX9_partLine_62 : decode cX9_partLine 62 = .ok (.ireturn, 1) := by decide +kernel
theorem dX9_partLine_63 : decode cX9_partLine 63 = .ok (.aload_n 0, 1) := by decide +kernel
theorem dX9_partLine_64 : decode cX9_partLine 64 = .ok (.invokevirtual 115, 3) := by decide +kernel
theorem dX9_partLine_67 : decode cX9_partLine 67 = .ok (.aload_n 0, 1) := by decide +kernel
theorem dX9_partLine_68 : decode cX9_partLine 68 = .ok (.iconst 1, 1) := by decide +kernel
theorem dX9_partLine_69 : decode cX9_partLine 69 = .ok (.bipush 9, 2) := by decide +kernel
theorem dX9_partLine_71 : decode cX9_partLine 71 = .ok (.invokevirtual 121, 3) := by decide +kernel
theorem dX9_partLine_74 : decode cX9_partLine 74 = .ok (.ifCond .ne 5, 3) := by decide +kernel
theorem dX9_partLine_77 : decode cX9_partLine 77 = .ok (.iconst 0, 1) := by decide +kernel
theorem dX9_partLine_78 : decode cX9_partLine 78 = .ok (.ireturn, 1) := by decide +kernel
theorem dX9_partLine_79 : decode cX9_partLine 79 = .ok (.aload_n 0, 1) := by decide +kernel
theorem dX9_partLine_80 : decode cX9_partLine 80 = .ok (.getfield 21, 3) := by decide +kernel
theorem dX9_partLine_83 : decode cX9_partLine 83 = .ok (.iconst 0, 1) := by decide +kernel
theorem dX9_partLine_84 : decode cX9_partLine 84 = .ok (.iaload, 1) := by decide +kernel
theorem dX9_partLine_85 : decode cX9_partLine 85 = .ok (.iconst 5, 1) := by decide +kernel
theorem dX9_partLine_86 : decode cX9_partLine 86 = .ok (.if_icmp .ge 54, 3) := by decide +kernel
theorem dX9_partLine_89 : decode cX9_partLine 89 = .ok (.iconst 5, 1) := by decide +kernel
theorem dX9_partLine_90 : decode cX9_partLine 90 = .ok (.iconst 3, 1) := by decide +kernel
theorem dX9_partLine_91 : decode cX9_partLine 91 = .ok (.aload_n 0, 1) := by decide +kernel
theorem dX9_partLine_92 : decode cX9_partLine 92 = .ok (.getfield 21, 3) := by decide +kernel
theorem dX9_partLine_95 : decode cX9_partLine 95 = .ok (.iconst 0, 1) := by decide +kernel
theorem dX9_partLine_96 : decode cX9_partLine 96 = .ok (.iaload, 1) := by decide +kernel
theorem dX9_partLine_97 : decode cX9_partLine 97 = .ok (.imul, 1) := by decide +kernel
theorem dX9_partLine_98 : decode cX9_partLine 98 = .ok (.iadd, 1) := by decide +kernel
theorem dX9_partLine_99 : decode cX9_partLine 99 = .ok (.istore_n 3, 1) := by decide +kernel
theorem dX9_partLine_100 : decode cX9_partLine 100 = .ok (.aload_n 0, 1) := by decide +kernel
theorem dX9_partLine_101 : decode cX9_partLine 101 = .ok (.getfield 21, 3) := by decide +kernel
theorem dX9_partLine_104 : decode cX9_partLine 104 = .ok (.iload_n 3, 1) := by decide +kernel
theorem dX9_partLine_105 : decode cX9_partLine 105 = .ok (.iconst 0, 1) := by decide +kernel
theorem dX9_partLine_106 : decode cX9_partLine 106 = .ok (.iadd, 1) := by decide +kernel
theorem dX9_partLine_107 : decode cX9_partLine 107 = .ok (.iload_n 2, 1) := by decide +kernel
theorem dX9_partLine_108 : decode cX9_partLine 108 = .ok (.iastore, 1) := by decide +kernel
theorem dX9_partLine_109 : decode cX9_partLine 109 = .ok (.aload_n 0, 1) := by decide +kernel
theorem dX9_partLine_110 : decode cX9_partLine 110 = .ok (.getfield 21, 3) := by decide +kernel
theorem dX9_partLine_113 : decode cX9_partLine 113 = .ok (.iload_n 3, 1) := by decide +kernel
theorem dX9_partLine_114 : decode cX9_partLine 114 = .ok (.iconst 1, 1) := by decide +kernel
theorem dX9_partLine_115 : decode cX9_partLine 115 = .ok (.iadd, 1) := by decide +kernel
theorem dX9_partLine_116 : decode cX9_partLine 116 = .ok (.aload_n 0, 1) := by decide +kernel
theorem dX9_partLine_117 : decode cX9_partLine 117 = .ok (.getfield 108, 3) := by decide +kernel
theorem dX9_partLine_120 : decode cX9_partLine 120 = .ok (.iastore, 1) := by decide +kernel
theorem dX9_partLine_121 : decode cX9_partLine 121 = .ok (.aload_n 0, 1) := by decide +kernel
theorem dX9_partLine_122 : decode cX9_partLine 122 = .ok (.getfield 21, 3) := by decide +kernel
theorem dX9_partLine_125 : decode cX9_partLine 125 = .ok (.iload_n 3, 1) := by decide +kernel
theorem dX9_partLine_126 : decode cX9_partLine 126 = .ok (.iconst 2, 1) := by decide +kernel
theorem dX9_partLine_127 : decode cX9_partLine 127 = .ok (.iadd, 1) := by decide +kernel
theorem dX9_partLine_128 : decode cX9_partLine 128 = .ok (.iload_n 1, 1) := by decide +kernel
theorem dX9_partLine_129 : decode cX9_partLine 129 = .ok (.iastore, 1) := by decide +kernel
theorem dX9_partLine_130 : decode cX9_partLine 130 = .ok (.aload_n 0, 1) := by decide +kernel
theorem dX9_partLine_131 : decode cX9_partLine 131 = .ok (.getfield 21, 3) := by decide +kernel
theorem dX9_partLine_134 : decode cX9_partLine 134 = .ok (.iconst 0, 1) := by decide +kernel
theorem dX9_partLine_135 : decode cX9_partLine 135 = .ok (.dup2, 1) := by decide +kernel
theorem dX9_partLine_136 : decode cX9_partLine 136 = .ok (.iaload, 1) := by decide +kernel
theorem dX9_partLine_137 : decode cX9_partLine 137 = .ok (.iconst 1, 1) := by decide +kernel
theorem dX9_partLine_138 : decode cX9_partLine 138 = .ok (.iadd, 1) := by decide +kernel
theorem dX9_partLine_139 : decode cX9_partLine 139 = .ok (.iastore, 1) := by decide +kernel
theorem dX9_partLine_140 : decode cX9_partLine 140 = .ok (.iconst 1, 1) := by decide +kernel
theorem dX9_partLine_141 : decode cX9_partLine 141 = .ok (.ireturn, 1) := by decide +kernel
abbrev rmX9_partLine : Room := { frames := 3, cells := 0, slots := 0, locals := 66 }
theorem inX9_partLine_9 : ∀ w ∈ wsX90, w ∈ wsX9_partLine := by decide +kernel
def vX9_partLine_c47 (tx : Nat → Int32) (Q : Int32 → (Nat → Int32) → (Nat → Int64) → (Nat → Int32) → Prop) (s0 : Int32) (F : Nat → Int32) (J : Nat → Int64) (td : Nat → Int32) : Prop := ((¬ s0 = (-1 : Int32) → (∃ (b_64 : Nat → Int32) (nb_64 : Nat) (i_64 : Nat), preX9_token b_64 nb_64 i_64 F J tx ∧ (∀ (F_64 : Nat → Int32) (J_64 : Nat → Int64), postX9_token b_64 nb_64 i_64 F J tx F_64 J_64 → (∃ (b_71 : Nat → Int32) (nb_71 : Nat) (i_71 : Nat) (f_71 : Int × Int), preX9_takes b_71 nb_71 i_71 f_71 F_64 J_64 tx (1 : Int32) (9 : Int32) ∧ (∀ (r_71 : Int32) (F_71 : Nat → Int32) (J_71 : Nat → Int64), postX9_takes b_71 nb_71 i_71 f_71 F_64 J_64 tx (1 : Int32) (9 : Int32) r_71 F_71 J_71 → ((¬ r_71 = 0 → (((5 : Int32) ≤ (td 0) → (Q (1 : Int32) F_71 J_71 td)) ∧ (¬ (5 : Int32) ≤ (td 0) → (∀ y_99 : Int32, y_99 = ((5 : Int32) + ((3 : Int32) * (td 0))) → (vp_in (y_99 + (0 : Int32)) 94 ∧ (vp_in (y_99 + (1 : Int32)) 94 ∧ (vp_in (y_99 + (2 : Int32)) 94 ∧ (∀ a_139 : Int32, a_139 = (((upd (upd (upd td (y_99 + (0 : Int32)).toNatClampNeg (F 9)) (y_99 + (1 : Int32)).toNatClampNeg (F_71 15)) (y_99 + (2 : Int32)).toNatClampNeg s0) 0) + (1 : Int32)) → (Q (1 : Int32) F_71 J_71 (upd (upd (upd (upd td (y_99 + (0 : Int32)).toNatClampNeg (F 9)) (y_99 + (1 : Int32)).toNatClampNeg (F_71 15)) (y_99 + (2 : Int32)).toNatClampNeg s0) 0 a_139)))))))))) ∧ (r_71 = 0 → (Q (0 : Int32) F_71 J_71 td)))))))) ∧ (s0 = (-1 : Int32) → (preX9_fails F J ∧ (∀ (r_59 : Int32) (F_59 : Nat → Int32), postX9_fails F J r_59 F_59 → (narrow .boolean (.int r_59) = .int r_59 ∧ (Q r_59 F_59 J td))))))
set_option maxHeartbeats 4000000 in
set_option maxRecDepth 100000 in
theorem kX9_partLine_c47 {p : Program} {l : Launch} {e : Env} {s : State} {m : MethodId} {args : Array Value} {below : List Frame} {meth : Method} {c : Code} {g : GP} {qM : Nat} {q1 : Nat} {q2 : Nat} {q3 : Nat} {q4 : Nat} {q5 : Nat} {q6 : Nat} {q7 : Nat} {q8 : Nat} {q9 : Nat} {q10 : Nat} {q11 : Nat} {tx : Nat → Int32}  {Q : Int32 → (Nat → Int32) → (Nat → Int64) → (Nat → Int32) → Prop} {A : Nat → Prop} (S : CallFix p m c cX9_partLine 4 s args wsX9_partLine RX9) (hr : meth.sig.returnType = (some .boolean)) (hlocks : meth.locks = false) (hG : GK g s) (hA : ∀ q : Nat, s.heap.size ≤ q → A q) : ∀ (s0 : Int32) (F : Nat → Int32) (J : Nat → Int64) (td : Nat → Int32), vX9_partLine_c47 tx Q s0 F J td → ∀ (H : Heap) (locs : List Loc), va_P g.1 vwCl [(qM, .inr (9, [.int (F 0), .ref q1, .ref q2, .ref q3, .int (F 4), .int (F 5), .int (F 6), .int (F 7), .int (F 8), .int (F 9), .long (J 10), .int (F 11), .int (F 12), .int (F 13), .ref q4, .int (F 15), .ref q5, .ref q6, .ref q7, .int (F 19), .ref q8, .int (F 21), .int (F 22), .int (F 23), .int (F 24), .ref q9, .ref q10, .ref q11, .long (J 28)])), (q2, .inl (g.2 1, 2000, .inl tx)), (q4, .inl (g.2 0, 94, .inl td))] H → va_D A [(qM, .inr (9, [.int (F 0), .ref q1, .ref q2, .ref q3, .int (F 4), .int (F 5), .int (F 6), .int (F 7), .int (F 8), .int (F 9), .long (J 10), .int (F 11), .int (F 12), .int (F 13), .ref q4, .int (F 15), .ref q5, .ref q6, .ref q7, .int (F 19), .ref q8, .int (F 21), .int (F 22), .int (F 23), .int (F 24), .ref q9, .ref q10, .ref q11, .long (J 28)])), (q2, .inl (g.2 1, 2000, .inl tx)), (q4, .inl (g.2 0, 94, .inl td))] → va_S A s.heap H locs → ∀ (ls : Array Slot), lv_has ls 4 [(0, .ref qM)] → W p l e (headSpec wsX9_partLine rmX9_partLine).room s m args below meth c H locs 0 0 (MQ below (va_Qi (fun (r : Int32) (u : (Nat → Int32) × (Nat → Int64) × (Nat → Int32)) => Q r u.1 u.2.1 u.2.2) (fun (u : (Nat → Int32) × (Nat → Int64) × (Nat → Int32)) t => va_P g.1 vwCl [(qM, .inr (9, [.int (u.1 0), .ref q1, .ref q2, .ref q3, .int (u.1 4), .int (u.1 5), .int (u.1 6), .int (u.1 7), .int (u.1 8), .int (u.1 9), .long (u.2.1 10), .int (u.1 11), .int (u.1 12), .int (u.1 13), .ref q4, .int (u.1 15), .ref q5, .ref q6, .ref q7, .int (u.1 19), .ref q8, .int (u.1 21), .int (u.1 22), .int (u.1 23), .int (u.1 24), .ref q9, .ref q10, .ref q11, .long (u.2.1 28)])), (q2, .inl (g.2 1, 2000, .inl tx)), (q4, .inl (g.2 0, 94, .inl u.2.2))] t.heap ∧ va_D A [(qM, .inr (9, [.int (u.1 0), .ref q1, .ref q2, .ref q3, .int (u.1 4), .int (u.1 5), .int (u.1 6), .int (u.1 7), .int (u.1 8), .int (u.1 9), .long (u.2.1 10), .int (u.1 11), .int (u.1 12), .int (u.1 13), .ref q4, .int (u.1 15), .ref q5, .ref q6, .ref q7, .int (u.1 19), .ref q8, .int (u.1 21), .int (u.1 22), .int (u.1 23), .int (u.1 24), .ref q9, .ref q10, .ref q11, .long (u.2.1 28)])), (q2, .inl (g.2 1, 2000, .inl tx)), (q4, .inl (g.2 0, 94, .inl u.2.2))]) A) args s 0 0 A) (F0 m 47 ls [.int s0]) := by
  obtain ⟨hx, hb, hml, hown, hts⟩ := id S
  have hK := hG.1
  intro s0 F J td hv H locs hP hD hS ls hl
  unfold vX9_partLine_c47 at hv
  refine lv_istore_n (lv' := [(1, .int s0), (0, .ref qM)]) hx hb dX9_partLine_47 rfl hl (by decide) rfl (fun ls hl => ?_)
  refine lv_aload_n hx hb dX9_partLine_48 rfl (lv_at hl 1 rfl) ?_
  refine va_get (D := g.1) (ci := 9) (v := .int (F 9)) (C := RX9) (T := TX9) (N := 29) hx hb hts inX9_partLine_9 hown hK hP 0 rfl rfl 9 (by decide) (hts (.fieldLink RX9 89 "RangeCodesModel" "letters" "I") (List.mem_of_getElem? (i := 4) rfl)) (fun _ h9 => h9) rfl dX9_partLine_49 ?_
  refine lv_istore_n (lv' := [(2, .int (F 9)), (1, .int s0), (0, .ref qM)]) hx hb dX9_partLine_52 rfl hl (by decide) rfl (fun ls hl => ?_)
  refine lv_iload_n hx hb dX9_partLine_53 rfl (lv_at hl 1 rfl) ?_
  refine lv_iconst (v := (-1 : Int32)) hx hb dX9_partLine_54 (by decide) ?_
  obtain ⟨hvt, hvf⟩ := hv
  refine lv_icmp_ne (tgt := 63) hx hb dX9_partLine_55 (by decide) (fun hc => ?_) (fun hc => ?_)
  · have hv := hvt hc
    refine lv_aload_n hx hb dX9_partLine_63 rfl (lv_at hl 2 rfl) ?_
    obtain ⟨b_64, nb_64, i_64, ho_1, hv⟩ := hv
    have hPc := hP.sub (ws' := [(qM, .inr (9, [.int (F 0), .ref q1, .ref q2, .ref q3, .int (F 4), .int (F 5), .int (F 6), .int (F 7), .int (F 8), .int (F 9), .long (J 10), .int (F 11), .int (F 12), .int (F 13), .ref q4, .int (F 15), .ref q5, .ref q6, .ref q7, .int (F 19), .ref q8, .int (F 21), .int (F 22), .int (F 23), .int (F 24), .ref q9, .ref q10, .ref q11, .long (J 28)])), (q2, .inl (g.2 1, 2000, .inl tx))]) [0, 1] rfl
    have hDc := hD.sub (ws' := [(qM, .inr (9, [.int (F 0), .ref q1, .ref q2, .ref q3, .int (F 4), .int (F 5), .int (F 6), .int (F 7), .int (F 8), .int (F 9), .long (J 10), .int (F 11), .int (F 12), .int (F 13), .ref q4, .int (F 15), .ref q5, .ref q6, .ref q7, .int (F 19), .ref q8, .int (F 21), .int (F 22), .int (F 23), .int (F 24), .ref q9, .ref q10, .ref q11, .long (J 28)])), (q2, .inl (g.2 1, 2000, .inl tx))]) [0, 1] (by decide) rfl
    have hFc := va_free (wc := [(qM, .inr (9, [.int (F 0), .ref q1, .ref q2, .ref q3, .int (F 4), .int (F 5), .int (F 6), .int (F 7), .int (F 8), .int (F 9), .long (J 10), .int (F 11), .int (F 12), .int (F 13), .ref q4, .int (F 15), .ref q5, .ref q6, .ref q7, .int (F 19), .ref q8, .int (F 21), .int (F 22), .int (F 23), .int (F 24), .ref q9, .ref q10, .ref q11, .long (J 28)])), (q2, .inl (g.2 1, 2000, .inl tx))]) hD hS hA [0, 1] rfl
    refine va_callv (va_runV (As := []) (rest := []) S (wX9_token l g qM q1 q2 q3 q4 q5 q6 q7 q8 q9 q10 q11 H.size F J tx (sX9_token b_64 nb_64 i_64 F J tx ho_1)) (cwV 0 hts gX9_partLine_X9_token rfl rfl rfl (by decide +kernel) ⟨Nat.le_of_ble_eq_true rfl, Nat.le_of_ble_eq_true rfl⟩) ⟨blindRW, va_recv hK hP (ci := 9) (q0 := 0) rfl rfl, fun U hU hW => ⟨rfl, by rw [hU], by rw [hU]; exact hPc, hG.warm hW, hDc.weaken (fun _ _ _ _ => trivial)⟩⟩ rfl rfl hl.1 rfl (lv_room (Nat.le_of_ble_eq_true rfl)) dX9_partLine_64 ⟨Nat.le_of_ble_eq_true rfl, Nat.le_of_ble_eq_true rfl⟩) hS (fun q _ h => hFc q h) hFc (fun u t H1 locs ht hvm hw hB hz1 hk1 hS => ?_)
    obtain ⟨F_64, J_64⟩ := u
    obtain ⟨hP1, hD1⟩ := hB
    rw [ht] at hP1
    have hv := hv F_64 J_64 hw
    obtain ⟨hP, hD⟩ := va_join (wr := [(q4, .inl (g.2 0, 94, .inl td))]) (w1 := [(qM, .inr (9, [.int (F_64 0), .ref q1, .ref q2, .ref q3, .int (F_64 4), .int (F_64 5), .int (F_64 6), .int (F_64 7), .int (F_64 8), .int (F_64 9), .long (J_64 10), .int (F_64 11), .int (F_64 12), .int (F_64 13), .ref q4, .int (F_64 15), .ref q5, .ref q6, .ref q7, .int (F_64 19), .ref q8, .int (F_64 21), .int (F_64 22), .int (F_64 23), .int (F_64 24), .ref q9, .ref q10, .ref q11, .long (J_64 28)])), (q2, .inl (g.2 1, 2000, .inl tx))]) hP hD [0, 1] [2] rfl rfl (by decide) (by decide) hk1 hFc hP1 hD1
    clear hP1 hD1 hPc hDc hFc hk1
    generalize H1 = H at hP hS ⊢
    have hP : va_P g.1 vwCl [(q4, .inl (g.2 0, 94, .inl td)), (qM, .inr (9, [.int (F_64 0), .ref q1, .ref q2, .ref q3, .int (F_64 4), .int (F_64 5), .int (F_64 6), .int (F_64 7), .int (F_64 8), .int (F_64 9), .long (J_64 10), .int (F_64 11), .int (F_64 12), .int (F_64 13), .ref q4, .int (F_64 15), .ref q5, .ref q6, .ref q7, .int (F_64 19), .ref q8, .int (F_64 21), .int (F_64 22), .int (F_64 23), .int (F_64 24), .ref q9, .ref q10, .ref q11, .long (J_64 28)])), (q2, .inl (g.2 1, 2000, .inl tx))] H := hP
    have hD : va_D A [(q4, .inl (g.2 0, 94, .inl td)), (qM, .inr (9, [.int (F_64 0), .ref q1, .ref q2, .ref q3, .int (F_64 4), .int (F_64 5), .int (F_64 6), .int (F_64 7), .int (F_64 8), .int (F_64 9), .long (J_64 10), .int (F_64 11), .int (F_64 12), .int (F_64 13), .ref q4, .int (F_64 15), .ref q5, .ref q6, .ref q7, .int (F_64 19), .ref q8, .int (F_64 21), .int (F_64 22), .int (F_64 23), .int (F_64 24), .ref q9, .ref q10, .ref q11, .long (J_64 28)])), (q2, .inl (g.2 1, 2000, .inl tx))] := hD
    refine lv_aload_n hx hb dX9_partLine_67 rfl (lv_at hl 2 rfl) ?_
    refine lv_iconst (v := (1 : Int32)) hx hb dX9_partLine_68 (by decide) ?_
    refine lv_bipush (v := (9 : Int32)) hx hb dX9_partLine_69 (by decide) ?_
    obtain ⟨b_71, nb_71, i_71, f_71, ho_2, hv⟩ := hv
    have hPc := hP.sub (ws' := [(qM, .inr (9, [.int (F_64 0), .ref q1, .ref q2, .ref q3, .int (F_64 4), .int (F_64 5), .int (F_64 6), .int (F_64 7), .int (F_64 8), .int (F_64 9), .long (J_64 10), .int (F_64 11), .int (F_64 12), .int (F_64 13), .ref q4, .int (F_64 15), .ref q5, .ref q6, .ref q7, .int (F_64 19), .ref q8, .int (F_64 21), .int (F_64 22), .int (F_64 23), .int (F_64 24), .ref q9, .ref q10, .ref q11, .long (J_64 28)])), (q2, .inl (g.2 1, 2000, .inl tx))]) [1, 2] rfl
    have hDc := hD.sub (ws' := [(qM, .inr (9, [.int (F_64 0), .ref q1, .ref q2, .ref q3, .int (F_64 4), .int (F_64 5), .int (F_64 6), .int (F_64 7), .int (F_64 8), .int (F_64 9), .long (J_64 10), .int (F_64 11), .int (F_64 12), .int (F_64 13), .ref q4, .int (F_64 15), .ref q5, .ref q6, .ref q7, .int (F_64 19), .ref q8, .int (F_64 21), .int (F_64 22), .int (F_64 23), .int (F_64 24), .ref q9, .ref q10, .ref q11, .long (J_64 28)])), (q2, .inl (g.2 1, 2000, .inl tx))]) [1, 2] (by decide) rfl
    have hFc := va_free (wc := [(qM, .inr (9, [.int (F_64 0), .ref q1, .ref q2, .ref q3, .int (F_64 4), .int (F_64 5), .int (F_64 6), .int (F_64 7), .int (F_64 8), .int (F_64 9), .long (J_64 10), .int (F_64 11), .int (F_64 12), .int (F_64 13), .ref q4, .int (F_64 15), .ref q5, .ref q6, .ref q7, .int (F_64 19), .ref q8, .int (F_64 21), .int (F_64 22), .int (F_64 23), .int (F_64 24), .ref q9, .ref q10, .ref q11, .long (J_64 28)])), (q2, .inl (g.2 1, 2000, .inl tx))]) hD hS hA [1, 2] rfl
    refine va_calli (va_runV (As := [.int (1 : Int32), .int (9 : Int32)]) (rest := []) S (wX9_takes l g qM q1 q2 q3 q4 q5 q6 q7 q8 q9 q10 q11 H.size F_64 J_64 tx (1 : Int32) (9 : Int32) (sX9_takes b_71 nb_71 i_71 f_71 F_64 J_64 tx (1 : Int32) (9 : Int32) ho_2)) (cwV 2 hts gX9_partLine_X9_takes rfl rfl rfl (by decide +kernel) ⟨Nat.le_of_ble_eq_true rfl, Nat.le_of_ble_eq_true rfl⟩) ⟨blindRW, va_recv hK hP (ci := 9) (q0 := 1) rfl rfl, fun U hU hW => ⟨rfl, by rw [hU], by rw [hU]; exact hPc, hG.warm hW, hDc.weaken (fun _ _ _ _ => trivial)⟩⟩ rfl rfl hl.1 rfl (lv_room (Nat.le_of_ble_eq_true rfl)) dX9_partLine_71 ⟨Nat.le_of_ble_eq_true rfl, Nat.le_of_ble_eq_true rfl⟩) hS (fun q _ h => hFc q h) hFc (fun r_71 u t H1 locs ht hvm hw hB hz1 hk1 hS => ?_)
    obtain ⟨F_71, J_71⟩ := u
    obtain ⟨hP1, hD1⟩ := hB
    rw [ht] at hP1
    have hv := hv r_71 F_71 J_71 hw
    obtain ⟨hP, hD⟩ := va_join (wr := [(q4, .inl (g.2 0, 94, .inl td))]) (w1 := [(qM, .inr (9, [.int (F_71 0), .ref q1, .ref q2, .ref q3, .int (F_71 4), .int (F_71 5), .int (F_71 6), .int (F_71 7), .int (F_71 8), .int (F_71 9), .long (J_71 10), .int (F_71 11), .int (F_71 12), .int (F_71 13), .ref q4, .int (F_71 15), .ref q5, .ref q6, .ref q7, .int (F_71 19), .ref q8, .int (F_71 21), .int (F_71 22), .int (F_71 23), .int (F_71 24), .ref q9, .ref q10, .ref q11, .long (J_71 28)])), (q2, .inl (g.2 1, 2000, .inl tx))]) hP hD [1, 2] [0] rfl rfl (by decide) (by decide) hk1 hFc hP1 hD1
    clear hP1 hD1 hPc hDc hFc hk1
    generalize H1 = H at hP hS ⊢
    have hP : va_P g.1 vwCl [(q4, .inl (g.2 0, 94, .inl td)), (qM, .inr (9, [.int (F_71 0), .ref q1, .ref q2, .ref q3, .int (F_71 4), .int (F_71 5), .int (F_71 6), .int (F_71 7), .int (F_71 8), .int (F_71 9), .long (J_71 10), .int (F_71 11), .int (F_71 12), .int (F_71 13), .ref q4, .int (F_71 15), .ref q5, .ref q6, .ref q7, .int (F_71 19), .ref q8, .int (F_71 21), .int (F_71 22), .int (F_71 23), .int (F_71 24), .ref q9, .ref q10, .ref q11, .long (J_71 28)])), (q2, .inl (g.2 1, 2000, .inl tx))] H := hP
    have hD : va_D A [(q4, .inl (g.2 0, 94, .inl td)), (qM, .inr (9, [.int (F_71 0), .ref q1, .ref q2, .ref q3, .int (F_71 4), .int (F_71 5), .int (F_71 6), .int (F_71 7), .int (F_71 8), .int (F_71 9), .long (J_71 10), .int (F_71 11), .int (F_71 12), .int (F_71 13), .ref q4, .int (F_71 15), .ref q5, .ref q6, .ref q7, .int (F_71 19), .ref q8, .int (F_71 21), .int (F_71 22), .int (F_71 23), .int (F_71 24), .ref q9, .ref q10, .ref q11, .long (J_71 28)])), (q2, .inl (g.2 1, 2000, .inl tx))] := hD
    obtain ⟨hvt, hvf⟩ := hv
    refine lv_if_ne (tgt := 79) hx hb dX9_partLine_74 (by decide) (fun hc => ?_) (fun hc => ?_)
    · have hv := hvt hc
      refine lv_aload_n hx hb dX9_partLine_79 rfl (lv_at hl 2 rfl) ?_
      refine va_get (D := g.1) (ci := 9) (v := .ref q4) (C := RX9) (T := TX9) (N := 29) hx hb hts inX9_partLine_9 hown hK hP 1 rfl rfl 14 (by decide) (hts (.fieldLink RX9 21 "RangeCodesModel" "told" "[I") (List.mem_of_getElem? (i := 1) rfl)) (fun _ h9 => h9) rfl dX9_partLine_80 ?_
      refine lv_iconst (v := (0 : Int32)) hx hb dX9_partLine_83 (by decide) ?_
      refine va_iald hx hb hK hP 0 0 rfl rfl (by unfold vp_in; decide) dX9_partLine_84 ?_
      refine lv_iconst (v := (5 : Int32)) hx hb dX9_partLine_85 (by decide) ?_
      obtain ⟨hvt, hvf⟩ := hv
      refine lv_icmp_ge (tgt := 140) hx hb dX9_partLine_86 (by decide) (fun hc => ?_) (fun hc => ?_)
      · have hv := hvt hc
        refine lv_iconst (v := (1 : Int32)) hx hb dX9_partLine_140 (by decide) ?_
        have hP9 := hP.sub (ws' := [(qM, .inr (9, [.int (F_71 0), .ref q1, .ref q2, .ref q3, .int (F_71 4), .int (F_71 5), .int (F_71 6), .int (F_71 7), .int (F_71 8), .int (F_71 9), .long (J_71 10), .int (F_71 11), .int (F_71 12), .int (F_71 13), .ref q4, .int (F_71 15), .ref q5, .ref q6, .ref q7, .int (F_71 19), .ref q8, .int (F_71 21), .int (F_71 22), .int (F_71 23), .int (F_71 24), .ref q9, .ref q10, .ref q11, .long (J_71 28)])), (q2, .inl (g.2 1, 2000, .inl tx)), (q4, .inl (g.2 0, 94, .inl td))]) [1, 2, 0] rfl
        have hD9 := hD.sub (ws' := [(qM, .inr (9, [.int (F_71 0), .ref q1, .ref q2, .ref q3, .int (F_71 4), .int (F_71 5), .int (F_71 6), .int (F_71 7), .int (F_71 8), .int (F_71 9), .long (J_71 10), .int (F_71 11), .int (F_71 12), .int (F_71 13), .ref q4, .int (F_71 15), .ref q5, .ref q6, .ref q7, .int (F_71 19), .ref q8, .int (F_71 21), .int (F_71 22), .int (F_71 23), .int (F_71 24), .ref q9, .ref q10, .ref q11, .long (J_71 28)])), (q2, .inl (g.2 1, 2000, .inl tx)), (q4, .inl (g.2 0, 94, .inl td))]) [1, 2, 0] (by decide) rfl
        exact W.zret (v := (1 : Int32)) (ty := .boolean) hx hb hr rfl (fun t ht hW => ⟨⟨_, (F_71, J_71, td), rfl, hv, by rw [ht]; exact hP9, hD9⟩, hS.F ht⟩) hS.2.2 dX9_partLine_141
      · have hv := hvf hc
        refine lv_iconst (v := (5 : Int32)) hx hb dX9_partLine_89 (by decide) ?_
        refine lv_iconst (v := (3 : Int32)) hx hb dX9_partLine_90 (by decide) ?_
        refine lv_aload_n hx hb dX9_partLine_91 rfl (lv_at hl 2 rfl) ?_
        refine va_get (D := g.1) (ci := 9) (v := .ref q4) (C := RX9) (T := TX9) (N := 29) hx hb hts inX9_partLine_9 hown hK hP 1 rfl rfl 14 (by decide) (hts (.fieldLink RX9 21 "RangeCodesModel" "told" "[I") (List.mem_of_getElem? (i := 1) rfl)) (fun _ h9 => h9) rfl dX9_partLine_92 ?_
        refine lv_iconst (v := (0 : Int32)) hx hb dX9_partLine_95 (by decide) ?_
        refine va_iald hx hb hK hP 0 0 rfl rfl (by unfold vp_in; decide) dX9_partLine_96 ?_
        refine lv_imul hx hb dX9_partLine_97 ?_
        refine lv_iadd hx hb dX9_partLine_98 ?_
        refine lv_topi (fun y_99 ey_99 => ?_)
        have hv := hv y_99 ey_99
        refine lv_istore_n (lv' := [(3, .int y_99), (2, .int (F 9)), (1, .int s0), (0, .ref qM)]) hx hb dX9_partLine_99 rfl hl (by decide) rfl (fun ls hl => ?_)
        refine lv_aload_n hx hb dX9_partLine_100 rfl (lv_at hl 3 rfl) ?_
        refine va_get (D := g.1) (ci := 9) (v := .ref q4) (C := RX9) (T := TX9) (N := 29) hx hb hts inX9_partLine_9 hown hK hP 1 rfl rfl 14 (by decide) (hts (.fieldLink RX9 21 "RangeCodesModel" "told" "[I") (List.mem_of_getElem? (i := 1) rfl)) (fun _ h9 => h9) rfl dX9_partLine_101 ?_
        refine lv_iload_n hx hb dX9_partLine_104 rfl (lv_at hl 0 rfl) ?_
        refine lv_iconst (v := (0 : Int32)) hx hb dX9_partLine_105 (by decide) ?_
        refine lv_iadd hx hb dX9_partLine_106 ?_
        refine lv_iload_n hx hb dX9_partLine_107 rfl (lv_at hl 1 rfl) ?_
        obtain ⟨ho_3, hv⟩ := hv
        refine va_iast hx hb hK hP hD hS 0 0 rfl rfl ho_3 dX9_partLine_108 (fun H locs hP hD hS => ?_)
        have hP : va_P g.1 vwCl [(q4, .inl (g.2 0, 94, .inl (upd td (y_99 + (0 : Int32)).toNatClampNeg (F 9)))), (qM, .inr (9, [.int (F_71 0), .ref q1, .ref q2, .ref q3, .int (F_71 4), .int (F_71 5), .int (F_71 6), .int (F_71 7), .int (F_71 8), .int (F_71 9), .long (J_71 10), .int (F_71 11), .int (F_71 12), .int (F_71 13), .ref q4, .int (F_71 15), .ref q5, .ref q6, .ref q7, .int (F_71 19), .ref q8, .int (F_71 21), .int (F_71 22), .int (F_71 23), .int (F_71 24), .ref q9, .ref q10, .ref q11, .long (J_71 28)])), (q2, .inl (g.2 1, 2000, .inl tx))] H := hP
        have hD : va_D A [(q4, .inl (g.2 0, 94, .inl (upd td (y_99 + (0 : Int32)).toNatClampNeg (F 9)))), (qM, .inr (9, [.int (F_71 0), .ref q1, .ref q2, .ref q3, .int (F_71 4), .int (F_71 5), .int (F_71 6), .int (F_71 7), .int (F_71 8), .int (F_71 9), .long (J_71 10), .int (F_71 11), .int (F_71 12), .int (F_71 13), .ref q4, .int (F_71 15), .ref q5, .ref q6, .ref q7, .int (F_71 19), .ref q8, .int (F_71 21), .int (F_71 22), .int (F_71 23), .int (F_71 24), .ref q9, .ref q10, .ref q11, .long (J_71 28)])), (q2, .inl (g.2 1, 2000, .inl tx))] := hD
        refine lv_aload_n hx hb dX9_partLine_109 rfl (lv_at hl 3 rfl) ?_
        refine va_get (D := g.1) (ci := 9) (v := .ref q4) (C := RX9) (T := TX9) (N := 29) hx hb hts inX9_partLine_9 hown hK hP 1 rfl rfl 14 (by decide) (hts (.fieldLink RX9 21 "RangeCodesModel" "told" "[I") (List.mem_of_getElem? (i := 1) rfl)) (fun _ h9 => h9) rfl dX9_partLine_110 ?_
        refine lv_iload_n hx hb dX9_partLine_113 rfl (lv_at hl 0 rfl) ?_
        refine lv_iconst (v := (1 : Int32)) hx hb dX9_partLine_114 (by decide) ?_
        refine lv_iadd hx hb dX9_partLine_115 ?_
        refine lv_aload_n hx hb dX9_partLine_116 rfl (lv_at hl 3 rfl) ?_
        refine va_get (D := g.1) (ci := 9) (v := .int (F_71 15)) (C := RX9) (T := TX9) (N := 29) hx hb hts inX9_partLine_9 hown hK hP 1 rfl rfl 15 (by decide) (hts (.fieldLink RX9 108 "RangeCodesModel" "read" "I") (List.mem_of_getElem? (i := 5) rfl)) (fun _ h9 => h9) rfl dX9_partLine_117 ?_
        obtain ⟨ho_4, hv⟩ := hv
        refine va_iast hx hb hK hP hD hS 0 0 rfl rfl ho_4 dX9_partLine_120 (fun H locs hP hD hS => ?_)
        have hP : va_P g.1 vwCl [(q4, .inl (g.2 0, 94, .inl (upd (upd td (y_99 + (0 : Int32)).toNatClampNeg (F 9)) (y_99 + (1 : Int32)).toNatClampNeg (F_71 15)))), (qM, .inr (9, [.int (F_71 0), .ref q1, .ref q2, .ref q3, .int (F_71 4), .int (F_71 5), .int (F_71 6), .int (F_71 7), .int (F_71 8), .int (F_71 9), .long (J_71 10), .int (F_71 11), .int (F_71 12), .int (F_71 13), .ref q4, .int (F_71 15), .ref q5, .ref q6, .ref q7, .int (F_71 19), .ref q8, .int (F_71 21), .int (F_71 22), .int (F_71 23), .int (F_71 24), .ref q9, .ref q10, .ref q11, .long (J_71 28)])), (q2, .inl (g.2 1, 2000, .inl tx))] H := hP
        have hD : va_D A [(q4, .inl (g.2 0, 94, .inl (upd (upd td (y_99 + (0 : Int32)).toNatClampNeg (F 9)) (y_99 + (1 : Int32)).toNatClampNeg (F_71 15)))), (qM, .inr (9, [.int (F_71 0), .ref q1, .ref q2, .ref q3, .int (F_71 4), .int (F_71 5), .int (F_71 6), .int (F_71 7), .int (F_71 8), .int (F_71 9), .long (J_71 10), .int (F_71 11), .int (F_71 12), .int (F_71 13), .ref q4, .int (F_71 15), .ref q5, .ref q6, .ref q7, .int (F_71 19), .ref q8, .int (F_71 21), .int (F_71 22), .int (F_71 23), .int (F_71 24), .ref q9, .ref q10, .ref q11, .long (J_71 28)])), (q2, .inl (g.2 1, 2000, .inl tx))] := hD
        refine lv_aload_n hx hb dX9_partLine_121 rfl (lv_at hl 3 rfl) ?_
        refine va_get (D := g.1) (ci := 9) (v := .ref q4) (C := RX9) (T := TX9) (N := 29) hx hb hts inX9_partLine_9 hown hK hP 1 rfl rfl 14 (by decide) (hts (.fieldLink RX9 21 "RangeCodesModel" "told" "[I") (List.mem_of_getElem? (i := 1) rfl)) (fun _ h9 => h9) rfl dX9_partLine_122 ?_
        refine lv_iload_n hx hb dX9_partLine_125 rfl (lv_at hl 0 rfl) ?_
        refine lv_iconst (v := (2 : Int32)) hx hb dX9_partLine_126 (by decide) ?_
        refine lv_iadd hx hb dX9_partLine_127 ?_
        refine lv_iload_n hx hb dX9_partLine_128 rfl (lv_at hl 2 rfl) ?_
        obtain ⟨ho_5, hv⟩ := hv
        refine va_iast hx hb hK hP hD hS 0 0 rfl rfl ho_5 dX9_partLine_129 (fun H locs hP hD hS => ?_)
        have hP : va_P g.1 vwCl [(q4, .inl (g.2 0, 94, .inl (upd (upd (upd td (y_99 + (0 : Int32)).toNatClampNeg (F 9)) (y_99 + (1 : Int32)).toNatClampNeg (F_71 15)) (y_99 + (2 : Int32)).toNatClampNeg s0))), (qM, .inr (9, [.int (F_71 0), .ref q1, .ref q2, .ref q3, .int (F_71 4), .int (F_71 5), .int (F_71 6), .int (F_71 7), .int (F_71 8), .int (F_71 9), .long (J_71 10), .int (F_71 11), .int (F_71 12), .int (F_71 13), .ref q4, .int (F_71 15), .ref q5, .ref q6, .ref q7, .int (F_71 19), .ref q8, .int (F_71 21), .int (F_71 22), .int (F_71 23), .int (F_71 24), .ref q9, .ref q10, .ref q11, .long (J_71 28)])), (q2, .inl (g.2 1, 2000, .inl tx))] H := hP
        have hD : va_D A [(q4, .inl (g.2 0, 94, .inl (upd (upd (upd td (y_99 + (0 : Int32)).toNatClampNeg (F 9)) (y_99 + (1 : Int32)).toNatClampNeg (F_71 15)) (y_99 + (2 : Int32)).toNatClampNeg s0))), (qM, .inr (9, [.int (F_71 0), .ref q1, .ref q2, .ref q3, .int (F_71 4), .int (F_71 5), .int (F_71 6), .int (F_71 7), .int (F_71 8), .int (F_71 9), .long (J_71 10), .int (F_71 11), .int (F_71 12), .int (F_71 13), .ref q4, .int (F_71 15), .ref q5, .ref q6, .ref q7, .int (F_71 19), .ref q8, .int (F_71 21), .int (F_71 22), .int (F_71 23), .int (F_71 24), .ref q9, .ref q10, .ref q11, .long (J_71 28)])), (q2, .inl (g.2 1, 2000, .inl tx))] := hD
        refine lv_aload_n hx hb dX9_partLine_130 rfl (lv_at hl 3 rfl) ?_
        refine va_get (D := g.1) (ci := 9) (v := .ref q4) (C := RX9) (T := TX9) (N := 29) hx hb hts inX9_partLine_9 hown hK hP 1 rfl rfl 14 (by decide) (hts (.fieldLink RX9 21 "RangeCodesModel" "told" "[I") (List.mem_of_getElem? (i := 1) rfl)) (fun _ h9 => h9) rfl dX9_partLine_131 ?_
        refine lv_iconst (v := (0 : Int32)) hx hb dX9_partLine_134 (by decide) ?_
        refine lv_dup2_11 hx hb dX9_partLine_135 rfl rfl ?_
        refine va_iald hx hb hK hP 0 0 rfl rfl (by unfold vp_in; decide) dX9_partLine_136 ?_
        refine lv_iconst (v := (1 : Int32)) hx hb dX9_partLine_137 (by decide) ?_
        refine lv_iadd hx hb dX9_partLine_138 ?_
        refine lv_topi (fun a_139 ea_139 => ?_)
        have hv := hv a_139 ea_139
        refine va_iast hx hb hK hP hD hS 0 0 rfl rfl (by unfold vp_in; decide) dX9_partLine_139 (fun H locs hP hD hS => ?_)
        have hP : va_P g.1 vwCl [(q4, .inl (g.2 0, 94, .inl (upd (upd (upd (upd td (y_99 + (0 : Int32)).toNatClampNeg (F 9)) (y_99 + (1 : Int32)).toNatClampNeg (F_71 15)) (y_99 + (2 : Int32)).toNatClampNeg s0) 0 a_139))), (qM, .inr (9, [.int (F_71 0), .ref q1, .ref q2, .ref q3, .int (F_71 4), .int (F_71 5), .int (F_71 6), .int (F_71 7), .int (F_71 8), .int (F_71 9), .long (J_71 10), .int (F_71 11), .int (F_71 12), .int (F_71 13), .ref q4, .int (F_71 15), .ref q5, .ref q6, .ref q7, .int (F_71 19), .ref q8, .int (F_71 21), .int (F_71 22), .int (F_71 23), .int (F_71 24), .ref q9, .ref q10, .ref q11, .long (J_71 28)])), (q2, .inl (g.2 1, 2000, .inl tx))] H := hP
        have hD : va_D A [(q4, .inl (g.2 0, 94, .inl (upd (upd (upd (upd td (y_99 + (0 : Int32)).toNatClampNeg (F 9)) (y_99 + (1 : Int32)).toNatClampNeg (F_71 15)) (y_99 + (2 : Int32)).toNatClampNeg s0) 0 a_139))), (qM, .inr (9, [.int (F_71 0), .ref q1, .ref q2, .ref q3, .int (F_71 4), .int (F_71 5), .int (F_71 6), .int (F_71 7), .int (F_71 8), .int (F_71 9), .long (J_71 10), .int (F_71 11), .int (F_71 12), .int (F_71 13), .ref q4, .int (F_71 15), .ref q5, .ref q6, .ref q7, .int (F_71 19), .ref q8, .int (F_71 21), .int (F_71 22), .int (F_71 23), .int (F_71 24), .ref q9, .ref q10, .ref q11, .long (J_71 28)])), (q2, .inl (g.2 1, 2000, .inl tx))] := hD
        refine lv_iconst (v := (1 : Int32)) hx hb dX9_partLine_140 (by decide) ?_
        have hP9 := hP.sub (ws' := [(qM, .inr (9, [.int (F_71 0), .ref q1, .ref q2, .ref q3, .int (F_71 4), .int (F_71 5), .int (F_71 6), .int (F_71 7), .int (F_71 8), .int (F_71 9), .long (J_71 10), .int (F_71 11), .int (F_71 12), .int (F_71 13), .ref q4, .int (F_71 15), .ref q5, .ref q6, .ref q7, .int (F_71 19), .ref q8, .int (F_71 21), .int (F_71 22), .int (F_71 23), .int (F_71 24), .ref q9, .ref q10, .ref q11, .long (J_71 28)])), (q2, .inl (g.2 1, 2000, .inl tx)), (q4, .inl (g.2 0, 94, .inl (upd (upd (upd (upd td (y_99 + (0 : Int32)).toNatClampNeg (F 9)) (y_99 + (1 : Int32)).toNatClampNeg (F_71 15)) (y_99 + (2 : Int32)).toNatClampNeg s0) 0 a_139)))]) [1, 2, 0] rfl
        have hD9 := hD.sub (ws' := [(qM, .inr (9, [.int (F_71 0), .ref q1, .ref q2, .ref q3, .int (F_71 4), .int (F_71 5), .int (F_71 6), .int (F_71 7), .int (F_71 8), .int (F_71 9), .long (J_71 10), .int (F_71 11), .int (F_71 12), .int (F_71 13), .ref q4, .int (F_71 15), .ref q5, .ref q6, .ref q7, .int (F_71 19), .ref q8, .int (F_71 21), .int (F_71 22), .int (F_71 23), .int (F_71 24), .ref q9, .ref q10, .ref q11, .long (J_71 28)])), (q2, .inl (g.2 1, 2000, .inl tx)), (q4, .inl (g.2 0, 94, .inl (upd (upd (upd (upd td (y_99 + (0 : Int32)).toNatClampNeg (F 9)) (y_99 + (1 : Int32)).toNatClampNeg (F_71 15)) (y_99 + (2 : Int32)).toNatClampNeg s0) 0 a_139)))]) [1, 2, 0] (by decide) rfl
        exact W.zret (v := (1 : Int32)) (ty := .boolean) hx hb hr rfl (fun t ht hW => ⟨⟨_, (F_71, J_71, (upd (upd (upd (upd td (y_99 + (0 : Int32)).toNatClampNeg (F 9)) (y_99 + (1 : Int32)).toNatClampNeg (F_71 15)) (y_99 + (2 : Int32)).toNatClampNeg s0) 0 a_139)), rfl, hv, by rw [ht]; exact hP9, hD9⟩, hS.F ht⟩) hS.2.2 dX9_partLine_141
    · have hv := hvf hc
      refine lv_iconst (v := (0 : Int32)) hx hb dX9_partLine_77 (by decide) ?_
      have hP9 := hP.sub (ws' := [(qM, .inr (9, [.int (F_71 0), .ref q1, .ref q2, .ref q3, .int (F_71 4), .int (F_71 5), .int (F_71 6), .int (F_71 7), .int (F_71 8), .int (F_71 9), .long (J_71 10), .int (F_71 11), .int (F_71 12), .int (F_71 13), .ref q4, .int (F_71 15), .ref q5, .ref q6, .ref q7, .int (F_71 19), .ref q8, .int (F_71 21), .int (F_71 22), .int (F_71 23), .int (F_71 24), .ref q9, .ref q10, .ref q11, .long (J_71 28)])), (q2, .inl (g.2 1, 2000, .inl tx)), (q4, .inl (g.2 0, 94, .inl td))]) [1, 2, 0] rfl
      have hD9 := hD.sub (ws' := [(qM, .inr (9, [.int (F_71 0), .ref q1, .ref q2, .ref q3, .int (F_71 4), .int (F_71 5), .int (F_71 6), .int (F_71 7), .int (F_71 8), .int (F_71 9), .long (J_71 10), .int (F_71 11), .int (F_71 12), .int (F_71 13), .ref q4, .int (F_71 15), .ref q5, .ref q6, .ref q7, .int (F_71 19), .ref q8, .int (F_71 21), .int (F_71 22), .int (F_71 23), .int (F_71 24), .ref q9, .ref q10, .ref q11, .long (J_71 28)])), (q2, .inl (g.2 1, 2000, .inl tx)), (q4, .inl (g.2 0, 94, .inl td))]) [1, 2, 0] (by decide) rfl
      exact W.zret (v := (0 : Int32)) (ty := .boolean) hx hb hr rfl (fun t ht hW => ⟨⟨_, (F_71, J_71, td), rfl, hv, by rw [ht]; exact hP9, hD9⟩, hS.F ht⟩) hS.2.2 dX9_partLine_78
  · have hv := hvf hc
    refine lv_aload_n hx hb dX9_partLine_58 rfl (lv_at hl 2 rfl) ?_
    obtain ⟨ho_6, hv⟩ := hv
    have hPc := hP.sub (ws' := [(qM, .inr (9, [.int (F 0), .ref q1, .ref q2, .ref q3, .int (F 4), .int (F 5), .int (F 6), .int (F 7), .int (F 8), .int (F 9), .long (J 10), .int (F 11), .int (F 12), .int (F 13), .ref q4, .int (F 15), .ref q5, .ref q6, .ref q7, .int (F 19), .ref q8, .int (F 21), .int (F 22), .int (F 23), .int (F 24), .ref q9, .ref q10, .ref q11, .long (J 28)]))]) [0] rfl
    have hDc := hD.sub (ws' := [(qM, .inr (9, [.int (F 0), .ref q1, .ref q2, .ref q3, .int (F 4), .int (F 5), .int (F 6), .int (F 7), .int (F 8), .int (F 9), .long (J 10), .int (F 11), .int (F 12), .int (F 13), .ref q4, .int (F 15), .ref q5, .ref q6, .ref q7, .int (F 19), .ref q8, .int (F 21), .int (F 22), .int (F 23), .int (F 24), .ref q9, .ref q10, .ref q11, .long (J 28)]))]) [0] (by decide) rfl
    have hFc := va_free (wc := [(qM, .inr (9, [.int (F 0), .ref q1, .ref q2, .ref q3, .int (F 4), .int (F 5), .int (F 6), .int (F 7), .int (F 8), .int (F 9), .long (J 10), .int (F 11), .int (F 12), .int (F 13), .ref q4, .int (F 15), .ref q5, .ref q6, .ref q7, .int (F 19), .ref q8, .int (F 21), .int (F 22), .int (F 23), .int (F 24), .ref q9, .ref q10, .ref q11, .long (J 28)]))]) hD hS hA [0] rfl
    refine va_calli (va_runV (As := []) (rest := []) S (wX9_fails l g qM q1 q2 q3 q4 q5 q6 q7 q8 q9 q10 q11 H.size F J (sX9_fails F J ho_6)) (cwV 0 hts gX9_partLine_X9_fails rfl rfl rfl (by decide +kernel) ⟨Nat.le_of_ble_eq_true rfl, Nat.le_of_ble_eq_true rfl⟩) ⟨blindRW, va_recv hK hP (ci := 9) (q0 := 0) rfl rfl, fun U hU hW => ⟨rfl, by rw [hU], by rw [hU]; exact hPc, hG.warm hW, hDc.weaken (fun _ _ _ _ => trivial)⟩⟩ rfl rfl hl.1 rfl (lv_room (Nat.le_of_ble_eq_true rfl)) dX9_partLine_59 ⟨Nat.le_of_ble_eq_true rfl, Nat.le_of_ble_eq_true rfl⟩) hS (fun q _ h => hFc q h) hFc (fun r_59 u t H1 locs ht hvm hw hB hz1 hk1 hS => ?_)
    obtain ⟨F_59, rfl⟩ : ∃ z, z = u := ⟨_, rfl⟩
    obtain ⟨hP1, hD1⟩ := hB
    rw [ht] at hP1
    have hv := hv r_59 F_59 hw
    obtain ⟨hP, hD⟩ := va_join (wr := [(q2, .inl (g.2 1, 2000, .inl tx)), (q4, .inl (g.2 0, 94, .inl td))]) (w1 := [(qM, .inr (9, [.int (F_59 0), .ref q1, .ref q2, .ref q3, .int (F_59 4), .int (F_59 5), .int (F_59 6), .int (F_59 7), .int (F_59 8), .int (F_59 9), .long (J 10), .int (F_59 11), .int (F_59 12), .int (F_59 13), .ref q4, .int (F_59 15), .ref q5, .ref q6, .ref q7, .int (F_59 19), .ref q8, .int (F_59 21), .int (F_59 22), .int (F_59 23), .int (F_59 24), .ref q9, .ref q10, .ref q11, .long (J 28)]))]) hP hD [0] [1, 2] rfl rfl (by decide) (by decide) hk1 hFc hP1 hD1
    clear hP1 hD1 hPc hDc hFc hk1
    generalize H1 = H at hP hS ⊢
    have hP : va_P g.1 vwCl [(q2, .inl (g.2 1, 2000, .inl tx)), (q4, .inl (g.2 0, 94, .inl td)), (qM, .inr (9, [.int (F_59 0), .ref q1, .ref q2, .ref q3, .int (F_59 4), .int (F_59 5), .int (F_59 6), .int (F_59 7), .int (F_59 8), .int (F_59 9), .long (J 10), .int (F_59 11), .int (F_59 12), .int (F_59 13), .ref q4, .int (F_59 15), .ref q5, .ref q6, .ref q7, .int (F_59 19), .ref q8, .int (F_59 21), .int (F_59 22), .int (F_59 23), .int (F_59 24), .ref q9, .ref q10, .ref q11, .long (J 28)]))] H := hP
    have hD : va_D A [(q2, .inl (g.2 1, 2000, .inl tx)), (q4, .inl (g.2 0, 94, .inl td)), (qM, .inr (9, [.int (F_59 0), .ref q1, .ref q2, .ref q3, .int (F_59 4), .int (F_59 5), .int (F_59 6), .int (F_59 7), .int (F_59 8), .int (F_59 9), .long (J 10), .int (F_59 11), .int (F_59 12), .int (F_59 13), .ref q4, .int (F_59 15), .ref q5, .ref q6, .ref q7, .int (F_59 19), .ref q8, .int (F_59 21), .int (F_59 22), .int (F_59 23), .int (F_59 24), .ref q9, .ref q10, .ref q11, .long (J 28)]))] := hD
    have hP9 := hP.sub (ws' := [(qM, .inr (9, [.int (F_59 0), .ref q1, .ref q2, .ref q3, .int (F_59 4), .int (F_59 5), .int (F_59 6), .int (F_59 7), .int (F_59 8), .int (F_59 9), .long (J 10), .int (F_59 11), .int (F_59 12), .int (F_59 13), .ref q4, .int (F_59 15), .ref q5, .ref q6, .ref q7, .int (F_59 19), .ref q8, .int (F_59 21), .int (F_59 22), .int (F_59 23), .int (F_59 24), .ref q9, .ref q10, .ref q11, .long (J 28)])), (q2, .inl (g.2 1, 2000, .inl tx)), (q4, .inl (g.2 0, 94, .inl td))]) [2, 0, 1] rfl
    have hD9 := hD.sub (ws' := [(qM, .inr (9, [.int (F_59 0), .ref q1, .ref q2, .ref q3, .int (F_59 4), .int (F_59 5), .int (F_59 6), .int (F_59 7), .int (F_59 8), .int (F_59 9), .long (J 10), .int (F_59 11), .int (F_59 12), .int (F_59 13), .ref q4, .int (F_59 15), .ref q5, .ref q6, .ref q7, .int (F_59 19), .ref q8, .int (F_59 21), .int (F_59 22), .int (F_59 23), .int (F_59 24), .ref q9, .ref q10, .ref q11, .long (J 28)])), (q2, .inl (g.2 1, 2000, .inl tx)), (q4, .inl (g.2 0, 94, .inl td))]) [2, 0, 1] (by decide) rfl
    obtain ⟨hn, hv⟩ := hv
    exact W.zret (v := r_59) (ty := .boolean) hx hb hr hn (fun t ht hW => ⟨⟨_, (F_59, J, td), rfl, hv, by rw [ht]; exact hP9, hD9⟩, hS.F ht⟩) hS.2.2 dX9_partLine_62
def vX9_partLine_c46 (tx : Nat → Int32) (Q : Int32 → (Nat → Int32) → (Nat → Int64) → (Nat → Int32) → Prop) (F : Nat → Int32) (J : Nat → Int64) (td : Nat → Int32) : Prop := (vX9_partLine_c47 tx Q (-1 : Int32) F J td)
set_option maxHeartbeats 4000000 in
set_option maxRecDepth 100000 in
theorem kX9_partLine_c46 {p : Program} {l : Launch} {e : Env} {s : State} {m : MethodId} {args : Array Value} {below : List Frame} {meth : Method} {c : Code} {g : GP} {qM : Nat} {q1 : Nat} {q2 : Nat} {q3 : Nat} {q4 : Nat} {q5 : Nat} {q6 : Nat} {q7 : Nat} {q8 : Nat} {q9 : Nat} {q10 : Nat} {q11 : Nat} {tx : Nat → Int32}  {Q : Int32 → (Nat → Int32) → (Nat → Int64) → (Nat → Int32) → Prop} {A : Nat → Prop} (S : CallFix p m c cX9_partLine 4 s args wsX9_partLine RX9) (hr : meth.sig.returnType = (some .boolean)) (hlocks : meth.locks = false) (hG : GK g s) (hA : ∀ q : Nat, s.heap.size ≤ q → A q) : ∀ (F : Nat → Int32) (J : Nat → Int64) (td : Nat → Int32), vX9_partLine_c46 tx Q F J td → ∀ (H : Heap) (locs : List Loc), va_P g.1 vwCl [(qM, .inr (9, [.int (F 0), .ref q1, .ref q2, .ref q3, .int (F 4), .int (F 5), .int (F 6), .int (F 7), .int (F 8), .int (F 9), .long (J 10), .int (F 11), .int (F 12), .int (F 13), .ref q4, .int (F 15), .ref q5, .ref q6, .ref q7, .int (F 19), .ref q8, .int (F 21), .int (F 22), .int (F 23), .int (F 24), .ref q9, .ref q10, .ref q11, .long (J 28)])), (q2, .inl (g.2 1, 2000, .inl tx)), (q4, .inl (g.2 0, 94, .inl td))] H → va_D A [(qM, .inr (9, [.int (F 0), .ref q1, .ref q2, .ref q3, .int (F 4), .int (F 5), .int (F 6), .int (F 7), .int (F 8), .int (F 9), .long (J 10), .int (F 11), .int (F 12), .int (F 13), .ref q4, .int (F 15), .ref q5, .ref q6, .ref q7, .int (F 19), .ref q8, .int (F 21), .int (F 22), .int (F 23), .int (F 24), .ref q9, .ref q10, .ref q11, .long (J 28)])), (q2, .inl (g.2 1, 2000, .inl tx)), (q4, .inl (g.2 0, 94, .inl td))] → va_S A s.heap H locs → ∀ (ls : Array Slot), lv_has ls 4 [(0, .ref qM)] → W p l e (headSpec wsX9_partLine rmX9_partLine).room s m args below meth c H locs 0 0 (MQ below (va_Qi (fun (r : Int32) (u : (Nat → Int32) × (Nat → Int64) × (Nat → Int32)) => Q r u.1 u.2.1 u.2.2) (fun (u : (Nat → Int32) × (Nat → Int64) × (Nat → Int32)) t => va_P g.1 vwCl [(qM, .inr (9, [.int (u.1 0), .ref q1, .ref q2, .ref q3, .int (u.1 4), .int (u.1 5), .int (u.1 6), .int (u.1 7), .int (u.1 8), .int (u.1 9), .long (u.2.1 10), .int (u.1 11), .int (u.1 12), .int (u.1 13), .ref q4, .int (u.1 15), .ref q5, .ref q6, .ref q7, .int (u.1 19), .ref q8, .int (u.1 21), .int (u.1 22), .int (u.1 23), .int (u.1 24), .ref q9, .ref q10, .ref q11, .long (u.2.1 28)])), (q2, .inl (g.2 1, 2000, .inl tx)), (q4, .inl (g.2 0, 94, .inl u.2.2))] t.heap ∧ va_D A [(qM, .inr (9, [.int (u.1 0), .ref q1, .ref q2, .ref q3, .int (u.1 4), .int (u.1 5), .int (u.1 6), .int (u.1 7), .int (u.1 8), .int (u.1 9), .long (u.2.1 10), .int (u.1 11), .int (u.1 12), .int (u.1 13), .ref q4, .int (u.1 15), .ref q5, .ref q6, .ref q7, .int (u.1 19), .ref q8, .int (u.1 21), .int (u.1 22), .int (u.1 23), .int (u.1 24), .ref q9, .ref q10, .ref q11, .long (u.2.1 28)])), (q2, .inl (g.2 1, 2000, .inl tx)), (q4, .inl (g.2 0, 94, .inl u.2.2))]) A) args s 0 0 A) (F0 m 46 ls []) := by
  obtain ⟨hx, hb, hml, hown, hts⟩ := id S
  have hK := hG.1
  intro F J td hv H locs hP hD hS ls hl
  unfold vX9_partLine_c46 at hv
  refine lv_iconst (v := (-1 : Int32)) hx hb dX9_partLine_46 (by decide) ?_
  exact kX9_partLine_c47 S hr hlocks hG hA _ _ _ _ hv _ _ (hP.sub (ws' := [(qM, .inr (9, [.int (F 0), .ref q1, .ref q2, .ref q3, .int (F 4), .int (F 5), .int (F 6), .int (F 7), .int (F 8), .int (F 9), .long (J 10), .int (F 11), .int (F 12), .int (F 13), .ref q4, .int (F 15), .ref q5, .ref q6, .ref q7, .int (F 19), .ref q8, .int (F 21), .int (F 22), .int (F 23), .int (F 24), .ref q9, .ref q10, .ref q11, .long (J 28)])), (q2, .inl (g.2 1, 2000, .inl tx)), (q4, .inl (g.2 0, 94, .inl td))]) [0, 1, 2] rfl) (hD.sub (ws' := [(qM, .inr (9, [.int (F 0), .ref q1, .ref q2, .ref q3, .int (F 4), .int (F 5), .int (F 6), .int (F 7), .int (F 8), .int (F 9), .long (J 10), .int (F 11), .int (F 12), .int (F 13), .ref q4, .int (F 15), .ref q5, .ref q6, .ref q7, .int (F 19), .ref q8, .int (F 21), .int (F 22), .int (F 23), .int (F 24), .ref q9, .ref q10, .ref q11, .long (J 28)])), (q2, .inl (g.2 1, 2000, .inl tx)), (q4, .inl (g.2 0, 94, .inl td))]) [0, 1, 2] (by decide) rfl) hS ls (lv_sub hl [0] rfl)
def vX9_partLine_c19 (tx : Nat → Int32) (Q : Int32 → (Nat → Int32) → (Nat → Int64) → (Nat → Int32) → Prop) (F : Nat → Int32) (J : Nat → Int64) (td : Nat → Int32) : Prop := (∃ (b_20 : Nat → Int32) (nb_20 : Nat) (i_20 : Nat), preX9_token b_20 nb_20 i_20 F J tx ∧ (∀ (F_20 : Nat → Int32) (J_20 : Nat → Int64), postX9_token b_20 nb_20 i_20 F J tx F_20 J_20 → ((¬ (F_20 7) = (2 : Int32) → (vX9_partLine_c46 tx Q F_20 J_20 td)) ∧ ((F_20 7) = (2 : Int32) → (((F_20 9) ≤ (1 : Int32) → (vX9_partLine_c46 tx Q F_20 J_20 td)) ∧ (¬ (F_20 9) ≤ (1 : Int32) → (∃ (b_40 : Nat → Int32) (nb_40 : Nat) (i_40 : Nat), preX9_rowOf b_40 nb_40 i_40 F_20 J_20 tx ∧ (∀ r_40 : Int32, postX9_rowOf b_40 nb_40 i_40 F_20 J_20 tx r_40 → (vX9_partLine_c47 tx Q r_40 F_20 J_20 td)))))))))
set_option maxHeartbeats 4000000 in
set_option maxRecDepth 100000 in
theorem kX9_partLine_c19 {p : Program} {l : Launch} {e : Env} {s : State} {m : MethodId} {args : Array Value} {below : List Frame} {meth : Method} {c : Code} {g : GP} {qM : Nat} {q1 : Nat} {q2 : Nat} {q3 : Nat} {q4 : Nat} {q5 : Nat} {q6 : Nat} {q7 : Nat} {q8 : Nat} {q9 : Nat} {q10 : Nat} {q11 : Nat} {tx : Nat → Int32}  {Q : Int32 → (Nat → Int32) → (Nat → Int64) → (Nat → Int32) → Prop} {A : Nat → Prop} (S : CallFix p m c cX9_partLine 4 s args wsX9_partLine RX9) (hr : meth.sig.returnType = (some .boolean)) (hlocks : meth.locks = false) (hG : GK g s) (hA : ∀ q : Nat, s.heap.size ≤ q → A q) : ∀ (F : Nat → Int32) (J : Nat → Int64) (td : Nat → Int32), vX9_partLine_c19 tx Q F J td → ∀ (H : Heap) (locs : List Loc), va_P g.1 vwCl [(qM, .inr (9, [.int (F 0), .ref q1, .ref q2, .ref q3, .int (F 4), .int (F 5), .int (F 6), .int (F 7), .int (F 8), .int (F 9), .long (J 10), .int (F 11), .int (F 12), .int (F 13), .ref q4, .int (F 15), .ref q5, .ref q6, .ref q7, .int (F 19), .ref q8, .int (F 21), .int (F 22), .int (F 23), .int (F 24), .ref q9, .ref q10, .ref q11, .long (J 28)])), (q2, .inl (g.2 1, 2000, .inl tx)), (q4, .inl (g.2 0, 94, .inl td))] H → va_D A [(qM, .inr (9, [.int (F 0), .ref q1, .ref q2, .ref q3, .int (F 4), .int (F 5), .int (F 6), .int (F 7), .int (F 8), .int (F 9), .long (J 10), .int (F 11), .int (F 12), .int (F 13), .ref q4, .int (F 15), .ref q5, .ref q6, .ref q7, .int (F 19), .ref q8, .int (F 21), .int (F 22), .int (F 23), .int (F 24), .ref q9, .ref q10, .ref q11, .long (J 28)])), (q2, .inl (g.2 1, 2000, .inl tx)), (q4, .inl (g.2 0, 94, .inl td))] → va_S A s.heap H locs → ∀ (ls : Array Slot), lv_has ls 4 [(0, .ref qM)] → W p l e (headSpec wsX9_partLine rmX9_partLine).room s m args below meth c H locs 0 0 (MQ below (va_Qi (fun (r : Int32) (u : (Nat → Int32) × (Nat → Int64) × (Nat → Int32)) => Q r u.1 u.2.1 u.2.2) (fun (u : (Nat → Int32) × (Nat → Int64) × (Nat → Int32)) t => va_P g.1 vwCl [(qM, .inr (9, [.int (u.1 0), .ref q1, .ref q2, .ref q3, .int (u.1 4), .int (u.1 5), .int (u.1 6), .int (u.1 7), .int (u.1 8), .int (u.1 9), .long (u.2.1 10), .int (u.1 11), .int (u.1 12), .int (u.1 13), .ref q4, .int (u.1 15), .ref q5, .ref q6, .ref q7, .int (u.1 19), .ref q8, .int (u.1 21), .int (u.1 22), .int (u.1 23), .int (u.1 24), .ref q9, .ref q10, .ref q11, .long (u.2.1 28)])), (q2, .inl (g.2 1, 2000, .inl tx)), (q4, .inl (g.2 0, 94, .inl u.2.2))] t.heap ∧ va_D A [(qM, .inr (9, [.int (u.1 0), .ref q1, .ref q2, .ref q3, .int (u.1 4), .int (u.1 5), .int (u.1 6), .int (u.1 7), .int (u.1 8), .int (u.1 9), .long (u.2.1 10), .int (u.1 11), .int (u.1 12), .int (u.1 13), .ref q4, .int (u.1 15), .ref q5, .ref q6, .ref q7, .int (u.1 19), .ref q8, .int (u.1 21), .int (u.1 22), .int (u.1 23), .int (u.1 24), .ref q9, .ref q10, .ref q11, .long (u.2.1 28)])), (q2, .inl (g.2 1, 2000, .inl tx)), (q4, .inl (g.2 0, 94, .inl u.2.2))]) A) args s 0 0 A) (F0 m 19 ls []) := by
  obtain ⟨hx, hb, hml, hown, hts⟩ := id S
  have hK := hG.1
  intro F J td hv H locs hP hD hS ls hl
  unfold vX9_partLine_c19 at hv
  refine lv_aload_n hx hb dX9_partLine_19 rfl (lv_at hl 0 rfl) ?_
  obtain ⟨b_20, nb_20, i_20, ho_1, hv⟩ := hv
  have hPc := hP.sub (ws' := [(qM, .inr (9, [.int (F 0), .ref q1, .ref q2, .ref q3, .int (F 4), .int (F 5), .int (F 6), .int (F 7), .int (F 8), .int (F 9), .long (J 10), .int (F 11), .int (F 12), .int (F 13), .ref q4, .int (F 15), .ref q5, .ref q6, .ref q7, .int (F 19), .ref q8, .int (F 21), .int (F 22), .int (F 23), .int (F 24), .ref q9, .ref q10, .ref q11, .long (J 28)])), (q2, .inl (g.2 1, 2000, .inl tx))]) [0, 1] rfl
  have hDc := hD.sub (ws' := [(qM, .inr (9, [.int (F 0), .ref q1, .ref q2, .ref q3, .int (F 4), .int (F 5), .int (F 6), .int (F 7), .int (F 8), .int (F 9), .long (J 10), .int (F 11), .int (F 12), .int (F 13), .ref q4, .int (F 15), .ref q5, .ref q6, .ref q7, .int (F 19), .ref q8, .int (F 21), .int (F 22), .int (F 23), .int (F 24), .ref q9, .ref q10, .ref q11, .long (J 28)])), (q2, .inl (g.2 1, 2000, .inl tx))]) [0, 1] (by decide) rfl
  have hFc := va_free (wc := [(qM, .inr (9, [.int (F 0), .ref q1, .ref q2, .ref q3, .int (F 4), .int (F 5), .int (F 6), .int (F 7), .int (F 8), .int (F 9), .long (J 10), .int (F 11), .int (F 12), .int (F 13), .ref q4, .int (F 15), .ref q5, .ref q6, .ref q7, .int (F 19), .ref q8, .int (F 21), .int (F 22), .int (F 23), .int (F 24), .ref q9, .ref q10, .ref q11, .long (J 28)])), (q2, .inl (g.2 1, 2000, .inl tx))]) hD hS hA [0, 1] rfl
  refine va_callv (va_runV (As := []) (rest := []) S (wX9_token l g qM q1 q2 q3 q4 q5 q6 q7 q8 q9 q10 q11 H.size F J tx (sX9_token b_20 nb_20 i_20 F J tx ho_1)) (cwV 0 hts gX9_partLine_X9_token rfl rfl rfl (by decide +kernel) ⟨Nat.le_of_ble_eq_true rfl, Nat.le_of_ble_eq_true rfl⟩) ⟨blindRW, va_recv hK hP (ci := 9) (q0 := 0) rfl rfl, fun U hU hW => ⟨rfl, by rw [hU], by rw [hU]; exact hPc, hG.warm hW, hDc.weaken (fun _ _ _ _ => trivial)⟩⟩ rfl rfl hl.1 rfl (lv_room (Nat.le_of_ble_eq_true rfl)) dX9_partLine_20 ⟨Nat.le_of_ble_eq_true rfl, Nat.le_of_ble_eq_true rfl⟩) hS (fun q _ h => hFc q h) hFc (fun u t H1 locs ht hvm hw hB hz1 hk1 hS => ?_)
  obtain ⟨F_20, J_20⟩ := u
  obtain ⟨hP1, hD1⟩ := hB
  rw [ht] at hP1
  have hv := hv F_20 J_20 hw
  obtain ⟨hP, hD⟩ := va_join (wr := [(q4, .inl (g.2 0, 94, .inl td))]) (w1 := [(qM, .inr (9, [.int (F_20 0), .ref q1, .ref q2, .ref q3, .int (F_20 4), .int (F_20 5), .int (F_20 6), .int (F_20 7), .int (F_20 8), .int (F_20 9), .long (J_20 10), .int (F_20 11), .int (F_20 12), .int (F_20 13), .ref q4, .int (F_20 15), .ref q5, .ref q6, .ref q7, .int (F_20 19), .ref q8, .int (F_20 21), .int (F_20 22), .int (F_20 23), .int (F_20 24), .ref q9, .ref q10, .ref q11, .long (J_20 28)])), (q2, .inl (g.2 1, 2000, .inl tx))]) hP hD [0, 1] [2] rfl rfl (by decide) (by decide) hk1 hFc hP1 hD1
  clear hP1 hD1 hPc hDc hFc hk1
  generalize H1 = H at hP hS ⊢
  have hP : va_P g.1 vwCl [(q4, .inl (g.2 0, 94, .inl td)), (qM, .inr (9, [.int (F_20 0), .ref q1, .ref q2, .ref q3, .int (F_20 4), .int (F_20 5), .int (F_20 6), .int (F_20 7), .int (F_20 8), .int (F_20 9), .long (J_20 10), .int (F_20 11), .int (F_20 12), .int (F_20 13), .ref q4, .int (F_20 15), .ref q5, .ref q6, .ref q7, .int (F_20 19), .ref q8, .int (F_20 21), .int (F_20 22), .int (F_20 23), .int (F_20 24), .ref q9, .ref q10, .ref q11, .long (J_20 28)])), (q2, .inl (g.2 1, 2000, .inl tx))] H := hP
  have hD : va_D A [(q4, .inl (g.2 0, 94, .inl td)), (qM, .inr (9, [.int (F_20 0), .ref q1, .ref q2, .ref q3, .int (F_20 4), .int (F_20 5), .int (F_20 6), .int (F_20 7), .int (F_20 8), .int (F_20 9), .long (J_20 10), .int (F_20 11), .int (F_20 12), .int (F_20 13), .ref q4, .int (F_20 15), .ref q5, .ref q6, .ref q7, .int (F_20 19), .ref q8, .int (F_20 21), .int (F_20 22), .int (F_20 23), .int (F_20 24), .ref q9, .ref q10, .ref q11, .long (J_20 28)])), (q2, .inl (g.2 1, 2000, .inl tx))] := hD
  refine lv_aload_n hx hb dX9_partLine_23 rfl (lv_at hl 0 rfl) ?_
  refine va_get (D := g.1) (ci := 9) (v := .int (F_20 7)) (C := RX9) (T := TX9) (N := 29) hx hb hts inX9_partLine_9 hown hK hP 1 rfl rfl 7 (by decide) (hts (.fieldLink RX9 86 "RangeCodesModel" "sort" "I") (List.mem_of_getElem? (i := 3) rfl)) (fun _ h9 => h9) rfl dX9_partLine_24 ?_
  refine lv_iconst (v := (2 : Int32)) hx hb dX9_partLine_27 (by decide) ?_
  obtain ⟨hvt, hvf⟩ := hv
  refine lv_icmp_ne (tgt := 46) hx hb dX9_partLine_28 (by decide) (fun hc => ?_) (fun hc => ?_)
  · have hv := hvt hc
    exact kX9_partLine_c46 S hr hlocks hG hA _ _ _ hv _ _ (hP.sub (ws' := [(qM, .inr (9, [.int (F_20 0), .ref q1, .ref q2, .ref q3, .int (F_20 4), .int (F_20 5), .int (F_20 6), .int (F_20 7), .int (F_20 8), .int (F_20 9), .long (J_20 10), .int (F_20 11), .int (F_20 12), .int (F_20 13), .ref q4, .int (F_20 15), .ref q5, .ref q6, .ref q7, .int (F_20 19), .ref q8, .int (F_20 21), .int (F_20 22), .int (F_20 23), .int (F_20 24), .ref q9, .ref q10, .ref q11, .long (J_20 28)])), (q2, .inl (g.2 1, 2000, .inl tx)), (q4, .inl (g.2 0, 94, .inl td))]) [1, 2, 0] rfl) (hD.sub (ws' := [(qM, .inr (9, [.int (F_20 0), .ref q1, .ref q2, .ref q3, .int (F_20 4), .int (F_20 5), .int (F_20 6), .int (F_20 7), .int (F_20 8), .int (F_20 9), .long (J_20 10), .int (F_20 11), .int (F_20 12), .int (F_20 13), .ref q4, .int (F_20 15), .ref q5, .ref q6, .ref q7, .int (F_20 19), .ref q8, .int (F_20 21), .int (F_20 22), .int (F_20 23), .int (F_20 24), .ref q9, .ref q10, .ref q11, .long (J_20 28)])), (q2, .inl (g.2 1, 2000, .inl tx)), (q4, .inl (g.2 0, 94, .inl td))]) [1, 2, 0] (by decide) rfl) hS ls (lv_sub hl [0] rfl)
  · have hv := hvf hc
    refine lv_aload_n hx hb dX9_partLine_31 rfl (lv_at hl 0 rfl) ?_
    refine va_get (D := g.1) (ci := 9) (v := .int (F_20 9)) (C := RX9) (T := TX9) (N := 29) hx hb hts inX9_partLine_9 hown hK hP 1 rfl rfl 9 (by decide) (hts (.fieldLink RX9 89 "RangeCodesModel" "letters" "I") (List.mem_of_getElem? (i := 4) rfl)) (fun _ h9 => h9) rfl dX9_partLine_32 ?_
    refine lv_iconst (v := (1 : Int32)) hx hb dX9_partLine_35 (by decide) ?_
    obtain ⟨hvt, hvf⟩ := hv
    refine lv_icmp_le (tgt := 46) hx hb dX9_partLine_36 (by decide) (fun hc => ?_) (fun hc => ?_)
    · have hv := hvt hc
      exact kX9_partLine_c46 S hr hlocks hG hA _ _ _ hv _ _ (hP.sub (ws' := [(qM, .inr (9, [.int (F_20 0), .ref q1, .ref q2, .ref q3, .int (F_20 4), .int (F_20 5), .int (F_20 6), .int (F_20 7), .int (F_20 8), .int (F_20 9), .long (J_20 10), .int (F_20 11), .int (F_20 12), .int (F_20 13), .ref q4, .int (F_20 15), .ref q5, .ref q6, .ref q7, .int (F_20 19), .ref q8, .int (F_20 21), .int (F_20 22), .int (F_20 23), .int (F_20 24), .ref q9, .ref q10, .ref q11, .long (J_20 28)])), (q2, .inl (g.2 1, 2000, .inl tx)), (q4, .inl (g.2 0, 94, .inl td))]) [1, 2, 0] rfl) (hD.sub (ws' := [(qM, .inr (9, [.int (F_20 0), .ref q1, .ref q2, .ref q3, .int (F_20 4), .int (F_20 5), .int (F_20 6), .int (F_20 7), .int (F_20 8), .int (F_20 9), .long (J_20 10), .int (F_20 11), .int (F_20 12), .int (F_20 13), .ref q4, .int (F_20 15), .ref q5, .ref q6, .ref q7, .int (F_20 19), .ref q8, .int (F_20 21), .int (F_20 22), .int (F_20 23), .int (F_20 24), .ref q9, .ref q10, .ref q11, .long (J_20 28)])), (q2, .inl (g.2 1, 2000, .inl tx)), (q4, .inl (g.2 0, 94, .inl td))]) [1, 2, 0] (by decide) rfl) hS ls (lv_sub hl [0] rfl)
    · have hv := hvf hc
      refine lv_aload_n hx hb dX9_partLine_39 rfl (lv_at hl 0 rfl) ?_
      obtain ⟨b_40, nb_40, i_40, ho_2, hv⟩ := hv
      refine vp_callSi (W.runV (As := []) (rest := []) S (wX9_rowOf l g qM q1 q2 q3 q4 q5 q6 q7 q8 q9 q10 q11 F_20 J_20 tx (sX9_rowOf b_40 nb_40 i_40 F_20 J_20 tx ho_2)) (cwV 0 hts gX9_partLine_X9_rowOf rfl rfl rfl (by decide +kernel) ⟨Nat.le_of_ble_eq_true rfl, Nat.le_of_ble_eq_true rfl⟩) ⟨blindRO, va_recv hK hP (ci := 9) (q0 := 1) rfl rfl, fun U hU hW => ⟨rfl, by rw [hU]; exact hP.sub (ws' := [(qM, .inr (9, [.int (F_20 0), .ref q1, .ref q2, .ref q3, .int (F_20 4), .int (F_20 5), .int (F_20 6), .int (F_20 7), .int (F_20 8), .int (F_20 9), .long (J_20 10), .int (F_20 11), .int (F_20 12), .int (F_20 13), .ref q4, .int (F_20 15), .ref q5, .ref q6, .ref q7, .int (F_20 19), .ref q8, .int (F_20 21), .int (F_20 22), .int (F_20 23), .int (F_20 24), .ref q9, .ref q10, .ref q11, .long (J_20 28)])), (q2, .inl (g.2 1, 2000, .inl tx))]) [1, 2] rfl, hG.warm hW⟩⟩ rfl rfl hl.1 rfl (lv_room (Nat.le_of_ble_eq_true rfl)) dX9_partLine_40 ⟨Nat.le_of_ble_eq_true rfl, Nat.le_of_ble_eq_true rfl⟩) (fun r_40 hr_40 => ?_)
      have hv := hv r_40 hr_40
      refine lv_goto (tgt := 47) hx hb dX9_partLine_43 (by decide) ?_
      exact kX9_partLine_c47 S hr hlocks hG hA _ _ _ _ hv _ _ (hP.sub (ws' := [(qM, .inr (9, [.int (F_20 0), .ref q1, .ref q2, .ref q3, .int (F_20 4), .int (F_20 5), .int (F_20 6), .int (F_20 7), .int (F_20 8), .int (F_20 9), .long (J_20 10), .int (F_20 11), .int (F_20 12), .int (F_20 13), .ref q4, .int (F_20 15), .ref q5, .ref q6, .ref q7, .int (F_20 19), .ref q8, .int (F_20 21), .int (F_20 22), .int (F_20 23), .int (F_20 24), .ref q9, .ref q10, .ref q11, .long (J_20 28)])), (q2, .inl (g.2 1, 2000, .inl tx)), (q4, .inl (g.2 0, 94, .inl td))]) [1, 2, 0] rfl) (hD.sub (ws' := [(qM, .inr (9, [.int (F_20 0), .ref q1, .ref q2, .ref q3, .int (F_20 4), .int (F_20 5), .int (F_20 6), .int (F_20 7), .int (F_20 8), .int (F_20 9), .long (J_20 10), .int (F_20 11), .int (F_20 12), .int (F_20 13), .ref q4, .int (F_20 15), .ref q5, .ref q6, .ref q7, .int (F_20 19), .ref q8, .int (F_20 21), .int (F_20 22), .int (F_20 23), .int (F_20 24), .ref q9, .ref q10, .ref q11, .long (J_20 28)])), (q2, .inl (g.2 1, 2000, .inl tx)), (q4, .inl (g.2 0, 94, .inl td))]) [1, 2, 0] (by decide) rfl) hS ls (lv_sub hl [0] rfl)
def vX9_partLine (F : Nat → Int32) (J : Nat → Int64) (tx : Nat → Int32) (td : Nat → Int32) (Q : Int32 → (Nat → Int32) → (Nat → Int64) → (Nat → Int32) → Prop) : Prop := ((¬ (td 0) = (5 : Int32) → (vX9_partLine_c19 tx Q F J td)) ∧ ((td 0) = (5 : Int32) → (∃ (f_16 : Int × Int), preX9_isBad f_16 F J (3 : Int32) (F 6) ∧ (∀ (F_16 : Nat → Int32), postX9_isBad f_16 F J (3 : Int32) (F 6) F_16 → (vX9_partLine_c19 tx Q F_16 J td)))))
set_option maxHeartbeats 4000000 in
set_option maxRecDepth 100000 in
theorem wX9_partLine (l : Launch) (g : GP) (qM : Nat) (q1 : Nat) (q2 : Nat) (q3 : Nat) (q4 : Nat) (q5 : Nat) (q6 : Nat) (q7 : Nat) (q8 : Nat) (q9 : Nat) (q10 : Nat) (q11 : Nat) (sz : Nat) (F : Nat → Int32) (J : Nat → Int64) (tx : Nat → Int32) (td : Nat → Int32) {Q : Int32 → (Nat → Int32) → (Nat → Int64) → (Nat → Int32) → Prop} (hv : vX9_partLine F J tx td Q) : Met l yX9_partLine wsX9_partLine rmX9_partLine (va_Pc [.ref qM] (fun U => U.heap.size = sz ∧ va_P g.1 vwCl [(qM, .inr (9, [.int (F 0), .ref q1, .ref q2, .ref q3, .int (F 4), .int (F 5), .int (F 6), .int (F 7), .int (F 8), .int (F 9), .long (J 10), .int (F 11), .int (F 12), .int (F 13), .ref q4, .int (F 15), .ref q5, .ref q6, .ref q7, .int (F 19), .ref q8, .int (F 21), .int (F 22), .int (F 23), .int (F 24), .ref q9, .ref q10, .ref q11, .long (J 28)])), (q2, .inl (g.2 1, 2000, .inl tx)), (q4, .inl (g.2 0, 94, .inl td))] U.heap ∧ GK g U ∧ va_D (fun _ => True) [(qM, .inr (9, [.int (F 0), .ref q1, .ref q2, .ref q3, .int (F 4), .int (F 5), .int (F 6), .int (F 7), .int (F 8), .int (F 9), .long (J 10), .int (F 11), .int (F 12), .int (F 13), .ref q4, .int (F 15), .ref q5, .ref q6, .ref q7, .int (F 19), .ref q8, .int (F 21), .int (F 22), .int (F 23), .int (F 24), .ref q9, .ref q10, .ref q11, .long (J 28)])), (q2, .inl (g.2 1, 2000, .inl tx)), (q4, .inl (g.2 0, 94, .inl td))])) (va_Qi (fun (r : Int32) (u : (Nat → Int32) × (Nat → Int64) × (Nat → Int32)) => Q r u.1 u.2.1 u.2.2) (fun (u : (Nat → Int32) × (Nat → Int64) × (Nat → Int32)) t => va_P g.1 vwCl [(qM, .inr (9, [.int (u.1 0), .ref q1, .ref q2, .ref q3, .int (u.1 4), .int (u.1 5), .int (u.1 6), .int (u.1 7), .int (u.1 8), .int (u.1 9), .long (u.2.1 10), .int (u.1 11), .int (u.1 12), .int (u.1 13), .ref q4, .int (u.1 15), .ref q5, .ref q6, .ref q7, .int (u.1 19), .ref q8, .int (u.1 21), .int (u.1 22), .int (u.1 23), .int (u.1 24), .ref q9, .ref q10, .ref q11, .long (u.2.1 28)])), (q2, .inl (g.2 1, 2000, .inl tx)), (q4, .inl (g.2 0, 94, .inl u.2.2))] t.heap ∧ va_D (va_A [(qM, .inr (9, [.int (F 0), .ref q1, .ref q2, .ref q3, .int (F 4), .int (F 5), .int (F 6), .int (F 7), .int (F 8), .int (F 9), .long (J 10), .int (F 11), .int (F 12), .int (F 13), .ref q4, .int (F 15), .ref q5, .ref q6, .ref q7, .int (F 19), .ref q8, .int (F 21), .int (F 22), .int (F 23), .int (F 24), .ref q9, .ref q10, .ref q11, .long (J 28)])), (q2, .inl (g.2 1, 2000, .inl tx)), (q4, .inl (g.2 0, 94, .inl td))] sz) [(qM, .inr (9, [.int (u.1 0), .ref q1, .ref q2, .ref q3, .int (u.1 4), .int (u.1 5), .int (u.1 6), .int (u.1 7), .int (u.1 8), .int (u.1 9), .long (u.2.1 10), .int (u.1 11), .int (u.1 12), .int (u.1 13), .ref q4, .int (u.1 15), .ref q5, .ref q6, .ref q7, .int (u.1 19), .ref q8, .int (u.1 21), .int (u.1 22), .int (u.1 23), .int (u.1 24), .ref q9, .ref q10, .ref q11, .long (u.2.1 28)])), (q2, .inl (g.2 1, 2000, .inl tx)), (q4, .inl (g.2 0, 94, .inl u.2.2))]) (va_A [(qM, .inr (9, [.int (F 0), .ref q1, .ref q2, .ref q3, .int (F 4), .int (F 5), .int (F 6), .int (F 7), .int (F 8), .int (F 9), .long (J 10), .int (F 11), .int (F 12), .int (F 13), .ref q4, .int (F 15), .ref q5, .ref q6, .ref q7, .int (F 19), .ref q8, .int (F 21), .int (F 22), .int (F 23), .int (F 24), .ref q9, .ref q10, .ref q11, .long (J 28)])), (q2, .inl (g.2 1, 2000, .inl tx)), (q4, .inl (g.2 0, 94, .inl td))] sz)) 0 0 (va_A [(qM, .inr (9, [.int (F 0), .ref q1, .ref q2, .ref q3, .int (F 4), .int (F 5), .int (F 6), .int (F 7), .int (F 8), .int (F 9), .long (J 10), .int (F 11), .int (F 12), .int (F 13), .ref q4, .int (F 15), .ref q5, .ref q6, .ref q7, .int (F 19), .ref q8, .int (F 21), .int (F 22), .int (F 23), .int (F 24), .ref q9, .ref q10, .ref q11, .long (J 28)])), (q2, .inl (g.2 1, 2000, .inl tx)), (q4, .inl (g.2 0, 94, .inl td))] sz) := by
  refine Met.ofW (cc := cX9_partLine) (maxL := 4) (ret := (some .boolean)) (by decide) rfl ?_
  intro p e s m args below meth c s₁ B hml hv'
  obtain ⟨rfl, hsz, hP, hG, hD0⟩ := hv'
  have S : CallFix p m c cX9_partLine 4 s _ wsX9_partLine RX9 := ⟨B.exec, B.bytes, hml, findClass_of_methodNamed B.named, atoms_spec (ws := wsX9_partLine) B.pre⟩
  obtain ⟨hx, hb, hml, hown, hts⟩ := id S
  have hK := hG.1
  have hr := B.returns
  have hlocks := B.notSynchronized
  subst hsz
  have hD := hD0.self (sz := s.heap.size)
  generalize hAe : va_A [(qM, .inr (9, [.int (F 0), .ref q1, .ref q2, .ref q3, .int (F 4), .int (F 5), .int (F 6), .int (F 7), .int (F 8), .int (F 9), .long (J 10), .int (F 11), .int (F 12), .int (F 13), .ref q4, .int (F 15), .ref q5, .ref q6, .ref q7, .int (F 19), .ref q8, .int (F 21), .int (F 22), .int (F 23), .int (F 24), .ref q9, .ref q10, .ref q11, .long (J 28)])), (q2, .inl (g.2 1, 2000, .inl tx)), (q4, .inl (g.2 0, 94, .inl td))] s.heap.size = A at hD ⊢
  have hA : ∀ q : Nat, s.heap.size ≤ q → A q := fun q h => by rw [← hAe]; exact Or.inr h
  have hS : va_S A s.heap s.heap [] := va_S.rf
  clear hD0 hAe
  have hl := lv_entry ([.ref qM]) (n := 4) (Nat.le_of_ble_eq_true rfl)
  rw [lg_entry_eq]
  generalize (lg_sl ([.ref qM]) ++ List.replicate (4 - (lg_sl ([.ref qM])).length) Slot.unset).toArray = ls at hl ⊢
  have hl : lv_has ls 4 [(0, .ref qM)] := hl
  unfold vX9_partLine at hv
  refine lv_aload_n hx hb dX9_partLine_0 rfl (lv_at hl 0 rfl) ?_
  refine va_get (D := g.1) (ci := 9) (v := .ref q4) (C := RX9) (T := TX9) (N := 29) hx hb hts inX9_partLine_9 hown hK hP 0 rfl rfl 14 (by decide) (hts (.fieldLink RX9 21 "RangeCodesModel" "told" "[I") (List.mem_of_getElem? (i := 1) rfl)) (fun _ h9 => h9) rfl dX9_partLine_1 ?_
  refine lv_iconst (v := (0 : Int32)) hx hb dX9_partLine_4 (by decide) ?_
  refine va_iald hx hb hK hP 2 0 rfl rfl (by unfold vp_in; decide) dX9_partLine_5 ?_
  refine lv_iconst (v := (5 : Int32)) hx hb dX9_partLine_6 (by decide) ?_
  obtain ⟨hvt, hvf⟩ := hv
  refine lv_icmp_ne (tgt := 19) hx hb dX9_partLine_7 (by decide) (fun hc => ?_) (fun hc => ?_)
  · have hv := hvt hc
    exact kX9_partLine_c19 S hr hlocks hG hA _ _ _ hv _ _ (hP.sub (ws' := [(qM, .inr (9, [.int (F 0), .ref q1, .ref q2, .ref q3, .int (F 4), .int (F 5), .int (F 6), .int (F 7), .int (F 8), .int (F 9), .long (J 10), .int (F 11), .int (F 12), .int (F 13), .ref q4, .int (F 15), .ref q5, .ref q6, .ref q7, .int (F 19), .ref q8, .int (F 21), .int (F 22), .int (F 23), .int (F 24), .ref q9, .ref q10, .ref q11, .long (J 28)])), (q2, .inl (g.2 1, 2000, .inl tx)), (q4, .inl (g.2 0, 94, .inl td))]) [0, 1, 2] rfl) (hD.sub (ws' := [(qM, .inr (9, [.int (F 0), .ref q1, .ref q2, .ref q3, .int (F 4), .int (F 5), .int (F 6), .int (F 7), .int (F 8), .int (F 9), .long (J 10), .int (F 11), .int (F 12), .int (F 13), .ref q4, .int (F 15), .ref q5, .ref q6, .ref q7, .int (F 19), .ref q8, .int (F 21), .int (F 22), .int (F 23), .int (F 24), .ref q9, .ref q10, .ref q11, .long (J 28)])), (q2, .inl (g.2 1, 2000, .inl tx)), (q4, .inl (g.2 0, 94, .inl td))]) [0, 1, 2] (by decide) rfl) hS ls (lv_sub hl [0] rfl)
  · have hv := hvf hc
    refine lv_aload_n hx hb dX9_partLine_10 rfl (lv_at hl 0 rfl) ?_
    refine lv_iconst (v := (3 : Int32)) hx hb dX9_partLine_11 (by decide) ?_
    refine lv_aload_n hx hb dX9_partLine_12 rfl (lv_at hl 0 rfl) ?_
    refine va_get (D := g.1) (ci := 9) (v := .int (F 6)) (C := RX9) (T := TX9) (N := 29) hx hb hts inX9_partLine_9 hown hK hP 0 rfl rfl 6 (by decide) (hts (.fieldLink RX9 79 "RangeCodesModel" "begin" "I") (List.mem_of_getElem? (i := 2) rfl)) (fun _ h9 => h9) rfl dX9_partLine_13 ?_
    obtain ⟨f_16, ho_1, hv⟩ := hv
    have hPc := hP.sub (ws' := [(qM, .inr (9, [.int (F 0), .ref q1, .ref q2, .ref q3, .int (F 4), .int (F 5), .int (F 6), .int (F 7), .int (F 8), .int (F 9), .long (J 10), .int (F 11), .int (F 12), .int (F 13), .ref q4, .int (F 15), .ref q5, .ref q6, .ref q7, .int (F 19), .ref q8, .int (F 21), .int (F 22), .int (F 23), .int (F 24), .ref q9, .ref q10, .ref q11, .long (J 28)]))]) [0] rfl
    have hDc := hD.sub (ws' := [(qM, .inr (9, [.int (F 0), .ref q1, .ref q2, .ref q3, .int (F 4), .int (F 5), .int (F 6), .int (F 7), .int (F 8), .int (F 9), .long (J 10), .int (F 11), .int (F 12), .int (F 13), .ref q4, .int (F 15), .ref q5, .ref q6, .ref q7, .int (F 19), .ref q8, .int (F 21), .int (F 22), .int (F 23), .int (F 24), .ref q9, .ref q10, .ref q11, .long (J 28)]))]) [0] (by decide) rfl
    have hFc := va_free (wc := [(qM, .inr (9, [.int (F 0), .ref q1, .ref q2, .ref q3, .int (F 4), .int (F 5), .int (F 6), .int (F 7), .int (F 8), .int (F 9), .long (J 10), .int (F 11), .int (F 12), .int (F 13), .ref q4, .int (F 15), .ref q5, .ref q6, .ref q7, .int (F 19), .ref q8, .int (F 21), .int (F 22), .int (F 23), .int (F 24), .ref q9, .ref q10, .ref q11, .long (J 28)]))]) hD hS hA [0] rfl
    refine va_callv (va_runV (As := [.int (3 : Int32), .int (F 6)]) (rest := []) S (wX9_isBad l g qM q1 q2 q3 q4 q5 q6 q7 q8 q9 q10 q11 s.heap.size F J (3 : Int32) (F 6) (sX9_isBad f_16 F J (3 : Int32) (F 6) ho_1)) (cwV 2 hts gX9_partLine_X9_isBad rfl rfl rfl (by decide +kernel) ⟨Nat.le_of_ble_eq_true rfl, Nat.le_of_ble_eq_true rfl⟩) ⟨blindRW, va_recv hK hP (ci := 9) (q0 := 0) rfl rfl, fun U hU hW => ⟨rfl, by rw [hU], by rw [hU]; exact hPc, hG.warm hW, hDc.weaken (fun _ _ _ _ => trivial)⟩⟩ rfl rfl hl.1 rfl (lv_room (Nat.le_of_ble_eq_true rfl)) dX9_partLine_16 ⟨Nat.le_of_ble_eq_true rfl, Nat.le_of_ble_eq_true rfl⟩) hS (fun q _ h => hFc q h) hFc (fun u t H1 locs ht hvm hw hB hz1 hk1 hS => ?_)
    obtain ⟨F_16, rfl⟩ : ∃ z, z = u := ⟨_, rfl⟩
    obtain ⟨hP1, hD1⟩ := hB
    rw [ht] at hP1
    have hv := hv F_16 hw
    obtain ⟨hP, hD⟩ := va_join (wr := [(q2, .inl (g.2 1, 2000, .inl tx)), (q4, .inl (g.2 0, 94, .inl td))]) (w1 := [(qM, .inr (9, [.int (F_16 0), .ref q1, .ref q2, .ref q3, .int (F_16 4), .int (F_16 5), .int (F_16 6), .int (F_16 7), .int (F_16 8), .int (F_16 9), .long (J 10), .int (F_16 11), .int (F_16 12), .int (F_16 13), .ref q4, .int (F_16 15), .ref q5, .ref q6, .ref q7, .int (F_16 19), .ref q8, .int (F_16 21), .int (F_16 22), .int (F_16 23), .int (F_16 24), .ref q9, .ref q10, .ref q11, .long (J 28)]))]) hP hD [0] [1, 2] rfl rfl (by decide) (by decide) hk1 hFc hP1 hD1
    clear hP1 hD1 hPc hDc hFc hk1
    generalize H1 = H at hP hS ⊢
    have hP : va_P g.1 vwCl [(q2, .inl (g.2 1, 2000, .inl tx)), (q4, .inl (g.2 0, 94, .inl td)), (qM, .inr (9, [.int (F_16 0), .ref q1, .ref q2, .ref q3, .int (F_16 4), .int (F_16 5), .int (F_16 6), .int (F_16 7), .int (F_16 8), .int (F_16 9), .long (J 10), .int (F_16 11), .int (F_16 12), .int (F_16 13), .ref q4, .int (F_16 15), .ref q5, .ref q6, .ref q7, .int (F_16 19), .ref q8, .int (F_16 21), .int (F_16 22), .int (F_16 23), .int (F_16 24), .ref q9, .ref q10, .ref q11, .long (J 28)]))] H := hP
    have hD : va_D A [(q2, .inl (g.2 1, 2000, .inl tx)), (q4, .inl (g.2 0, 94, .inl td)), (qM, .inr (9, [.int (F_16 0), .ref q1, .ref q2, .ref q3, .int (F_16 4), .int (F_16 5), .int (F_16 6), .int (F_16 7), .int (F_16 8), .int (F_16 9), .long (J 10), .int (F_16 11), .int (F_16 12), .int (F_16 13), .ref q4, .int (F_16 15), .ref q5, .ref q6, .ref q7, .int (F_16 19), .ref q8, .int (F_16 21), .int (F_16 22), .int (F_16 23), .int (F_16 24), .ref q9, .ref q10, .ref q11, .long (J 28)]))] := hD
    exact kX9_partLine_c19 S hr hlocks hG hA _ _ _ hv _ _ (hP.sub (ws' := [(qM, .inr (9, [.int (F_16 0), .ref q1, .ref q2, .ref q3, .int (F_16 4), .int (F_16 5), .int (F_16 6), .int (F_16 7), .int (F_16 8), .int (F_16 9), .long (J 10), .int (F_16 11), .int (F_16 12), .int (F_16 13), .ref q4, .int (F_16 15), .ref q5, .ref q6, .ref q7, .int (F_16 19), .ref q8, .int (F_16 21), .int (F_16 22), .int (F_16 23), .int (F_16 24), .ref q9, .ref q10, .ref q11, .long (J 28)])), (q2, .inl (g.2 1, 2000, .inl tx)), (q4, .inl (g.2 0, 94, .inl td))]) [2, 0, 1] rfl) (hD.sub (ws' := [(qM, .inr (9, [.int (F_16 0), .ref q1, .ref q2, .ref q3, .int (F_16 4), .int (F_16 5), .int (F_16 6), .int (F_16 7), .int (F_16 8), .int (F_16 9), .long (J 10), .int (F_16 11), .int (F_16 12), .int (F_16 13), .ref q4, .int (F_16 15), .ref q5, .ref q6, .ref q7, .int (F_16 19), .ref q8, .int (F_16 21), .int (F_16 22), .int (F_16 23), .int (F_16 24), .ref q9, .ref q10, .ref q11, .long (J 28)])), (q2, .inl (g.2 1, 2000, .inl tx)), (q4, .inl (g.2 0, 94, .inl td))]) [2, 0, 1] (by decide) rfl) hS ls (lv_sub hl [0] rfl)
abbrev preX9_partLine (b : Nat → Int32) (nb : Nat) (i : Nat) (f : Int × Int) (T : Cd) (F : Nat → Int32) (J : Nat → Int64) (tx : Nat → Int32) (td : Nat → Int32) : Prop := rdM b nb i F J ∧ isTx b nb tx ∧ fm F = f ∧ flB f (tS b nb i) ∧ tK b nb i ≠ 0 ∧ (f.1 = 0 → mT T td) ∧ 0 ≤ (td 0).toInt ∧ (td 0).toInt ≤ 5
abbrev postX9_partLine (b : Nat → Int32) (nb : Nat) (i : Nat) (f : Int × Int) (T : Cd) (F : Nat → Int32) (J : Nat → Int64) (tx : Nat → Int32) (td : Nat → Int32) (r : Int32) (F' : Nat → Int32) (J' : Nat → Int64) (td' : Nat → Int32) : Prop := rmA b nb (partS b nb (tE b nb i) (tS b nb i) (cn T) f) r F' J' ∧ ((partS b nb (tE b nb i) (tS b nb i) (cn T) f).2.2.1 = 0 → mT (partT b nb (tE b nb i) T) td') ∧ 0 ≤ (td' 0).toInt ∧ (td' 0).toInt ≤ 5 ∧ ∀ k, k = 1 ∨ 20 ≤ k → td' k = td k
theorem sX9_partLine_47 (b : Nat → Int32) (nb : Nat) (i : Nat) (f : Int × Int) (T : Cd) (F : Nat → Int32) (J : Nat → Int64) (tx : Nat → Int32) (td : Nat → Int32) (H : preX9_partLine b nb i f T F J tx td) (F1 : Nat → Int32) (J1 : Nat → Int64) (hr : rdM b nb (tE b nb i) F1 J1) (hf1 : fm F1 = if 5 ≤ cn T then noF f 3 (tS b nb i) else f) (s0 : Int32) (hs0 : if rwB b nb (tE b nb i) = true then s0.toInt = (rwN b nb (tE b nb i) : Int) else s0 = -1) : vX9_partLine_c47 tx (postX9_partLine b nb i f T F J tx td) s0 F1 J1 td := by
  obtain ⟨hr0, htx, hf, hfl, hk0, hT, ht0, ht5⟩ := id H
  have hi := hr0.2.2.1
  have hgt := tE_gt b hi hk0
  have he1 := tE_le b hi
  have hs1 := tS_le b he1.2
  have he2 := tE_le b he1.2
  unfold vX9_partLine_c47
  rw [fa_eq s0, zm1]
  by_cases c : rwB b nb (tE b nb i) = true
  · rw [if_pos c] at hs0
    obtain ⟨c1, c2, c3⟩ := of_decide_eq_true c
    have h13 := (tK_1 c1).2.2
    have hgt2 := tE_gt b he1.2 (by omega)
    have hs2 := tS_le b he2.2
    have eo : partS b nb (tE b nb i) (tS b nb i) (cn T) f = numS b nb (tE b nb (tE b nb i)) 1 9 (if 5 ≤ cn T then noF f 3 (tS b nb i) else f) := by unfold partS; rw [if_pos c]
    refine ⟨fun _ => ⟨b, nb, tE b nb (tE b nb i), rdM_at hr htx, fun F2 J2 h2 => ⟨b, nb, tE b nb (tE b nb i), _, ⟨h2.1, htx, rfl, ?_⟩, fun r F3 J3 h3 => ?_⟩⟩, fun q => absurd q (by omega)⟩
    · rw [fm_kp h2.2, hf1]; exact flB_if hfl (by omega)
    · rw [fm_kp h2.2, hf1] at h3
      obtain ⟨⟨h3a, h3b, h3c⟩, h3d⟩ := h3
      rw [z1, z9] at h3a h3b h3c h3d
      rw [← eo] at h3a h3b h3c h3d
      rw [h3a, q_if1]
      refine ⟨fun d => ?_, fun d => ?_⟩
      · have d := Decidable.not_not.mp d
        have e15 := h3d d
        have hA : rmA b nb (partS b nb (tE b nb i) (tS b nb i) (cn T) f) 1 F3 J3 := ⟨by rw [if_pos d], h3b, h3c⟩
        rw [fa_le, z5]
        have zz : (partS b nb (tE b nb i) (tS b nb i) (cn T) f).2.2.1 = 0 → mT T td ∧ cn T < 5 ∧ tV b nb (tE b nb (tE b nb i)) ≤ 9 := fun z => by
          rw [eo] at z
          have q := numS_0 z
          have q2 := if_f (k := 3) (by decide) q.2.1
          exact ⟨hT q2.1, by omega, by have := q.2.2.2.1; omega⟩
        refine ⟨fun g => ⟨hA, fun z => ?_, ht0, ht5, fun _ _ => rfl⟩, fun g y ey => ?_⟩
        · obtain ⟨a1, a2, _⟩ := zz z
          have := a1.1.1; omega
        · have e0 : (td 0).toInt = ((td 0).toInt.toNat : Int) := by omega
          have m1 : ((3 : Int32) * td 0).toInt = ((3 * (td 0).toInt.toNat : Nat) : Int) := q_mulN (a := 3) rfl e0 (by omega)
          have hy : y.toInt = ((5 + 3 * (td 0).toInt.toNat : Nat) : Int) := by rw [ey]; exact q_addN (a := 5) rfl m1 (by omega)
          have y0 : (y + (0 : Int32)).toInt = ((5 + 3 * (td 0).toInt.toNat : Nat) : Int) := by rw [Int32.add_zero]; exact hy
          have y1 : (y + (1 : Int32)).toInt = ((6 + 3 * (td 0).toInt.toNat : Nat) : Int) := by rw [q_addN (b := 1) hy rfl (by omega)]; omega
          have y2 : (y + (2 : Int32)).toInt = ((7 + 3 * (td 0).toInt.toNat : Nat) : Int) := by rw [q_addN (b := 2) hy rfl (by omega)]; omega
          refine ⟨q_in y0 (by omega), q_in y1 (by omega), q_in y2 (by omega), fun a ea => ?_⟩
          rw [q_cl y0, q_cl y1, q_cl y2, upd_ne (by omega), upd_ne (by omega), upd_ne (by omega)] at ea
          rw [q_cl y0, q_cl y1, q_cl y2]
          have ha : a.toInt = (((td 0).toInt.toNat + 1 : Nat) : Int) := by rw [ea]; exact q_1 e0 (by omega)
          refine ⟨hA, fun z => ?_, by rw [upd_eq]; omega, by rw [upd_eq]; omega, fun k hk => ?_⟩
          · obtain ⟨a1, a2, a3⟩ := zz z
            have en : (td 0).toInt.toNat = cn T := by have := a1.1.1; omega
            rw [en]
            exact mT_part a1 a2 c2 h13 a3 (hr.2.2.2.2.2.2.2 c1).1 e15 hs0 (by rw [ha, en])
          · rw [upd_ne (by omega), upd_ne (by omega), upd_ne (by omega), upd_ne (by omega)]
      · refine ⟨⟨by rw [if_neg d], h3b, h3c⟩, fun z => ?_, ht0, ht5, fun _ _ => rfl⟩
        exact absurd z (partS_n (by simpa using d))
  · rw [if_neg c] at hs0
    have eo : partS b nb (tE b nb i) (tS b nb i) (cn T) f = rfS (tS b nb (tE b nb i)) := by unfold partS; rw [if_neg c]
    refine ⟨fun q => absurd (by rw [hs0]; rfl) q, fun _ => ⟨trivial, fun r F3 h3 => ?_⟩⟩
    obtain ⟨e1, e2⟩ := h3
    subst e1 e2
    unfold postX9_partLine
    rw [eo]
    exact ⟨rfl, ⟨rfl, fun q => absurd q rfS_1, fun _ => hr.2.2.2.1⟩, fun z => absurd z rfS_2, ht0, ht5, fun _ _ => rfl⟩
theorem sX9_partLine_19 (b : Nat → Int32) (nb : Nat) (i : Nat) (f : Int × Int) (T : Cd) (F : Nat → Int32) (J : Nat → Int64) (tx : Nat → Int32) (td : Nat → Int32) (H : preX9_partLine b nb i f T F J tx td) (F1 : Nat → Int32) (hat : atM b nb (tE b nb i) F1 tx) (hf1 : fm F1 = if 5 ≤ cn T then noF f 3 (tS b nb i) else f) : vX9_partLine_c19 tx (postX9_partLine b nb i f T F J tx td) F1 J td := by
  refine ⟨b, nb, tE b nb i, hat, fun F2 J2 h2 => ?_⟩
  obtain ⟨hr, hk⟩ := h2
  have hf2 : fm F2 = if 5 ≤ cn T then noF f 3 (tS b nb i) else f := by rw [fm_kp hk]; exact hf1
  obtain ⟨h5, hnb, hi, h6, h4, h7, h8, h9⟩ := id hr
  have no : ¬ (tK b nb (tE b nb i) = 1 ∧ 2 ≤ tE b nb (tE b nb i) - tS b nb (tE b nb i)) → vX9_partLine_c46 tx (postX9_partLine b nb i f T F J tx td) F2 J2 td := fun q => sX9_partLine_47 b nb i f T F J tx td H F2 J2 hr hf2 _ (by rw [if_neg (show ¬ rwB b nb (tE b nb i) = true from fun z => q ⟨(of_decide_eq_true z).1, (of_decide_eq_true z).2.1⟩)])
  rw [fa_eq (F2 7), h7, z2, soK_2 (tK_le _ _ _)]
  refine ⟨fun c => no (fun q => c q.1), fun c => ?_⟩
  rw [fa_le, (h9 c).1, z1]
  refine ⟨fun d => no (fun q => by omega), fun d => ⟨b, nb, tE b nb i, ⟨hr, hat.2.2.2.2, c⟩, fun r h3 => sX9_partLine_47 b nb i f T F J tx td H F2 J2 hr hf2 r ?_⟩⟩
  by_cases e : rwB b nb (tE b nb i) = true
  · rw [if_pos e]; exact h3.1 (of_decide_eq_true e).2.2
  · rw [if_neg e]; exact h3.2 (fun q => e (decide_eq_true ⟨c, by omega, q⟩))
theorem sX9_partLine (b : Nat → Int32) (nb : Nat) (i : Nat) (f : Int × Int) (T : Cd) (F : Nat → Int32) (J : Nat → Int64) (tx : Nat → Int32) (td : Nat → Int32) (H : preX9_partLine b nb i f T F J tx td) : vX9_partLine F J tx td (postX9_partLine b nb i f T F J tx td) := by
  obtain ⟨hr0, htx, hf, hfl, hk0, hT, ht0, ht5⟩ := id H
  have key : (if (td 0).toInt = 5 then noF f 3 (tS b nb i) else f) = if 5 ≤ cn T then noF f 3 (tS b nb i) else f := if_k (fun z => by have h := (hT z).1; have a := h.1; have c := h.2; omega)
  have hat := rdM_at hr0 htx
  unfold vX9_partLine
  rw [fa_eq (td 0), z5]
  refine ⟨fun c => sX9_partLine_19 b nb i f T F J tx td H F hat (by rw [← key, if_neg c]; exact hf), fun c => ⟨f, ⟨hf, by rw [hr0.2.2.2.1]; exact hfl, by rw [hr0.2.2.2.1]; omega⟩, fun F1 h1 => sX9_partLine_19 b nb i f T F J tx td H F1 ?_ ?_⟩⟩
  · exact ⟨by rw [h1.2 5 (by decide) (by decide)]; exact hat.1, hat.2.1, by rw [h1.2 4 (by decide) (by decide)]; exact hat.2.2.1, hat.2.2.2.1, htx⟩
  · rw [← key, if_pos c, h1.1, hr0.2.2.2.1]; rfl
set_option maxRecDepth 20000 in
theorem ggX9_markLine_X9_isBad : GoodIn wsX9_markLine wsX9_isBad := goodIn_r _ [8, 9, 10, 38, 39, 40, 41, 42, 43, 44, 45, 46, 47, 48, 49, 50, 51, 52, 53, 54, 55, 56, 57, 58, 59, 60, 61, 62, 63, 64, 65, 66] (by decide +kernel) (by decide +kernel)
set_option maxRecDepth 20000 in
theorem gX9_markLine_X9_isBad : GoodIn wsX9_markLine (wsV RX9 111 RX9 yX9_isBad wsX9_isBad) := goodIn_app (goodIn_of _ (by decide +kernel)) ggX9_markLine_X9_isBad
set_option maxRecDepth 20000 in
theorem ggX9_markLine_X9_token : GoodIn wsX9_markLine wsX9_token := goodIn_r _ [14, 15, 2, 16, 17, 18, 19, 20, 21, 22, 7, 23, 24, 25, 26, 27, 28, 38, 39, 40, 41, 42, 43, 44, 45, 46, 47, 48, 49, 50, 51, 52, 53, 54, 55, 56, 57, 58, 59, 60, 61, 62, 63, 64, 65, 66] (by decide +kernel) (by decide +kernel)
set_option maxRecDepth 20000 in
theorem gX9_markLine_X9_token : GoodIn wsX9_markLine (wsV RX9 115 RX9 yX9_token wsX9_token) := goodIn_app (goodIn_of _ (by decide +kernel)) ggX9_markLine_X9_token
set_option maxRecDepth 20000 in
theorem ggX9_markLine_X9_takes : GoodIn wsX9_markLine wsX9_takes := goodIn_r _ [32, 17, 19, 3, 2, 33, 34, 35, 7, 36, 37, 26, 27, 28, 4, 5, 6, 8, 9, 10, 11, 12, 13, 14, 15, 16, 18, 20, 21, 22, 23, 24, 25, 38, 39, 40, 41, 42, 43, 44, 45, 46, 47, 48, 49, 50, 51, 52, 53, 54, 55, 56, 57, 58, 59, 60, 61, 62, 63, 64, 65, 66] (by decide +kernel) (by decide +kernel)
set_option maxRecDepth 20000 in
theorem gX9_markLine_X9_takes : GoodIn wsX9_markLine (wsV RX9 121 RX9 yX9_takes wsX9_takes) := goodIn_app (goodIn_of _ (by decide +kernel)) ggX9_markLine_X9_takes
theorem dX9_markLine_0 : decode cX9_markLine 0 = .ok (.bipush 20, 2) := by decide +kernel
theorem dX9_markLine_2 : decode cX9_markLine 2 = .ok (.bipush 37, 2) := by decide +kernel
theorem dX9_markLine_4 : decode cX9_markLine 4 = .ok (.iload_n 1, 1) := by decide +kernel
theorem dX9_markLine_5 : decode cX9_markLine 5 = .ok (.imul, 1) := by decide +kernel
theorem dX9_markLine_6 : decode cX9_markLine 6 = .ok (.iadd, 1) := by decide +kernel
theorem dX9_markLine_7 : decode cX9_markLine 7 = .ok (.istore_n 3, 1) := by decide +kernel
theorem dX9_markLine_8 : decode cX9_markLine 8 = .ok (.aload_n 0, 1) := by decide +kernel
theorem dX9_markLine_9 : decode cX9_markLine 9 = .ok (.getfield 21, 3) := by decide +kernel
theorem dX9_markLine_12 : decode cX9_markLine 12 = .ok (.iload_n 3, 1) := by decide +kernel
theorem dX9_markLine_13 : decode cX9_markLine 13 = .ok (.bipush 6, 2) := by decide +kernel
theorem dX9_markLine_15 : decode cX9_markLine 15 = .ok (.iadd, 1) := by decide +kernel
theorem dX9_markLine_16 : decode cX9_markLine 16 = .ok (.iaload, 1) := by decide +kernel
theorem dX9_markLine_17 : decode cX9_markLine 17 = .ok (.bipush 10, 2) := by decide +kernel
theorem dX9_markLine_19 : decode cX9_markLine 19 = .ok (.if_icmp .ne 12, 3) := by decide +kernel
theorem dX9_markLine_22 : decode cX9_markLine 22 = .ok (.aload_n 0, 1) := by decide +kernel
theorem dX9_markLine_23 : decode cX9_markLine 23 = .ok (.iconst 4, 1) := by decide +kernel
theorem dX9_markLine_24 : decode cX9_markLine 24 = .ok (.aload_n 0, 1) := by decide +kernel
theorem dX9_markLine_25 : decode cX9_markLine 25 = .ok (.getfield 79, 3) := by decide +kernel
theorem dX9_markLine_28 : decode cX9_markLine 28 = .ok (.invokevirtual 111, 3) := by decide +kernel
theorem dX9_markLine_31 : decode cX9_markLine 31 = .ok (.aload_n 0, 1) := by decide +kernel
theorem dX9_markLine_32 : decode cX9_markLine 32 = .ok (.invokevirtual 115, 3) := by decide +kernel
theorem dX9_markLine_35 : decode cX9_markLine 35 = .ok (.aload_n 0, 1) := by decide +kernel
theorem dX9_markLine_36 : decode cX9_markLine 36 = .ok (.iconst 0, 1) := by decide +kernel
theorem dX9_markLine_37 : decode cX9_markLine 37 = .ok (.sipush 199, 3) := by decide +kernel
theorem dX9_markLine_40 : decode cX9_markLine 40 = .ok (.invokevirtual 121, 3) := by decide +kernel
theorem dX9_markLine_43 : decode cX9_markLine 43 = .ok (.ifCond .ne 5, 3) := by decide +kernel
theorem dX9_markLine_46 : decode cX9_markLine 46 = .ok (.iconst 0, 1) := by decide +kernel
theorem dX9_markLine_47 : decode cX9_markLine 47 = .ok (.ireturn, 1) := by decide +kernel
theorem dX9_markLine_48 : decode cX9_markLine 48 = .ok (.aload_n 0, 1) := by decide +kernel
theorem dX9_markLine_49 : decode cX9_markLine 49 = .ok (.getfield 108, 3) := by decide +kernel
theorem dX9_markLine_52 : decode cX9_markLine 52 = .ok (.istore 4, 2) := by decide +kernel
theorem dX9_markLine_54 : decode cX9_markLine 54 = .ok (.iload_n 2, 1) := by decide +kernel
theorem dX9_markLine_55 : decode cX9_markLine 55 = .ok (.iconst 3, 1) := by decide +kernel
theorem dX9_markLine_56 : decode cX9_markLine 56 = .ok (.if_icmp .ne 17, 3) := by decide +kernel
theorem dX9_markLine_59 : decode cX9_markLine 59 = .ok (.aload_n 0, 1) := by decide +kernel
theorem dX9_markLine_60 : decode cX9_markLine 60 = .ok (.iload 4, 2) := by decide +kernel
theorem dX9_markLine_62 : decode cX9_markLine 62 = .ok (.sipush 199, 3) := by decide +kernel
theorem dX9_markLine_65 : decode cX9_markLine 65 = .ok (.invokevirtual 121, 3) := by decide +kernel
theorem dX9_markLine_68 : decode cX9_markLine 68 = .ok (.ifCond .ne 5, 3) := by decide +kernel
theorem dX9_markLine_71 : decode cX9_markLine 71 = .ok (.iconst 0, 1) := by decide +kernel
theorem dX9_markLine_72 : decode cX9_markLine 72 = .ok (.ireturn, 1) := by decide +kernel
theorem dX9_markLine_73 : decode cX9_markLine 73 = .ok (.aload_n 0, 1) := by decide +kernel
theorem dX9_markLine_74 : decode cX9_markLine 74 = .ok (.getfield 21, 3) := by decide +kernel
theorem dX9_markLine_77 : decode cX9_markLine 77 = .ok (.iload_n 3, 1) := by decide +kernel
theorem dX9_markLine_78 : decode cX9_markLine 78 = .ok (.bipush 6, 2) := by decide +kernel
theorem dX9_markLine_80 : decode cX9_markLine 80 = .ok (.iadd, 1) := by decide +kernel
theorem dX9_markLine_81 : decode cX9_markLine 81 = .ok (.iaload, 1) := by decide +kernel
theorem dX9_markLine_82 : decode cX9_markLine 82 = .ok (.bipush 10, 2) := by decide +kernel
theorem dX9_markLine_84 : decode cX9_markLine 84 = .ok (.if_icmp .ge 76, 3) := by decide +kernel
theorem dX9_markLine_87 : decode cX9_markLine 87 = .ok (.iload_n 3, 1) := by decide +kernel
theorem dX9_markLine_88 : decode cX9_markLine 88 = .ok (.bipush 7, 2) := by decide +kernel
theorem dX9_markLine_90 : decode cX9_markLine 90 = .ok (.iadd, 1) := by decide +kernel
theorem dX9_markLine_91 : decode cX9_markLine 91 = .ok (.iconst 3, 1) := by decide +kernel
theorem dX9_markLine_92 : decode cX9_markLine 92 = .ok (.aload_n 0, 1) := by decide +kernel
theorem dX9_markLine_93 : decode cX9_markLine 93 = .ok (.getfield 21, 3) := by decide +kernel
theorem dX9_markLine_96 : decode cX9_markLine 96 = .ok (.iload_n 3, 1) := by decide +kernel
theorem dX9_markLine_97 : decode cX9_markLine 97 = .ok (.bipush 6, 2) := by decide +kernel
theorem dX9_markLine_99 : decode cX9_markLine 99 = .ok (.iadd, 1) := by decide +kernel
theorem dX9_markLine_100 : decode cX9_markLine 100 = .ok (.iaload, 1) := by decide +kernel
theorem dX9_markLine_101 : decode cX9_markLine 101 = .ok (.imul, 1) := by decide +kernel
theorem dX9_markLine_102 : decode cX9_markLine 102 = .ok (.iadd, 1) := by decide +kernel
theorem dX9_markLine_103 : decode cX9_markLine 103 = .ok (.istore 5, 2) := by decide +kernel
theorem dX9_markLine_105 : decode cX9_markLine 105 = .ok (.aload_n 0, 1) := by decide +kernel
theorem dX9_markLine_106 : decode cX9_markLine 106 = .ok (.getfield 21, 3) := by decide +kernel
theorem dX9_markLine_109 : decode cX9_markLine 109 = .ok (.iload 5, 2) := by decide +kernel
theorem dX9_markLine_111 : decode cX9_markLine 111 = .ok (.iload_n 2, 1) := by decide +kernel
theorem dX9_markLine_112 : decode cX9_markLine 112 = .ok (.iastore, 1) := by decide +kernel
theorem dX9_markLine_113 : decode cX9_markLine 113 = .ok (.aload_n 0, 1) := by decide +kernel
theorem dX9_markLine_114 : decode cX9_markLine 114 = .ok (.getfield 21, 3) := by decide +kernel
theorem dX9_markLine_117 : decode cX9_markLine 117 = .ok (.iload 5, 2) := by decide +kernel
theorem dX9_markLine_119 : decode cX9_markLine 119 = .ok (.iconst 1, 1) := by decide +kernel
theorem dX9_markLine_120 : decode cX9_markLine 120 = .ok (.iadd, 1) := by decide +kernel
theorem dX9_markLine_121 : decode cX9_markLine 121 = .ok (.iload 4, 2) := by decide +kernel
theorem dX9_markLine_123 : decode cX9_markLine 123 = .ok (.iastore, 1) := by decide +kernel
theorem dX9_markLine_124 : decode cX9_markLine 124 = .ok (.aload_n 0, 1) := by decide +kernel
theorem dX9_markLine_125 : decode cX9_markLine 125 = .ok (.getfield 21, 3) := by decide +kernel
theorem dX9_markLine_128 : decode cX9_markLine 128 = .ok (.iload 5, 2) := by decide +kernel
theorem dX9_markLine_130 : decode cX9_markLine 130 = .ok (.iconst 2, 1) := by decide +kernel
theorem dX9_markLine_131 : decode cX9_markLine 131 = .ok (.iadd, 1) := by decide +kernel
theorem dX9_markLine_132 : decode cX9_markLine 132 = .ok (.iload_n 2, 1) := by decide +kernel
theorem dX9_markLine_133 : decode cX9_markLine 133 = .ok (.iconst 3, 1) := by decide +kernel
theorem dX9_markLine_134 : decode cX9_markLine 134 = .ok (.if_icmp .ne 10, 3) := by decide +kernel
theorem dX9_markLine_137 : decode cX9_markLine 137 = .ok (.aload_n 0, 1) := by decide +kernel
theorem dX9_markLine_138 : decode cX9_markLine 138 = .ok (.getfield 108, 3) := by decide +kernel
theorem dX9_markLine_141 : decode cX9_markLine 141 = .ok (.goto 5, 3) := by decide +kernel
theorem dX9_markLine_144 : decode cX9_markLine 144 = .ok (.iload 4, 2) := by decide +kernel
theorem dX9_markLine_146 : decode cX9_markLine 146 = .ok (.iastore, 1) := by decide +kernel
theorem dX9_markLine_147 : decode cX9_markLine 147 = .ok (.aload_n 0, 1) := by decide +kernel
theorem dX9_markLine_148 : decode cX9_markLine 148 = .ok (.getfield 21, 3) := by decide +kernel
theorem dX9_markLine_151 : decode cX9_markLine 151 = .ok (.iload_n 3, 1) := by decide +kernel
theorem dX9_markLine_152 : decode cX9_markLine 152 = .ok (.bipush 6, 2) := by decide +kernel
theorem dX9_markLine_154 : decode cX9_markLine 154 = .ok (.iadd, 1) := by decide +kernel
theorem dX9_markLine_155 : decode cX9_markLine 155 = .ok (.dup2, 1) := by decide +kernel
theorem dX9_markLine_156 : decode cX9_markLine 156 = .ok (.iaload, 1) := by decide +kernel
theorem dX9_markLine_157 : decode cX9_markLine 157 = .ok (.iconst 1, 1) := by decide +kernel
theorem dX9_markLine_158 : decode cX9_markLine 158 = .ok (.iadd, 1) := by decide +kernel
theorem dX9_markLine_159 : decode cX9_markLine 159 = .ok (.iastore, 1) := by decide +kernel
theorem dX9_markLine_160 : decode cX9_markLine 160 = .ok (.iconst 1, 1) := by decide +kernel
theorem dX9_markLine_161 : decode cX9_markLine 161 = .ok (.ireturn, 1) := by decide +kernel
abbrev rmX9_markLine : Room := { frames := 3, cells := 0, slots := 0, locals := 66 }
theorem inX9_markLine_9 : ∀ w ∈ wsX90, w ∈ wsX9_markLine := by decide +kernel
def vX9_markLine_c146 (tx : Nat → Int32) (p1 : Int32) (p2 : Int32) (Q : Int32 → (Nat → Int32) → (Nat → Int64) → (Nat → Int32) → Prop) (x3 : Int32) (s0 : Int32) (s1 : Int32) (F : Nat → Int32) (J : Nat → Int64) (td : Nat → Int32) : Prop := (vp_in s1 94 ∧ (vp_in (x3 + (6 : Int32)) 94 ∧ (∀ a_159 : Int32, a_159 = (((upd td s1.toNatClampNeg s0) (x3 + (6 : Int32)).toNatClampNeg) + (1 : Int32)) → (vp_in (x3 + (6 : Int32)) 94 ∧ (Q (1 : Int32) F J (upd (upd td s1.toNatClampNeg s0) (x3 + (6 : Int32)).toNatClampNeg a_159))))))
set_option maxHeartbeats 4000000 in
set_option maxRecDepth 100000 in
theorem kX9_markLine_c146 {p : Program} {l : Launch} {e : Env} {s : State} {m : MethodId} {args : Array Value} {below : List Frame} {meth : Method} {c : Code} {g : GP} {qM : Nat} {q1 : Nat} {q2 : Nat} {q3 : Nat} {q4 : Nat} {q5 : Nat} {q6 : Nat} {q7 : Nat} {q8 : Nat} {q9 : Nat} {q10 : Nat} {q11 : Nat} {tx : Nat → Int32} {p1 : Int32} {p2 : Int32} {Q : Int32 → (Nat → Int32) → (Nat → Int64) → (Nat → Int32) → Prop} {A : Nat → Prop} (S : CallFix p m c cX9_markLine 6 s args wsX9_markLine RX9) (hr : meth.sig.returnType = (some .boolean)) (hlocks : meth.locks = false) (hG : GK g s) (hA : ∀ q : Nat, s.heap.size ≤ q → A q) : ∀ (x3 : Int32) (s0 : Int32) (s1 : Int32) (F : Nat → Int32) (J : Nat → Int64) (td : Nat → Int32), vX9_markLine_c146 tx p1 p2 Q x3 s0 s1 F J td → ∀ (H : Heap) (locs : List Loc), va_P g.1 vwCl [(qM, .inr (9, [.int (F 0), .ref q1, .ref q2, .ref q3, .int (F 4), .int (F 5), .int (F 6), .int (F 7), .int (F 8), .int (F 9), .long (J 10), .int (F 11), .int (F 12), .int (F 13), .ref q4, .int (F 15), .ref q5, .ref q6, .ref q7, .int (F 19), .ref q8, .int (F 21), .int (F 22), .int (F 23), .int (F 24), .ref q9, .ref q10, .ref q11, .long (J 28)])), (q2, .inl (g.2 1, 2000, .inl tx)), (q4, .inl (g.2 0, 94, .inl td))] H → va_D A [(qM, .inr (9, [.int (F 0), .ref q1, .ref q2, .ref q3, .int (F 4), .int (F 5), .int (F 6), .int (F 7), .int (F 8), .int (F 9), .long (J 10), .int (F 11), .int (F 12), .int (F 13), .ref q4, .int (F 15), .ref q5, .ref q6, .ref q7, .int (F 19), .ref q8, .int (F 21), .int (F 22), .int (F 23), .int (F 24), .ref q9, .ref q10, .ref q11, .long (J 28)])), (q2, .inl (g.2 1, 2000, .inl tx)), (q4, .inl (g.2 0, 94, .inl td))] → va_S A s.heap H locs → ∀ (ls : Array Slot), lv_has ls 6 [(0, .ref qM), (3, .int x3)] → W p l e (headSpec wsX9_markLine rmX9_markLine).room s m args below meth c H locs 0 0 (MQ below (va_Qi (fun (r : Int32) (u : (Nat → Int32) × (Nat → Int64) × (Nat → Int32)) => Q r u.1 u.2.1 u.2.2) (fun (u : (Nat → Int32) × (Nat → Int64) × (Nat → Int32)) t => va_P g.1 vwCl [(qM, .inr (9, [.int (u.1 0), .ref q1, .ref q2, .ref q3, .int (u.1 4), .int (u.1 5), .int (u.1 6), .int (u.1 7), .int (u.1 8), .int (u.1 9), .long (u.2.1 10), .int (u.1 11), .int (u.1 12), .int (u.1 13), .ref q4, .int (u.1 15), .ref q5, .ref q6, .ref q7, .int (u.1 19), .ref q8, .int (u.1 21), .int (u.1 22), .int (u.1 23), .int (u.1 24), .ref q9, .ref q10, .ref q11, .long (u.2.1 28)])), (q2, .inl (g.2 1, 2000, .inl tx)), (q4, .inl (g.2 0, 94, .inl u.2.2))] t.heap ∧ va_D A [(qM, .inr (9, [.int (u.1 0), .ref q1, .ref q2, .ref q3, .int (u.1 4), .int (u.1 5), .int (u.1 6), .int (u.1 7), .int (u.1 8), .int (u.1 9), .long (u.2.1 10), .int (u.1 11), .int (u.1 12), .int (u.1 13), .ref q4, .int (u.1 15), .ref q5, .ref q6, .ref q7, .int (u.1 19), .ref q8, .int (u.1 21), .int (u.1 22), .int (u.1 23), .int (u.1 24), .ref q9, .ref q10, .ref q11, .long (u.2.1 28)])), (q2, .inl (g.2 1, 2000, .inl tx)), (q4, .inl (g.2 0, 94, .inl u.2.2))]) A) args s 0 0 A) (F0 m 146 ls [.int s0, .int s1, .ref q4]) := by
  obtain ⟨hx, hb, hml, hown, hts⟩ := id S
  have hK := hG.1
  intro x3 s0 s1 F J td hv H locs hP hD hS ls hl
  unfold vX9_markLine_c146 at hv
  obtain ⟨ho_1, hv⟩ := hv
  refine va_iast hx hb hK hP hD hS 2 0 rfl rfl ho_1 dX9_markLine_146 (fun H locs hP hD hS => ?_)
  have hP : va_P g.1 vwCl [(qM, .inr (9, [.int (F 0), .ref q1, .ref q2, .ref q3, .int (F 4), .int (F 5), .int (F 6), .int (F 7), .int (F 8), .int (F 9), .long (J 10), .int (F 11), .int (F 12), .int (F 13), .ref q4, .int (F 15), .ref q5, .ref q6, .ref q7, .int (F 19), .ref q8, .int (F 21), .int (F 22), .int (F 23), .int (F 24), .ref q9, .ref q10, .ref q11, .long (J 28)])), (q2, .inl (g.2 1, 2000, .inl tx)), (q4, .inl (g.2 0, 94, .inl (upd td s1.toNatClampNeg s0)))] H := hP
  have hD : va_D A [(qM, .inr (9, [.int (F 0), .ref q1, .ref q2, .ref q3, .int (F 4), .int (F 5), .int (F 6), .int (F 7), .int (F 8), .int (F 9), .long (J 10), .int (F 11), .int (F 12), .int (F 13), .ref q4, .int (F 15), .ref q5, .ref q6, .ref q7, .int (F 19), .ref q8, .int (F 21), .int (F 22), .int (F 23), .int (F 24), .ref q9, .ref q10, .ref q11, .long (J 28)])), (q2, .inl (g.2 1, 2000, .inl tx)), (q4, .inl (g.2 0, 94, .inl (upd td s1.toNatClampNeg s0)))] := hD
  refine lv_aload_n hx hb dX9_markLine_147 rfl (lv_at hl 0 rfl) ?_
  refine va_get (D := g.1) (ci := 9) (v := .ref q4) (C := RX9) (T := TX9) (N := 29) hx hb hts inX9_markLine_9 hown hK hP 0 rfl rfl 14 (by decide) (hts (.fieldLink RX9 21 "RangeCodesModel" "told" "[I") (List.mem_of_getElem? (i := 1) rfl)) (fun _ h9 => h9) rfl dX9_markLine_148 ?_
  refine lv_iload_n hx hb dX9_markLine_151 rfl (lv_at hl 1 rfl) ?_
  refine lv_bipush (v := (6 : Int32)) hx hb dX9_markLine_152 (by decide) ?_
  refine lv_iadd hx hb dX9_markLine_154 ?_
  refine lv_dup2_11 hx hb dX9_markLine_155 rfl rfl ?_
  obtain ⟨ho_2, hv⟩ := hv
  refine va_iald hx hb hK hP 2 0 rfl rfl ho_2 dX9_markLine_156 ?_
  refine lv_iconst (v := (1 : Int32)) hx hb dX9_markLine_157 (by decide) ?_
  refine lv_iadd hx hb dX9_markLine_158 ?_
  refine lv_topi (fun a_159 ea_159 => ?_)
  have hv := hv a_159 ea_159
  obtain ⟨ho_3, hv⟩ := hv
  refine va_iast hx hb hK hP hD hS 2 0 rfl rfl ho_3 dX9_markLine_159 (fun H locs hP hD hS => ?_)
  have hP : va_P g.1 vwCl [(qM, .inr (9, [.int (F 0), .ref q1, .ref q2, .ref q3, .int (F 4), .int (F 5), .int (F 6), .int (F 7), .int (F 8), .int (F 9), .long (J 10), .int (F 11), .int (F 12), .int (F 13), .ref q4, .int (F 15), .ref q5, .ref q6, .ref q7, .int (F 19), .ref q8, .int (F 21), .int (F 22), .int (F 23), .int (F 24), .ref q9, .ref q10, .ref q11, .long (J 28)])), (q2, .inl (g.2 1, 2000, .inl tx)), (q4, .inl (g.2 0, 94, .inl (upd (upd td s1.toNatClampNeg s0) (x3 + (6 : Int32)).toNatClampNeg a_159)))] H := hP
  have hD : va_D A [(qM, .inr (9, [.int (F 0), .ref q1, .ref q2, .ref q3, .int (F 4), .int (F 5), .int (F 6), .int (F 7), .int (F 8), .int (F 9), .long (J 10), .int (F 11), .int (F 12), .int (F 13), .ref q4, .int (F 15), .ref q5, .ref q6, .ref q7, .int (F 19), .ref q8, .int (F 21), .int (F 22), .int (F 23), .int (F 24), .ref q9, .ref q10, .ref q11, .long (J 28)])), (q2, .inl (g.2 1, 2000, .inl tx)), (q4, .inl (g.2 0, 94, .inl (upd (upd td s1.toNatClampNeg s0) (x3 + (6 : Int32)).toNatClampNeg a_159)))] := hD
  refine lv_iconst (v := (1 : Int32)) hx hb dX9_markLine_160 (by decide) ?_
  have hP9 := hP.sub (ws' := [(qM, .inr (9, [.int (F 0), .ref q1, .ref q2, .ref q3, .int (F 4), .int (F 5), .int (F 6), .int (F 7), .int (F 8), .int (F 9), .long (J 10), .int (F 11), .int (F 12), .int (F 13), .ref q4, .int (F 15), .ref q5, .ref q6, .ref q7, .int (F 19), .ref q8, .int (F 21), .int (F 22), .int (F 23), .int (F 24), .ref q9, .ref q10, .ref q11, .long (J 28)])), (q2, .inl (g.2 1, 2000, .inl tx)), (q4, .inl (g.2 0, 94, .inl (upd (upd td s1.toNatClampNeg s0) (x3 + (6 : Int32)).toNatClampNeg a_159)))]) [0, 1, 2] rfl
  have hD9 := hD.sub (ws' := [(qM, .inr (9, [.int (F 0), .ref q1, .ref q2, .ref q3, .int (F 4), .int (F 5), .int (F 6), .int (F 7), .int (F 8), .int (F 9), .long (J 10), .int (F 11), .int (F 12), .int (F 13), .ref q4, .int (F 15), .ref q5, .ref q6, .ref q7, .int (F 19), .ref q8, .int (F 21), .int (F 22), .int (F 23), .int (F 24), .ref q9, .ref q10, .ref q11, .long (J 28)])), (q2, .inl (g.2 1, 2000, .inl tx)), (q4, .inl (g.2 0, 94, .inl (upd (upd td s1.toNatClampNeg s0) (x3 + (6 : Int32)).toNatClampNeg a_159)))]) [0, 1, 2] (by decide) rfl
  exact W.zret (v := (1 : Int32)) (ty := .boolean) hx hb hr rfl (fun t ht hW => ⟨⟨_, (F, J, (upd (upd td s1.toNatClampNeg s0) (x3 + (6 : Int32)).toNatClampNeg a_159)), rfl, hv, by rw [ht]; exact hP9, hD9⟩, hS.F ht⟩) hS.2.2 dX9_markLine_161
def vX9_markLine_c73 (tx : Nat → Int32) (p1 : Int32) (p2 : Int32) (Q : Int32 → (Nat → Int32) → (Nat → Int64) → (Nat → Int32) → Prop) (x3 : Int32) (x4 : Int32) (F : Nat → Int32) (J : Nat → Int64) (td : Nat → Int32) : Prop := (vp_in (x3 + (6 : Int32)) 94 ∧ (((10 : Int32) ≤ (td (x3 + (6 : Int32)).toNatClampNeg) → (Q (1 : Int32) F J td)) ∧ (¬ (10 : Int32) ≤ (td (x3 + (6 : Int32)).toNatClampNeg) → (vp_in (x3 + (6 : Int32)) 94 ∧ (∀ y_103 : Int32, y_103 = ((x3 + (7 : Int32)) + ((3 : Int32) * (td (x3 + (6 : Int32)).toNatClampNeg))) → (vp_in y_103 94 ∧ (vp_in (y_103 + (1 : Int32)) 94 ∧ ((¬ p2 = (3 : Int32) → (vX9_markLine_c146 tx p1 p2 Q x3 x4 (y_103 + (2 : Int32)) F J (upd (upd td y_103.toNatClampNeg p2) (y_103 + (1 : Int32)).toNatClampNeg x4))) ∧ (p2 = (3 : Int32) → (vX9_markLine_c146 tx p1 p2 Q x3 (F 15) (y_103 + (2 : Int32)) F J (upd (upd td y_103.toNatClampNeg p2) (y_103 + (1 : Int32)).toNatClampNeg x4)))))))))))
set_option maxHeartbeats 4000000 in
set_option maxRecDepth 100000 in
theorem kX9_markLine_c73 {p : Program} {l : Launch} {e : Env} {s : State} {m : MethodId} {args : Array Value} {below : List Frame} {meth : Method} {c : Code} {g : GP} {qM : Nat} {q1 : Nat} {q2 : Nat} {q3 : Nat} {q4 : Nat} {q5 : Nat} {q6 : Nat} {q7 : Nat} {q8 : Nat} {q9 : Nat} {q10 : Nat} {q11 : Nat} {tx : Nat → Int32} {p1 : Int32} {p2 : Int32} {Q : Int32 → (Nat → Int32) → (Nat → Int64) → (Nat → Int32) → Prop} {A : Nat → Prop} (S : CallFix p m c cX9_markLine 6 s args wsX9_markLine RX9) (hr : meth.sig.returnType = (some .boolean)) (hlocks : meth.locks = false) (hG : GK g s) (hA : ∀ q : Nat, s.heap.size ≤ q → A q) : ∀ (x3 : Int32) (x4 : Int32) (F : Nat → Int32) (J : Nat → Int64) (td : Nat → Int32), vX9_markLine_c73 tx p1 p2 Q x3 x4 F J td → ∀ (H : Heap) (locs : List Loc), va_P g.1 vwCl [(qM, .inr (9, [.int (F 0), .ref q1, .ref q2, .ref q3, .int (F 4), .int (F 5), .int (F 6), .int (F 7), .int (F 8), .int (F 9), .long (J 10), .int (F 11), .int (F 12), .int (F 13), .ref q4, .int (F 15), .ref q5, .ref q6, .ref q7, .int (F 19), .ref q8, .int (F 21), .int (F 22), .int (F 23), .int (F 24), .ref q9, .ref q10, .ref q11, .long (J 28)])), (q2, .inl (g.2 1, 2000, .inl tx)), (q4, .inl (g.2 0, 94, .inl td))] H → va_D A [(qM, .inr (9, [.int (F 0), .ref q1, .ref q2, .ref q3, .int (F 4), .int (F 5), .int (F 6), .int (F 7), .int (F 8), .int (F 9), .long (J 10), .int (F 11), .int (F 12), .int (F 13), .ref q4, .int (F 15), .ref q5, .ref q6, .ref q7, .int (F 19), .ref q8, .int (F 21), .int (F 22), .int (F 23), .int (F 24), .ref q9, .ref q10, .ref q11, .long (J 28)])), (q2, .inl (g.2 1, 2000, .inl tx)), (q4, .inl (g.2 0, 94, .inl td))] → va_S A s.heap H locs → ∀ (ls : Array Slot), lv_has ls 6 [(0, .ref qM), (2, .int p2), (3, .int x3), (4, .int x4)] → W p l e (headSpec wsX9_markLine rmX9_markLine).room s m args below meth c H locs 0 0 (MQ below (va_Qi (fun (r : Int32) (u : (Nat → Int32) × (Nat → Int64) × (Nat → Int32)) => Q r u.1 u.2.1 u.2.2) (fun (u : (Nat → Int32) × (Nat → Int64) × (Nat → Int32)) t => va_P g.1 vwCl [(qM, .inr (9, [.int (u.1 0), .ref q1, .ref q2, .ref q3, .int (u.1 4), .int (u.1 5), .int (u.1 6), .int (u.1 7), .int (u.1 8), .int (u.1 9), .long (u.2.1 10), .int (u.1 11), .int (u.1 12), .int (u.1 13), .ref q4, .int (u.1 15), .ref q5, .ref q6, .ref q7, .int (u.1 19), .ref q8, .int (u.1 21), .int (u.1 22), .int (u.1 23), .int (u.1 24), .ref q9, .ref q10, .ref q11, .long (u.2.1 28)])), (q2, .inl (g.2 1, 2000, .inl tx)), (q4, .inl (g.2 0, 94, .inl u.2.2))] t.heap ∧ va_D A [(qM, .inr (9, [.int (u.1 0), .ref q1, .ref q2, .ref q3, .int (u.1 4), .int (u.1 5), .int (u.1 6), .int (u.1 7), .int (u.1 8), .int (u.1 9), .long (u.2.1 10), .int (u.1 11), .int (u.1 12), .int (u.1 13), .ref q4, .int (u.1 15), .ref q5, .ref q6, .ref q7, .int (u.1 19), .ref q8, .int (u.1 21), .int (u.1 22), .int (u.1 23), .int (u.1 24), .ref q9, .ref q10, .ref q11, .long (u.2.1 28)])), (q2, .inl (g.2 1, 2000, .inl tx)), (q4, .inl (g.2 0, 94, .inl u.2.2))]) A) args s 0 0 A) (F0 m 73 ls []) := by
  obtain ⟨hx, hb, hml, hown, hts⟩ := id S
  have hK := hG.1
  intro x3 x4 F J td hv H locs hP hD hS ls hl
  unfold vX9_markLine_c73 at hv
  refine lv_aload_n hx hb dX9_markLine_73 rfl (lv_at hl 0 rfl) ?_
  refine va_get (D := g.1) (ci := 9) (v := .ref q4) (C := RX9) (T := TX9) (N := 29) hx hb hts inX9_markLine_9 hown hK hP 0 rfl rfl 14 (by decide) (hts (.fieldLink RX9 21 "RangeCodesModel" "told" "[I") (List.mem_of_getElem? (i := 1) rfl)) (fun _ h9 => h9) rfl dX9_markLine_74 ?_
  refine lv_iload_n hx hb dX9_markLine_77 rfl (lv_at hl 2 rfl) ?_
  refine lv_bipush (v := (6 : Int32)) hx hb dX9_markLine_78 (by decide) ?_
  refine lv_iadd hx hb dX9_markLine_80 ?_
  obtain ⟨ho_1, hv⟩ := hv
  refine va_iald hx hb hK hP 2 0 rfl rfl ho_1 dX9_markLine_81 ?_
  refine lv_bipush (v := (10 : Int32)) hx hb dX9_markLine_82 (by decide) ?_
  obtain ⟨hvt, hvf⟩ := hv
  refine lv_icmp_ge (tgt := 160) hx hb dX9_markLine_84 (by decide) (fun hc => ?_) (fun hc => ?_)
  · have hv := hvt hc
    refine lv_iconst (v := (1 : Int32)) hx hb dX9_markLine_160 (by decide) ?_
    have hP9 := hP.sub (ws' := [(qM, .inr (9, [.int (F 0), .ref q1, .ref q2, .ref q3, .int (F 4), .int (F 5), .int (F 6), .int (F 7), .int (F 8), .int (F 9), .long (J 10), .int (F 11), .int (F 12), .int (F 13), .ref q4, .int (F 15), .ref q5, .ref q6, .ref q7, .int (F 19), .ref q8, .int (F 21), .int (F 22), .int (F 23), .int (F 24), .ref q9, .ref q10, .ref q11, .long (J 28)])), (q2, .inl (g.2 1, 2000, .inl tx)), (q4, .inl (g.2 0, 94, .inl td))]) [0, 1, 2] rfl
    have hD9 := hD.sub (ws' := [(qM, .inr (9, [.int (F 0), .ref q1, .ref q2, .ref q3, .int (F 4), .int (F 5), .int (F 6), .int (F 7), .int (F 8), .int (F 9), .long (J 10), .int (F 11), .int (F 12), .int (F 13), .ref q4, .int (F 15), .ref q5, .ref q6, .ref q7, .int (F 19), .ref q8, .int (F 21), .int (F 22), .int (F 23), .int (F 24), .ref q9, .ref q10, .ref q11, .long (J 28)])), (q2, .inl (g.2 1, 2000, .inl tx)), (q4, .inl (g.2 0, 94, .inl td))]) [0, 1, 2] (by decide) rfl
    exact W.zret (v := (1 : Int32)) (ty := .boolean) hx hb hr rfl (fun t ht hW => ⟨⟨_, (F, J, td), rfl, hv, by rw [ht]; exact hP9, hD9⟩, hS.F ht⟩) hS.2.2 dX9_markLine_161
  · have hv := hvf hc
    refine lv_iload_n hx hb dX9_markLine_87 rfl (lv_at hl 2 rfl) ?_
    refine lv_bipush (v := (7 : Int32)) hx hb dX9_markLine_88 (by decide) ?_
    refine lv_iadd hx hb dX9_markLine_90 ?_
    refine lv_iconst (v := (3 : Int32)) hx hb dX9_markLine_91 (by decide) ?_
    refine lv_aload_n hx hb dX9_markLine_92 rfl (lv_at hl 0 rfl) ?_
    refine va_get (D := g.1) (ci := 9) (v := .ref q4) (C := RX9) (T := TX9) (N := 29) hx hb hts inX9_markLine_9 hown hK hP 0 rfl rfl 14 (by decide) (hts (.fieldLink RX9 21 "RangeCodesModel" "told" "[I") (List.mem_of_getElem? (i := 1) rfl)) (fun _ h9 => h9) rfl dX9_markLine_93 ?_
    refine lv_iload_n hx hb dX9_markLine_96 rfl (lv_at hl 2 rfl) ?_
    refine lv_bipush (v := (6 : Int32)) hx hb dX9_markLine_97 (by decide) ?_
    refine lv_iadd hx hb dX9_markLine_99 ?_
    obtain ⟨ho_2, hv⟩ := hv
    refine va_iald hx hb hK hP 2 0 rfl rfl ho_2 dX9_markLine_100 ?_
    refine lv_imul hx hb dX9_markLine_101 ?_
    refine lv_iadd hx hb dX9_markLine_102 ?_
    refine lv_topi (fun y_103 ey_103 => ?_)
    have hv := hv y_103 ey_103
    refine lv_istore (lv' := [(5, .int y_103), (0, .ref qM), (2, .int p2), (3, .int x3), (4, .int x4)]) hx hb dX9_markLine_103 hl (by decide) rfl (fun ls hl => ?_)
    refine lv_aload_n hx hb dX9_markLine_105 rfl (lv_at hl 1 rfl) ?_
    refine va_get (D := g.1) (ci := 9) (v := .ref q4) (C := RX9) (T := TX9) (N := 29) hx hb hts inX9_markLine_9 hown hK hP 0 rfl rfl 14 (by decide) (hts (.fieldLink RX9 21 "RangeCodesModel" "told" "[I") (List.mem_of_getElem? (i := 1) rfl)) (fun _ h9 => h9) rfl dX9_markLine_106 ?_
    refine lv_iload hx hb dX9_markLine_109 (lv_at hl 0 rfl) ?_
    refine lv_iload_n hx hb dX9_markLine_111 rfl (lv_at hl 2 rfl) ?_
    obtain ⟨ho_3, hv⟩ := hv
    refine va_iast hx hb hK hP hD hS 2 0 rfl rfl ho_3 dX9_markLine_112 (fun H locs hP hD hS => ?_)
    have hP : va_P g.1 vwCl [(qM, .inr (9, [.int (F 0), .ref q1, .ref q2, .ref q3, .int (F 4), .int (F 5), .int (F 6), .int (F 7), .int (F 8), .int (F 9), .long (J 10), .int (F 11), .int (F 12), .int (F 13), .ref q4, .int (F 15), .ref q5, .ref q6, .ref q7, .int (F 19), .ref q8, .int (F 21), .int (F 22), .int (F 23), .int (F 24), .ref q9, .ref q10, .ref q11, .long (J 28)])), (q2, .inl (g.2 1, 2000, .inl tx)), (q4, .inl (g.2 0, 94, .inl (upd td y_103.toNatClampNeg p2)))] H := hP
    have hD : va_D A [(qM, .inr (9, [.int (F 0), .ref q1, .ref q2, .ref q3, .int (F 4), .int (F 5), .int (F 6), .int (F 7), .int (F 8), .int (F 9), .long (J 10), .int (F 11), .int (F 12), .int (F 13), .ref q4, .int (F 15), .ref q5, .ref q6, .ref q7, .int (F 19), .ref q8, .int (F 21), .int (F 22), .int (F 23), .int (F 24), .ref q9, .ref q10, .ref q11, .long (J 28)])), (q2, .inl (g.2 1, 2000, .inl tx)), (q4, .inl (g.2 0, 94, .inl (upd td y_103.toNatClampNeg p2)))] := hD
    refine lv_aload_n hx hb dX9_markLine_113 rfl (lv_at hl 1 rfl) ?_
    refine va_get (D := g.1) (ci := 9) (v := .ref q4) (C := RX9) (T := TX9) (N := 29) hx hb hts inX9_markLine_9 hown hK hP 0 rfl rfl 14 (by decide) (hts (.fieldLink RX9 21 "RangeCodesModel" "told" "[I") (List.mem_of_getElem? (i := 1) rfl)) (fun _ h9 => h9) rfl dX9_markLine_114 ?_
    refine lv_iload hx hb dX9_markLine_117 (lv_at hl 0 rfl) ?_
    refine lv_iconst (v := (1 : Int32)) hx hb dX9_markLine_119 (by decide) ?_
    refine lv_iadd hx hb dX9_markLine_120 ?_
    refine lv_iload hx hb dX9_markLine_121 (lv_at hl 4 rfl) ?_
    obtain ⟨ho_4, hv⟩ := hv
    refine va_iast hx hb hK hP hD hS 2 0 rfl rfl ho_4 dX9_markLine_123 (fun H locs hP hD hS => ?_)
    have hP : va_P g.1 vwCl [(qM, .inr (9, [.int (F 0), .ref q1, .ref q2, .ref q3, .int (F 4), .int (F 5), .int (F 6), .int (F 7), .int (F 8), .int (F 9), .long (J 10), .int (F 11), .int (F 12), .int (F 13), .ref q4, .int (F 15), .ref q5, .ref q6, .ref q7, .int (F 19), .ref q8, .int (F 21), .int (F 22), .int (F 23), .int (F 24), .ref q9, .ref q10, .ref q11, .long (J 28)])), (q2, .inl (g.2 1, 2000, .inl tx)), (q4, .inl (g.2 0, 94, .inl (upd (upd td y_103.toNatClampNeg p2) (y_103 + (1 : Int32)).toNatClampNeg x4)))] H := hP
    have hD : va_D A [(qM, .inr (9, [.int (F 0), .ref q1, .ref q2, .ref q3, .int (F 4), .int (F 5), .int (F 6), .int (F 7), .int (F 8), .int (F 9), .long (J 10), .int (F 11), .int (F 12), .int (F 13), .ref q4, .int (F 15), .ref q5, .ref q6, .ref q7, .int (F 19), .ref q8, .int (F 21), .int (F 22), .int (F 23), .int (F 24), .ref q9, .ref q10, .ref q11, .long (J 28)])), (q2, .inl (g.2 1, 2000, .inl tx)), (q4, .inl (g.2 0, 94, .inl (upd (upd td y_103.toNatClampNeg p2) (y_103 + (1 : Int32)).toNatClampNeg x4)))] := hD
    refine lv_aload_n hx hb dX9_markLine_124 rfl (lv_at hl 1 rfl) ?_
    refine va_get (D := g.1) (ci := 9) (v := .ref q4) (C := RX9) (T := TX9) (N := 29) hx hb hts inX9_markLine_9 hown hK hP 0 rfl rfl 14 (by decide) (hts (.fieldLink RX9 21 "RangeCodesModel" "told" "[I") (List.mem_of_getElem? (i := 1) rfl)) (fun _ h9 => h9) rfl dX9_markLine_125 ?_
    refine lv_iload hx hb dX9_markLine_128 (lv_at hl 0 rfl) ?_
    refine lv_iconst (v := (2 : Int32)) hx hb dX9_markLine_130 (by decide) ?_
    refine lv_iadd hx hb dX9_markLine_131 ?_
    refine lv_iload_n hx hb dX9_markLine_132 rfl (lv_at hl 2 rfl) ?_
    refine lv_iconst (v := (3 : Int32)) hx hb dX9_markLine_133 (by decide) ?_
    obtain ⟨hvt, hvf⟩ := hv
    refine lv_icmp_ne (tgt := 144) hx hb dX9_markLine_134 (by decide) (fun hc => ?_) (fun hc => ?_)
    · have hv := hvt hc
      refine lv_iload hx hb dX9_markLine_144 (lv_at hl 4 rfl) ?_
      exact kX9_markLine_c146 S hr hlocks hG hA _ _ _ _ _ _ hv _ _ (hP.sub (ws' := [(qM, .inr (9, [.int (F 0), .ref q1, .ref q2, .ref q3, .int (F 4), .int (F 5), .int (F 6), .int (F 7), .int (F 8), .int (F 9), .long (J 10), .int (F 11), .int (F 12), .int (F 13), .ref q4, .int (F 15), .ref q5, .ref q6, .ref q7, .int (F 19), .ref q8, .int (F 21), .int (F 22), .int (F 23), .int (F 24), .ref q9, .ref q10, .ref q11, .long (J 28)])), (q2, .inl (g.2 1, 2000, .inl tx)), (q4, .inl (g.2 0, 94, .inl (upd (upd td y_103.toNatClampNeg p2) (y_103 + (1 : Int32)).toNatClampNeg x4)))]) [0, 1, 2] rfl) (hD.sub (ws' := [(qM, .inr (9, [.int (F 0), .ref q1, .ref q2, .ref q3, .int (F 4), .int (F 5), .int (F 6), .int (F 7), .int (F 8), .int (F 9), .long (J 10), .int (F 11), .int (F 12), .int (F 13), .ref q4, .int (F 15), .ref q5, .ref q6, .ref q7, .int (F 19), .ref q8, .int (F 21), .int (F 22), .int (F 23), .int (F 24), .ref q9, .ref q10, .ref q11, .long (J 28)])), (q2, .inl (g.2 1, 2000, .inl tx)), (q4, .inl (g.2 0, 94, .inl (upd (upd td y_103.toNatClampNeg p2) (y_103 + (1 : Int32)).toNatClampNeg x4)))]) [0, 1, 2] (by decide) rfl) hS ls (lv_sub hl [1, 3] rfl)
    · have hv := hvf hc
      refine lv_aload_n hx hb dX9_markLine_137 rfl (lv_at hl 1 rfl) ?_
      refine va_get (D := g.1) (ci := 9) (v := .int (F 15)) (C := RX9) (T := TX9) (N := 29) hx hb hts inX9_markLine_9 hown hK hP 0 rfl rfl 15 (by decide) (hts (.fieldLink RX9 108 "RangeCodesModel" "read" "I") (List.mem_of_getElem? (i := 3) rfl)) (fun _ h9 => h9) rfl dX9_markLine_138 ?_
      refine lv_goto (tgt := 146) hx hb dX9_markLine_141 (by decide) ?_
      exact kX9_markLine_c146 S hr hlocks hG hA _ _ _ _ _ _ hv _ _ (hP.sub (ws' := [(qM, .inr (9, [.int (F 0), .ref q1, .ref q2, .ref q3, .int (F 4), .int (F 5), .int (F 6), .int (F 7), .int (F 8), .int (F 9), .long (J 10), .int (F 11), .int (F 12), .int (F 13), .ref q4, .int (F 15), .ref q5, .ref q6, .ref q7, .int (F 19), .ref q8, .int (F 21), .int (F 22), .int (F 23), .int (F 24), .ref q9, .ref q10, .ref q11, .long (J 28)])), (q2, .inl (g.2 1, 2000, .inl tx)), (q4, .inl (g.2 0, 94, .inl (upd (upd td y_103.toNatClampNeg p2) (y_103 + (1 : Int32)).toNatClampNeg x4)))]) [0, 1, 2] rfl) (hD.sub (ws' := [(qM, .inr (9, [.int (F 0), .ref q1, .ref q2, .ref q3, .int (F 4), .int (F 5), .int (F 6), .int (F 7), .int (F 8), .int (F 9), .long (J 10), .int (F 11), .int (F 12), .int (F 13), .ref q4, .int (F 15), .ref q5, .ref q6, .ref q7, .int (F 19), .ref q8, .int (F 21), .int (F 22), .int (F 23), .int (F 24), .ref q9, .ref q10, .ref q11, .long (J 28)])), (q2, .inl (g.2 1, 2000, .inl tx)), (q4, .inl (g.2 0, 94, .inl (upd (upd td y_103.toNatClampNeg p2) (y_103 + (1 : Int32)).toNatClampNeg x4)))]) [0, 1, 2] (by decide) rfl) hS ls (lv_sub hl [1, 3] rfl)
def vX9_markLine_c31 (tx : Nat → Int32) (p1 : Int32) (p2 : Int32) (Q : Int32 → (Nat → Int32) → (Nat → Int64) → (Nat → Int32) → Prop) (x3 : Int32) (F : Nat → Int32) (J : Nat → Int64) (td : Nat → Int32) : Prop := (∃ (b_32 : Nat → Int32) (nb_32 : Nat) (i_32 : Nat), preX9_token b_32 nb_32 i_32 F J tx ∧ (∀ (F_32 : Nat → Int32) (J_32 : Nat → Int64), postX9_token b_32 nb_32 i_32 F J tx F_32 J_32 → (∃ (b_40 : Nat → Int32) (nb_40 : Nat) (i_40 : Nat) (f_40 : Int × Int), preX9_takes b_40 nb_40 i_40 f_40 F_32 J_32 tx (0 : Int32) (199 : Int32) ∧ (∀ (r_40 : Int32) (F_40 : Nat → Int32) (J_40 : Nat → Int64), postX9_takes b_40 nb_40 i_40 f_40 F_32 J_32 tx (0 : Int32) (199 : Int32) r_40 F_40 J_40 → ((¬ r_40 = 0 → ((¬ p2 = (3 : Int32) → (vX9_markLine_c73 tx p1 p2 Q x3 (F_40 15) F_40 J_40 td)) ∧ (p2 = (3 : Int32) → (∃ (b_65 : Nat → Int32) (nb_65 : Nat) (i_65 : Nat) (f_65 : Int × Int), preX9_takes b_65 nb_65 i_65 f_65 F_40 J_40 tx (F_40 15) (199 : Int32) ∧ (∀ (r_65 : Int32) (F_65 : Nat → Int32) (J_65 : Nat → Int64), postX9_takes b_65 nb_65 i_65 f_65 F_40 J_40 tx (F_40 15) (199 : Int32) r_65 F_65 J_65 → ((¬ r_65 = 0 → (vX9_markLine_c73 tx p1 p2 Q x3 (F_40 15) F_65 J_65 td)) ∧ (r_65 = 0 → (Q (0 : Int32) F_65 J_65 td)))))))) ∧ (r_40 = 0 → (Q (0 : Int32) F_40 J_40 td)))))))
set_option maxHeartbeats 4000000 in
set_option maxRecDepth 100000 in
theorem kX9_markLine_c31 {p : Program} {l : Launch} {e : Env} {s : State} {m : MethodId} {args : Array Value} {below : List Frame} {meth : Method} {c : Code} {g : GP} {qM : Nat} {q1 : Nat} {q2 : Nat} {q3 : Nat} {q4 : Nat} {q5 : Nat} {q6 : Nat} {q7 : Nat} {q8 : Nat} {q9 : Nat} {q10 : Nat} {q11 : Nat} {tx : Nat → Int32} {p1 : Int32} {p2 : Int32} {Q : Int32 → (Nat → Int32) → (Nat → Int64) → (Nat → Int32) → Prop} {A : Nat → Prop} (S : CallFix p m c cX9_markLine 6 s args wsX9_markLine RX9) (hr : meth.sig.returnType = (some .boolean)) (hlocks : meth.locks = false) (hG : GK g s) (hA : ∀ q : Nat, s.heap.size ≤ q → A q) : ∀ (x3 : Int32) (F : Nat → Int32) (J : Nat → Int64) (td : Nat → Int32), vX9_markLine_c31 tx p1 p2 Q x3 F J td → ∀ (H : Heap) (locs : List Loc), va_P g.1 vwCl [(qM, .inr (9, [.int (F 0), .ref q1, .ref q2, .ref q3, .int (F 4), .int (F 5), .int (F 6), .int (F 7), .int (F 8), .int (F 9), .long (J 10), .int (F 11), .int (F 12), .int (F 13), .ref q4, .int (F 15), .ref q5, .ref q6, .ref q7, .int (F 19), .ref q8, .int (F 21), .int (F 22), .int (F 23), .int (F 24), .ref q9, .ref q10, .ref q11, .long (J 28)])), (q2, .inl (g.2 1, 2000, .inl tx)), (q4, .inl (g.2 0, 94, .inl td))] H → va_D A [(qM, .inr (9, [.int (F 0), .ref q1, .ref q2, .ref q3, .int (F 4), .int (F 5), .int (F 6), .int (F 7), .int (F 8), .int (F 9), .long (J 10), .int (F 11), .int (F 12), .int (F 13), .ref q4, .int (F 15), .ref q5, .ref q6, .ref q7, .int (F 19), .ref q8, .int (F 21), .int (F 22), .int (F 23), .int (F 24), .ref q9, .ref q10, .ref q11, .long (J 28)])), (q2, .inl (g.2 1, 2000, .inl tx)), (q4, .inl (g.2 0, 94, .inl td))] → va_S A s.heap H locs → ∀ (ls : Array Slot), lv_has ls 6 [(0, .ref qM), (2, .int p2), (3, .int x3)] → W p l e (headSpec wsX9_markLine rmX9_markLine).room s m args below meth c H locs 0 0 (MQ below (va_Qi (fun (r : Int32) (u : (Nat → Int32) × (Nat → Int64) × (Nat → Int32)) => Q r u.1 u.2.1 u.2.2) (fun (u : (Nat → Int32) × (Nat → Int64) × (Nat → Int32)) t => va_P g.1 vwCl [(qM, .inr (9, [.int (u.1 0), .ref q1, .ref q2, .ref q3, .int (u.1 4), .int (u.1 5), .int (u.1 6), .int (u.1 7), .int (u.1 8), .int (u.1 9), .long (u.2.1 10), .int (u.1 11), .int (u.1 12), .int (u.1 13), .ref q4, .int (u.1 15), .ref q5, .ref q6, .ref q7, .int (u.1 19), .ref q8, .int (u.1 21), .int (u.1 22), .int (u.1 23), .int (u.1 24), .ref q9, .ref q10, .ref q11, .long (u.2.1 28)])), (q2, .inl (g.2 1, 2000, .inl tx)), (q4, .inl (g.2 0, 94, .inl u.2.2))] t.heap ∧ va_D A [(qM, .inr (9, [.int (u.1 0), .ref q1, .ref q2, .ref q3, .int (u.1 4), .int (u.1 5), .int (u.1 6), .int (u.1 7), .int (u.1 8), .int (u.1 9), .long (u.2.1 10), .int (u.1 11), .int (u.1 12), .int (u.1 13), .ref q4, .int (u.1 15), .ref q5, .ref q6, .ref q7, .int (u.1 19), .ref q8, .int (u.1 21), .int (u.1 22), .int (u.1 23), .int (u.1 24), .ref q9, .ref q10, .ref q11, .long (u.2.1 28)])), (q2, .inl (g.2 1, 2000, .inl tx)), (q4, .inl (g.2 0, 94, .inl u.2.2))]) A) args s 0 0 A) (F0 m 31 ls []) := by
  obtain ⟨hx, hb, hml, hown, hts⟩ := id S
  have hK := hG.1
  intro x3 F J td hv H locs hP hD hS ls hl
  unfold vX9_markLine_c31 at hv
  refine lv_aload_n hx hb dX9_markLine_31 rfl (lv_at hl 0 rfl) ?_
  obtain ⟨b_32, nb_32, i_32, ho_1, hv⟩ := hv
  have hPc := hP.sub (ws' := [(qM, .inr (9, [.int (F 0), .ref q1, .ref q2, .ref q3, .int (F 4), .int (F 5), .int (F 6), .int (F 7), .int (F 8), .int (F 9), .long (J 10), .int (F 11), .int (F 12), .int (F 13), .ref q4, .int (F 15), .ref q5, .ref q6, .ref q7, .int (F 19), .ref q8, .int (F 21), .int (F 22), .int (F 23), .int (F 24), .ref q9, .ref q10, .ref q11, .long (J 28)])), (q2, .inl (g.2 1, 2000, .inl tx))]) [0, 1] rfl
  have hDc := hD.sub (ws' := [(qM, .inr (9, [.int (F 0), .ref q1, .ref q2, .ref q3, .int (F 4), .int (F 5), .int (F 6), .int (F 7), .int (F 8), .int (F 9), .long (J 10), .int (F 11), .int (F 12), .int (F 13), .ref q4, .int (F 15), .ref q5, .ref q6, .ref q7, .int (F 19), .ref q8, .int (F 21), .int (F 22), .int (F 23), .int (F 24), .ref q9, .ref q10, .ref q11, .long (J 28)])), (q2, .inl (g.2 1, 2000, .inl tx))]) [0, 1] (by decide) rfl
  have hFc := va_free (wc := [(qM, .inr (9, [.int (F 0), .ref q1, .ref q2, .ref q3, .int (F 4), .int (F 5), .int (F 6), .int (F 7), .int (F 8), .int (F 9), .long (J 10), .int (F 11), .int (F 12), .int (F 13), .ref q4, .int (F 15), .ref q5, .ref q6, .ref q7, .int (F 19), .ref q8, .int (F 21), .int (F 22), .int (F 23), .int (F 24), .ref q9, .ref q10, .ref q11, .long (J 28)])), (q2, .inl (g.2 1, 2000, .inl tx))]) hD hS hA [0, 1] rfl
  refine va_callv (va_runV (As := []) (rest := []) S (wX9_token l g qM q1 q2 q3 q4 q5 q6 q7 q8 q9 q10 q11 H.size F J tx (sX9_token b_32 nb_32 i_32 F J tx ho_1)) (cwV 0 hts gX9_markLine_X9_token rfl rfl rfl (by decide +kernel) ⟨Nat.le_of_ble_eq_true rfl, Nat.le_of_ble_eq_true rfl⟩) ⟨blindRW, va_recv hK hP (ci := 9) (q0 := 0) rfl rfl, fun U hU hW => ⟨rfl, by rw [hU], by rw [hU]; exact hPc, hG.warm hW, hDc.weaken (fun _ _ _ _ => trivial)⟩⟩ rfl rfl hl.1 rfl (lv_room (Nat.le_of_ble_eq_true rfl)) dX9_markLine_32 ⟨Nat.le_of_ble_eq_true rfl, Nat.le_of_ble_eq_true rfl⟩) hS (fun q _ h => hFc q h) hFc (fun u t H1 locs ht hvm hw hB hz1 hk1 hS => ?_)
  obtain ⟨F_32, J_32⟩ := u
  obtain ⟨hP1, hD1⟩ := hB
  rw [ht] at hP1
  have hv := hv F_32 J_32 hw
  obtain ⟨hP, hD⟩ := va_join (wr := [(q4, .inl (g.2 0, 94, .inl td))]) (w1 := [(qM, .inr (9, [.int (F_32 0), .ref q1, .ref q2, .ref q3, .int (F_32 4), .int (F_32 5), .int (F_32 6), .int (F_32 7), .int (F_32 8), .int (F_32 9), .long (J_32 10), .int (F_32 11), .int (F_32 12), .int (F_32 13), .ref q4, .int (F_32 15), .ref q5, .ref q6, .ref q7, .int (F_32 19), .ref q8, .int (F_32 21), .int (F_32 22), .int (F_32 23), .int (F_32 24), .ref q9, .ref q10, .ref q11, .long (J_32 28)])), (q2, .inl (g.2 1, 2000, .inl tx))]) hP hD [0, 1] [2] rfl rfl (by decide) (by decide) hk1 hFc hP1 hD1
  clear hP1 hD1 hPc hDc hFc hk1
  generalize H1 = H at hP hS ⊢
  have hP : va_P g.1 vwCl [(q4, .inl (g.2 0, 94, .inl td)), (qM, .inr (9, [.int (F_32 0), .ref q1, .ref q2, .ref q3, .int (F_32 4), .int (F_32 5), .int (F_32 6), .int (F_32 7), .int (F_32 8), .int (F_32 9), .long (J_32 10), .int (F_32 11), .int (F_32 12), .int (F_32 13), .ref q4, .int (F_32 15), .ref q5, .ref q6, .ref q7, .int (F_32 19), .ref q8, .int (F_32 21), .int (F_32 22), .int (F_32 23), .int (F_32 24), .ref q9, .ref q10, .ref q11, .long (J_32 28)])), (q2, .inl (g.2 1, 2000, .inl tx))] H := hP
  have hD : va_D A [(q4, .inl (g.2 0, 94, .inl td)), (qM, .inr (9, [.int (F_32 0), .ref q1, .ref q2, .ref q3, .int (F_32 4), .int (F_32 5), .int (F_32 6), .int (F_32 7), .int (F_32 8), .int (F_32 9), .long (J_32 10), .int (F_32 11), .int (F_32 12), .int (F_32 13), .ref q4, .int (F_32 15), .ref q5, .ref q6, .ref q7, .int (F_32 19), .ref q8, .int (F_32 21), .int (F_32 22), .int (F_32 23), .int (F_32 24), .ref q9, .ref q10, .ref q11, .long (J_32 28)])), (q2, .inl (g.2 1, 2000, .inl tx))] := hD
  refine lv_aload_n hx hb dX9_markLine_35 rfl (lv_at hl 0 rfl) ?_
  refine lv_iconst (v := (0 : Int32)) hx hb dX9_markLine_36 (by decide) ?_
  refine lv_sipush (v := (199 : Int32)) hx hb dX9_markLine_37 (by decide) ?_
  obtain ⟨b_40, nb_40, i_40, f_40, ho_2, hv⟩ := hv
  have hPc := hP.sub (ws' := [(qM, .inr (9, [.int (F_32 0), .ref q1, .ref q2, .ref q3, .int (F_32 4), .int (F_32 5), .int (F_32 6), .int (F_32 7), .int (F_32 8), .int (F_32 9), .long (J_32 10), .int (F_32 11), .int (F_32 12), .int (F_32 13), .ref q4, .int (F_32 15), .ref q5, .ref q6, .ref q7, .int (F_32 19), .ref q8, .int (F_32 21), .int (F_32 22), .int (F_32 23), .int (F_32 24), .ref q9, .ref q10, .ref q11, .long (J_32 28)])), (q2, .inl (g.2 1, 2000, .inl tx))]) [1, 2] rfl
  have hDc := hD.sub (ws' := [(qM, .inr (9, [.int (F_32 0), .ref q1, .ref q2, .ref q3, .int (F_32 4), .int (F_32 5), .int (F_32 6), .int (F_32 7), .int (F_32 8), .int (F_32 9), .long (J_32 10), .int (F_32 11), .int (F_32 12), .int (F_32 13), .ref q4, .int (F_32 15), .ref q5, .ref q6, .ref q7, .int (F_32 19), .ref q8, .int (F_32 21), .int (F_32 22), .int (F_32 23), .int (F_32 24), .ref q9, .ref q10, .ref q11, .long (J_32 28)])), (q2, .inl (g.2 1, 2000, .inl tx))]) [1, 2] (by decide) rfl
  have hFc := va_free (wc := [(qM, .inr (9, [.int (F_32 0), .ref q1, .ref q2, .ref q3, .int (F_32 4), .int (F_32 5), .int (F_32 6), .int (F_32 7), .int (F_32 8), .int (F_32 9), .long (J_32 10), .int (F_32 11), .int (F_32 12), .int (F_32 13), .ref q4, .int (F_32 15), .ref q5, .ref q6, .ref q7, .int (F_32 19), .ref q8, .int (F_32 21), .int (F_32 22), .int (F_32 23), .int (F_32 24), .ref q9, .ref q10, .ref q11, .long (J_32 28)])), (q2, .inl (g.2 1, 2000, .inl tx))]) hD hS hA [1, 2] rfl
  refine va_calli (va_runV (As := [.int (0 : Int32), .int (199 : Int32)]) (rest := []) S (wX9_takes l g qM q1 q2 q3 q4 q5 q6 q7 q8 q9 q10 q11 H.size F_32 J_32 tx (0 : Int32) (199 : Int32) (sX9_takes b_40 nb_40 i_40 f_40 F_32 J_32 tx (0 : Int32) (199 : Int32) ho_2)) (cwV 2 hts gX9_markLine_X9_takes rfl rfl rfl (by decide +kernel) ⟨Nat.le_of_ble_eq_true rfl, Nat.le_of_ble_eq_true rfl⟩) ⟨blindRW, va_recv hK hP (ci := 9) (q0 := 1) rfl rfl, fun U hU hW => ⟨rfl, by rw [hU], by rw [hU]; exact hPc, hG.warm hW, hDc.weaken (fun _ _ _ _ => trivial)⟩⟩ rfl rfl hl.1 rfl (lv_room (Nat.le_of_ble_eq_true rfl)) dX9_markLine_40 ⟨Nat.le_of_ble_eq_true rfl, Nat.le_of_ble_eq_true rfl⟩) hS (fun q _ h => hFc q h) hFc (fun r_40 u t H1 locs ht hvm hw hB hz1 hk1 hS => ?_)
  obtain ⟨F_40, J_40⟩ := u
  obtain ⟨hP1, hD1⟩ := hB
  rw [ht] at hP1
  have hv := hv r_40 F_40 J_40 hw
  obtain ⟨hP, hD⟩ := va_join (wr := [(q4, .inl (g.2 0, 94, .inl td))]) (w1 := [(qM, .inr (9, [.int (F_40 0), .ref q1, .ref q2, .ref q3, .int (F_40 4), .int (F_40 5), .int (F_40 6), .int (F_40 7), .int (F_40 8), .int (F_40 9), .long (J_40 10), .int (F_40 11), .int (F_40 12), .int (F_40 13), .ref q4, .int (F_40 15), .ref q5, .ref q6, .ref q7, .int (F_40 19), .ref q8, .int (F_40 21), .int (F_40 22), .int (F_40 23), .int (F_40 24), .ref q9, .ref q10, .ref q11, .long (J_40 28)])), (q2, .inl (g.2 1, 2000, .inl tx))]) hP hD [1, 2] [0] rfl rfl (by decide) (by decide) hk1 hFc hP1 hD1
  clear hP1 hD1 hPc hDc hFc hk1
  generalize H1 = H at hP hS ⊢
  have hP : va_P g.1 vwCl [(q4, .inl (g.2 0, 94, .inl td)), (qM, .inr (9, [.int (F_40 0), .ref q1, .ref q2, .ref q3, .int (F_40 4), .int (F_40 5), .int (F_40 6), .int (F_40 7), .int (F_40 8), .int (F_40 9), .long (J_40 10), .int (F_40 11), .int (F_40 12), .int (F_40 13), .ref q4, .int (F_40 15), .ref q5, .ref q6, .ref q7, .int (F_40 19), .ref q8, .int (F_40 21), .int (F_40 22), .int (F_40 23), .int (F_40 24), .ref q9, .ref q10, .ref q11, .long (J_40 28)])), (q2, .inl (g.2 1, 2000, .inl tx))] H := hP
  have hD : va_D A [(q4, .inl (g.2 0, 94, .inl td)), (qM, .inr (9, [.int (F_40 0), .ref q1, .ref q2, .ref q3, .int (F_40 4), .int (F_40 5), .int (F_40 6), .int (F_40 7), .int (F_40 8), .int (F_40 9), .long (J_40 10), .int (F_40 11), .int (F_40 12), .int (F_40 13), .ref q4, .int (F_40 15), .ref q5, .ref q6, .ref q7, .int (F_40 19), .ref q8, .int (F_40 21), .int (F_40 22), .int (F_40 23), .int (F_40 24), .ref q9, .ref q10, .ref q11, .long (J_40 28)])), (q2, .inl (g.2 1, 2000, .inl tx))] := hD
  obtain ⟨hvt, hvf⟩ := hv
  refine lv_if_ne (tgt := 48) hx hb dX9_markLine_43 (by decide) (fun hc => ?_) (fun hc => ?_)
  · have hv := hvt hc
    refine lv_aload_n hx hb dX9_markLine_48 rfl (lv_at hl 0 rfl) ?_
    refine va_get (D := g.1) (ci := 9) (v := .int (F_40 15)) (C := RX9) (T := TX9) (N := 29) hx hb hts inX9_markLine_9 hown hK hP 1 rfl rfl 15 (by decide) (hts (.fieldLink RX9 108 "RangeCodesModel" "read" "I") (List.mem_of_getElem? (i := 3) rfl)) (fun _ h9 => h9) rfl dX9_markLine_49 ?_
    refine lv_istore (lv' := [(4, .int (F_40 15)), (0, .ref qM), (2, .int p2), (3, .int x3)]) hx hb dX9_markLine_52 hl (by decide) rfl (fun ls hl => ?_)
    refine lv_iload_n hx hb dX9_markLine_54 rfl (lv_at hl 2 rfl) ?_
    refine lv_iconst (v := (3 : Int32)) hx hb dX9_markLine_55 (by decide) ?_
    obtain ⟨hvt, hvf⟩ := hv
    refine lv_icmp_ne (tgt := 73) hx hb dX9_markLine_56 (by decide) (fun hc => ?_) (fun hc => ?_)
    · have hv := hvt hc
      exact kX9_markLine_c73 S hr hlocks hG hA _ _ _ _ _ hv _ _ (hP.sub (ws' := [(qM, .inr (9, [.int (F_40 0), .ref q1, .ref q2, .ref q3, .int (F_40 4), .int (F_40 5), .int (F_40 6), .int (F_40 7), .int (F_40 8), .int (F_40 9), .long (J_40 10), .int (F_40 11), .int (F_40 12), .int (F_40 13), .ref q4, .int (F_40 15), .ref q5, .ref q6, .ref q7, .int (F_40 19), .ref q8, .int (F_40 21), .int (F_40 22), .int (F_40 23), .int (F_40 24), .ref q9, .ref q10, .ref q11, .long (J_40 28)])), (q2, .inl (g.2 1, 2000, .inl tx)), (q4, .inl (g.2 0, 94, .inl td))]) [1, 2, 0] rfl) (hD.sub (ws' := [(qM, .inr (9, [.int (F_40 0), .ref q1, .ref q2, .ref q3, .int (F_40 4), .int (F_40 5), .int (F_40 6), .int (F_40 7), .int (F_40 8), .int (F_40 9), .long (J_40 10), .int (F_40 11), .int (F_40 12), .int (F_40 13), .ref q4, .int (F_40 15), .ref q5, .ref q6, .ref q7, .int (F_40 19), .ref q8, .int (F_40 21), .int (F_40 22), .int (F_40 23), .int (F_40 24), .ref q9, .ref q10, .ref q11, .long (J_40 28)])), (q2, .inl (g.2 1, 2000, .inl tx)), (q4, .inl (g.2 0, 94, .inl td))]) [1, 2, 0] (by decide) rfl) hS ls (lv_sub hl [1, 2, 3, 0] rfl)
    · have hv := hvf hc
      refine lv_aload_n hx hb dX9_markLine_59 rfl (lv_at hl 1 rfl) ?_
      refine lv_iload hx hb dX9_markLine_60 (lv_at hl 0 rfl) ?_
      refine lv_sipush (v := (199 : Int32)) hx hb dX9_markLine_62 (by decide) ?_
      obtain ⟨b_65, nb_65, i_65, f_65, ho_3, hv⟩ := hv
      have hPc := hP.sub (ws' := [(qM, .inr (9, [.int (F_40 0), .ref q1, .ref q2, .ref q3, .int (F_40 4), .int (F_40 5), .int (F_40 6), .int (F_40 7), .int (F_40 8), .int (F_40 9), .long (J_40 10), .int (F_40 11), .int (F_40 12), .int (F_40 13), .ref q4, .int (F_40 15), .ref q5, .ref q6, .ref q7, .int (F_40 19), .ref q8, .int (F_40 21), .int (F_40 22), .int (F_40 23), .int (F_40 24), .ref q9, .ref q10, .ref q11, .long (J_40 28)])), (q2, .inl (g.2 1, 2000, .inl tx))]) [1, 2] rfl
      have hDc := hD.sub (ws' := [(qM, .inr (9, [.int (F_40 0), .ref q1, .ref q2, .ref q3, .int (F_40 4), .int (F_40 5), .int (F_40 6), .int (F_40 7), .int (F_40 8), .int (F_40 9), .long (J_40 10), .int (F_40 11), .int (F_40 12), .int (F_40 13), .ref q4, .int (F_40 15), .ref q5, .ref q6, .ref q7, .int (F_40 19), .ref q8, .int (F_40 21), .int (F_40 22), .int (F_40 23), .int (F_40 24), .ref q9, .ref q10, .ref q11, .long (J_40 28)])), (q2, .inl (g.2 1, 2000, .inl tx))]) [1, 2] (by decide) rfl
      have hFc := va_free (wc := [(qM, .inr (9, [.int (F_40 0), .ref q1, .ref q2, .ref q3, .int (F_40 4), .int (F_40 5), .int (F_40 6), .int (F_40 7), .int (F_40 8), .int (F_40 9), .long (J_40 10), .int (F_40 11), .int (F_40 12), .int (F_40 13), .ref q4, .int (F_40 15), .ref q5, .ref q6, .ref q7, .int (F_40 19), .ref q8, .int (F_40 21), .int (F_40 22), .int (F_40 23), .int (F_40 24), .ref q9, .ref q10, .ref q11, .long (J_40 28)])), (q2, .inl (g.2 1, 2000, .inl tx))]) hD hS hA [1, 2] rfl
      refine va_calli (va_runV (As := [.int (F_40 15), .int (199 : Int32)]) (rest := []) S (wX9_takes l g qM q1 q2 q3 q4 q5 q6 q7 q8 q9 q10 q11 H.size F_40 J_40 tx (F_40 15) (199 : Int32) (sX9_takes b_65 nb_65 i_65 f_65 F_40 J_40 tx (F_40 15) (199 : Int32) ho_3)) (cwV 2 hts gX9_markLine_X9_takes rfl rfl rfl (by decide +kernel) ⟨Nat.le_of_ble_eq_true rfl, Nat.le_of_ble_eq_true rfl⟩) ⟨blindRW, va_recv hK hP (ci := 9) (q0 := 1) rfl rfl, fun U hU hW => ⟨rfl, by rw [hU], by rw [hU]; exact hPc, hG.warm hW, hDc.weaken (fun _ _ _ _ => trivial)⟩⟩ rfl rfl hl.1 rfl (lv_room (Nat.le_of_ble_eq_true rfl)) dX9_markLine_65 ⟨Nat.le_of_ble_eq_true rfl, Nat.le_of_ble_eq_true rfl⟩) hS (fun q _ h => hFc q h) hFc (fun r_65 u t H1 locs ht hvm hw hB hz1 hk1 hS => ?_)
      obtain ⟨F_65, J_65⟩ := u
      obtain ⟨hP1, hD1⟩ := hB
      rw [ht] at hP1
      have hv := hv r_65 F_65 J_65 hw
      obtain ⟨hP, hD⟩ := va_join (wr := [(q4, .inl (g.2 0, 94, .inl td))]) (w1 := [(qM, .inr (9, [.int (F_65 0), .ref q1, .ref q2, .ref q3, .int (F_65 4), .int (F_65 5), .int (F_65 6), .int (F_65 7), .int (F_65 8), .int (F_65 9), .long (J_65 10), .int (F_65 11), .int (F_65 12), .int (F_65 13), .ref q4, .int (F_65 15), .ref q5, .ref q6, .ref q7, .int (F_65 19), .ref q8, .int (F_65 21), .int (F_65 22), .int (F_65 23), .int (F_65 24), .ref q9, .ref q10, .ref q11, .long (J_65 28)])), (q2, .inl (g.2 1, 2000, .inl tx))]) hP hD [1, 2] [0] rfl rfl (by decide) (by decide) hk1 hFc hP1 hD1
      clear hP1 hD1 hPc hDc hFc hk1
      generalize H1 = H at hP hS ⊢
      have hP : va_P g.1 vwCl [(q4, .inl (g.2 0, 94, .inl td)), (qM, .inr (9, [.int (F_65 0), .ref q1, .ref q2, .ref q3, .int (F_65 4), .int (F_65 5), .int (F_65 6), .int (F_65 7), .int (F_65 8), .int (F_65 9), .long (J_65 10), .int (F_65 11), .int (F_65 12), .int (F_65 13), .ref q4, .int (F_65 15), .ref q5, .ref q6, .ref q7, .int (F_65 19), .ref q8, .int (F_65 21), .int (F_65 22), .int (F_65 23), .int (F_65 24), .ref q9, .ref q10, .ref q11, .long (J_65 28)])), (q2, .inl (g.2 1, 2000, .inl tx))] H := hP
      have hD : va_D A [(q4, .inl (g.2 0, 94, .inl td)), (qM, .inr (9, [.int (F_65 0), .ref q1, .ref q2, .ref q3, .int (F_65 4), .int (F_65 5), .int (F_65 6), .int (F_65 7), .int (F_65 8), .int (F_65 9), .long (J_65 10), .int (F_65 11), .int (F_65 12), .int (F_65 13), .ref q4, .int (F_65 15), .ref q5, .ref q6, .ref q7, .int (F_65 19), .ref q8, .int (F_65 21), .int (F_65 22), .int (F_65 23), .int (F_65 24), .ref q9, .ref q10, .ref q11, .long (J_65 28)])), (q2, .inl (g.2 1, 2000, .inl tx))] := hD
      obtain ⟨hvt, hvf⟩ := hv
      refine lv_if_ne (tgt := 73) hx hb dX9_markLine_68 (by decide) (fun hc => ?_) (fun hc => ?_)
      · have hv := hvt hc
        exact kX9_markLine_c73 S hr hlocks hG hA _ _ _ _ _ hv _ _ (hP.sub (ws' := [(qM, .inr (9, [.int (F_65 0), .ref q1, .ref q2, .ref q3, .int (F_65 4), .int (F_65 5), .int (F_65 6), .int (F_65 7), .int (F_65 8), .int (F_65 9), .long (J_65 10), .int (F_65 11), .int (F_65 12), .int (F_65 13), .ref q4, .int (F_65 15), .ref q5, .ref q6, .ref q7, .int (F_65 19), .ref q8, .int (F_65 21), .int (F_65 22), .int (F_65 23), .int (F_65 24), .ref q9, .ref q10, .ref q11, .long (J_65 28)])), (q2, .inl (g.2 1, 2000, .inl tx)), (q4, .inl (g.2 0, 94, .inl td))]) [1, 2, 0] rfl) (hD.sub (ws' := [(qM, .inr (9, [.int (F_65 0), .ref q1, .ref q2, .ref q3, .int (F_65 4), .int (F_65 5), .int (F_65 6), .int (F_65 7), .int (F_65 8), .int (F_65 9), .long (J_65 10), .int (F_65 11), .int (F_65 12), .int (F_65 13), .ref q4, .int (F_65 15), .ref q5, .ref q6, .ref q7, .int (F_65 19), .ref q8, .int (F_65 21), .int (F_65 22), .int (F_65 23), .int (F_65 24), .ref q9, .ref q10, .ref q11, .long (J_65 28)])), (q2, .inl (g.2 1, 2000, .inl tx)), (q4, .inl (g.2 0, 94, .inl td))]) [1, 2, 0] (by decide) rfl) hS ls (lv_sub hl [1, 2, 3, 0] rfl)
      · have hv := hvf hc
        refine lv_iconst (v := (0 : Int32)) hx hb dX9_markLine_71 (by decide) ?_
        have hP9 := hP.sub (ws' := [(qM, .inr (9, [.int (F_65 0), .ref q1, .ref q2, .ref q3, .int (F_65 4), .int (F_65 5), .int (F_65 6), .int (F_65 7), .int (F_65 8), .int (F_65 9), .long (J_65 10), .int (F_65 11), .int (F_65 12), .int (F_65 13), .ref q4, .int (F_65 15), .ref q5, .ref q6, .ref q7, .int (F_65 19), .ref q8, .int (F_65 21), .int (F_65 22), .int (F_65 23), .int (F_65 24), .ref q9, .ref q10, .ref q11, .long (J_65 28)])), (q2, .inl (g.2 1, 2000, .inl tx)), (q4, .inl (g.2 0, 94, .inl td))]) [1, 2, 0] rfl
        have hD9 := hD.sub (ws' := [(qM, .inr (9, [.int (F_65 0), .ref q1, .ref q2, .ref q3, .int (F_65 4), .int (F_65 5), .int (F_65 6), .int (F_65 7), .int (F_65 8), .int (F_65 9), .long (J_65 10), .int (F_65 11), .int (F_65 12), .int (F_65 13), .ref q4, .int (F_65 15), .ref q5, .ref q6, .ref q7, .int (F_65 19), .ref q8, .int (F_65 21), .int (F_65 22), .int (F_65 23), .int (F_65 24), .ref q9, .ref q10, .ref q11, .long (J_65 28)])), (q2, .inl (g.2 1, 2000, .inl tx)), (q4, .inl (g.2 0, 94, .inl td))]) [1, 2, 0] (by decide) rfl
        exact W.zret (v := (0 : Int32)) (ty := .boolean) hx hb hr rfl (fun t ht hW => ⟨⟨_, (F_65, J_65, td), rfl, hv, by rw [ht]; exact hP9, hD9⟩, hS.F ht⟩) hS.2.2 dX9_markLine_72
  · have hv := hvf hc
    refine lv_iconst (v := (0 : Int32)) hx hb dX9_markLine_46 (by decide) ?_
    have hP9 := hP.sub (ws' := [(qM, .inr (9, [.int (F_40 0), .ref q1, .ref q2, .ref q3, .int (F_40 4), .int (F_40 5), .int (F_40 6), .int (F_40 7), .int (F_40 8), .int (F_40 9), .long (J_40 10), .int (F_40 11), .int (F_40 12), .int (F_40 13), .ref q4, .int (F_40 15), .ref q5, .ref q6, .ref q7, .int (F_40 19), .ref q8, .int (F_40 21), .int (F_40 22), .int (F_40 23), .int (F_40 24), .ref q9, .ref q10, .ref q11, .long (J_40 28)])), (q2, .inl (g.2 1, 2000, .inl tx)), (q4, .inl (g.2 0, 94, .inl td))]) [1, 2, 0] rfl
    have hD9 := hD.sub (ws' := [(qM, .inr (9, [.int (F_40 0), .ref q1, .ref q2, .ref q3, .int (F_40 4), .int (F_40 5), .int (F_40 6), .int (F_40 7), .int (F_40 8), .int (F_40 9), .long (J_40 10), .int (F_40 11), .int (F_40 12), .int (F_40 13), .ref q4, .int (F_40 15), .ref q5, .ref q6, .ref q7, .int (F_40 19), .ref q8, .int (F_40 21), .int (F_40 22), .int (F_40 23), .int (F_40 24), .ref q9, .ref q10, .ref q11, .long (J_40 28)])), (q2, .inl (g.2 1, 2000, .inl tx)), (q4, .inl (g.2 0, 94, .inl td))]) [1, 2, 0] (by decide) rfl
    exact W.zret (v := (0 : Int32)) (ty := .boolean) hx hb hr rfl (fun t ht hW => ⟨⟨_, (F_40, J_40, td), rfl, hv, by rw [ht]; exact hP9, hD9⟩, hS.F ht⟩) hS.2.2 dX9_markLine_47
def vX9_markLine (F : Nat → Int32) (J : Nat → Int64) (tx : Nat → Int32) (td : Nat → Int32) (p1 : Int32) (p2 : Int32) (Q : Int32 → (Nat → Int32) → (Nat → Int64) → (Nat → Int32) → Prop) : Prop := (∀ y_7 : Int32, y_7 = ((20 : Int32) + ((37 : Int32) * p1)) → (vp_in (y_7 + (6 : Int32)) 94 ∧ ((¬ (td (y_7 + (6 : Int32)).toNatClampNeg) = (10 : Int32) → (vX9_markLine_c31 tx p1 p2 Q y_7 F J td)) ∧ ((td (y_7 + (6 : Int32)).toNatClampNeg) = (10 : Int32) → (∃ (f_28 : Int × Int), preX9_isBad f_28 F J (4 : Int32) (F 6) ∧ (∀ (F_28 : Nat → Int32), postX9_isBad f_28 F J (4 : Int32) (F 6) F_28 → (vX9_markLine_c31 tx p1 p2 Q y_7 F_28 J td)))))))
set_option maxHeartbeats 4000000 in
set_option maxRecDepth 100000 in
theorem wX9_markLine (l : Launch) (g : GP) (qM : Nat) (q1 : Nat) (q2 : Nat) (q3 : Nat) (q4 : Nat) (q5 : Nat) (q6 : Nat) (q7 : Nat) (q8 : Nat) (q9 : Nat) (q10 : Nat) (q11 : Nat) (sz : Nat) (F : Nat → Int32) (J : Nat → Int64) (tx : Nat → Int32) (td : Nat → Int32) (p1 : Int32) (p2 : Int32) {Q : Int32 → (Nat → Int32) → (Nat → Int64) → (Nat → Int32) → Prop} (hv : vX9_markLine F J tx td p1 p2 Q) : Met l yX9_markLine wsX9_markLine rmX9_markLine (va_Pc [.ref qM, .int p1, .int p2] (fun U => U.heap.size = sz ∧ va_P g.1 vwCl [(qM, .inr (9, [.int (F 0), .ref q1, .ref q2, .ref q3, .int (F 4), .int (F 5), .int (F 6), .int (F 7), .int (F 8), .int (F 9), .long (J 10), .int (F 11), .int (F 12), .int (F 13), .ref q4, .int (F 15), .ref q5, .ref q6, .ref q7, .int (F 19), .ref q8, .int (F 21), .int (F 22), .int (F 23), .int (F 24), .ref q9, .ref q10, .ref q11, .long (J 28)])), (q2, .inl (g.2 1, 2000, .inl tx)), (q4, .inl (g.2 0, 94, .inl td))] U.heap ∧ GK g U ∧ va_D (fun _ => True) [(qM, .inr (9, [.int (F 0), .ref q1, .ref q2, .ref q3, .int (F 4), .int (F 5), .int (F 6), .int (F 7), .int (F 8), .int (F 9), .long (J 10), .int (F 11), .int (F 12), .int (F 13), .ref q4, .int (F 15), .ref q5, .ref q6, .ref q7, .int (F 19), .ref q8, .int (F 21), .int (F 22), .int (F 23), .int (F 24), .ref q9, .ref q10, .ref q11, .long (J 28)])), (q2, .inl (g.2 1, 2000, .inl tx)), (q4, .inl (g.2 0, 94, .inl td))])) (va_Qi (fun (r : Int32) (u : (Nat → Int32) × (Nat → Int64) × (Nat → Int32)) => Q r u.1 u.2.1 u.2.2) (fun (u : (Nat → Int32) × (Nat → Int64) × (Nat → Int32)) t => va_P g.1 vwCl [(qM, .inr (9, [.int (u.1 0), .ref q1, .ref q2, .ref q3, .int (u.1 4), .int (u.1 5), .int (u.1 6), .int (u.1 7), .int (u.1 8), .int (u.1 9), .long (u.2.1 10), .int (u.1 11), .int (u.1 12), .int (u.1 13), .ref q4, .int (u.1 15), .ref q5, .ref q6, .ref q7, .int (u.1 19), .ref q8, .int (u.1 21), .int (u.1 22), .int (u.1 23), .int (u.1 24), .ref q9, .ref q10, .ref q11, .long (u.2.1 28)])), (q2, .inl (g.2 1, 2000, .inl tx)), (q4, .inl (g.2 0, 94, .inl u.2.2))] t.heap ∧ va_D (va_A [(qM, .inr (9, [.int (F 0), .ref q1, .ref q2, .ref q3, .int (F 4), .int (F 5), .int (F 6), .int (F 7), .int (F 8), .int (F 9), .long (J 10), .int (F 11), .int (F 12), .int (F 13), .ref q4, .int (F 15), .ref q5, .ref q6, .ref q7, .int (F 19), .ref q8, .int (F 21), .int (F 22), .int (F 23), .int (F 24), .ref q9, .ref q10, .ref q11, .long (J 28)])), (q2, .inl (g.2 1, 2000, .inl tx)), (q4, .inl (g.2 0, 94, .inl td))] sz) [(qM, .inr (9, [.int (u.1 0), .ref q1, .ref q2, .ref q3, .int (u.1 4), .int (u.1 5), .int (u.1 6), .int (u.1 7), .int (u.1 8), .int (u.1 9), .long (u.2.1 10), .int (u.1 11), .int (u.1 12), .int (u.1 13), .ref q4, .int (u.1 15), .ref q5, .ref q6, .ref q7, .int (u.1 19), .ref q8, .int (u.1 21), .int (u.1 22), .int (u.1 23), .int (u.1 24), .ref q9, .ref q10, .ref q11, .long (u.2.1 28)])), (q2, .inl (g.2 1, 2000, .inl tx)), (q4, .inl (g.2 0, 94, .inl u.2.2))]) (va_A [(qM, .inr (9, [.int (F 0), .ref q1, .ref q2, .ref q3, .int (F 4), .int (F 5), .int (F 6), .int (F 7), .int (F 8), .int (F 9), .long (J 10), .int (F 11), .int (F 12), .int (F 13), .ref q4, .int (F 15), .ref q5, .ref q6, .ref q7, .int (F 19), .ref q8, .int (F 21), .int (F 22), .int (F 23), .int (F 24), .ref q9, .ref q10, .ref q11, .long (J 28)])), (q2, .inl (g.2 1, 2000, .inl tx)), (q4, .inl (g.2 0, 94, .inl td))] sz)) 0 0 (va_A [(qM, .inr (9, [.int (F 0), .ref q1, .ref q2, .ref q3, .int (F 4), .int (F 5), .int (F 6), .int (F 7), .int (F 8), .int (F 9), .long (J 10), .int (F 11), .int (F 12), .int (F 13), .ref q4, .int (F 15), .ref q5, .ref q6, .ref q7, .int (F 19), .ref q8, .int (F 21), .int (F 22), .int (F 23), .int (F 24), .ref q9, .ref q10, .ref q11, .long (J 28)])), (q2, .inl (g.2 1, 2000, .inl tx)), (q4, .inl (g.2 0, 94, .inl td))] sz) := by
  refine Met.ofW (cc := cX9_markLine) (maxL := 6) (ret := (some .boolean)) (by decide) rfl ?_
  intro p e s m args below meth c s₁ B hml hv'
  obtain ⟨rfl, hsz, hP, hG, hD0⟩ := hv'
  have S : CallFix p m c cX9_markLine 6 s _ wsX9_markLine RX9 := ⟨B.exec, B.bytes, hml, findClass_of_methodNamed B.named, atoms_spec (ws := wsX9_markLine) B.pre⟩
  obtain ⟨hx, hb, hml, hown, hts⟩ := id S
  have hK := hG.1
  have hr := B.returns
  have hlocks := B.notSynchronized
  subst hsz
  have hD := hD0.self (sz := s.heap.size)
  generalize hAe : va_A [(qM, .inr (9, [.int (F 0), .ref q1, .ref q2, .ref q3, .int (F 4), .int (F 5), .int (F 6), .int (F 7), .int (F 8), .int (F 9), .long (J 10), .int (F 11), .int (F 12), .int (F 13), .ref q4, .int (F 15), .ref q5, .ref q6, .ref q7, .int (F 19), .ref q8, .int (F 21), .int (F 22), .int (F 23), .int (F 24), .ref q9, .ref q10, .ref q11, .long (J 28)])), (q2, .inl (g.2 1, 2000, .inl tx)), (q4, .inl (g.2 0, 94, .inl td))] s.heap.size = A at hD ⊢
  have hA : ∀ q : Nat, s.heap.size ≤ q → A q := fun q h => by rw [← hAe]; exact Or.inr h
  have hS : va_S A s.heap s.heap [] := va_S.rf
  clear hD0 hAe
  have hl := lv_entry ([.ref qM, .int p1, .int p2]) (n := 6) (Nat.le_of_ble_eq_true rfl)
  rw [lg_entry_eq]
  generalize (lg_sl ([.ref qM, .int p1, .int p2]) ++ List.replicate (6 - (lg_sl ([.ref qM, .int p1, .int p2])).length) Slot.unset).toArray = ls at hl ⊢
  have hl : lv_has ls 6 [(0, .ref qM), (1, .int p1), (2, .int p2)] := hl
  unfold vX9_markLine at hv
  refine lv_bipush (v := (20 : Int32)) hx hb dX9_markLine_0 (by decide) ?_
  refine lv_bipush (v := (37 : Int32)) hx hb dX9_markLine_2 (by decide) ?_
  refine lv_iload_n hx hb dX9_markLine_4 rfl (lv_at hl 1 rfl) ?_
  refine lv_imul hx hb dX9_markLine_5 ?_
  refine lv_iadd hx hb dX9_markLine_6 ?_
  refine lv_topi (fun y_7 ey_7 => ?_)
  have hv := hv y_7 ey_7
  refine lv_istore_n (lv' := [(3, .int y_7), (0, .ref qM), (1, .int p1), (2, .int p2)]) hx hb dX9_markLine_7 rfl hl (by decide) rfl (fun ls hl => ?_)
  refine lv_aload_n hx hb dX9_markLine_8 rfl (lv_at hl 1 rfl) ?_
  refine va_get (D := g.1) (ci := 9) (v := .ref q4) (C := RX9) (T := TX9) (N := 29) hx hb hts inX9_markLine_9 hown hK hP 0 rfl rfl 14 (by decide) (hts (.fieldLink RX9 21 "RangeCodesModel" "told" "[I") (List.mem_of_getElem? (i := 1) rfl)) (fun _ h9 => h9) rfl dX9_markLine_9 ?_
  refine lv_iload_n hx hb dX9_markLine_12 rfl (lv_at hl 0 rfl) ?_
  refine lv_bipush (v := (6 : Int32)) hx hb dX9_markLine_13 (by decide) ?_
  refine lv_iadd hx hb dX9_markLine_15 ?_
  obtain ⟨ho_1, hv⟩ := hv
  refine va_iald hx hb hK hP 2 0 rfl rfl ho_1 dX9_markLine_16 ?_
  refine lv_bipush (v := (10 : Int32)) hx hb dX9_markLine_17 (by decide) ?_
  obtain ⟨hvt, hvf⟩ := hv
  refine lv_icmp_ne (tgt := 31) hx hb dX9_markLine_19 (by decide) (fun hc => ?_) (fun hc => ?_)
  · have hv := hvt hc
    exact kX9_markLine_c31 S hr hlocks hG hA _ _ _ _ hv _ _ (hP.sub (ws' := [(qM, .inr (9, [.int (F 0), .ref q1, .ref q2, .ref q3, .int (F 4), .int (F 5), .int (F 6), .int (F 7), .int (F 8), .int (F 9), .long (J 10), .int (F 11), .int (F 12), .int (F 13), .ref q4, .int (F 15), .ref q5, .ref q6, .ref q7, .int (F 19), .ref q8, .int (F 21), .int (F 22), .int (F 23), .int (F 24), .ref q9, .ref q10, .ref q11, .long (J 28)])), (q2, .inl (g.2 1, 2000, .inl tx)), (q4, .inl (g.2 0, 94, .inl td))]) [0, 1, 2] rfl) (hD.sub (ws' := [(qM, .inr (9, [.int (F 0), .ref q1, .ref q2, .ref q3, .int (F 4), .int (F 5), .int (F 6), .int (F 7), .int (F 8), .int (F 9), .long (J 10), .int (F 11), .int (F 12), .int (F 13), .ref q4, .int (F 15), .ref q5, .ref q6, .ref q7, .int (F 19), .ref q8, .int (F 21), .int (F 22), .int (F 23), .int (F 24), .ref q9, .ref q10, .ref q11, .long (J 28)])), (q2, .inl (g.2 1, 2000, .inl tx)), (q4, .inl (g.2 0, 94, .inl td))]) [0, 1, 2] (by decide) rfl) hS ls (lv_sub hl [1, 3, 0] rfl)
  · have hv := hvf hc
    refine lv_aload_n hx hb dX9_markLine_22 rfl (lv_at hl 1 rfl) ?_
    refine lv_iconst (v := (4 : Int32)) hx hb dX9_markLine_23 (by decide) ?_
    refine lv_aload_n hx hb dX9_markLine_24 rfl (lv_at hl 1 rfl) ?_
    refine va_get (D := g.1) (ci := 9) (v := .int (F 6)) (C := RX9) (T := TX9) (N := 29) hx hb hts inX9_markLine_9 hown hK hP 0 rfl rfl 6 (by decide) (hts (.fieldLink RX9 79 "RangeCodesModel" "begin" "I") (List.mem_of_getElem? (i := 2) rfl)) (fun _ h9 => h9) rfl dX9_markLine_25 ?_
    obtain ⟨f_28, ho_2, hv⟩ := hv
    have hPc := hP.sub (ws' := [(qM, .inr (9, [.int (F 0), .ref q1, .ref q2, .ref q3, .int (F 4), .int (F 5), .int (F 6), .int (F 7), .int (F 8), .int (F 9), .long (J 10), .int (F 11), .int (F 12), .int (F 13), .ref q4, .int (F 15), .ref q5, .ref q6, .ref q7, .int (F 19), .ref q8, .int (F 21), .int (F 22), .int (F 23), .int (F 24), .ref q9, .ref q10, .ref q11, .long (J 28)]))]) [0] rfl
    have hDc := hD.sub (ws' := [(qM, .inr (9, [.int (F 0), .ref q1, .ref q2, .ref q3, .int (F 4), .int (F 5), .int (F 6), .int (F 7), .int (F 8), .int (F 9), .long (J 10), .int (F 11), .int (F 12), .int (F 13), .ref q4, .int (F 15), .ref q5, .ref q6, .ref q7, .int (F 19), .ref q8, .int (F 21), .int (F 22), .int (F 23), .int (F 24), .ref q9, .ref q10, .ref q11, .long (J 28)]))]) [0] (by decide) rfl
    have hFc := va_free (wc := [(qM, .inr (9, [.int (F 0), .ref q1, .ref q2, .ref q3, .int (F 4), .int (F 5), .int (F 6), .int (F 7), .int (F 8), .int (F 9), .long (J 10), .int (F 11), .int (F 12), .int (F 13), .ref q4, .int (F 15), .ref q5, .ref q6, .ref q7, .int (F 19), .ref q8, .int (F 21), .int (F 22), .int (F 23), .int (F 24), .ref q9, .ref q10, .ref q11, .long (J 28)]))]) hD hS hA [0] rfl
    refine va_callv (va_runV (As := [.int (4 : Int32), .int (F 6)]) (rest := []) S (wX9_isBad l g qM q1 q2 q3 q4 q5 q6 q7 q8 q9 q10 q11 s.heap.size F J (4 : Int32) (F 6) (sX9_isBad f_28 F J (4 : Int32) (F 6) ho_2)) (cwV 2 hts gX9_markLine_X9_isBad rfl rfl rfl (by decide +kernel) ⟨Nat.le_of_ble_eq_true rfl, Nat.le_of_ble_eq_true rfl⟩) ⟨blindRW, va_recv hK hP (ci := 9) (q0 := 0) rfl rfl, fun U hU hW => ⟨rfl, by rw [hU], by rw [hU]; exact hPc, hG.warm hW, hDc.weaken (fun _ _ _ _ => trivial)⟩⟩ rfl rfl hl.1 rfl (lv_room (Nat.le_of_ble_eq_true rfl)) dX9_markLine_28 ⟨Nat.le_of_ble_eq_true rfl, Nat.le_of_ble_eq_true rfl⟩) hS (fun q _ h => hFc q h) hFc (fun u t H1 locs ht hvm hw hB hz1 hk1 hS => ?_)
    obtain ⟨F_28, rfl⟩ : ∃ z, z = u := ⟨_, rfl⟩
    obtain ⟨hP1, hD1⟩ := hB
    rw [ht] at hP1
    have hv := hv F_28 hw
    obtain ⟨hP, hD⟩ := va_join (wr := [(q2, .inl (g.2 1, 2000, .inl tx)), (q4, .inl (g.2 0, 94, .inl td))]) (w1 := [(qM, .inr (9, [.int (F_28 0), .ref q1, .ref q2, .ref q3, .int (F_28 4), .int (F_28 5), .int (F_28 6), .int (F_28 7), .int (F_28 8), .int (F_28 9), .long (J 10), .int (F_28 11), .int (F_28 12), .int (F_28 13), .ref q4, .int (F_28 15), .ref q5, .ref q6, .ref q7, .int (F_28 19), .ref q8, .int (F_28 21), .int (F_28 22), .int (F_28 23), .int (F_28 24), .ref q9, .ref q10, .ref q11, .long (J 28)]))]) hP hD [0] [1, 2] rfl rfl (by decide) (by decide) hk1 hFc hP1 hD1
    clear hP1 hD1 hPc hDc hFc hk1
    generalize H1 = H at hP hS ⊢
    have hP : va_P g.1 vwCl [(q2, .inl (g.2 1, 2000, .inl tx)), (q4, .inl (g.2 0, 94, .inl td)), (qM, .inr (9, [.int (F_28 0), .ref q1, .ref q2, .ref q3, .int (F_28 4), .int (F_28 5), .int (F_28 6), .int (F_28 7), .int (F_28 8), .int (F_28 9), .long (J 10), .int (F_28 11), .int (F_28 12), .int (F_28 13), .ref q4, .int (F_28 15), .ref q5, .ref q6, .ref q7, .int (F_28 19), .ref q8, .int (F_28 21), .int (F_28 22), .int (F_28 23), .int (F_28 24), .ref q9, .ref q10, .ref q11, .long (J 28)]))] H := hP
    have hD : va_D A [(q2, .inl (g.2 1, 2000, .inl tx)), (q4, .inl (g.2 0, 94, .inl td)), (qM, .inr (9, [.int (F_28 0), .ref q1, .ref q2, .ref q3, .int (F_28 4), .int (F_28 5), .int (F_28 6), .int (F_28 7), .int (F_28 8), .int (F_28 9), .long (J 10), .int (F_28 11), .int (F_28 12), .int (F_28 13), .ref q4, .int (F_28 15), .ref q5, .ref q6, .ref q7, .int (F_28 19), .ref q8, .int (F_28 21), .int (F_28 22), .int (F_28 23), .int (F_28 24), .ref q9, .ref q10, .ref q11, .long (J 28)]))] := hD
    exact kX9_markLine_c31 S hr hlocks hG hA _ _ _ _ hv _ _ (hP.sub (ws' := [(qM, .inr (9, [.int (F_28 0), .ref q1, .ref q2, .ref q3, .int (F_28 4), .int (F_28 5), .int (F_28 6), .int (F_28 7), .int (F_28 8), .int (F_28 9), .long (J 10), .int (F_28 11), .int (F_28 12), .int (F_28 13), .ref q4, .int (F_28 15), .ref q5, .ref q6, .ref q7, .int (F_28 19), .ref q8, .int (F_28 21), .int (F_28 22), .int (F_28 23), .int (F_28 24), .ref q9, .ref q10, .ref q11, .long (J 28)])), (q2, .inl (g.2 1, 2000, .inl tx)), (q4, .inl (g.2 0, 94, .inl td))]) [2, 0, 1] rfl) (hD.sub (ws' := [(qM, .inr (9, [.int (F_28 0), .ref q1, .ref q2, .ref q3, .int (F_28 4), .int (F_28 5), .int (F_28 6), .int (F_28 7), .int (F_28 8), .int (F_28 9), .long (J 10), .int (F_28 11), .int (F_28 12), .int (F_28 13), .ref q4, .int (F_28 15), .ref q5, .ref q6, .ref q7, .int (F_28 19), .ref q8, .int (F_28 21), .int (F_28 22), .int (F_28 23), .int (F_28 24), .ref q9, .ref q10, .ref q11, .long (J 28)])), (q2, .inl (g.2 1, 2000, .inl tx)), (q4, .inl (g.2 0, 94, .inl td))]) [2, 0, 1] (by decide) rfl) hS ls (lv_sub hl [1, 3, 0] rfl)
abbrev preX9_markLine (b : Nat → Int32) (nb : Nat) (i : Nat) (f : Int × Int) (G : Lg) (w : Nat) (F : Nat → Int32) (J : Nat → Int64) (tx : Nat → Int32) (td : Nat → Int32) (p1 : Int32) (p2 : Int32) : Prop := rdM b nb i F J ∧ isTx b nb tx ∧ fm F = f ∧ flB f (tS b nb i) ∧ tK b nb i ≠ 0 ∧ (p1.toInt = 0 ∨ p1.toInt = 1) ∧ 11 ≤ w ∧ w ≤ 14 ∧ p2.toInt = (w : Int) - 11 ∧ (f.1 = 0 → mG G p1.toInt.toNat td) ∧ 0 ≤ (td (26 + 37 * p1.toInt.toNat)).toInt ∧ (td (26 + 37 * p1.toInt.toNat)).toInt ≤ 10
abbrev postX9_markLine (b : Nat → Int32) (nb : Nat) (i : Nat) (f : Int × Int) (G : Lg) (w : Nat) (F : Nat → Int32) (J : Nat → Int64) (tx : Nat → Int32) (td : Nat → Int32) (p1 : Int32) (p2 : Int32) (r : Int32) (F' : Nat → Int32) (J' : Nat → Int64) (td' : Nat → Int32) : Prop := rmA b nb (mkS b nb (tE b nb i) (tS b nb i) w (gm G) f) r F' J' ∧ ((mkS b nb (tE b nb i) (tS b nb i) w (gm G) f).2.2.1 = 0 → mG (mkG b nb (tE b nb i) w G) p1.toInt.toNat td') ∧ 0 ≤ (td' (26 + 37 * p1.toInt.toNat)).toInt ∧ (td' (26 + 37 * p1.toInt.toNat)).toInt ≤ 10 ∧ ∀ k, k < 20 + 37 * p1.toInt.toNat ∨ 57 + 37 * p1.toInt.toNat ≤ k → td' k = td k
theorem sX9_markLine_73 (b : Nat → Int32) (nb : Nat) (i : Nat) (f : Int × Int) (G : Lg) (w : Nat) (F : Nat → Int32) (J : Nat → Int64) (tx : Nat → Int32) (td : Nat → Int32) (p1 : Int32) (p2 : Int32) (H : preX9_markLine b nb i f G w F J tx td p1 p2) (x3 : Int32) (h3 : x3.toInt = ((20 + 37 * p1.toInt.toNat : Nat) : Int)) (F1 : Nat → Int32) (J1 : Nat → Int64) (x4 : Int32) (hA : rmA b nb (mkS b nb (tE b nb i) (tS b nb i) w (gm G) f) 1 F1 J1) (h4 : x4.toInt = (tV b nb (tE b nb i) : Int)) (h15 : w = 14 → (F1 15).toInt = (tV b nb (tE b nb (tE b nb i)) : Int)) (hz : (mkS b nb (tE b nb i) (tS b nb i) w (gm G) f).2.2.1 = 0 → f.1 = 0 ∧ gm G < 10 ∧ tV b nb (tE b nb i) ≤ (if w = 14 then tV b nb (tE b nb (tE b nb i)) else tV b nb (tE b nb i)) ∧ (if w = 14 then tV b nb (tE b nb (tE b nb i)) else tV b nb (tE b nb i)) ≤ 199) : vX9_markLine_c73 tx p1 p2 (postX9_markLine b nb i f G w F J tx td p1 p2) x3 x4 F1 J1 td := by
  obtain ⟨hr0, htx, hf, hfl, hk0, hl, hw1, hw2, hp, hG, ht0, ht10⟩ := id H
  have hl2 : p1.toInt.toNat ≤ 1 := by omega
  have x6 : (x3 + (6 : Int32)).toInt = ((26 + 37 * p1.toInt.toNat : Nat) : Int) := by rw [q_addN (b := 6) h3 rfl (by omega)]; omega
  have x7 : (x3 + (7 : Int32)).toInt = ((27 + 37 * p1.toInt.toNat : Nat) : Int) := by rw [q_addN (b := 7) h3 rfl (by omega)]; omega
  have i6 := q_in (N := 94) x6 (by omega)
  have hp3 : (p2 = (3 : Int32)) = (w = 14) := by rw [fa_eq, z3, hp]; exact propext (by omega)
  generalize hl0 : p1.toInt.toNat = l at *
  unfold vX9_markLine_c73
  rw [q_cl x6, fa_le, z10, hp3]
  refine ⟨i6, fun c => ⟨hA, fun z => ?_, by rw [hl0]; exact ht0, by rw [hl0]; exact ht10, fun _ _ => rfl⟩, fun c => ⟨i6, fun y ey => ?_⟩⟩
  · obtain ⟨a1, a2, _⟩ := hz z
    have := (hG a1).2.1
    omega
  · generalize ht : td (26 + 37 * l) = t at *
    have e0 : t.toInt = (t.toInt.toNat : Int) := by omega
    have m1 : ((3 : Int32) * t).toInt = ((3 * t.toInt.toNat : Nat) : Int) := q_mulN (a := 3) rfl e0 (by omega)
    have hy : y.toInt = ((27 + 37 * l + 3 * t.toInt.toNat : Nat) : Int) := by rw [ey]; exact q_addN x7 m1 (by omega)
    have y1 : (y + (1 : Int32)).toInt = ((28 + 37 * l + 3 * t.toInt.toNat : Nat) : Int) := by rw [q_addN (b := 1) hy rfl (by omega)]; omega
    have y2 : (y + (2 : Int32)).toInt = ((29 + 37 * l + 3 * t.toInt.toNat : Nat) : Int) := by rw [q_addN (b := 2) hy rfl (by omega)]; omega
    have fin : ∀ s0 : Int32, s0.toInt = ((if w = 14 then tV b nb (tE b nb (tE b nb i)) else tV b nb (tE b nb i) : Nat) : Int) → vX9_markLine_c146 tx p1 p2 (postX9_markLine b nb i f G w F J tx td p1 p2) x3 s0 (y + (2 : Int32)) F1 J1 (upd (upd td (27 + 37 * l + 3 * t.toInt.toNat) p2) (28 + 37 * l + 3 * t.toInt.toNat) x4) := fun s0 hs0 => by
      unfold vX9_markLine_c146
      refine ⟨q_in y2 (by omega), i6, fun a ea => ⟨i6, ?_⟩⟩
      rw [q_cl y2, q_cl x6, upd_ne (by omega), upd_ne (by omega), upd_ne (by omega), ht] at ea
      rw [q_cl y2, q_cl x6]
      have ha : a.toInt = ((t.toInt.toNat + 1 : Nat) : Int) := by rw [ea]; exact q_1 e0 (by omega)
      unfold postX9_markLine
      rw [hl0]
      refine ⟨hA, fun z => ?_, by rw [upd_eq]; omega, by rw [upd_eq]; omega, fun k hk => ?_⟩
      · obtain ⟨a1, a2, a3, a4⟩ := hz z
        have hg := hG a1
        have em : t.toInt.toNat = gm G := by have := hg.2.1; rw [ht] at this; omega
        have q := mG_gA hg a2 (k := w - 11) (by omega) a3 a4 (fun q => by rw [if_neg (by omega)]) (x := p2) (y := x4) (z := s0) (w := a) (by omega) h4 hs0 (by rw [ha, em])
        unfold up4 at q
        rw [em, show 26 + 37 * l = 20 + 37 * l + 6 by omega, show 27 + 37 * l + 3 * gm G = 20 + 37 * l + (7 + 3 * gm G) by omega, show 28 + 37 * l + 3 * gm G = 20 + 37 * l + (7 + 3 * gm G + 1) by omega, show 29 + 37 * l + 3 * gm G = 20 + 37 * l + (7 + 3 * gm G + 2) by omega]
        exact q
      · rw [upd_ne (by omega), upd_ne (by omega), upd_ne (by omega), upd_ne (by omega)]
    rw [q_cl hy, q_cl y1]
    exact ⟨q_in hy (by omega), q_in y1 (by omega), fun d => fin _ (by rw [if_neg d]; exact h4), fun d => fin _ (by rw [if_pos d]; exact h15 d)⟩
theorem sX9_markLine_31 (b : Nat → Int32) (nb : Nat) (i : Nat) (f : Int × Int) (G : Lg) (w : Nat) (F : Nat → Int32) (J : Nat → Int64) (tx : Nat → Int32) (td : Nat → Int32) (p1 : Int32) (p2 : Int32) (H : preX9_markLine b nb i f G w F J tx td p1 p2) (x3 : Int32) (h3 : x3.toInt = ((20 + 37 * p1.toInt.toNat : Nat) : Int)) (F1 : Nat → Int32) (hat : atM b nb (tE b nb i) F1 tx) (hf1 : fm F1 = if 10 ≤ gm G then noF f 4 (tS b nb i) else f) : vX9_markLine_c31 tx p1 p2 (postX9_markLine b nb i f G w F J tx td p1 p2) x3 F1 J td := by
  obtain ⟨hr0, htx, hf, hfl, hk0, hl, hw1, hw2, hp, hG, ht0, ht10⟩ := id H
  have hi := hr0.2.2.1
  have hgt := tE_gt b hi hk0
  have he1 := tE_le b hi
  have hs1 := tS_le b he1.2
  have he2 := tE_le b he1.2
  have hp3 : (p2 = (3 : Int32)) = (w = 14) := by rw [fa_eq, z3, hp]; exact propext (by omega)
  refine ⟨b, nb, tE b nb i, hat, fun F2 J2 h2 => ⟨b, nb, tE b nb i, _, ⟨h2.1, htx, rfl, ?_⟩, fun r F3 J3 h4 => ?_⟩⟩
  · rw [fm_kp h2.2, hf1]; exact flB_if hfl (by omega)
  · rw [fm_kp h2.2, hf1] at h4
    obtain ⟨⟨h4a, h4b, h4c⟩, h4d⟩ := h4
    rw [show (0 : Int32).toInt = 0 from rfl, z199] at h4a h4b h4c h4d
    rw [h4a, q_if1, hp3]
    refine ⟨fun c => ?_, fun c => ?_⟩
    · have c := Decidable.not_not.mp c
      have e15 := h4d c
      have hk := numS_t.mp c
      obtain ⟨g1, g2, g3⟩ := h4b c
      rw [numS_p hk] at g1 g3
      have hv := tV_le he1.2 hk
      have bad : (numS b nb (tE b nb i) 0 199 (if 10 ≤ gm G then noF f 4 (tS b nb i) else f)).2.2.1 = 0 → f.1 = 0 ∧ gm G < 10 ∧ tV b nb (tE b nb i) ≤ 199 := fun z => by
        have q := numS_0 z
        have q2 := if_f (k := 4) (by decide) q.2.1
        exact ⟨q2.1, by omega, by have := q.2.2.2.1; omega⟩
      refine ⟨fun d => ?_, fun d => ⟨b, nb, tE b nb (tE b nb i), _, ⟨g1, htx, g2, g3⟩, fun r4 F4 J4 h5 => ?_⟩⟩
      · have em : mkS b nb (tE b nb i) (tS b nb i) w (gm G) f = numS b nb (tE b nb i) 0 199 (if 10 ≤ gm G then noF f 4 (tS b nb i) else f) := by unfold mkS; rw [if_neg (fun q => d q.2)]
        refine sX9_markLine_73 b nb i f G w F J tx td p1 p2 H x3 h3 F3 J3 _ (by rw [em]; exact ⟨by rw [if_pos c], h4b, h4c⟩) e15 (fun q => absurd q d) (fun z => ?_)
        rw [em] at z
        have := bad z
        rw [if_neg d]; omega
      · obtain ⟨⟨h5a, h5b, h5c⟩, h5d⟩ := h5
        rw [e15, z199] at h5a h5b h5c h5d
        have em : mkS b nb (tE b nb i) (tS b nb i) w (gm G) f = numS b nb (tE b nb (tE b nb i)) (tV b nb (tE b nb i)) 199 (numS b nb (tE b nb i) 0 199 (if 10 ≤ gm G then noF f 4 (tS b nb i) else f)).2.2 := by unfold mkS; rw [if_pos ⟨c, d⟩]
        rw [← em] at h5a h5b h5c h5d
        rw [h5a, q_if1]
        refine ⟨fun e => ?_, fun e => ⟨⟨by rw [if_neg e], h5b, h5c⟩, fun z => absurd z (mkS_n (by simpa using e)), ht0, ht10, fun _ _ => rfl⟩⟩
        have e := Decidable.not_not.mp e
        refine sX9_markLine_73 b nb i f G w F J tx td p1 p2 H x3 h3 F4 J4 _ ⟨by rw [if_pos e], h5b, h5c⟩ e15 (fun _ => h5d e) (fun z => ?_)
        rw [em] at z
        have q := numS_0 z
        have := bad q.2.1
        rw [if_pos d]
        have := q.2.2.1
        have := q.2.2.2.1
        omega
    · have em : mkS b nb (tE b nb i) (tS b nb i) w (gm G) f = numS b nb (tE b nb i) 0 199 (if 10 ≤ gm G then noF f 4 (tS b nb i) else f) := by unfold mkS; rw [if_neg (fun q => c q.1)]
      unfold postX9_markLine
      rw [em]
      exact ⟨⟨by rw [if_neg c], h4b, h4c⟩, fun z => absurd z (numS_n (by simpa using c)), ht0, ht10, fun _ _ => rfl⟩
theorem sX9_markLine (b : Nat → Int32) (nb : Nat) (i : Nat) (f : Int × Int) (G : Lg) (w : Nat) (F : Nat → Int32) (J : Nat → Int64) (tx : Nat → Int32) (td : Nat → Int32) (p1 : Int32) (p2 : Int32) (H : preX9_markLine b nb i f G w F J tx td p1 p2) : vX9_markLine F J tx td p1 p2 (postX9_markLine b nb i f G w F J tx td p1 p2) := by
  obtain ⟨hr0, htx, hf, hfl, hk0, hl, hw1, hw2, hp, hG, ht0, ht10⟩ := id H
  have e1 : p1.toInt = (p1.toInt.toNat : Int) := by omega
  have key : (if (td (26 + 37 * p1.toInt.toNat)).toInt = 10 then noF f 4 (tS b nb i) else f) = if 10 ≤ gm G then noF f 4 (tS b nb i) else f := if_k (fun z => by have h := (hG z).2.1; omega)
  have hat := rdM_at hr0 htx
  intro y ey
  have hy : y.toInt = ((20 + 37 * p1.toInt.toNat : Nat) : Int) := by rw [ey]; exact q_addN (a := 20) rfl (q_mulN (a := 37) rfl e1 (by omega)) (by omega)
  have y6 : (y + (6 : Int32)).toInt = ((26 + 37 * p1.toInt.toNat : Nat) : Int) := by rw [q_addN (b := 6) hy rfl (by omega)]; omega
  rw [q_cl y6, fa_eq (td _), z10]
  refine ⟨q_in y6 (by omega), fun c => sX9_markLine_31 b nb i f G w F J tx td p1 p2 H y hy F hat (by rw [← key, if_neg c]; exact hf), fun c => ⟨f, ⟨hf, by rw [hr0.2.2.2.1]; exact hfl, by rw [hr0.2.2.2.1]; omega⟩, fun F1 h1 => sX9_markLine_31 b nb i f G w F J tx td p1 p2 H y hy F1 ?_ ?_⟩⟩
  · exact ⟨by rw [h1.2 5 (by decide) (by decide)]; exact hat.1, hat.2.1, by rw [h1.2 4 (by decide) (by decide)]; exact hat.2.2.1, hat.2.2.2.1, htx⟩
  · rw [← key, if_pos c, h1.1, hr0.2.2.2.1]; rfl
