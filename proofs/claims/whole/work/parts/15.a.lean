-- the reference's face
def fcR (T : Cd) (G0 G1 : Lg) (lim : Nat) (al : Nat → Int32) : Prop := mT T al ∧ mG G0 0 al ∧ mG G1 1 al ∧ (al 1).toInt = (lim : Int) ∧ lim ≤ 9999 ∧ 1 ≤ lim
theorem fcR_ll {T : Cd} {G0 G1 : Lg} {lim : Nat} {al : Nat → Int32} (h : fcR T G0 G1 lim al) (F : Nat → Int32) (J : Nat → Int64) (he ma : Nat → Int32) {p1 : Int32} (hl : p1.toInt = 0 ∨ p1.toInt = 1) : preX9_laysLeg T G0 G1 p1.toInt.toNat lim F J al he ma p1 := ⟨h.1, h.2.1, h.2.2.1, by omega, by omega, h.2.2.2.1, h.2.2.2.2.1⟩
theorem pk_mG {G0 G1 : Lg} {al : Nat → Int32} (h0 : mG G0 0 al) (h1 : mG G1 1 al) {l : Nat} (hl : l < 2) : mG (pkG G0 G1 l) l al := by
  rcases (show l = 0 ∨ l = 1 by omega) with rfl | rfl
  · exact h0
  · exact h1
theorem in_to {x y : Int32} {n : Nat} (hx : x.toInt = (n : Int)) : (if (0 : Int32).toInt ≤ y.toInt ∧ y.toInt ≤ (x - (1 : Int32)).toInt then (1 : Int32) else 0) = if 0 ≤ y.toInt ∧ y.toInt < (n : Int) then 1 else 0 := by
  have h := fb_rng x
  rw [q_sub hx z1 (by omega) (by omega), z0]
  by_cases c : 0 ≤ y.toInt ∧ y.toInt < (n : Int)
  · rw [if_pos c, if_pos ⟨c.1, by omega⟩]
  · rw [if_neg c, if_neg (fun q => c ⟨q.1, by omega⟩)]
/-- what lies there behind laysLeg() -/
def rlC (T : Cd) (G0 G1 : Lg) (lim l : Nat) (F he ma : Nat → Int32) : Prop := isH (hN T G0 G1 lim l) (gmn (pkG G0 G1 l)) he ∧ isMA T (mN T G0 G1 lim l) ma ∧ isD T (bN T G0 G1 lim l) lim (F 21) (F 22) (F 23) (F 24) ∧ (l = 1 → isLt (latO T G0 lim) (F 19))
theorem rlC_of {T : Cd} {G0 G1 : Lg} {lim l : Nat} {F F' he ma : Nat → Int32} (h : hrd T (pkG G0 G1 l) (ltL T G0 lim l) lim (gfr (pkG G0 G1 l)) (gmn (pkG G0 G1 l)) he ma (F' 21) (F' 22) (F' 23) (F' 24) ∧ keep5 F F' ∧ (l = 1 → isLt (latO T G0 lim) (F' 19))) : rlC T G0 G1 lim l F' he ma := ⟨fun i hi => ⟨h.1.1 i hi, heN_le _ _ _ _ _⟩, fun p hp w hw => h.1.2.1 p hp w hw, h.1.2.2, h.2.2⟩
theorem mT_L {T : Cd} {al : Nat → Int32} (h : mT T al) {p : Nat} (hp : p < cn T) : (al (5 + 3 * p + 0)).toInt = (cL T p : Int) ∧ 2 ≤ cL T p ∧ cL T p ≤ 13 := h.2.1 p hp
theorem mT_V {T : Cd} {al : Nat → Int32} (h : mT T al) {p : Nat} (hp : p < cn T) : (al (5 + 3 * p + 1)).toInt = (cV T p : Int) ∧ cV T p ≤ 9 := by
  have := h.2.2.1 p hp
  rw [show 5 + 3 * p + 1 = 6 + 3 * p by omega]; exact this
theorem mT_R {T : Cd} {al : Nat → Int32} (h : mT T al) {p : Nat} (hp : p < cn T) : (al (5 + 3 * p + 2)).toInt = (cR T p : Int) ∧ cR T p < 2 ^ cL T p := by
  have := h.2.2.2 p hp
  rw [show 5 + 3 * p + 2 = 7 + 3 * p by omega]; exact this
/-- another number of a leg -/
def gS (G : Lg) (j : Nat) (v : Int) : Lg := (fun i => if i = j then v else G.1 i, G.2)
/-- another number of one of two legs -/
def sG0 (G0 : Lg) (l j : Nat) (v : Int) : Lg := if l = 0 then gS G0 j v else G0
def sG1 (G1 : Lg) (l j : Nat) (v : Int) : Lg := if l = 0 then G1 else gS G1 j v
theorem upd_ne {f : Nat → Int32} {k j : Nat} {v : Int32} (h : j ≠ k) : upd f k v j = f j := by unfold upd; rw [if_neg h]
theorem upd_eq {f : Nat → Int32} {k : Nat} {v : Int32} : upd f k v k = v := by unfold upd; rw [if_pos rfl]
theorem upd_back {f : Nat → Int32} {k : Nat} {v w : Int32} (h : w = f k) : upd (upd f k v) k w = f := by
  funext j
  by_cases e : j = k
  · subst e; rw [upd_eq, h]
  · rw [upd_ne e, upd_ne e]
theorem mT_leg {T : Cd} {al : Nat → Int32} (h : mT T al) (hn : cn T ≤ 5) {k : Nat} (hk : 20 ≤ k) (v : Int32) : mT T (upd al k v) := by
  refine ⟨?_, fun p hp => ?_, fun p hp => ?_, fun p hp => ?_⟩
  · rw [upd_ne (by omega)]; exact h.1
  · show (upd al k v (5 + 3 * p)).toInt = _ ∧ _
    rw [upd_ne (by omega)]; exact h.2.1 p hp
  · show (upd al k v (6 + 3 * p)).toInt = _ ∧ _
    rw [upd_ne (by omega)]; exact h.2.2.1 p hp
  · show (upd al k v (7 + 3 * p)).toInt = _ ∧ _
    rw [upd_ne (by omega)]; exact h.2.2.2 p hp
theorem mG_ne {G : Lg} {l : Nat} {al : Nat → Int32} (h : mG G l al) {k : Nat} (hk : k < 20 + 37 * l ∨ 57 + 37 * l ≤ k) (v : Int32) : mG G l (upd al k v) := by
  obtain ⟨ok, h2, h3, h4⟩ := h
  have hm := ok.2.2.2.2.2.2.1
  refine ⟨ok, ?_, fun j hj => ?_, fun j hj => ?_⟩
  · rw [upd_ne (by omega)]; exact h2
  · show (upd al k v (20 + 37 * l + j)).toInt = _
    rw [upd_ne (by omega)]; exact h3 j hj
  · show (upd al k v (27 + 37 * l + 3 * j)).toInt = _ ∧ (upd al k v (28 + 37 * l + 3 * j)).toInt = _ ∧ (upd al k v (29 + 37 * l + 3 * j)).toInt = _
    rw [upd_ne (by omega), upd_ne (by omega), upd_ne (by omega)]; exact h4 j hj
theorem okG_S {G : Lg} (h : okG G) {j : Nat} {v : Int} (hv : (j = 2 ∧ 0 ≤ v ∧ v ≤ 14000) ∨ (j = 3 ∧ 1 ≤ v ∧ v ≤ 200)) : okG (gS G j v) := by
  rcases hv with ⟨rfl, a, b⟩ | ⟨rfl, a, b⟩
  · exact ⟨h.1, h.2.1, ⟨a, b⟩, h.2.2.2⟩
  · exact ⟨h.1, h.2.1, h.2.2.1, ⟨a, b⟩, h.2.2.2.2⟩
theorem mG_S {G : Lg} {l : Nat} {al : Nat → Int32} (h : mG G l al) {j : Nat} {v : Int} (hv : (j = 2 ∧ 0 ≤ v ∧ v ≤ 14000) ∨ (j = 3 ∧ 1 ≤ v ∧ v ≤ 200)) {x : Int32} (hx : x.toInt = v) : mG (gS G j v) l (upd al (20 + 37 * l + j) x) := by
  obtain ⟨ok, h2, h3, h4⟩ := h
  refine ⟨okG_S ok hv, ?_, fun i hi => ?_, fun i hi => ?_⟩
  · rw [upd_ne (by omega)]; exact h2
  · show (upd al (20 + 37 * l + j) x (20 + 37 * l + i)).toInt = if i = j then v else gn G i
    by_cases e : i = j
    · subst e; rw [upd_eq, if_pos rfl]; exact hx
    · rw [upd_ne (by omega), if_neg e]; exact h3 i hi
  · show (upd al (20 + 37 * l + j) x (27 + 37 * l + 3 * i)).toInt = _ ∧ (upd al (20 + 37 * l + j) x (28 + 37 * l + 3 * i)).toInt = _ ∧ (upd al (20 + 37 * l + j) x (29 + 37 * l + 3 * i)).toInt = _
    rw [upd_ne (by omega), upd_ne (by omega), upd_ne (by omega)]; exact h4 i hi
theorem fcR_S {T : Cd} {G0 G1 : Lg} {lim : Nat} {al : Nat → Int32} (h : fcR T G0 G1 lim al) {l : Nat} (hl : l < 2) {j : Nat} {v : Int} (hv : (j = 2 ∧ 0 ≤ v ∧ v ≤ 14000) ∨ (j = 3 ∧ 1 ≤ v ∧ v ≤ 200)) {x : Int32} (hx : x.toInt = v) : fcR T (sG0 G0 l j v) (sG1 G1 l j v) lim (upd al (20 + 37 * l + j) x) := by
  obtain ⟨hT, h0, h1, h2, h3, h4⟩ := h
  refine ⟨mT_leg hT hT.1.2 (by omega) _, ?_, ?_, by rw [upd_ne (by omega)]; exact h2, h3, h4⟩
  · rcases (show l = 0 ∨ l = 1 by omega) with rfl | rfl
    · exact mG_S h0 hv hx
    · exact mG_ne h0 (by omega) _
  · rcases (show l = 0 ∨ l = 1 by omega) with rfl | rfl
    · exact mG_ne h1 (by omega) _
    · exact mG_S h1 hv hx
theorem pk_S (G0 G1 : Lg) {l : Nat} (hl : l < 2) (j : Nat) (v : Int) : pkG (sG0 G0 l j v) (sG1 G1 l j v) l = gS (pkG G0 G1 l) j v := by
  rcases (show l = 0 ∨ l = 1 by omega) with rfl | rfl <;> rfl
theorem lt_S (T : Cd) (G0 : Lg) (lim : Nat) {l : Nat} (hl : l < 2) (j : Nat) (v : Int) : ltL T (sG0 G0 l j v) lim l = ltL T G0 lim l := by
  unfold ltL
  rcases (show l = 0 ∨ l = 1 by omega) with rfl | rfl
  · rw [if_pos rfl, if_pos rfl]
  · rw [show sG0 G0 1 j v = G0 from if_neg (by decide)]
theorem losB_S (G : Lg) (j : Nat) (v : Int) (i : Nat) : ∀ k, losB (gS G j v) i k = losB G i k
  | 0 => rfl
  | k + 1 => by rw [losB, losB, losB_S G j v i k]; rfl
theorem fliB_S (G : Lg) (j : Nat) (v : Int) (i : Nat) : ∀ k, fliB (gS G j v) i k = fliB G i k
  | 0 => rfl
  | k + 1 => by rw [fliB, fliB, fliB_S G j v i k]; rfl
theorem jmp_S (G : Lg) (j : Nat) (v : Int) (i : Nat) : ∀ k, jmp (gS G j v) i k = jmp G i k
  | 0 => rfl
  | k + 1 => by rw [jmp, jmp, jmp_S G j v i k]; rfl
theorem gn_S (G : Lg) {j k : Nat} (v : Int) (h : k ≠ j) : gn (gS G j v) k = gn G k := if_neg h
theorem he_S (T : Cd) (lt : Option Nat) (G : Lg) {j : Nat} (hj : j = 2 ∨ j = 3) (v : Int) (fr : Nat) : heN T lt (gS G j v) fr = heN T lt G fr := by
  funext i
  have hm : gm (gS G j v) = gm G := rfl
  have e0 := gn_S G (j := j) (k := 0) v (by omega)
  have e1 := gn_S G (j := j) (k := 1) v (by omega)
  have e4 := gn_S G (j := j) (k := 4) v (by omega)
  have e5 := gn_S G (j := j) (k := 5) v (by omega)
  have hl : lagZ (gS G j v) i (fr + i) = lagZ G i (fr + i) := by unfold lagZ; rw [hm, e0, e1, jmp_S]
  have hno : noB (gS G j v) i = noB G i := by unfold noB; rw [e4, e5]
  unfold heN
  rw [hm, losB_S, fliB_S, hl, hno]
theorem bN_3 (T : Cd) (G0 G1 : Lg) (lim : Nat) {l : Nat} (hl : l < 2) (n : Nat) : bN T (sG0 G0 l 3 (n : Int)) (sG1 G1 l 3 (n : Int)) lim l = bA T G0 G1 lim l (gfr (pkG G0 G1 l)) n := by
  unfold bN mN hN bA hA
  rw [pk_S G0 G1 hl, lt_S T G0 lim hl, he_S T _ _ (Or.inr rfl)]
  rfl
theorem bN_2 (T : Cd) (G0 G1 : Lg) (lim : Nat) {l : Nat} (hl : l < 2) (n : Nat) : bN T (sG0 G0 l 2 (n : Int)) (sG1 G1 l 2 (n : Int)) lim l = bA T G0 G1 lim l n (gmn (pkG G0 G1 l)) := by
  unfold bN mN hN bA hA
  rw [pk_S G0 G1 hl, lt_S T G0 lim hl, he_S T _ _ (Or.inl rfl)]
  rfl
set_option maxRecDepth 20000 in
theorem ggX9_heard_X9_isLeg : GoodIn wsX9_heard wsX9_isLeg := goodIn_r _ [6, 7, 8, 5, 9] (by decide +kernel) (by decide +kernel)
set_option maxRecDepth 20000 in
theorem gX9_heard_X9_isLeg : GoodIn wsX9_heard (va_wsS RX9 182 yX9_isLeg wsX9_isLeg) := goodIn_app (goodIn_of _ (by decide +kernel)) ggX9_heard_X9_isLeg
set_option maxRecDepth 20000 in
theorem ggX9_heard_X9_ofLeg : GoodIn wsX9_heard wsX9_ofLeg := goodIn_r _ [13, 14, 111, 112, 113, 114, 115, 116, 117, 118, 119, 120, 121, 122, 123, 124, 125, 126, 127, 128, 129, 130, 131, 132, 133, 134, 135, 136, 137, 138, 139] (by decide +kernel) (by decide +kernel)
set_option maxRecDepth 20000 in
theorem gX9_heard_X9_ofLeg : GoodIn wsX9_heard (wsV RX9 185 RX9 yX9_ofLeg wsX9_ofLeg) := goodIn_app (goodIn_of _ (by decide +kernel)) ggX9_heard_X9_ofLeg
set_option maxRecDepth 20000 in
theorem ggX9_heard_X9_in : GoodIn wsX9_heard wsX9_in := goodIn_r _ [9] (by decide +kernel) (by decide +kernel)
set_option maxRecDepth 20000 in
theorem gX9_heard_X9_in : GoodIn wsX9_heard (va_wsS RX9 63 yX9_in wsX9_in) := goodIn_app (goodIn_of _ (by decide +kernel)) ggX9_heard_X9_in
set_option maxRecDepth 20000 in
theorem ggX9_heard_X9_laysLeg : GoodIn wsX9_heard wsX9_laysLeg := goodIn_r _ [18, 19, 20, 21, 22, 23, 5, 24, 25, 26, 27, 28, 29, 30, 31, 32, 2, 10, 11, 12, 13, 14, 33, 34, 35, 36, 37, 38, 39, 40, 41, 42, 43, 44, 45, 46, 47, 48, 49, 50, 51, 52, 53, 54, 55, 56, 57, 58, 59, 60, 61, 62, 63, 64, 65, 7, 8, 9, 66, 67, 68, 69, 70, 71, 72, 73, 74, 75, 76, 77, 78, 79, 80, 81, 82, 83, 84, 85, 86, 87, 88, 89, 90, 91, 92, 93, 94, 95, 96, 97, 98, 99, 100, 101, 102, 103, 104, 105, 106, 107, 108, 109, 110, 111, 112, 113, 114, 115, 116, 117, 118, 119, 120, 121, 122, 123, 124, 125, 126, 127, 128, 129, 130, 131, 132, 133, 134, 135, 136, 137, 138, 139] (by decide +kernel) (by decide +kernel)
set_option maxRecDepth 20000 in
theorem gX9_heard_X9_laysLeg : GoodIn wsX9_heard (wsV RX9 294 RX9 yX9_laysLeg wsX9_laysLeg) := goodIn_app (goodIn_of _ (by decide +kernel)) ggX9_heard_X9_laysLeg
theorem dX9_heard_0 : decode cX9_heard 0 = .ok (.aload_n 0, 1) := by decide +kernel
theorem dX9_heard_1 : decode cX9_heard 1 = .ok (.iconst 0, 1) := by decide +kernel
theorem dX9_heard_2 : decode cX9_heard 2 = .ok (.putfield 51, 3) := by decide +kernel
theorem dX9_heard_5 : decode cX9_heard 5 = .ok (.iload_n 1, 1) := by decide +kernel
theorem dX9_heard_6 : decode cX9_heard 6 = .ok (.invokestatic 182, 3) := by decide +kernel
theorem dX9_heard_9 : decode cX9_heard 9 = .ok (.ifCond .eq 19, 3) := by decide +kernel
theorem dX9_heard_12 : decode cX9_heard 12 = .ok (.iload_n 2, 1) := by decide +kernel
theorem dX9_heard_13 : decode cX9_heard 13 = .ok (.iconst 0, 1) := by decide +kernel
theorem dX9_heard_14 : decode cX9_heard 14 = .ok (.aload_n 0, 1) := by decide +kernel
theorem dX9_heard_15 : decode cX9_heard 15 = .ok (.iload_n 1, 1) := by decide +kernel
theorem dX9_heard_16 : decode cX9_heard 16 = .ok (.iconst 3, 1) := by decide +kernel
theorem dX9_heard_17 : decode cX9_heard 17 = .ok (.invokevirtual 185, 3) := by decide +kernel
theorem dX9_heard_20 : decode cX9_heard 20 = .ok (.iconst 1, 1) := by decide +kernel
theorem dX9_heard_21 : decode cX9_heard 21 = .ok (.isub, 1) := by decide +kernel
theorem dX9_heard_22 : decode cX9_heard 22 = .ok (.invokestatic 63, 3) := by decide +kernel
theorem dX9_heard_25 : decode cX9_heard 25 = .ok (.ifCond .ne 5, 3) := by decide +kernel
theorem dX9_heard_28 : decode cX9_heard 28 = .ok (.iconst (-1), 1) := by decide +kernel
theorem dX9_heard_29 : decode cX9_heard 29 = .ok (.ireturn, 1) := by decide +kernel
theorem dX9_heard_30 : decode cX9_heard 30 = .ok (.aload_n 0, 1) := by decide +kernel
theorem dX9_heard_31 : decode cX9_heard 31 = .ok (.iload_n 1, 1) := by decide +kernel
theorem dX9_heard_32 : decode cX9_heard 32 = .ok (.invokevirtual 294, 3) := by decide +kernel
theorem dX9_heard_35 : decode cX9_heard 35 = .ok (.aload_n 0, 1) := by decide +kernel
theorem dX9_heard_36 : decode cX9_heard 36 = .ok (.getfield 30, 3) := by decide +kernel
theorem dX9_heard_39 : decode cX9_heard 39 = .ok (.iload_n 2, 1) := by decide +kernel
theorem dX9_heard_40 : decode cX9_heard 40 = .ok (.iaload, 1) := by decide +kernel
theorem dX9_heard_41 : decode cX9_heard 41 = .ok (.ireturn, 1) := by decide +kernel
abbrev rmX9_heard : Room := { frames := 7, cells := 0, slots := 0, locals := 162 }
theorem inX9_heard_9 : ∀ w ∈ wsX90, w ∈ wsX9_heard := by decide +kernel
def vX9_heard (F : Nat → Int32) (J : Nat → Int64) (al : Nat → Int32) (he : Nat → Int32) (ma : Nat → Int32) (p1 : Int32) (p2 : Int32) (Q : Int32 → (Nat → Int32) → (Nat → Int32) → (Nat → Int32) → Prop) : Prop := (preX9_isLeg p1 ∧ (∀ r_6 : Int32, postX9_isLeg p1 r_6 → ((r_6 = 0 → (Q (-1 : Int32) (upd F 0 (0 : Int32)) he ma)) ∧ (¬ r_6 = 0 → (∃ (p_17 : Nat) (w_17 : Nat), preX9_ofLeg p_17 w_17 (upd F 0 (0 : Int32)) J al p1 (3 : Int32) ∧ (∀ r_17 : Int32, postX9_ofLeg p_17 w_17 (upd F 0 (0 : Int32)) J al p1 (3 : Int32) r_17 → (preX9_in p2 (0 : Int32) (r_17 - (1 : Int32)) ∧ (∀ r_22 : Int32, postX9_in p2 (0 : Int32) (r_17 - (1 : Int32)) r_22 → ((¬ r_22 = 0 → (∃ (T_32 : Cd) (G0_32 : Lg) (G1_32 : Lg) (lg_32 : Nat) (lim_32 : Nat), preX9_laysLeg T_32 G0_32 G1_32 lg_32 lim_32 (upd F 0 (0 : Int32)) J al he ma p1 ∧ (∀ (F_32 : Nat → Int32) (he_32 : Nat → Int32) (ma_32 : Nat → Int32), postX9_laysLeg T_32 G0_32 G1_32 lg_32 lim_32 (upd F 0 (0 : Int32)) J al he ma p1 F_32 he_32 ma_32 → (vp_in p2 200 ∧ (Q (he_32 p2.toNatClampNeg) F_32 he_32 ma_32))))) ∧ (r_22 = 0 → (Q (-1 : Int32) (upd F 0 (0 : Int32)) he ma)))))))))))
set_option maxHeartbeats 4000000 in
set_option maxRecDepth 100000 in
theorem wX9_heard (l : Launch) (g : GP) (qM : Nat) (q1 : Nat) (q2 : Nat) (q3 : Nat) (q4 : Nat) (q5 : Nat) (q6 : Nat) (q7 : Nat) (q8 : Nat) (q9 : Nat) (q10 : Nat) (q11 : Nat) (sz : Nat) (F : Nat → Int32) (J : Nat → Int64) (al : Nat → Int32) (he : Nat → Int32) (ma : Nat → Int32) (p1 : Int32) (p2 : Int32) {Q : Int32 → (Nat → Int32) → (Nat → Int32) → (Nat → Int32) → Prop} (hv : vX9_heard F J al he ma p1 p2 Q) : Met l yX9_heard wsX9_heard rmX9_heard (va_Pc [.ref qM, .int p1, .int p2] (fun U => U.heap.size = sz ∧ va_P g.1 vwCl [(qM, .inr (9, [.int (F 0), .ref q1, .ref q2, .ref q3, .int (F 4), .int (F 5), .int (F 6), .int (F 7), .int (F 8), .int (F 9), .long (J 10), .int (F 11), .int (F 12), .int (F 13), .ref q4, .int (F 15), .ref q5, .ref q6, .ref q7, .int (F 19), .ref q8, .int (F 21), .int (F 22), .int (F 23), .int (F 24), .ref q9, .ref q10, .ref q11, .long (J 28)])), (q1, .inl (g.2 0, 376, .inl al)), (q7, .inl (g.2 0, 200, .inl he)), (q8, .inl (g.2 0, 65, .inl ma))] U.heap ∧ GK g U ∧ va_D (fun _ => True) [(qM, .inr (9, [.int (F 0), .ref q1, .ref q2, .ref q3, .int (F 4), .int (F 5), .int (F 6), .int (F 7), .int (F 8), .int (F 9), .long (J 10), .int (F 11), .int (F 12), .int (F 13), .ref q4, .int (F 15), .ref q5, .ref q6, .ref q7, .int (F 19), .ref q8, .int (F 21), .int (F 22), .int (F 23), .int (F 24), .ref q9, .ref q10, .ref q11, .long (J 28)])), (q1, .inl (g.2 0, 376, .inl al)), (q7, .inl (g.2 0, 200, .inl he)), (q8, .inl (g.2 0, 65, .inl ma))])) (va_Qi (fun (r : Int32) (u : (Nat → Int32) × (Nat → Int32) × (Nat → Int32)) => Q r u.1 u.2.1 u.2.2) (fun (u : (Nat → Int32) × (Nat → Int32) × (Nat → Int32)) t => va_P g.1 vwCl [(qM, .inr (9, [.int (u.1 0), .ref q1, .ref q2, .ref q3, .int (u.1 4), .int (u.1 5), .int (u.1 6), .int (u.1 7), .int (u.1 8), .int (u.1 9), .long (J 10), .int (u.1 11), .int (u.1 12), .int (u.1 13), .ref q4, .int (u.1 15), .ref q5, .ref q6, .ref q7, .int (u.1 19), .ref q8, .int (u.1 21), .int (u.1 22), .int (u.1 23), .int (u.1 24), .ref q9, .ref q10, .ref q11, .long (J 28)])), (q1, .inl (g.2 0, 376, .inl al)), (q7, .inl (g.2 0, 200, .inl u.2.1)), (q8, .inl (g.2 0, 65, .inl u.2.2))] t.heap ∧ va_D (va_A [(qM, .inr (9, [.int (F 0), .ref q1, .ref q2, .ref q3, .int (F 4), .int (F 5), .int (F 6), .int (F 7), .int (F 8), .int (F 9), .long (J 10), .int (F 11), .int (F 12), .int (F 13), .ref q4, .int (F 15), .ref q5, .ref q6, .ref q7, .int (F 19), .ref q8, .int (F 21), .int (F 22), .int (F 23), .int (F 24), .ref q9, .ref q10, .ref q11, .long (J 28)])), (q1, .inl (g.2 0, 376, .inl al)), (q7, .inl (g.2 0, 200, .inl he)), (q8, .inl (g.2 0, 65, .inl ma))] sz) [(qM, .inr (9, [.int (u.1 0), .ref q1, .ref q2, .ref q3, .int (u.1 4), .int (u.1 5), .int (u.1 6), .int (u.1 7), .int (u.1 8), .int (u.1 9), .long (J 10), .int (u.1 11), .int (u.1 12), .int (u.1 13), .ref q4, .int (u.1 15), .ref q5, .ref q6, .ref q7, .int (u.1 19), .ref q8, .int (u.1 21), .int (u.1 22), .int (u.1 23), .int (u.1 24), .ref q9, .ref q10, .ref q11, .long (J 28)])), (q1, .inl (g.2 0, 376, .inl al)), (q7, .inl (g.2 0, 200, .inl u.2.1)), (q8, .inl (g.2 0, 65, .inl u.2.2))]) (va_A [(qM, .inr (9, [.int (F 0), .ref q1, .ref q2, .ref q3, .int (F 4), .int (F 5), .int (F 6), .int (F 7), .int (F 8), .int (F 9), .long (J 10), .int (F 11), .int (F 12), .int (F 13), .ref q4, .int (F 15), .ref q5, .ref q6, .ref q7, .int (F 19), .ref q8, .int (F 21), .int (F 22), .int (F 23), .int (F 24), .ref q9, .ref q10, .ref q11, .long (J 28)])), (q1, .inl (g.2 0, 376, .inl al)), (q7, .inl (g.2 0, 200, .inl he)), (q8, .inl (g.2 0, 65, .inl ma))] sz)) 0 0 (va_A [(qM, .inr (9, [.int (F 0), .ref q1, .ref q2, .ref q3, .int (F 4), .int (F 5), .int (F 6), .int (F 7), .int (F 8), .int (F 9), .long (J 10), .int (F 11), .int (F 12), .int (F 13), .ref q4, .int (F 15), .ref q5, .ref q6, .ref q7, .int (F 19), .ref q8, .int (F 21), .int (F 22), .int (F 23), .int (F 24), .ref q9, .ref q10, .ref q11, .long (J 28)])), (q1, .inl (g.2 0, 376, .inl al)), (q7, .inl (g.2 0, 200, .inl he)), (q8, .inl (g.2 0, 65, .inl ma))] sz) := by
  refine Met.ofW (cc := cX9_heard) (maxL := 3) (ret := (some .int)) (by decide) rfl ?_
  intro p e s m args below meth c s₁ B hml hv'
  obtain ⟨rfl, hsz, hP, hG, hD0⟩ := hv'
  have S : CallFix p m c cX9_heard 3 s _ wsX9_heard RX9 := ⟨B.exec, B.bytes, hml, findClass_of_methodNamed B.named, atoms_spec (ws := wsX9_heard) B.pre⟩
  obtain ⟨hx, hb, hml, hown, hts⟩ := id S
  have hK := hG.1
  have hr := B.returns
  have hlocks := B.notSynchronized
  subst hsz
  have hD := hD0.self (sz := s.heap.size)
  generalize hAe : va_A [(qM, .inr (9, [.int (F 0), .ref q1, .ref q2, .ref q3, .int (F 4), .int (F 5), .int (F 6), .int (F 7), .int (F 8), .int (F 9), .long (J 10), .int (F 11), .int (F 12), .int (F 13), .ref q4, .int (F 15), .ref q5, .ref q6, .ref q7, .int (F 19), .ref q8, .int (F 21), .int (F 22), .int (F 23), .int (F 24), .ref q9, .ref q10, .ref q11, .long (J 28)])), (q1, .inl (g.2 0, 376, .inl al)), (q7, .inl (g.2 0, 200, .inl he)), (q8, .inl (g.2 0, 65, .inl ma))] s.heap.size = A at hD ⊢
  have hA : ∀ q : Nat, s.heap.size ≤ q → A q := fun q h => by rw [← hAe]; exact Or.inr h
  have hS : va_S A s.heap s.heap [] := va_S.rf
  clear hD0 hAe
  have hl := lv_entry ([.ref qM, .int p1, .int p2]) (n := 3) (Nat.le_of_ble_eq_true rfl)
  rw [lg_entry_eq]
  generalize (lg_sl ([.ref qM, .int p1, .int p2]) ++ List.replicate (3 - (lg_sl ([.ref qM, .int p1, .int p2])).length) Slot.unset).toArray = ls at hl ⊢
  have hl : lv_has ls 3 [(0, .ref qM), (1, .int p1), (2, .int p2)] := hl
  unfold vX9_heard at hv
  refine lv_aload_n hx hb dX9_heard_0 rfl (lv_at hl 0 rfl) ?_
  refine lv_iconst (v := (0 : Int32)) hx hb dX9_heard_1 (by decide) ?_
  refine va_put (D := g.1) (ci := 9) (v := .int (0 : Int32)) (ty := .int) (C := RX9) (T := TX9) (N := 29) hx hb hts inX9_heard_9 tyX9 tyX9_ok nmX9 hown hK hP hD hS 0 rfl rfl 0 (by decide) (hts (.fieldLink RX9 51 "RangeCodesModel" "raised" "I") (List.mem_of_getElem? (i := 1) rfl)) (fun _ h9 => h9) rfl (by decide +kernel) rfl rfl (Nat.le_of_ble_eq_true rfl) dX9_heard_2 (fun H locs hP hD hS => ?_)
  have hP : va_P g.1 vwCl [(qM, .inr (9, [.int (0 : Int32), .ref q1, .ref q2, .ref q3, .int (F 4), .int (F 5), .int (F 6), .int (F 7), .int (F 8), .int (F 9), .long (J 10), .int (F 11), .int (F 12), .int (F 13), .ref q4, .int (F 15), .ref q5, .ref q6, .ref q7, .int (F 19), .ref q8, .int (F 21), .int (F 22), .int (F 23), .int (F 24), .ref q9, .ref q10, .ref q11, .long (J 28)])), (q1, .inl (g.2 0, 376, .inl al)), (q7, .inl (g.2 0, 200, .inl he)), (q8, .inl (g.2 0, 65, .inl ma))] H := hP
  have hD : va_D A [(qM, .inr (9, [.int (0 : Int32), .ref q1, .ref q2, .ref q3, .int (F 4), .int (F 5), .int (F 6), .int (F 7), .int (F 8), .int (F 9), .long (J 10), .int (F 11), .int (F 12), .int (F 13), .ref q4, .int (F 15), .ref q5, .ref q6, .ref q7, .int (F 19), .ref q8, .int (F 21), .int (F 22), .int (F 23), .int (F 24), .ref q9, .ref q10, .ref q11, .long (J 28)])), (q1, .inl (g.2 0, 376, .inl al)), (q7, .inl (g.2 0, 200, .inl he)), (q8, .inl (g.2 0, 65, .inl ma))] := hD
  refine lv_iload_n hx hb dX9_heard_5 rfl (lv_at hl 1 rfl) ?_
  obtain ⟨ho_1, hv⟩ := hv
  refine vp_callSi (W.runS (As := [.int p1]) (rest := []) S (wX9_isLeg l g p1 (sX9_isLeg p1 ho_1)) (va_cwS 1 hts gX9_heard_X9_isLeg rfl rfl rfl (by decide +kernel) ⟨Nat.le_of_ble_eq_true rfl, Nat.le_of_ble_eq_true rfl⟩) ⟨blindRO, fun U hU hW => ⟨rfl, by rw [hU]; exact hP.sub (ws' := []) [] rfl, hG.warm hW⟩⟩ rfl rfl hl.1 rfl (lv_room (Nat.le_of_ble_eq_true rfl)) dX9_heard_6 ⟨Nat.le_of_ble_eq_true rfl, Nat.le_of_ble_eq_true rfl⟩) (fun r_6 hr_6 => ?_)
  have hv := hv r_6 hr_6
  obtain ⟨hvt, hvf⟩ := hv
  refine lv_if_eq (tgt := 28) hx hb dX9_heard_9 (by decide) (fun hc => ?_) (fun hc => ?_)
  · have hv := hvt hc
    refine lv_iconst (v := (-1 : Int32)) hx hb dX9_heard_28 (by decide) ?_
    have hP9 := hP.sub (ws' := [(qM, .inr (9, [.int ((upd F 0 (0 : Int32)) 0), .ref q1, .ref q2, .ref q3, .int ((upd F 0 (0 : Int32)) 4), .int ((upd F 0 (0 : Int32)) 5), .int ((upd F 0 (0 : Int32)) 6), .int ((upd F 0 (0 : Int32)) 7), .int ((upd F 0 (0 : Int32)) 8), .int ((upd F 0 (0 : Int32)) 9), .long (J 10), .int ((upd F 0 (0 : Int32)) 11), .int ((upd F 0 (0 : Int32)) 12), .int ((upd F 0 (0 : Int32)) 13), .ref q4, .int ((upd F 0 (0 : Int32)) 15), .ref q5, .ref q6, .ref q7, .int ((upd F 0 (0 : Int32)) 19), .ref q8, .int ((upd F 0 (0 : Int32)) 21), .int ((upd F 0 (0 : Int32)) 22), .int ((upd F 0 (0 : Int32)) 23), .int ((upd F 0 (0 : Int32)) 24), .ref q9, .ref q10, .ref q11, .long (J 28)])), (q1, .inl (g.2 0, 376, .inl al)), (q7, .inl (g.2 0, 200, .inl he)), (q8, .inl (g.2 0, 65, .inl ma))]) [0, 1, 2, 3] rfl
    have hD9 := hD.sub (ws' := [(qM, .inr (9, [.int ((upd F 0 (0 : Int32)) 0), .ref q1, .ref q2, .ref q3, .int ((upd F 0 (0 : Int32)) 4), .int ((upd F 0 (0 : Int32)) 5), .int ((upd F 0 (0 : Int32)) 6), .int ((upd F 0 (0 : Int32)) 7), .int ((upd F 0 (0 : Int32)) 8), .int ((upd F 0 (0 : Int32)) 9), .long (J 10), .int ((upd F 0 (0 : Int32)) 11), .int ((upd F 0 (0 : Int32)) 12), .int ((upd F 0 (0 : Int32)) 13), .ref q4, .int ((upd F 0 (0 : Int32)) 15), .ref q5, .ref q6, .ref q7, .int ((upd F 0 (0 : Int32)) 19), .ref q8, .int ((upd F 0 (0 : Int32)) 21), .int ((upd F 0 (0 : Int32)) 22), .int ((upd F 0 (0 : Int32)) 23), .int ((upd F 0 (0 : Int32)) 24), .ref q9, .ref q10, .ref q11, .long (J 28)])), (q1, .inl (g.2 0, 376, .inl al)), (q7, .inl (g.2 0, 200, .inl he)), (q8, .inl (g.2 0, 65, .inl ma))]) [0, 1, 2, 3] (by decide) rfl
    exact W.iret (v := (-1 : Int32)) hx hb hr (fun t ht hW => ⟨⟨_, ((upd F 0 (0 : Int32)), he, ma), rfl, hv, by rw [ht]; exact hP9, hD9⟩, hS.F ht⟩) hS.2.2 dX9_heard_29
  · have hv := hvf hc
    refine lv_iload_n hx hb dX9_heard_12 rfl (lv_at hl 2 rfl) ?_
    refine lv_iconst (v := (0 : Int32)) hx hb dX9_heard_13 (by decide) ?_
    refine lv_aload_n hx hb dX9_heard_14 rfl (lv_at hl 0 rfl) ?_
    refine lv_iload_n hx hb dX9_heard_15 rfl (lv_at hl 1 rfl) ?_
    refine lv_iconst (v := (3 : Int32)) hx hb dX9_heard_16 (by decide) ?_
    obtain ⟨p_17, w_17, ho_2, hv⟩ := hv
    refine vp_callSi (W.runV (As := [.int p1, .int (3 : Int32)]) (rest := [.int (0 : Int32), .int p2]) S (wX9_ofLeg l g qM q1 q2 q3 q4 q5 q6 q7 q8 q9 q10 q11 (upd F 0 (0 : Int32)) J al p1 (3 : Int32) (sX9_ofLeg p_17 w_17 (upd F 0 (0 : Int32)) J al p1 (3 : Int32) ho_2)) (cwV 2 hts gX9_heard_X9_ofLeg rfl rfl rfl (by decide +kernel) ⟨Nat.le_of_ble_eq_true rfl, Nat.le_of_ble_eq_true rfl⟩) ⟨blindRO, va_recv hK hP (ci := 9) (q0 := 0) rfl rfl, fun U hU hW => ⟨rfl, by rw [hU]; exact hP.sub (ws' := [(qM, .inr (9, [.int ((upd F 0 (0 : Int32)) 0), .ref q1, .ref q2, .ref q3, .int ((upd F 0 (0 : Int32)) 4), .int ((upd F 0 (0 : Int32)) 5), .int ((upd F 0 (0 : Int32)) 6), .int ((upd F 0 (0 : Int32)) 7), .int ((upd F 0 (0 : Int32)) 8), .int ((upd F 0 (0 : Int32)) 9), .long (J 10), .int ((upd F 0 (0 : Int32)) 11), .int ((upd F 0 (0 : Int32)) 12), .int ((upd F 0 (0 : Int32)) 13), .ref q4, .int ((upd F 0 (0 : Int32)) 15), .ref q5, .ref q6, .ref q7, .int ((upd F 0 (0 : Int32)) 19), .ref q8, .int ((upd F 0 (0 : Int32)) 21), .int ((upd F 0 (0 : Int32)) 22), .int ((upd F 0 (0 : Int32)) 23), .int ((upd F 0 (0 : Int32)) 24), .ref q9, .ref q10, .ref q11, .long (J 28)])), (q1, .inl (g.2 0, 376, .inl al))]) [0, 1] rfl, hG.warm hW⟩⟩ rfl rfl hl.1 rfl (lv_room (Nat.le_of_ble_eq_true rfl)) dX9_heard_17 ⟨Nat.le_of_ble_eq_true rfl, Nat.le_of_ble_eq_true rfl⟩) (fun r_17 hr_17 => ?_)
    have hv := hv r_17 hr_17
    refine lv_iconst (v := (1 : Int32)) hx hb dX9_heard_20 (by decide) ?_
    refine lv_isub hx hb dX9_heard_21 ?_
    obtain ⟨ho_3, hv⟩ := hv
    refine vp_callSi (W.runS (As := [.int p2, .int (0 : Int32), .int (r_17 - (1 : Int32))]) (rest := []) S (wX9_in l g p2 (0 : Int32) (r_17 - (1 : Int32)) (sX9_in p2 (0 : Int32) (r_17 - (1 : Int32)) ho_3)) (va_cwS 3 hts gX9_heard_X9_in rfl rfl rfl (by decide +kernel) ⟨Nat.le_of_ble_eq_true rfl, Nat.le_of_ble_eq_true rfl⟩) ⟨blindRO, fun U hU hW => ⟨rfl, by rw [hU]; exact hP.sub (ws' := []) [] rfl, hG.warm hW⟩⟩ rfl rfl hl.1 rfl (lv_room (Nat.le_of_ble_eq_true rfl)) dX9_heard_22 ⟨Nat.le_of_ble_eq_true rfl, Nat.le_of_ble_eq_true rfl⟩) (fun r_22 hr_22 => ?_)
    have hv := hv r_22 hr_22
    obtain ⟨hvt, hvf⟩ := hv
    refine lv_if_ne (tgt := 30) hx hb dX9_heard_25 (by decide) (fun hc => ?_) (fun hc => ?_)
    · have hv := hvt hc
      refine lv_aload_n hx hb dX9_heard_30 rfl (lv_at hl 0 rfl) ?_
      refine lv_iload_n hx hb dX9_heard_31 rfl (lv_at hl 1 rfl) ?_
      obtain ⟨T_32, G0_32, G1_32, lg_32, lim_32, ho_4, hv⟩ := hv
      have hPc := hP.sub (ws' := [(qM, .inr (9, [.int ((upd F 0 (0 : Int32)) 0), .ref q1, .ref q2, .ref q3, .int ((upd F 0 (0 : Int32)) 4), .int ((upd F 0 (0 : Int32)) 5), .int ((upd F 0 (0 : Int32)) 6), .int ((upd F 0 (0 : Int32)) 7), .int ((upd F 0 (0 : Int32)) 8), .int ((upd F 0 (0 : Int32)) 9), .long (J 10), .int ((upd F 0 (0 : Int32)) 11), .int ((upd F 0 (0 : Int32)) 12), .int ((upd F 0 (0 : Int32)) 13), .ref q4, .int ((upd F 0 (0 : Int32)) 15), .ref q5, .ref q6, .ref q7, .int ((upd F 0 (0 : Int32)) 19), .ref q8, .int ((upd F 0 (0 : Int32)) 21), .int ((upd F 0 (0 : Int32)) 22), .int ((upd F 0 (0 : Int32)) 23), .int ((upd F 0 (0 : Int32)) 24), .ref q9, .ref q10, .ref q11, .long (J 28)])), (q1, .inl (g.2 0, 376, .inl al)), (q7, .inl (g.2 0, 200, .inl he)), (q8, .inl (g.2 0, 65, .inl ma))]) [0, 1, 2, 3] rfl
      have hDc := hD.sub (ws' := [(qM, .inr (9, [.int ((upd F 0 (0 : Int32)) 0), .ref q1, .ref q2, .ref q3, .int ((upd F 0 (0 : Int32)) 4), .int ((upd F 0 (0 : Int32)) 5), .int ((upd F 0 (0 : Int32)) 6), .int ((upd F 0 (0 : Int32)) 7), .int ((upd F 0 (0 : Int32)) 8), .int ((upd F 0 (0 : Int32)) 9), .long (J 10), .int ((upd F 0 (0 : Int32)) 11), .int ((upd F 0 (0 : Int32)) 12), .int ((upd F 0 (0 : Int32)) 13), .ref q4, .int ((upd F 0 (0 : Int32)) 15), .ref q5, .ref q6, .ref q7, .int ((upd F 0 (0 : Int32)) 19), .ref q8, .int ((upd F 0 (0 : Int32)) 21), .int ((upd F 0 (0 : Int32)) 22), .int ((upd F 0 (0 : Int32)) 23), .int ((upd F 0 (0 : Int32)) 24), .ref q9, .ref q10, .ref q11, .long (J 28)])), (q1, .inl (g.2 0, 376, .inl al)), (q7, .inl (g.2 0, 200, .inl he)), (q8, .inl (g.2 0, 65, .inl ma))]) [0, 1, 2, 3] (by decide) rfl
      have hFc := va_free (wc := [(qM, .inr (9, [.int ((upd F 0 (0 : Int32)) 0), .ref q1, .ref q2, .ref q3, .int ((upd F 0 (0 : Int32)) 4), .int ((upd F 0 (0 : Int32)) 5), .int ((upd F 0 (0 : Int32)) 6), .int ((upd F 0 (0 : Int32)) 7), .int ((upd F 0 (0 : Int32)) 8), .int ((upd F 0 (0 : Int32)) 9), .long (J 10), .int ((upd F 0 (0 : Int32)) 11), .int ((upd F 0 (0 : Int32)) 12), .int ((upd F 0 (0 : Int32)) 13), .ref q4, .int ((upd F 0 (0 : Int32)) 15), .ref q5, .ref q6, .ref q7, .int ((upd F 0 (0 : Int32)) 19), .ref q8, .int ((upd F 0 (0 : Int32)) 21), .int ((upd F 0 (0 : Int32)) 22), .int ((upd F 0 (0 : Int32)) 23), .int ((upd F 0 (0 : Int32)) 24), .ref q9, .ref q10, .ref q11, .long (J 28)])), (q1, .inl (g.2 0, 376, .inl al)), (q7, .inl (g.2 0, 200, .inl he)), (q8, .inl (g.2 0, 65, .inl ma))]) hD hS hA [0, 1, 2, 3] rfl
      refine va_callv (va_runV (As := [.int p1]) (rest := []) S (wX9_laysLeg l g qM q1 q2 q3 q4 q5 q6 q7 q8 q9 q10 q11 H.size (upd F 0 (0 : Int32)) J al he ma p1 (sX9_laysLeg T_32 G0_32 G1_32 lg_32 lim_32 (upd F 0 (0 : Int32)) J al he ma p1 ho_4)) (cwV 1 hts gX9_heard_X9_laysLeg rfl rfl rfl (by decide +kernel) ⟨Nat.le_of_ble_eq_true rfl, Nat.le_of_ble_eq_true rfl⟩) ⟨blindRW, va_recv hK hP (ci := 9) (q0 := 0) rfl rfl, fun U hU hW => ⟨rfl, by rw [hU], by rw [hU]; exact hPc, hG.warm hW, hDc.weaken (fun _ _ _ _ => trivial)⟩⟩ rfl rfl hl.1 rfl (lv_room (Nat.le_of_ble_eq_true rfl)) dX9_heard_32 ⟨Nat.le_of_ble_eq_true rfl, Nat.le_of_ble_eq_true rfl⟩) hS (fun q _ h => hFc q h) hFc (fun u t H1 locs ht hvm hw hB hz1 hk1 hS => ?_)
      obtain ⟨F_32, he_32, ma_32⟩ := u
      obtain ⟨hP1, hD1⟩ := hB
      rw [ht] at hP1
      have hv := hv F_32 he_32 ma_32 hw
      obtain ⟨hP, hD⟩ := va_join (wr := []) (w1 := [(qM, .inr (9, [.int (F_32 0), .ref q1, .ref q2, .ref q3, .int (F_32 4), .int (F_32 5), .int (F_32 6), .int (F_32 7), .int (F_32 8), .int (F_32 9), .long (J 10), .int (F_32 11), .int (F_32 12), .int (F_32 13), .ref q4, .int (F_32 15), .ref q5, .ref q6, .ref q7, .int (F_32 19), .ref q8, .int (F_32 21), .int (F_32 22), .int (F_32 23), .int (F_32 24), .ref q9, .ref q10, .ref q11, .long (J 28)])), (q1, .inl (g.2 0, 376, .inl al)), (q7, .inl (g.2 0, 200, .inl he_32)), (q8, .inl (g.2 0, 65, .inl ma_32))]) hP hD [0, 1, 2, 3] [] rfl rfl (by decide) (by decide) hk1 hFc hP1 hD1
      clear hP1 hD1 hPc hDc hFc hk1
      generalize H1 = H at hP hS ⊢
      have hP : va_P g.1 vwCl [(qM, .inr (9, [.int (F_32 0), .ref q1, .ref q2, .ref q3, .int (F_32 4), .int (F_32 5), .int (F_32 6), .int (F_32 7), .int (F_32 8), .int (F_32 9), .long (J 10), .int (F_32 11), .int (F_32 12), .int (F_32 13), .ref q4, .int (F_32 15), .ref q5, .ref q6, .ref q7, .int (F_32 19), .ref q8, .int (F_32 21), .int (F_32 22), .int (F_32 23), .int (F_32 24), .ref q9, .ref q10, .ref q11, .long (J 28)])), (q1, .inl (g.2 0, 376, .inl al)), (q7, .inl (g.2 0, 200, .inl he_32)), (q8, .inl (g.2 0, 65, .inl ma_32))] H := hP
      have hD : va_D A [(qM, .inr (9, [.int (F_32 0), .ref q1, .ref q2, .ref q3, .int (F_32 4), .int (F_32 5), .int (F_32 6), .int (F_32 7), .int (F_32 8), .int (F_32 9), .long (J 10), .int (F_32 11), .int (F_32 12), .int (F_32 13), .ref q4, .int (F_32 15), .ref q5, .ref q6, .ref q7, .int (F_32 19), .ref q8, .int (F_32 21), .int (F_32 22), .int (F_32 23), .int (F_32 24), .ref q9, .ref q10, .ref q11, .long (J 28)])), (q1, .inl (g.2 0, 376, .inl al)), (q7, .inl (g.2 0, 200, .inl he_32)), (q8, .inl (g.2 0, 65, .inl ma_32))] := hD
      refine lv_aload_n hx hb dX9_heard_35 rfl (lv_at hl 0 rfl) ?_
      refine va_get (D := g.1) (ci := 9) (v := .ref q7) (C := RX9) (T := TX9) (N := 29) hx hb hts inX9_heard_9 hown hK hP 0 rfl rfl 18 (by decide) (hts (.fieldLink RX9 30 "RangeCodesModel" "heard" "[I") (List.mem_of_getElem? (i := 2) rfl)) (fun _ h9 => h9) rfl dX9_heard_36 ?_
      refine lv_iload_n hx hb dX9_heard_39 rfl (lv_at hl 2 rfl) ?_
      obtain ⟨ho_5, hv⟩ := hv
      refine va_iald hx hb hK hP 2 0 rfl rfl ho_5 dX9_heard_40 ?_
      have hP9 := hP.sub (ws' := [(qM, .inr (9, [.int (F_32 0), .ref q1, .ref q2, .ref q3, .int (F_32 4), .int (F_32 5), .int (F_32 6), .int (F_32 7), .int (F_32 8), .int (F_32 9), .long (J 10), .int (F_32 11), .int (F_32 12), .int (F_32 13), .ref q4, .int (F_32 15), .ref q5, .ref q6, .ref q7, .int (F_32 19), .ref q8, .int (F_32 21), .int (F_32 22), .int (F_32 23), .int (F_32 24), .ref q9, .ref q10, .ref q11, .long (J 28)])), (q1, .inl (g.2 0, 376, .inl al)), (q7, .inl (g.2 0, 200, .inl he_32)), (q8, .inl (g.2 0, 65, .inl ma_32))]) [0, 1, 2, 3] rfl
      have hD9 := hD.sub (ws' := [(qM, .inr (9, [.int (F_32 0), .ref q1, .ref q2, .ref q3, .int (F_32 4), .int (F_32 5), .int (F_32 6), .int (F_32 7), .int (F_32 8), .int (F_32 9), .long (J 10), .int (F_32 11), .int (F_32 12), .int (F_32 13), .ref q4, .int (F_32 15), .ref q5, .ref q6, .ref q7, .int (F_32 19), .ref q8, .int (F_32 21), .int (F_32 22), .int (F_32 23), .int (F_32 24), .ref q9, .ref q10, .ref q11, .long (J 28)])), (q1, .inl (g.2 0, 376, .inl al)), (q7, .inl (g.2 0, 200, .inl he_32)), (q8, .inl (g.2 0, 65, .inl ma_32))]) [0, 1, 2, 3] (by decide) rfl
      exact W.iret (v := (he_32 p2.toNatClampNeg)) hx hb hr (fun t ht hW => ⟨⟨_, (F_32, he_32, ma_32), rfl, hv, by rw [ht]; exact hP9, hD9⟩, hS.F ht⟩) hS.2.2 dX9_heard_41
    · have hv := hvf hc
      refine lv_iconst (v := (-1 : Int32)) hx hb dX9_heard_28 (by decide) ?_
      have hP9 := hP.sub (ws' := [(qM, .inr (9, [.int ((upd F 0 (0 : Int32)) 0), .ref q1, .ref q2, .ref q3, .int ((upd F 0 (0 : Int32)) 4), .int ((upd F 0 (0 : Int32)) 5), .int ((upd F 0 (0 : Int32)) 6), .int ((upd F 0 (0 : Int32)) 7), .int ((upd F 0 (0 : Int32)) 8), .int ((upd F 0 (0 : Int32)) 9), .long (J 10), .int ((upd F 0 (0 : Int32)) 11), .int ((upd F 0 (0 : Int32)) 12), .int ((upd F 0 (0 : Int32)) 13), .ref q4, .int ((upd F 0 (0 : Int32)) 15), .ref q5, .ref q6, .ref q7, .int ((upd F 0 (0 : Int32)) 19), .ref q8, .int ((upd F 0 (0 : Int32)) 21), .int ((upd F 0 (0 : Int32)) 22), .int ((upd F 0 (0 : Int32)) 23), .int ((upd F 0 (0 : Int32)) 24), .ref q9, .ref q10, .ref q11, .long (J 28)])), (q1, .inl (g.2 0, 376, .inl al)), (q7, .inl (g.2 0, 200, .inl he)), (q8, .inl (g.2 0, 65, .inl ma))]) [0, 1, 2, 3] rfl
      have hD9 := hD.sub (ws' := [(qM, .inr (9, [.int ((upd F 0 (0 : Int32)) 0), .ref q1, .ref q2, .ref q3, .int ((upd F 0 (0 : Int32)) 4), .int ((upd F 0 (0 : Int32)) 5), .int ((upd F 0 (0 : Int32)) 6), .int ((upd F 0 (0 : Int32)) 7), .int ((upd F 0 (0 : Int32)) 8), .int ((upd F 0 (0 : Int32)) 9), .long (J 10), .int ((upd F 0 (0 : Int32)) 11), .int ((upd F 0 (0 : Int32)) 12), .int ((upd F 0 (0 : Int32)) 13), .ref q4, .int ((upd F 0 (0 : Int32)) 15), .ref q5, .ref q6, .ref q7, .int ((upd F 0 (0 : Int32)) 19), .ref q8, .int ((upd F 0 (0 : Int32)) 21), .int ((upd F 0 (0 : Int32)) 22), .int ((upd F 0 (0 : Int32)) 23), .int ((upd F 0 (0 : Int32)) 24), .ref q9, .ref q10, .ref q11, .long (J 28)])), (q1, .inl (g.2 0, 376, .inl al)), (q7, .inl (g.2 0, 200, .inl he)), (q8, .inl (g.2 0, 65, .inl ma))]) [0, 1, 2, 3] (by decide) rfl
      exact W.iret (v := (-1 : Int32)) hx hb hr (fun t ht hW => ⟨⟨_, ((upd F 0 (0 : Int32)), he, ma), rfl, hv, by rw [ht]; exact hP9, hD9⟩, hS.F ht⟩) hS.2.2 dX9_heard_29
abbrev preX9_heard (T : Cd) (G0 : Lg) (G1 : Lg) (lim : Nat) (F : Nat → Int32) (J : Nat → Int64) (al : Nat → Int32) (he : Nat → Int32) (ma : Nat → Int32) (p1 : Int32) (p2 : Int32) : Prop := fcR T G0 G1 lim al
abbrev postX9_heard (T : Cd) (G0 : Lg) (G1 : Lg) (lim : Nat) (F : Nat → Int32) (J : Nat → Int64) (al : Nat → Int32) (he : Nat → Int32) (ma : Nat → Int32) (p1 : Int32) (p2 : Int32) (r : Int32) (F' : Nat → Int32) (he' : Nat → Int32) (ma' : Nat → Int32) : Prop := r.toInt = spHeard T G0 G1 lim p1.toInt p2.toInt
theorem sX9_heard (T : Cd) (G0 : Lg) (G1 : Lg) (lim : Nat) (F : Nat → Int32) (J : Nat → Int64) (al : Nat → Int32) (he : Nat → Int32) (ma : Nat → Int32) (p1 : Int32) (p2 : Int32) (H : preX9_heard T G0 G1 lim F J al he ma p1 p2) : vX9_heard F J al he ma p1 p2 (postX9_heard T G0 G1 lim F J al he ma p1 p2) := by
  obtain ⟨hT, h0, h1, hlim, hl9, hl1⟩ := id H
  unfold postX9_heard spHeard
  refine ⟨trivial, fun r hr => ?_⟩
  have hr : r = if p1.toInt = 0 ∨ p1.toInt = 1 then 1 else 0 := hr
  rw [hr, q_if1]
  refine ⟨fun hc => by rw [if_neg (fun q => hc q.1)]; rfl, fun hc => ?_⟩
  have hc := Decidable.not_not.mp hc
  have hG := pk_mG h0 h1 (l := p1.toInt.toNat) (by omega)
  have hm := mG_mn hG
  refine ⟨p1.toInt.toNat, 3, ⟨by omega, rfl, by omega⟩, fun r2 hr2 => ⟨trivial, fun r3 hr3 => ?_⟩⟩
  have hr2 : r2.toInt = (gmn (pkG G0 G1 p1.toInt.toNat) : Int) := by rw [hr2]; exact hm.1
  have hr3 : r3 = if 0 ≤ p2.toInt ∧ p2.toInt < (gmn (pkG G0 G1 p1.toInt.toNat) : Int) then 1 else 0 := by rw [← in_to hr2]; exact hr3
  rw [hr3, q_if1]
  refine ⟨fun hd => ?_, fun hd => by rw [if_neg (fun q => hd q.2)]; rfl⟩
  have hd := Decidable.not_not.mp hd
  refine ⟨T, G0, G1, p1.toInt.toNat, lim, fcR_ll H _ _ _ _ hc, fun F2 he2 ma2 hq => ?_⟩
  have h2 := rlC_of hq
  have e : p2.toInt = (p2.toInt.toNat : Int) := by omega
  refine ⟨q_in e (by omega), ?_⟩
  rw [if_pos ⟨hc, hd⟩, q_cl e]
  exact (h2.1 _ (by omega)).1
set_option maxRecDepth 20000 in
theorem ggX9_behind_X9_isLeg : GoodIn wsX9_behind wsX9_isLeg := goodIn_r _ [6, 7, 8, 5, 9] (by decide +kernel) (by decide +kernel)
set_option maxRecDepth 20000 in
theorem gX9_behind_X9_isLeg : GoodIn wsX9_behind (va_wsS RX9 182 yX9_isLeg wsX9_isLeg) := goodIn_app (goodIn_of _ (by decide +kernel)) ggX9_behind_X9_isLeg
set_option maxRecDepth 20000 in
theorem ggX9_behind_X9_ofLeg : GoodIn wsX9_behind wsX9_ofLeg := goodIn_r _ [13, 14, 25, 26, 27, 28, 29, 30, 31, 32, 33, 34, 35, 36, 37, 38, 39, 40, 41, 42, 43, 44, 45, 46, 47, 48, 49, 50, 51, 52, 53] (by decide +kernel) (by decide +kernel)
set_option maxRecDepth 20000 in
theorem gX9_behind_X9_ofLeg : GoodIn wsX9_behind (wsV RX9 185 RX9 yX9_ofLeg wsX9_ofLeg) := goodIn_app (goodIn_of _ (by decide +kernel)) ggX9_behind_X9_ofLeg
set_option maxRecDepth 20000 in
theorem ggX9_behind_X9_in : GoodIn wsX9_behind wsX9_in := goodIn_r _ [9] (by decide +kernel) (by decide +kernel)
set_option maxRecDepth 20000 in
theorem gX9_behind_X9_in : GoodIn wsX9_behind (va_wsS RX9 63 yX9_in wsX9_in) := goodIn_app (goodIn_of _ (by decide +kernel)) ggX9_behind_X9_in
set_option maxRecDepth 20000 in
theorem ggX9_behind_X9_behindAt : GoodIn wsX9_behind wsX9_behindAt := goodIn_r _ [18, 10, 11, 12, 5, 13, 14, 19, 20, 21, 22, 23, 24, 25, 26, 27, 28, 29, 30, 31, 32, 33, 34, 35, 36, 37, 38, 39, 40, 41, 42, 43, 44, 45, 46, 47, 48, 49, 50, 51, 52, 53] (by decide +kernel) (by decide +kernel)
set_option maxRecDepth 20000 in
theorem gX9_behind_X9_behindAt : GoodIn wsX9_behind (wsV RX9 244 RX9 yX9_behindAt wsX9_behindAt) := goodIn_app (goodIn_of _ (by decide +kernel)) ggX9_behind_X9_behindAt
theorem dX9_behind_0 : decode cX9_behind 0 = .ok (.aload_n 0, 1) := by decide +kernel
theorem dX9_behind_1 : decode cX9_behind 1 = .ok (.iconst 0, 1) := by decide +kernel
theorem dX9_behind_2 : decode cX9_behind 2 = .ok (.putfield 51, 3) := by decide +kernel
theorem dX9_behind_5 : decode cX9_behind 5 = .ok (.iload_n 1, 1) := by decide +kernel
theorem dX9_behind_6 : decode cX9_behind 6 = .ok (.invokestatic 182, 3) := by decide +kernel
theorem dX9_behind_9 : decode cX9_behind 9 = .ok (.ifCond .eq 28, 3) := by decide +kernel
theorem dX9_behind_12 : decode cX9_behind 12 = .ok (.iload_n 2, 1) := by decide +kernel
theorem dX9_behind_13 : decode cX9_behind 13 = .ok (.iconst 0, 1) := by decide +kernel
theorem dX9_behind_14 : decode cX9_behind 14 = .ok (.aload_n 0, 1) := by decide +kernel
theorem dX9_behind_15 : decode cX9_behind 15 = .ok (.iload_n 1, 1) := by decide +kernel
theorem dX9_behind_16 : decode cX9_behind 16 = .ok (.iconst 3, 1) := by decide +kernel
theorem dX9_behind_17 : decode cX9_behind 17 = .ok (.invokevirtual 185, 3) := by decide +kernel
theorem dX9_behind_20 : decode cX9_behind 20 = .ok (.iconst 1, 1) := by decide +kernel
theorem dX9_behind_21 : decode cX9_behind 21 = .ok (.isub, 1) := by decide +kernel
theorem dX9_behind_22 : decode cX9_behind 22 = .ok (.invokestatic 63, 3) := by decide +kernel
theorem dX9_behind_25 : decode cX9_behind 25 = .ok (.ifCond .eq 12, 3) := by decide +kernel
theorem dX9_behind_28 : decode cX9_behind 28 = .ok (.aload_n 0, 1) := by decide +kernel
theorem dX9_behind_29 : decode cX9_behind 29 = .ok (.iload_n 1, 1) := by decide +kernel
theorem dX9_behind_30 : decode cX9_behind 30 = .ok (.iload_n 2, 1) := by decide +kernel
theorem dX9_behind_31 : decode cX9_behind 31 = .ok (.invokevirtual 244, 3) := by decide +kernel
theorem dX9_behind_34 : decode cX9_behind 34 = .ok (.goto 6, 3) := by decide +kernel
theorem dX9_behind_37 : decode cX9_behind 37 = .ok (.ldc_w 297, 3) := by decide +kernel
theorem dX9_behind_40 : decode cX9_behind 40 = .ok (.ireturn, 1) := by decide +kernel
abbrev rmX9_behind : Room := { frames := 3, cells := 0, slots := 0, locals := 70 }
theorem inX9_behind_9 : ∀ w ∈ wsX90, w ∈ wsX9_behind := by decide +kernel
def vX9_behind (F : Nat → Int32) (J : Nat → Int64) (al : Nat → Int32) (p1 : Int32) (p2 : Int32) (Q : Int32 → (Nat → Int32) → Prop) : Prop := (preX9_isLeg p1 ∧ (∀ r_6 : Int32, postX9_isLeg p1 r_6 → ((r_6 = 0 → (Q (-2147483648 : Int32) (upd F 0 (0 : Int32)))) ∧ (¬ r_6 = 0 → (∃ (p_17 : Nat) (w_17 : Nat), preX9_ofLeg p_17 w_17 (upd F 0 (0 : Int32)) J al p1 (3 : Int32) ∧ (∀ r_17 : Int32, postX9_ofLeg p_17 w_17 (upd F 0 (0 : Int32)) J al p1 (3 : Int32) r_17 → (preX9_in p2 (0 : Int32) (r_17 - (1 : Int32)) ∧ (∀ r_22 : Int32, postX9_in p2 (0 : Int32) (r_17 - (1 : Int32)) r_22 → ((r_22 = 0 → (Q (-2147483648 : Int32) (upd F 0 (0 : Int32)))) ∧ (¬ r_22 = 0 → (∃ (G_31 : Lg) (lg_31 : Nat) (i_31 : Nat), preX9_behindAt G_31 lg_31 i_31 (upd F 0 (0 : Int32)) J al p1 p2 ∧ (∀ r_31 : Int32, postX9_behindAt G_31 lg_31 i_31 (upd F 0 (0 : Int32)) J al p1 p2 r_31 → (Q r_31 (upd F 0 (0 : Int32)))))))))))))))
set_option maxHeartbeats 4000000 in
set_option maxRecDepth 100000 in
theorem wX9_behind (l : Launch) (g : GP) (qM : Nat) (q1 : Nat) (q2 : Nat) (q3 : Nat) (q4 : Nat) (q5 : Nat) (q6 : Nat) (q7 : Nat) (q8 : Nat) (q9 : Nat) (q10 : Nat) (q11 : Nat) (sz : Nat) (F : Nat → Int32) (J : Nat → Int64) (al : Nat → Int32) (p1 : Int32) (p2 : Int32) {Q : Int32 → (Nat → Int32) → Prop} (hv : vX9_behind F J al p1 p2 Q) : Met l yX9_behind wsX9_behind rmX9_behind (va_Pc [.ref qM, .int p1, .int p2] (fun U => U.heap.size = sz ∧ va_P g.1 vwCl [(qM, .inr (9, [.int (F 0), .ref q1, .ref q2, .ref q3, .int (F 4), .int (F 5), .int (F 6), .int (F 7), .int (F 8), .int (F 9), .long (J 10), .int (F 11), .int (F 12), .int (F 13), .ref q4, .int (F 15), .ref q5, .ref q6, .ref q7, .int (F 19), .ref q8, .int (F 21), .int (F 22), .int (F 23), .int (F 24), .ref q9, .ref q10, .ref q11, .long (J 28)])), (q1, .inl (g.2 0, 376, .inl al))] U.heap ∧ GK g U ∧ va_D (fun _ => True) [(qM, .inr (9, [.int (F 0), .ref q1, .ref q2, .ref q3, .int (F 4), .int (F 5), .int (F 6), .int (F 7), .int (F 8), .int (F 9), .long (J 10), .int (F 11), .int (F 12), .int (F 13), .ref q4, .int (F 15), .ref q5, .ref q6, .ref q7, .int (F 19), .ref q8, .int (F 21), .int (F 22), .int (F 23), .int (F 24), .ref q9, .ref q10, .ref q11, .long (J 28)])), (q1, .inl (g.2 0, 376, .inl al))])) (va_Qi (fun (r : Int32) (u : (Nat → Int32)) => Q r u) (fun (u : (Nat → Int32)) t => va_P g.1 vwCl [(qM, .inr (9, [.int (u 0), .ref q1, .ref q2, .ref q3, .int (u 4), .int (u 5), .int (u 6), .int (u 7), .int (u 8), .int (u 9), .long (J 10), .int (u 11), .int (u 12), .int (u 13), .ref q4, .int (u 15), .ref q5, .ref q6, .ref q7, .int (u 19), .ref q8, .int (u 21), .int (u 22), .int (u 23), .int (u 24), .ref q9, .ref q10, .ref q11, .long (J 28)])), (q1, .inl (g.2 0, 376, .inl al))] t.heap ∧ va_D (va_A [(qM, .inr (9, [.int (F 0), .ref q1, .ref q2, .ref q3, .int (F 4), .int (F 5), .int (F 6), .int (F 7), .int (F 8), .int (F 9), .long (J 10), .int (F 11), .int (F 12), .int (F 13), .ref q4, .int (F 15), .ref q5, .ref q6, .ref q7, .int (F 19), .ref q8, .int (F 21), .int (F 22), .int (F 23), .int (F 24), .ref q9, .ref q10, .ref q11, .long (J 28)])), (q1, .inl (g.2 0, 376, .inl al))] sz) [(qM, .inr (9, [.int (u 0), .ref q1, .ref q2, .ref q3, .int (u 4), .int (u 5), .int (u 6), .int (u 7), .int (u 8), .int (u 9), .long (J 10), .int (u 11), .int (u 12), .int (u 13), .ref q4, .int (u 15), .ref q5, .ref q6, .ref q7, .int (u 19), .ref q8, .int (u 21), .int (u 22), .int (u 23), .int (u 24), .ref q9, .ref q10, .ref q11, .long (J 28)])), (q1, .inl (g.2 0, 376, .inl al))]) (va_A [(qM, .inr (9, [.int (F 0), .ref q1, .ref q2, .ref q3, .int (F 4), .int (F 5), .int (F 6), .int (F 7), .int (F 8), .int (F 9), .long (J 10), .int (F 11), .int (F 12), .int (F 13), .ref q4, .int (F 15), .ref q5, .ref q6, .ref q7, .int (F 19), .ref q8, .int (F 21), .int (F 22), .int (F 23), .int (F 24), .ref q9, .ref q10, .ref q11, .long (J 28)])), (q1, .inl (g.2 0, 376, .inl al))] sz)) 0 0 (va_A [(qM, .inr (9, [.int (F 0), .ref q1, .ref q2, .ref q3, .int (F 4), .int (F 5), .int (F 6), .int (F 7), .int (F 8), .int (F 9), .long (J 10), .int (F 11), .int (F 12), .int (F 13), .ref q4, .int (F 15), .ref q5, .ref q6, .ref q7, .int (F 19), .ref q8, .int (F 21), .int (F 22), .int (F 23), .int (F 24), .ref q9, .ref q10, .ref q11, .long (J 28)])), (q1, .inl (g.2 0, 376, .inl al))] sz) := by
  refine Met.ofW (cc := cX9_behind) (maxL := 3) (ret := (some .int)) (by decide) rfl ?_
  intro p e s m args below meth c s₁ B hml hv'
  obtain ⟨rfl, hsz, hP, hG, hD0⟩ := hv'
  have S : CallFix p m c cX9_behind 3 s _ wsX9_behind RX9 := ⟨B.exec, B.bytes, hml, findClass_of_methodNamed B.named, atoms_spec (ws := wsX9_behind) B.pre⟩
  obtain ⟨hx, hb, hml, hown, hts⟩ := id S
  have hK := hG.1
  have hr := B.returns
  have hlocks := B.notSynchronized
  subst hsz
  have hD := hD0.self (sz := s.heap.size)
  generalize hAe : va_A [(qM, .inr (9, [.int (F 0), .ref q1, .ref q2, .ref q3, .int (F 4), .int (F 5), .int (F 6), .int (F 7), .int (F 8), .int (F 9), .long (J 10), .int (F 11), .int (F 12), .int (F 13), .ref q4, .int (F 15), .ref q5, .ref q6, .ref q7, .int (F 19), .ref q8, .int (F 21), .int (F 22), .int (F 23), .int (F 24), .ref q9, .ref q10, .ref q11, .long (J 28)])), (q1, .inl (g.2 0, 376, .inl al))] s.heap.size = A at hD ⊢
  have hA : ∀ q : Nat, s.heap.size ≤ q → A q := fun q h => by rw [← hAe]; exact Or.inr h
  have hS : va_S A s.heap s.heap [] := va_S.rf
  clear hD0 hAe
  have hl := lv_entry ([.ref qM, .int p1, .int p2]) (n := 3) (Nat.le_of_ble_eq_true rfl)
  rw [lg_entry_eq]
  generalize (lg_sl ([.ref qM, .int p1, .int p2]) ++ List.replicate (3 - (lg_sl ([.ref qM, .int p1, .int p2])).length) Slot.unset).toArray = ls at hl ⊢
  have hl : lv_has ls 3 [(0, .ref qM), (1, .int p1), (2, .int p2)] := hl
  unfold vX9_behind at hv
  refine lv_aload_n hx hb dX9_behind_0 rfl (lv_at hl 0 rfl) ?_
  refine lv_iconst (v := (0 : Int32)) hx hb dX9_behind_1 (by decide) ?_
  refine va_put (D := g.1) (ci := 9) (v := .int (0 : Int32)) (ty := .int) (C := RX9) (T := TX9) (N := 29) hx hb hts inX9_behind_9 tyX9 tyX9_ok nmX9 hown hK hP hD hS 0 rfl rfl 0 (by decide) (hts (.fieldLink RX9 51 "RangeCodesModel" "raised" "I") (List.mem_of_getElem? (i := 1) rfl)) (fun _ h9 => h9) rfl (by decide +kernel) rfl rfl (Nat.le_of_ble_eq_true rfl) dX9_behind_2 (fun H locs hP hD hS => ?_)
  have hP : va_P g.1 vwCl [(qM, .inr (9, [.int (0 : Int32), .ref q1, .ref q2, .ref q3, .int (F 4), .int (F 5), .int (F 6), .int (F 7), .int (F 8), .int (F 9), .long (J 10), .int (F 11), .int (F 12), .int (F 13), .ref q4, .int (F 15), .ref q5, .ref q6, .ref q7, .int (F 19), .ref q8, .int (F 21), .int (F 22), .int (F 23), .int (F 24), .ref q9, .ref q10, .ref q11, .long (J 28)])), (q1, .inl (g.2 0, 376, .inl al))] H := hP
  have hD : va_D A [(qM, .inr (9, [.int (0 : Int32), .ref q1, .ref q2, .ref q3, .int (F 4), .int (F 5), .int (F 6), .int (F 7), .int (F 8), .int (F 9), .long (J 10), .int (F 11), .int (F 12), .int (F 13), .ref q4, .int (F 15), .ref q5, .ref q6, .ref q7, .int (F 19), .ref q8, .int (F 21), .int (F 22), .int (F 23), .int (F 24), .ref q9, .ref q10, .ref q11, .long (J 28)])), (q1, .inl (g.2 0, 376, .inl al))] := hD
  refine lv_iload_n hx hb dX9_behind_5 rfl (lv_at hl 1 rfl) ?_
  obtain ⟨ho_1, hv⟩ := hv
  refine vp_callSi (W.runS (As := [.int p1]) (rest := []) S (wX9_isLeg l g p1 (sX9_isLeg p1 ho_1)) (va_cwS 1 hts gX9_behind_X9_isLeg rfl rfl rfl (by decide +kernel) ⟨Nat.le_of_ble_eq_true rfl, Nat.le_of_ble_eq_true rfl⟩) ⟨blindRO, fun U hU hW => ⟨rfl, by rw [hU]; exact hP.sub (ws' := []) [] rfl, hG.warm hW⟩⟩ rfl rfl hl.1 rfl (lv_room (Nat.le_of_ble_eq_true rfl)) dX9_behind_6 ⟨Nat.le_of_ble_eq_true rfl, Nat.le_of_ble_eq_true rfl⟩) (fun r_6 hr_6 => ?_)
  have hv := hv r_6 hr_6
  obtain ⟨hvt, hvf⟩ := hv
  refine lv_if_eq (tgt := 37) hx hb dX9_behind_9 (by decide) (fun hc => ?_) (fun hc => ?_)
  · have hv := hvt hc
    refine lv_ldcw (v := (-2147483648 : Int32)) hx hb hown (hts (.constant RX9 297 (-2147483648)) (List.mem_of_getElem? (i := 2) rfl)) dX9_behind_37 ?_
    have hP9 := hP.sub (ws' := [(qM, .inr (9, [.int ((upd F 0 (0 : Int32)) 0), .ref q1, .ref q2, .ref q3, .int ((upd F 0 (0 : Int32)) 4), .int ((upd F 0 (0 : Int32)) 5), .int ((upd F 0 (0 : Int32)) 6), .int ((upd F 0 (0 : Int32)) 7), .int ((upd F 0 (0 : Int32)) 8), .int ((upd F 0 (0 : Int32)) 9), .long (J 10), .int ((upd F 0 (0 : Int32)) 11), .int ((upd F 0 (0 : Int32)) 12), .int ((upd F 0 (0 : Int32)) 13), .ref q4, .int ((upd F 0 (0 : Int32)) 15), .ref q5, .ref q6, .ref q7, .int ((upd F 0 (0 : Int32)) 19), .ref q8, .int ((upd F 0 (0 : Int32)) 21), .int ((upd F 0 (0 : Int32)) 22), .int ((upd F 0 (0 : Int32)) 23), .int ((upd F 0 (0 : Int32)) 24), .ref q9, .ref q10, .ref q11, .long (J 28)])), (q1, .inl (g.2 0, 376, .inl al))]) [0, 1] rfl
    have hD9 := hD.sub (ws' := [(qM, .inr (9, [.int ((upd F 0 (0 : Int32)) 0), .ref q1, .ref q2, .ref q3, .int ((upd F 0 (0 : Int32)) 4), .int ((upd F 0 (0 : Int32)) 5), .int ((upd F 0 (0 : Int32)) 6), .int ((upd F 0 (0 : Int32)) 7), .int ((upd F 0 (0 : Int32)) 8), .int ((upd F 0 (0 : Int32)) 9), .long (J 10), .int ((upd F 0 (0 : Int32)) 11), .int ((upd F 0 (0 : Int32)) 12), .int ((upd F 0 (0 : Int32)) 13), .ref q4, .int ((upd F 0 (0 : Int32)) 15), .ref q5, .ref q6, .ref q7, .int ((upd F 0 (0 : Int32)) 19), .ref q8, .int ((upd F 0 (0 : Int32)) 21), .int ((upd F 0 (0 : Int32)) 22), .int ((upd F 0 (0 : Int32)) 23), .int ((upd F 0 (0 : Int32)) 24), .ref q9, .ref q10, .ref q11, .long (J 28)])), (q1, .inl (g.2 0, 376, .inl al))]) [0, 1] (by decide) rfl
    exact W.iret (v := (-2147483648 : Int32)) hx hb hr (fun t ht hW => ⟨⟨_, ((upd F 0 (0 : Int32))), rfl, hv, by rw [ht]; exact hP9, hD9⟩, hS.F ht⟩) hS.2.2 dX9_behind_40
  · have hv := hvf hc
    refine lv_iload_n hx hb dX9_behind_12 rfl (lv_at hl 2 rfl) ?_
    refine lv_iconst (v := (0 : Int32)) hx hb dX9_behind_13 (by decide) ?_
    refine lv_aload_n hx hb dX9_behind_14 rfl (lv_at hl 0 rfl) ?_
    refine lv_iload_n hx hb dX9_behind_15 rfl (lv_at hl 1 rfl) ?_
    refine lv_iconst (v := (3 : Int32)) hx hb dX9_behind_16 (by decide) ?_
    obtain ⟨p_17, w_17, ho_2, hv⟩ := hv
    refine vp_callSi (W.runV (As := [.int p1, .int (3 : Int32)]) (rest := [.int (0 : Int32), .int p2]) S (wX9_ofLeg l g qM q1 q2 q3 q4 q5 q6 q7 q8 q9 q10 q11 (upd F 0 (0 : Int32)) J al p1 (3 : Int32) (sX9_ofLeg p_17 w_17 (upd F 0 (0 : Int32)) J al p1 (3 : Int32) ho_2)) (cwV 2 hts gX9_behind_X9_ofLeg rfl rfl rfl (by decide +kernel) ⟨Nat.le_of_ble_eq_true rfl, Nat.le_of_ble_eq_true rfl⟩) ⟨blindRO, va_recv hK hP (ci := 9) (q0 := 0) rfl rfl, fun U hU hW => ⟨rfl, by rw [hU]; exact hP.sub (ws' := [(qM, .inr (9, [.int ((upd F 0 (0 : Int32)) 0), .ref q1, .ref q2, .ref q3, .int ((upd F 0 (0 : Int32)) 4), .int ((upd F 0 (0 : Int32)) 5), .int ((upd F 0 (0 : Int32)) 6), .int ((upd F 0 (0 : Int32)) 7), .int ((upd F 0 (0 : Int32)) 8), .int ((upd F 0 (0 : Int32)) 9), .long (J 10), .int ((upd F 0 (0 : Int32)) 11), .int ((upd F 0 (0 : Int32)) 12), .int ((upd F 0 (0 : Int32)) 13), .ref q4, .int ((upd F 0 (0 : Int32)) 15), .ref q5, .ref q6, .ref q7, .int ((upd F 0 (0 : Int32)) 19), .ref q8, .int ((upd F 0 (0 : Int32)) 21), .int ((upd F 0 (0 : Int32)) 22), .int ((upd F 0 (0 : Int32)) 23), .int ((upd F 0 (0 : Int32)) 24), .ref q9, .ref q10, .ref q11, .long (J 28)])), (q1, .inl (g.2 0, 376, .inl al))]) [0, 1] rfl, hG.warm hW⟩⟩ rfl rfl hl.1 rfl (lv_room (Nat.le_of_ble_eq_true rfl)) dX9_behind_17 ⟨Nat.le_of_ble_eq_true rfl, Nat.le_of_ble_eq_true rfl⟩) (fun r_17 hr_17 => ?_)
    have hv := hv r_17 hr_17
    refine lv_iconst (v := (1 : Int32)) hx hb dX9_behind_20 (by decide) ?_
    refine lv_isub hx hb dX9_behind_21 ?_
    obtain ⟨ho_3, hv⟩ := hv
    refine vp_callSi (W.runS (As := [.int p2, .int (0 : Int32), .int (r_17 - (1 : Int32))]) (rest := []) S (wX9_in l g p2 (0 : Int32) (r_17 - (1 : Int32)) (sX9_in p2 (0 : Int32) (r_17 - (1 : Int32)) ho_3)) (va_cwS 3 hts gX9_behind_X9_in rfl rfl rfl (by decide +kernel) ⟨Nat.le_of_ble_eq_true rfl, Nat.le_of_ble_eq_true rfl⟩) ⟨blindRO, fun U hU hW => ⟨rfl, by rw [hU]; exact hP.sub (ws' := []) [] rfl, hG.warm hW⟩⟩ rfl rfl hl.1 rfl (lv_room (Nat.le_of_ble_eq_true rfl)) dX9_behind_22 ⟨Nat.le_of_ble_eq_true rfl, Nat.le_of_ble_eq_true rfl⟩) (fun r_22 hr_22 => ?_)
    have hv := hv r_22 hr_22
    obtain ⟨hvt, hvf⟩ := hv
    refine lv_if_eq (tgt := 37) hx hb dX9_behind_25 (by decide) (fun hc => ?_) (fun hc => ?_)
    · have hv := hvt hc
      refine lv_ldcw (v := (-2147483648 : Int32)) hx hb hown (hts (.constant RX9 297 (-2147483648)) (List.mem_of_getElem? (i := 2) rfl)) dX9_behind_37 ?_
      have hP9 := hP.sub (ws' := [(qM, .inr (9, [.int ((upd F 0 (0 : Int32)) 0), .ref q1, .ref q2, .ref q3, .int ((upd F 0 (0 : Int32)) 4), .int ((upd F 0 (0 : Int32)) 5), .int ((upd F 0 (0 : Int32)) 6), .int ((upd F 0 (0 : Int32)) 7), .int ((upd F 0 (0 : Int32)) 8), .int ((upd F 0 (0 : Int32)) 9), .long (J 10), .int ((upd F 0 (0 : Int32)) 11), .int ((upd F 0 (0 : Int32)) 12), .int ((upd F 0 (0 : Int32)) 13), .ref q4, .int ((upd F 0 (0 : Int32)) 15), .ref q5, .ref q6, .ref q7, .int ((upd F 0 (0 : Int32)) 19), .ref q8, .int ((upd F 0 (0 : Int32)) 21), .int ((upd F 0 (0 : Int32)) 22), .int ((upd F 0 (0 : Int32)) 23), .int ((upd F 0 (0 : Int32)) 24), .ref q9, .ref q10, .ref q11, .long (J 28)])), (q1, .inl (g.2 0, 376, .inl al))]) [0, 1] rfl
      have hD9 := hD.sub (ws' := [(qM, .inr (9, [.int ((upd F 0 (0 : Int32)) 0), .ref q1, .ref q2, .ref q3, .int ((upd F 0 (0 : Int32)) 4), .int ((upd F 0 (0 : Int32)) 5), .int ((upd F 0 (0 : Int32)) 6), .int ((upd F 0 (0 : Int32)) 7), .int ((upd F 0 (0 : Int32)) 8), .int ((upd F 0 (0 : Int32)) 9), .long (J 10), .int ((upd F 0 (0 : Int32)) 11), .int ((upd F 0 (0 : Int32)) 12), .int ((upd F 0 (0 : Int32)) 13), .ref q4, .int ((upd F 0 (0 : Int32)) 15), .ref q5, .ref q6, .ref q7, .int ((upd F 0 (0 : Int32)) 19), .ref q8, .int ((upd F 0 (0 : Int32)) 21), .int ((upd F 0 (0 : Int32)) 22), .int ((upd F 0 (0 : Int32)) 23), .int ((upd F 0 (0 : Int32)) 24), .ref q9, .ref q10, .ref q11, .long (J 28)])), (q1, .inl (g.2 0, 376, .inl al))]) [0, 1] (by decide) rfl
      exact W.iret (v := (-2147483648 : Int32)) hx hb hr (fun t ht hW => ⟨⟨_, ((upd F 0 (0 : Int32))), rfl, hv, by rw [ht]; exact hP9, hD9⟩, hS.F ht⟩) hS.2.2 dX9_behind_40
    · have hv := hvf hc
      refine lv_aload_n hx hb dX9_behind_28 rfl (lv_at hl 0 rfl) ?_
      refine lv_iload_n hx hb dX9_behind_29 rfl (lv_at hl 1 rfl) ?_
      refine lv_iload_n hx hb dX9_behind_30 rfl (lv_at hl 2 rfl) ?_
      obtain ⟨G_31, lg_31, i_31, ho_4, hv⟩ := hv
      refine vp_callSi (W.runV (As := [.int p1, .int p2]) (rest := []) S (wX9_behindAt l g qM q1 q2 q3 q4 q5 q6 q7 q8 q9 q10 q11 (upd F 0 (0 : Int32)) J al p1 p2 (sX9_behindAt G_31 lg_31 i_31 (upd F 0 (0 : Int32)) J al p1 p2 ho_4)) (cwV 2 hts gX9_behind_X9_behindAt rfl rfl rfl (by decide +kernel) ⟨Nat.le_of_ble_eq_true rfl, Nat.le_of_ble_eq_true rfl⟩) ⟨blindRO, va_recv hK hP (ci := 9) (q0 := 0) rfl rfl, fun U hU hW => ⟨rfl, by rw [hU]; exact hP.sub (ws' := [(qM, .inr (9, [.int ((upd F 0 (0 : Int32)) 0), .ref q1, .ref q2, .ref q3, .int ((upd F 0 (0 : Int32)) 4), .int ((upd F 0 (0 : Int32)) 5), .int ((upd F 0 (0 : Int32)) 6), .int ((upd F 0 (0 : Int32)) 7), .int ((upd F 0 (0 : Int32)) 8), .int ((upd F 0 (0 : Int32)) 9), .long (J 10), .int ((upd F 0 (0 : Int32)) 11), .int ((upd F 0 (0 : Int32)) 12), .int ((upd F 0 (0 : Int32)) 13), .ref q4, .int ((upd F 0 (0 : Int32)) 15), .ref q5, .ref q6, .ref q7, .int ((upd F 0 (0 : Int32)) 19), .ref q8, .int ((upd F 0 (0 : Int32)) 21), .int ((upd F 0 (0 : Int32)) 22), .int ((upd F 0 (0 : Int32)) 23), .int ((upd F 0 (0 : Int32)) 24), .ref q9, .ref q10, .ref q11, .long (J 28)])), (q1, .inl (g.2 0, 376, .inl al))]) [0, 1] rfl, hG.warm hW⟩⟩ rfl rfl hl.1 rfl (lv_room (Nat.le_of_ble_eq_true rfl)) dX9_behind_31 ⟨Nat.le_of_ble_eq_true rfl, Nat.le_of_ble_eq_true rfl⟩) (fun r_31 hr_31 => ?_)
      have hv := hv r_31 hr_31
      refine lv_goto (tgt := 40) hx hb dX9_behind_34 (by decide) ?_
      have hP9 := hP.sub (ws' := [(qM, .inr (9, [.int ((upd F 0 (0 : Int32)) 0), .ref q1, .ref q2, .ref q3, .int ((upd F 0 (0 : Int32)) 4), .int ((upd F 0 (0 : Int32)) 5), .int ((upd F 0 (0 : Int32)) 6), .int ((upd F 0 (0 : Int32)) 7), .int ((upd F 0 (0 : Int32)) 8), .int ((upd F 0 (0 : Int32)) 9), .long (J 10), .int ((upd F 0 (0 : Int32)) 11), .int ((upd F 0 (0 : Int32)) 12), .int ((upd F 0 (0 : Int32)) 13), .ref q4, .int ((upd F 0 (0 : Int32)) 15), .ref q5, .ref q6, .ref q7, .int ((upd F 0 (0 : Int32)) 19), .ref q8, .int ((upd F 0 (0 : Int32)) 21), .int ((upd F 0 (0 : Int32)) 22), .int ((upd F 0 (0 : Int32)) 23), .int ((upd F 0 (0 : Int32)) 24), .ref q9, .ref q10, .ref q11, .long (J 28)])), (q1, .inl (g.2 0, 376, .inl al))]) [0, 1] rfl
      have hD9 := hD.sub (ws' := [(qM, .inr (9, [.int ((upd F 0 (0 : Int32)) 0), .ref q1, .ref q2, .ref q3, .int ((upd F 0 (0 : Int32)) 4), .int ((upd F 0 (0 : Int32)) 5), .int ((upd F 0 (0 : Int32)) 6), .int ((upd F 0 (0 : Int32)) 7), .int ((upd F 0 (0 : Int32)) 8), .int ((upd F 0 (0 : Int32)) 9), .long (J 10), .int ((upd F 0 (0 : Int32)) 11), .int ((upd F 0 (0 : Int32)) 12), .int ((upd F 0 (0 : Int32)) 13), .ref q4, .int ((upd F 0 (0 : Int32)) 15), .ref q5, .ref q6, .ref q7, .int ((upd F 0 (0 : Int32)) 19), .ref q8, .int ((upd F 0 (0 : Int32)) 21), .int ((upd F 0 (0 : Int32)) 22), .int ((upd F 0 (0 : Int32)) 23), .int ((upd F 0 (0 : Int32)) 24), .ref q9, .ref q10, .ref q11, .long (J 28)])), (q1, .inl (g.2 0, 376, .inl al))]) [0, 1] (by decide) rfl
      exact W.iret (v := r_31) hx hb hr (fun t ht hW => ⟨⟨_, ((upd F 0 (0 : Int32))), rfl, hv, by rw [ht]; exact hP9, hD9⟩, hS.F ht⟩) hS.2.2 dX9_behind_40
abbrev preX9_behind (T : Cd) (G0 : Lg) (G1 : Lg) (lim : Nat) (F : Nat → Int32) (J : Nat → Int64) (al : Nat → Int32) (p1 : Int32) (p2 : Int32) : Prop := fcR T G0 G1 lim al
abbrev postX9_behind (T : Cd) (G0 : Lg) (G1 : Lg) (lim : Nat) (F : Nat → Int32) (J : Nat → Int64) (al : Nat → Int32) (p1 : Int32) (p2 : Int32) (r : Int32) (F' : Nat → Int32) : Prop := r.toInt = spBehind G0 G1 p1.toInt p2.toInt
theorem sX9_behind (T : Cd) (G0 : Lg) (G1 : Lg) (lim : Nat) (F : Nat → Int32) (J : Nat → Int64) (al : Nat → Int32) (p1 : Int32) (p2 : Int32) (H : preX9_behind T G0 G1 lim F J al p1 p2) : vX9_behind F J al p1 p2 (postX9_behind T G0 G1 lim F J al p1 p2) := by
  obtain ⟨hT, h0, h1, hlim, hl9, hl1⟩ := id H
  unfold postX9_behind spBehind
  refine ⟨trivial, fun r hr => ?_⟩
  have hr : r = if p1.toInt = 0 ∨ p1.toInt = 1 then 1 else 0 := hr
  rw [hr, q_if1]
  refine ⟨fun hc => by rw [if_neg (fun q => hc q.1)]; rfl, fun hc => ?_⟩
  have hc := Decidable.not_not.mp hc
  have hG := pk_mG h0 h1 (l := p1.toInt.toNat) (by omega)
  have hm := mG_mn hG
  refine ⟨p1.toInt.toNat, 3, ⟨by omega, rfl, by omega⟩, fun r2 hr2 => ⟨trivial, fun r3 hr3 => ?_⟩⟩
  have hr2 : r2.toInt = (gmn (pkG G0 G1 p1.toInt.toNat) : Int) := by rw [hr2]; exact hm.1
  have hr3 : r3 = if 0 ≤ p2.toInt ∧ p2.toInt < (gmn (pkG G0 G1 p1.toInt.toNat) : Int) then 1 else 0 := by rw [← in_to hr2]; exact hr3
  rw [hr3, q_if1]
  refine ⟨fun hd => by rw [if_neg (fun q => hd q.2)]; rfl, fun hd => ?_⟩
  have hd := Decidable.not_not.mp hd
  refine ⟨pkG G0 G1 p1.toInt.toNat, p1.toInt.toNat, p2.toInt.toNat, ⟨hG, by omega, by omega, by omega, by omega⟩, fun r4 hr4 => ?_⟩
  rw [if_pos ⟨hc, hd⟩]
  exact hr4
set_option maxRecDepth 20000 in
theorem ggX9_match_X9_isLeg : GoodIn wsX9_match wsX9_isLeg := goodIn_r _ [6, 7, 8, 5, 9] (by decide +kernel) (by decide +kernel)
set_option maxRecDepth 20000 in
theorem gX9_match_X9_isLeg : GoodIn wsX9_match (va_wsS RX9 182 yX9_isLeg wsX9_isLeg) := goodIn_app (goodIn_of _ (by decide +kernel)) ggX9_match_X9_isLeg
set_option maxRecDepth 20000 in
theorem ggX9_match_X9_isPart : GoodIn wsX9_match wsX9_isPart := goodIn_r _ [13, 14, 7, 8, 5, 9, 115, 116, 117, 118, 119, 120, 121, 122, 123, 124, 125, 126, 127, 128, 129, 130, 131, 132, 133, 134, 135, 136, 137, 138, 139, 140, 141, 142, 143] (by decide +kernel) (by decide +kernel)
set_option maxRecDepth 20000 in
theorem gX9_match_X9_isPart : GoodIn wsX9_match (wsV RX9 192 RX9 yX9_isPart wsX9_isPart) := goodIn_app (goodIn_of _ (by decide +kernel)) ggX9_match_X9_isPart
set_option maxRecDepth 20000 in
theorem ggX9_match_X9_of : GoodIn wsX9_match wsX9_of := goodIn_r _ [18, 14, 115, 116, 117, 118, 119, 120, 121, 122, 123, 124, 125, 126, 127, 128, 129, 130, 131, 132, 133, 134, 135, 136, 137, 138, 139, 140, 141, 142, 143] (by decide +kernel) (by decide +kernel)
set_option maxRecDepth 20000 in
theorem gX9_match_X9_of : GoodIn wsX9_match (wsV RX9 195 RX9 yX9_of wsX9_of) := goodIn_app (goodIn_of _ (by decide +kernel)) ggX9_match_X9_of
set_option maxRecDepth 20000 in
theorem ggX9_match_X9_in : GoodIn wsX9_match wsX9_in := goodIn_r _ [9] (by decide +kernel) (by decide +kernel)
set_option maxRecDepth 20000 in
theorem gX9_match_X9_in : GoodIn wsX9_match (va_wsS RX9 63 yX9_in wsX9_in) := goodIn_app (goodIn_of _ (by decide +kernel)) ggX9_match_X9_in
set_option maxRecDepth 20000 in
theorem ggX9_match_X9_laysLeg : GoodIn wsX9_match wsX9_laysLeg := goodIn_r _ [22, 23, 24, 25, 26, 27, 5, 28, 29, 30, 31, 32, 33, 34, 35, 36, 37, 38, 39, 40, 41, 14, 42, 43, 44, 45, 46, 47, 48, 49, 50, 51, 52, 53, 54, 55, 56, 57, 58, 59, 60, 61, 62, 63, 15, 16, 17, 18, 64, 65, 66, 67, 68, 69, 70, 7, 8, 9, 71, 72, 73, 74, 2, 75, 76, 77, 78, 79, 80, 81, 82, 83, 84, 85, 86, 87, 88, 89, 90, 91, 92, 93, 94, 95, 96, 97, 98, 99, 100, 101, 102, 103, 104, 105, 106, 107, 108, 109, 110, 111, 112, 113, 114, 115, 116, 117, 118, 119, 120, 121, 122, 123, 124, 125, 126, 127, 128, 129, 130, 131, 132, 133, 134, 135, 136, 137, 138, 139, 140, 141, 142, 143] (by decide +kernel) (by decide +kernel)
set_option maxRecDepth 20000 in
theorem gX9_match_X9_laysLeg : GoodIn wsX9_match (wsV RX9 294 RX9 yX9_laysLeg wsX9_laysLeg) := goodIn_app (goodIn_of _ (by decide +kernel)) ggX9_match_X9_laysLeg
theorem dX9_match_0 : decode cX9_match 0 = .ok (.aload_n 0, 1) := by decide +kernel
theorem dX9_match_1 : decode cX9_match 1 = .ok (.iconst 0, 1) := by decide +kernel
theorem dX9_match_2 : decode cX9_match 2 = .ok (.putfield 51, 3) := by decide +kernel
theorem dX9_match_5 : decode cX9_match 5 = .ok (.iload_n 1, 1) := by decide +kernel
theorem dX9_match_6 : decode cX9_match 6 = .ok (.invokestatic 182, 3) := by decide +kernel
theorem dX9_match_9 : decode cX9_match 9 = .ok (.ifCond .eq 27, 3) := by decide +kernel
theorem dX9_match_12 : decode cX9_match 12 = .ok (.aload_n 0, 1) := by decide +kernel
theorem dX9_match_13 : decode cX9_match 13 = .ok (.iload_n 2, 1) := by decide +kernel
theorem dX9_match_14 : decode cX9_match 14 = .ok (.invokevirtual 192, 3) := by decide +kernel
theorem dX9_match_17 : decode cX9_match 17 = .ok (.ifCond .eq 19, 3) := by decide +kernel
theorem dX9_match_20 : decode cX9_match 20 = .ok (.iload_n 3, 1) := by decide +kernel
theorem dX9_match_21 : decode cX9_match 21 = .ok (.iconst 0, 1) := by decide +kernel
theorem dX9_match_22 : decode cX9_match 22 = .ok (.aload_n 0, 1) := by decide +kernel
theorem dX9_match_23 : decode cX9_match 23 = .ok (.iload_n 2, 1) := by decide +kernel
theorem dX9_match_24 : decode cX9_match 24 = .ok (.iconst 0, 1) := by decide +kernel
theorem dX9_match_25 : decode cX9_match 25 = .ok (.invokevirtual 195, 3) := by decide +kernel
theorem dX9_match_28 : decode cX9_match 28 = .ok (.iconst 1, 1) := by decide +kernel
theorem dX9_match_29 : decode cX9_match 29 = .ok (.isub, 1) := by decide +kernel
theorem dX9_match_30 : decode cX9_match 30 = .ok (.invokestatic 63, 3) := by decide +kernel
theorem dX9_match_33 : decode cX9_match 33 = .ok (.ifCond .ne 7, 3) := by decide +kernel
theorem dX9_match_36 : decode cX9_match 36 = .ok (.sipush (-1000), 3) := by decide +kernel
theorem dX9_match_39 : decode cX9_match 39 = .ok (.ireturn, 1) := by decide +kernel
theorem dX9_match_40 : decode cX9_match 40 = .ok (.aload_n 0, 1) := by decide +kernel
theorem dX9_match_41 : decode cX9_match 41 = .ok (.iload_n 1, 1) := by decide +kernel
theorem dX9_match_42 : decode cX9_match 42 = .ok (.invokevirtual 294, 3) := by decide +kernel
theorem dX9_match_45 : decode cX9_match 45 = .ok (.aload_n 0, 1) := by decide +kernel
theorem dX9_match_46 : decode cX9_match 46 = .ok (.getfield 33, 3) := by decide +kernel
theorem dX9_match_49 : decode cX9_match 49 = .ok (.bipush 13, 2) := by decide +kernel
theorem dX9_match_51 : decode cX9_match 51 = .ok (.iload_n 2, 1) := by decide +kernel
theorem dX9_match_52 : decode cX9_match 52 = .ok (.imul, 1) := by decide +kernel
theorem dX9_match_53 : decode cX9_match 53 = .ok (.iload_n 3, 1) := by decide +kernel
theorem dX9_match_54 : decode cX9_match 54 = .ok (.iadd, 1) := by decide +kernel
theorem dX9_match_55 : decode cX9_match 55 = .ok (.iaload, 1) := by decide +kernel
theorem dX9_match_56 : decode cX9_match 56 = .ok (.ireturn, 1) := by decide +kernel
abbrev rmX9_match : Room := { frames := 7, cells := 0, slots := 0, locals := 162 }
theorem inX9_match_9 : ∀ w ∈ wsX90, w ∈ wsX9_match := by decide +kernel
def vX9_match (F : Nat → Int32) (J : Nat → Int64) (al : Nat → Int32) (he : Nat → Int32) (ma : Nat → Int32) (p1 : Int32) (p2 : Int32) (p3 : Int32) (Q : Int32 → (Nat → Int32) → (Nat → Int32) → (Nat → Int32) → Prop) : Prop := (preX9_isLeg p1 ∧ (∀ r_6 : Int32, postX9_isLeg p1 r_6 → ((r_6 = 0 → (Q (-1000 : Int32) (upd F 0 (0 : Int32)) he ma)) ∧ (¬ r_6 = 0 → (∃ (n_14 : Nat), preX9_isPart n_14 (upd F 0 (0 : Int32)) J al p2 ∧ (∀ r_14 : Int32, postX9_isPart n_14 (upd F 0 (0 : Int32)) J al p2 r_14 → ((r_14 = 0 → (Q (-1000 : Int32) (upd F 0 (0 : Int32)) he ma)) ∧ (¬ r_14 = 0 → (∃ (p_25 : Nat) (w_25 : Nat), preX9_of p_25 w_25 (upd F 0 (0 : Int32)) J al p2 (0 : Int32) ∧ (∀ r_25 : Int32, postX9_of p_25 w_25 (upd F 0 (0 : Int32)) J al p2 (0 : Int32) r_25 → (preX9_in p3 (0 : Int32) (r_25 - (1 : Int32)) ∧ (∀ r_30 : Int32, postX9_in p3 (0 : Int32) (r_25 - (1 : Int32)) r_30 → ((¬ r_30 = 0 → (∃ (T_42 : Cd) (G0_42 : Lg) (G1_42 : Lg) (lg_42 : Nat) (lim_42 : Nat), preX9_laysLeg T_42 G0_42 G1_42 lg_42 lim_42 (upd F 0 (0 : Int32)) J al he ma p1 ∧ (∀ (F_42 : Nat → Int32) (he_42 : Nat → Int32) (ma_42 : Nat → Int32), postX9_laysLeg T_42 G0_42 G1_42 lg_42 lim_42 (upd F 0 (0 : Int32)) J al he ma p1 F_42 he_42 ma_42 → (vp_in (((13 : Int32) * p2) + p3) 65 ∧ (Q (ma_42 (((13 : Int32) * p2) + p3).toNatClampNeg) F_42 he_42 ma_42))))) ∧ (r_30 = 0 → (Q (-1000 : Int32) (upd F 0 (0 : Int32)) he ma)))))))))))))))
set_option maxHeartbeats 4000000 in
set_option maxRecDepth 100000 in
theorem wX9_match (l : Launch) (g : GP) (qM : Nat) (q1 : Nat) (q2 : Nat) (q3 : Nat) (q4 : Nat) (q5 : Nat) (q6 : Nat) (q7 : Nat) (q8 : Nat) (q9 : Nat) (q10 : Nat) (q11 : Nat) (sz : Nat) (F : Nat → Int32) (J : Nat → Int64) (al : Nat → Int32) (he : Nat → Int32) (ma : Nat → Int32) (p1 : Int32) (p2 : Int32) (p3 : Int32) {Q : Int32 → (Nat → Int32) → (Nat → Int32) → (Nat → Int32) → Prop} (hv : vX9_match F J al he ma p1 p2 p3 Q) : Met l yX9_match wsX9_match rmX9_match (va_Pc [.ref qM, .int p1, .int p2, .int p3] (fun U => U.heap.size = sz ∧ va_P g.1 vwCl [(qM, .inr (9, [.int (F 0), .ref q1, .ref q2, .ref q3, .int (F 4), .int (F 5), .int (F 6), .int (F 7), .int (F 8), .int (F 9), .long (J 10), .int (F 11), .int (F 12), .int (F 13), .ref q4, .int (F 15), .ref q5, .ref q6, .ref q7, .int (F 19), .ref q8, .int (F 21), .int (F 22), .int (F 23), .int (F 24), .ref q9, .ref q10, .ref q11, .long (J 28)])), (q1, .inl (g.2 0, 376, .inl al)), (q7, .inl (g.2 0, 200, .inl he)), (q8, .inl (g.2 0, 65, .inl ma))] U.heap ∧ GK g U ∧ va_D (fun _ => True) [(qM, .inr (9, [.int (F 0), .ref q1, .ref q2, .ref q3, .int (F 4), .int (F 5), .int (F 6), .int (F 7), .int (F 8), .int (F 9), .long (J 10), .int (F 11), .int (F 12), .int (F 13), .ref q4, .int (F 15), .ref q5, .ref q6, .ref q7, .int (F 19), .ref q8, .int (F 21), .int (F 22), .int (F 23), .int (F 24), .ref q9, .ref q10, .ref q11, .long (J 28)])), (q1, .inl (g.2 0, 376, .inl al)), (q7, .inl (g.2 0, 200, .inl he)), (q8, .inl (g.2 0, 65, .inl ma))])) (va_Qi (fun (r : Int32) (u : (Nat → Int32) × (Nat → Int32) × (Nat → Int32)) => Q r u.1 u.2.1 u.2.2) (fun (u : (Nat → Int32) × (Nat → Int32) × (Nat → Int32)) t => va_P g.1 vwCl [(qM, .inr (9, [.int (u.1 0), .ref q1, .ref q2, .ref q3, .int (u.1 4), .int (u.1 5), .int (u.1 6), .int (u.1 7), .int (u.1 8), .int (u.1 9), .long (J 10), .int (u.1 11), .int (u.1 12), .int (u.1 13), .ref q4, .int (u.1 15), .ref q5, .ref q6, .ref q7, .int (u.1 19), .ref q8, .int (u.1 21), .int (u.1 22), .int (u.1 23), .int (u.1 24), .ref q9, .ref q10, .ref q11, .long (J 28)])), (q1, .inl (g.2 0, 376, .inl al)), (q7, .inl (g.2 0, 200, .inl u.2.1)), (q8, .inl (g.2 0, 65, .inl u.2.2))] t.heap ∧ va_D (va_A [(qM, .inr (9, [.int (F 0), .ref q1, .ref q2, .ref q3, .int (F 4), .int (F 5), .int (F 6), .int (F 7), .int (F 8), .int (F 9), .long (J 10), .int (F 11), .int (F 12), .int (F 13), .ref q4, .int (F 15), .ref q5, .ref q6, .ref q7, .int (F 19), .ref q8, .int (F 21), .int (F 22), .int (F 23), .int (F 24), .ref q9, .ref q10, .ref q11, .long (J 28)])), (q1, .inl (g.2 0, 376, .inl al)), (q7, .inl (g.2 0, 200, .inl he)), (q8, .inl (g.2 0, 65, .inl ma))] sz) [(qM, .inr (9, [.int (u.1 0), .ref q1, .ref q2, .ref q3, .int (u.1 4), .int (u.1 5), .int (u.1 6), .int (u.1 7), .int (u.1 8), .int (u.1 9), .long (J 10), .int (u.1 11), .int (u.1 12), .int (u.1 13), .ref q4, .int (u.1 15), .ref q5, .ref q6, .ref q7, .int (u.1 19), .ref q8, .int (u.1 21), .int (u.1 22), .int (u.1 23), .int (u.1 24), .ref q9, .ref q10, .ref q11, .long (J 28)])), (q1, .inl (g.2 0, 376, .inl al)), (q7, .inl (g.2 0, 200, .inl u.2.1)), (q8, .inl (g.2 0, 65, .inl u.2.2))]) (va_A [(qM, .inr (9, [.int (F 0), .ref q1, .ref q2, .ref q3, .int (F 4), .int (F 5), .int (F 6), .int (F 7), .int (F 8), .int (F 9), .long (J 10), .int (F 11), .int (F 12), .int (F 13), .ref q4, .int (F 15), .ref q5, .ref q6, .ref q7, .int (F 19), .ref q8, .int (F 21), .int (F 22), .int (F 23), .int (F 24), .ref q9, .ref q10, .ref q11, .long (J 28)])), (q1, .inl (g.2 0, 376, .inl al)), (q7, .inl (g.2 0, 200, .inl he)), (q8, .inl (g.2 0, 65, .inl ma))] sz)) 0 0 (va_A [(qM, .inr (9, [.int (F 0), .ref q1, .ref q2, .ref q3, .int (F 4), .int (F 5), .int (F 6), .int (F 7), .int (F 8), .int (F 9), .long (J 10), .int (F 11), .int (F 12), .int (F 13), .ref q4, .int (F 15), .ref q5, .ref q6, .ref q7, .int (F 19), .ref q8, .int (F 21), .int (F 22), .int (F 23), .int (F 24), .ref q9, .ref q10, .ref q11, .long (J 28)])), (q1, .inl (g.2 0, 376, .inl al)), (q7, .inl (g.2 0, 200, .inl he)), (q8, .inl (g.2 0, 65, .inl ma))] sz) := by
  refine Met.ofW (cc := cX9_match) (maxL := 4) (ret := (some .int)) (by decide) rfl ?_
  intro p e s m args below meth c s₁ B hml hv'
  obtain ⟨rfl, hsz, hP, hG, hD0⟩ := hv'
  have S : CallFix p m c cX9_match 4 s _ wsX9_match RX9 := ⟨B.exec, B.bytes, hml, findClass_of_methodNamed B.named, atoms_spec (ws := wsX9_match) B.pre⟩
  obtain ⟨hx, hb, hml, hown, hts⟩ := id S
  have hK := hG.1
  have hr := B.returns
  have hlocks := B.notSynchronized
  subst hsz
  have hD := hD0.self (sz := s.heap.size)
  generalize hAe : va_A [(qM, .inr (9, [.int (F 0), .ref q1, .ref q2, .ref q3, .int (F 4), .int (F 5), .int (F 6), .int (F 7), .int (F 8), .int (F 9), .long (J 10), .int (F 11), .int (F 12), .int (F 13), .ref q4, .int (F 15), .ref q5, .ref q6, .ref q7, .int (F 19), .ref q8, .int (F 21), .int (F 22), .int (F 23), .int (F 24), .ref q9, .ref q10, .ref q11, .long (J 28)])), (q1, .inl (g.2 0, 376, .inl al)), (q7, .inl (g.2 0, 200, .inl he)), (q8, .inl (g.2 0, 65, .inl ma))] s.heap.size = A at hD ⊢
  have hA : ∀ q : Nat, s.heap.size ≤ q → A q := fun q h => by rw [← hAe]; exact Or.inr h
  have hS : va_S A s.heap s.heap [] := va_S.rf
  clear hD0 hAe
  have hl := lv_entry ([.ref qM, .int p1, .int p2, .int p3]) (n := 4) (Nat.le_of_ble_eq_true rfl)
  rw [lg_entry_eq]
  generalize (lg_sl ([.ref qM, .int p1, .int p2, .int p3]) ++ List.replicate (4 - (lg_sl ([.ref qM, .int p1, .int p2, .int p3])).length) Slot.unset).toArray = ls at hl ⊢
  have hl : lv_has ls 4 [(0, .ref qM), (1, .int p1), (2, .int p2), (3, .int p3)] := hl
  unfold vX9_match at hv
  refine lv_aload_n hx hb dX9_match_0 rfl (lv_at hl 0 rfl) ?_
  refine lv_iconst (v := (0 : Int32)) hx hb dX9_match_1 (by decide) ?_
  refine va_put (D := g.1) (ci := 9) (v := .int (0 : Int32)) (ty := .int) (C := RX9) (T := TX9) (N := 29) hx hb hts inX9_match_9 tyX9 tyX9_ok nmX9 hown hK hP hD hS 0 rfl rfl 0 (by decide) (hts (.fieldLink RX9 51 "RangeCodesModel" "raised" "I") (List.mem_of_getElem? (i := 1) rfl)) (fun _ h9 => h9) rfl (by decide +kernel) rfl rfl (Nat.le_of_ble_eq_true rfl) dX9_match_2 (fun H locs hP hD hS => ?_)
  have hP : va_P g.1 vwCl [(qM, .inr (9, [.int (0 : Int32), .ref q1, .ref q2, .ref q3, .int (F 4), .int (F 5), .int (F 6), .int (F 7), .int (F 8), .int (F 9), .long (J 10), .int (F 11), .int (F 12), .int (F 13), .ref q4, .int (F 15), .ref q5, .ref q6, .ref q7, .int (F 19), .ref q8, .int (F 21), .int (F 22), .int (F 23), .int (F 24), .ref q9, .ref q10, .ref q11, .long (J 28)])), (q1, .inl (g.2 0, 376, .inl al)), (q7, .inl (g.2 0, 200, .inl he)), (q8, .inl (g.2 0, 65, .inl ma))] H := hP
  have hD : va_D A [(qM, .inr (9, [.int (0 : Int32), .ref q1, .ref q2, .ref q3, .int (F 4), .int (F 5), .int (F 6), .int (F 7), .int (F 8), .int (F 9), .long (J 10), .int (F 11), .int (F 12), .int (F 13), .ref q4, .int (F 15), .ref q5, .ref q6, .ref q7, .int (F 19), .ref q8, .int (F 21), .int (F 22), .int (F 23), .int (F 24), .ref q9, .ref q10, .ref q11, .long (J 28)])), (q1, .inl (g.2 0, 376, .inl al)), (q7, .inl (g.2 0, 200, .inl he)), (q8, .inl (g.2 0, 65, .inl ma))] := hD
  refine lv_iload_n hx hb dX9_match_5 rfl (lv_at hl 1 rfl) ?_
  obtain ⟨ho_1, hv⟩ := hv
  refine vp_callSi (W.runS (As := [.int p1]) (rest := []) S (wX9_isLeg l g p1 (sX9_isLeg p1 ho_1)) (va_cwS 1 hts gX9_match_X9_isLeg rfl rfl rfl (by decide +kernel) ⟨Nat.le_of_ble_eq_true rfl, Nat.le_of_ble_eq_true rfl⟩) ⟨blindRO, fun U hU hW => ⟨rfl, by rw [hU]; exact hP.sub (ws' := []) [] rfl, hG.warm hW⟩⟩ rfl rfl hl.1 rfl (lv_room (Nat.le_of_ble_eq_true rfl)) dX9_match_6 ⟨Nat.le_of_ble_eq_true rfl, Nat.le_of_ble_eq_true rfl⟩) (fun r_6 hr_6 => ?_)
  have hv := hv r_6 hr_6
  obtain ⟨hvt, hvf⟩ := hv
  refine lv_if_eq (tgt := 36) hx hb dX9_match_9 (by decide) (fun hc => ?_) (fun hc => ?_)
  · have hv := hvt hc
    refine lv_sipush (v := (-1000 : Int32)) hx hb dX9_match_36 (by decide) ?_
    have hP9 := hP.sub (ws' := [(qM, .inr (9, [.int ((upd F 0 (0 : Int32)) 0), .ref q1, .ref q2, .ref q3, .int ((upd F 0 (0 : Int32)) 4), .int ((upd F 0 (0 : Int32)) 5), .int ((upd F 0 (0 : Int32)) 6), .int ((upd F 0 (0 : Int32)) 7), .int ((upd F 0 (0 : Int32)) 8), .int ((upd F 0 (0 : Int32)) 9), .long (J 10), .int ((upd F 0 (0 : Int32)) 11), .int ((upd F 0 (0 : Int32)) 12), .int ((upd F 0 (0 : Int32)) 13), .ref q4, .int ((upd F 0 (0 : Int32)) 15), .ref q5, .ref q6, .ref q7, .int ((upd F 0 (0 : Int32)) 19), .ref q8, .int ((upd F 0 (0 : Int32)) 21), .int ((upd F 0 (0 : Int32)) 22), .int ((upd F 0 (0 : Int32)) 23), .int ((upd F 0 (0 : Int32)) 24), .ref q9, .ref q10, .ref q11, .long (J 28)])), (q1, .inl (g.2 0, 376, .inl al)), (q7, .inl (g.2 0, 200, .inl he)), (q8, .inl (g.2 0, 65, .inl ma))]) [0, 1, 2, 3] rfl
    have hD9 := hD.sub (ws' := [(qM, .inr (9, [.int ((upd F 0 (0 : Int32)) 0), .ref q1, .ref q2, .ref q3, .int ((upd F 0 (0 : Int32)) 4), .int ((upd F 0 (0 : Int32)) 5), .int ((upd F 0 (0 : Int32)) 6), .int ((upd F 0 (0 : Int32)) 7), .int ((upd F 0 (0 : Int32)) 8), .int ((upd F 0 (0 : Int32)) 9), .long (J 10), .int ((upd F 0 (0 : Int32)) 11), .int ((upd F 0 (0 : Int32)) 12), .int ((upd F 0 (0 : Int32)) 13), .ref q4, .int ((upd F 0 (0 : Int32)) 15), .ref q5, .ref q6, .ref q7, .int ((upd F 0 (0 : Int32)) 19), .ref q8, .int ((upd F 0 (0 : Int32)) 21), .int ((upd F 0 (0 : Int32)) 22), .int ((upd F 0 (0 : Int32)) 23), .int ((upd F 0 (0 : Int32)) 24), .ref q9, .ref q10, .ref q11, .long (J 28)])), (q1, .inl (g.2 0, 376, .inl al)), (q7, .inl (g.2 0, 200, .inl he)), (q8, .inl (g.2 0, 65, .inl ma))]) [0, 1, 2, 3] (by decide) rfl
    exact W.iret (v := (-1000 : Int32)) hx hb hr (fun t ht hW => ⟨⟨_, ((upd F 0 (0 : Int32)), he, ma), rfl, hv, by rw [ht]; exact hP9, hD9⟩, hS.F ht⟩) hS.2.2 dX9_match_39
  · have hv := hvf hc
    refine lv_aload_n hx hb dX9_match_12 rfl (lv_at hl 0 rfl) ?_
    refine lv_iload_n hx hb dX9_match_13 rfl (lv_at hl 2 rfl) ?_
    obtain ⟨n_14, ho_2, hv⟩ := hv
    refine vp_callSi (W.runV (As := [.int p2]) (rest := []) S (wX9_isPart l g qM q1 q2 q3 q4 q5 q6 q7 q8 q9 q10 q11 (upd F 0 (0 : Int32)) J al p2 (sX9_isPart n_14 (upd F 0 (0 : Int32)) J al p2 ho_2)) (cwV 1 hts gX9_match_X9_isPart rfl rfl rfl (by decide +kernel) ⟨Nat.le_of_ble_eq_true rfl, Nat.le_of_ble_eq_true rfl⟩) ⟨blindRO, va_recv hK hP (ci := 9) (q0 := 0) rfl rfl, fun U hU hW => ⟨rfl, by rw [hU]; exact hP.sub (ws' := [(qM, .inr (9, [.int ((upd F 0 (0 : Int32)) 0), .ref q1, .ref q2, .ref q3, .int ((upd F 0 (0 : Int32)) 4), .int ((upd F 0 (0 : Int32)) 5), .int ((upd F 0 (0 : Int32)) 6), .int ((upd F 0 (0 : Int32)) 7), .int ((upd F 0 (0 : Int32)) 8), .int ((upd F 0 (0 : Int32)) 9), .long (J 10), .int ((upd F 0 (0 : Int32)) 11), .int ((upd F 0 (0 : Int32)) 12), .int ((upd F 0 (0 : Int32)) 13), .ref q4, .int ((upd F 0 (0 : Int32)) 15), .ref q5, .ref q6, .ref q7, .int ((upd F 0 (0 : Int32)) 19), .ref q8, .int ((upd F 0 (0 : Int32)) 21), .int ((upd F 0 (0 : Int32)) 22), .int ((upd F 0 (0 : Int32)) 23), .int ((upd F 0 (0 : Int32)) 24), .ref q9, .ref q10, .ref q11, .long (J 28)])), (q1, .inl (g.2 0, 376, .inl al))]) [0, 1] rfl, hG.warm hW⟩⟩ rfl rfl hl.1 rfl (lv_room (Nat.le_of_ble_eq_true rfl)) dX9_match_14 ⟨Nat.le_of_ble_eq_true rfl, Nat.le_of_ble_eq_true rfl⟩) (fun r_14 hr_14 => ?_)
    have hv := hv r_14 hr_14
    obtain ⟨hvt, hvf⟩ := hv
    refine lv_if_eq (tgt := 36) hx hb dX9_match_17 (by decide) (fun hc => ?_) (fun hc => ?_)
    · have hv := hvt hc
      refine lv_sipush (v := (-1000 : Int32)) hx hb dX9_match_36 (by decide) ?_
      have hP9 := hP.sub (ws' := [(qM, .inr (9, [.int ((upd F 0 (0 : Int32)) 0), .ref q1, .ref q2, .ref q3, .int ((upd F 0 (0 : Int32)) 4), .int ((upd F 0 (0 : Int32)) 5), .int ((upd F 0 (0 : Int32)) 6), .int ((upd F 0 (0 : Int32)) 7), .int ((upd F 0 (0 : Int32)) 8), .int ((upd F 0 (0 : Int32)) 9), .long (J 10), .int ((upd F 0 (0 : Int32)) 11), .int ((upd F 0 (0 : Int32)) 12), .int ((upd F 0 (0 : Int32)) 13), .ref q4, .int ((upd F 0 (0 : Int32)) 15), .ref q5, .ref q6, .ref q7, .int ((upd F 0 (0 : Int32)) 19), .ref q8, .int ((upd F 0 (0 : Int32)) 21), .int ((upd F 0 (0 : Int32)) 22), .int ((upd F 0 (0 : Int32)) 23), .int ((upd F 0 (0 : Int32)) 24), .ref q9, .ref q10, .ref q11, .long (J 28)])), (q1, .inl (g.2 0, 376, .inl al)), (q7, .inl (g.2 0, 200, .inl he)), (q8, .inl (g.2 0, 65, .inl ma))]) [0, 1, 2, 3] rfl
      have hD9 := hD.sub (ws' := [(qM, .inr (9, [.int ((upd F 0 (0 : Int32)) 0), .ref q1, .ref q2, .ref q3, .int ((upd F 0 (0 : Int32)) 4), .int ((upd F 0 (0 : Int32)) 5), .int ((upd F 0 (0 : Int32)) 6), .int ((upd F 0 (0 : Int32)) 7), .int ((upd F 0 (0 : Int32)) 8), .int ((upd F 0 (0 : Int32)) 9), .long (J 10), .int ((upd F 0 (0 : Int32)) 11), .int ((upd F 0 (0 : Int32)) 12), .int ((upd F 0 (0 : Int32)) 13), .ref q4, .int ((upd F 0 (0 : Int32)) 15), .ref q5, .ref q6, .ref q7, .int ((upd F 0 (0 : Int32)) 19), .ref q8, .int ((upd F 0 (0 : Int32)) 21), .int ((upd F 0 (0 : Int32)) 22), .int ((upd F 0 (0 : Int32)) 23), .int ((upd F 0 (0 : Int32)) 24), .ref q9, .ref q10, .ref q11, .long (J 28)])), (q1, .inl (g.2 0, 376, .inl al)), (q7, .inl (g.2 0, 200, .inl he)), (q8, .inl (g.2 0, 65, .inl ma))]) [0, 1, 2, 3] (by decide) rfl
      exact W.iret (v := (-1000 : Int32)) hx hb hr (fun t ht hW => ⟨⟨_, ((upd F 0 (0 : Int32)), he, ma), rfl, hv, by rw [ht]; exact hP9, hD9⟩, hS.F ht⟩) hS.2.2 dX9_match_39
    · have hv := hvf hc
      refine lv_iload_n hx hb dX9_match_20 rfl (lv_at hl 3 rfl) ?_
      refine lv_iconst (v := (0 : Int32)) hx hb dX9_match_21 (by decide) ?_
      refine lv_aload_n hx hb dX9_match_22 rfl (lv_at hl 0 rfl) ?_
      refine lv_iload_n hx hb dX9_match_23 rfl (lv_at hl 2 rfl) ?_
      refine lv_iconst (v := (0 : Int32)) hx hb dX9_match_24 (by decide) ?_
      obtain ⟨p_25, w_25, ho_3, hv⟩ := hv
      refine vp_callSi (W.runV (As := [.int p2, .int (0 : Int32)]) (rest := [.int (0 : Int32), .int p3]) S (wX9_of l g qM q1 q2 q3 q4 q5 q6 q7 q8 q9 q10 q11 (upd F 0 (0 : Int32)) J al p2 (0 : Int32) (sX9_of p_25 w_25 (upd F 0 (0 : Int32)) J al p2 (0 : Int32) ho_3)) (cwV 2 hts gX9_match_X9_of rfl rfl rfl (by decide +kernel) ⟨Nat.le_of_ble_eq_true rfl, Nat.le_of_ble_eq_true rfl⟩) ⟨blindRO, va_recv hK hP (ci := 9) (q0 := 0) rfl rfl, fun U hU hW => ⟨rfl, by rw [hU]; exact hP.sub (ws' := [(qM, .inr (9, [.int ((upd F 0 (0 : Int32)) 0), .ref q1, .ref q2, .ref q3, .int ((upd F 0 (0 : Int32)) 4), .int ((upd F 0 (0 : Int32)) 5), .int ((upd F 0 (0 : Int32)) 6), .int ((upd F 0 (0 : Int32)) 7), .int ((upd F 0 (0 : Int32)) 8), .int ((upd F 0 (0 : Int32)) 9), .long (J 10), .int ((upd F 0 (0 : Int32)) 11), .int ((upd F 0 (0 : Int32)) 12), .int ((upd F 0 (0 : Int32)) 13), .ref q4, .int ((upd F 0 (0 : Int32)) 15), .ref q5, .ref q6, .ref q7, .int ((upd F 0 (0 : Int32)) 19), .ref q8, .int ((upd F 0 (0 : Int32)) 21), .int ((upd F 0 (0 : Int32)) 22), .int ((upd F 0 (0 : Int32)) 23), .int ((upd F 0 (0 : Int32)) 24), .ref q9, .ref q10, .ref q11, .long (J 28)])), (q1, .inl (g.2 0, 376, .inl al))]) [0, 1] rfl, hG.warm hW⟩⟩ rfl rfl hl.1 rfl (lv_room (Nat.le_of_ble_eq_true rfl)) dX9_match_25 ⟨Nat.le_of_ble_eq_true rfl, Nat.le_of_ble_eq_true rfl⟩) (fun r_25 hr_25 => ?_)
      have hv := hv r_25 hr_25
      refine lv_iconst (v := (1 : Int32)) hx hb dX9_match_28 (by decide) ?_
      refine lv_isub hx hb dX9_match_29 ?_
      obtain ⟨ho_4, hv⟩ := hv
      refine vp_callSi (W.runS (As := [.int p3, .int (0 : Int32), .int (r_25 - (1 : Int32))]) (rest := []) S (wX9_in l g p3 (0 : Int32) (r_25 - (1 : Int32)) (sX9_in p3 (0 : Int32) (r_25 - (1 : Int32)) ho_4)) (va_cwS 3 hts gX9_match_X9_in rfl rfl rfl (by decide +kernel) ⟨Nat.le_of_ble_eq_true rfl, Nat.le_of_ble_eq_true rfl⟩) ⟨blindRO, fun U hU hW => ⟨rfl, by rw [hU]; exact hP.sub (ws' := []) [] rfl, hG.warm hW⟩⟩ rfl rfl hl.1 rfl (lv_room (Nat.le_of_ble_eq_true rfl)) dX9_match_30 ⟨Nat.le_of_ble_eq_true rfl, Nat.le_of_ble_eq_true rfl⟩) (fun r_30 hr_30 => ?_)
      have hv := hv r_30 hr_30
      obtain ⟨hvt, hvf⟩ := hv
      refine lv_if_ne (tgt := 40) hx hb dX9_match_33 (by decide) (fun hc => ?_) (fun hc => ?_)
      · have hv := hvt hc
        refine lv_aload_n hx hb dX9_match_40 rfl (lv_at hl 0 rfl) ?_
        refine lv_iload_n hx hb dX9_match_41 rfl (lv_at hl 1 rfl) ?_
        obtain ⟨T_42, G0_42, G1_42, lg_42, lim_42, ho_5, hv⟩ := hv
        have hPc := hP.sub (ws' := [(qM, .inr (9, [.int ((upd F 0 (0 : Int32)) 0), .ref q1, .ref q2, .ref q3, .int ((upd F 0 (0 : Int32)) 4), .int ((upd F 0 (0 : Int32)) 5), .int ((upd F 0 (0 : Int32)) 6), .int ((upd F 0 (0 : Int32)) 7), .int ((upd F 0 (0 : Int32)) 8), .int ((upd F 0 (0 : Int32)) 9), .long (J 10), .int ((upd F 0 (0 : Int32)) 11), .int ((upd F 0 (0 : Int32)) 12), .int ((upd F 0 (0 : Int32)) 13), .ref q4, .int ((upd F 0 (0 : Int32)) 15), .ref q5, .ref q6, .ref q7, .int ((upd F 0 (0 : Int32)) 19), .ref q8, .int ((upd F 0 (0 : Int32)) 21), .int ((upd F 0 (0 : Int32)) 22), .int ((upd F 0 (0 : Int32)) 23), .int ((upd F 0 (0 : Int32)) 24), .ref q9, .ref q10, .ref q11, .long (J 28)])), (q1, .inl (g.2 0, 376, .inl al)), (q7, .inl (g.2 0, 200, .inl he)), (q8, .inl (g.2 0, 65, .inl ma))]) [0, 1, 2, 3] rfl
        have hDc := hD.sub (ws' := [(qM, .inr (9, [.int ((upd F 0 (0 : Int32)) 0), .ref q1, .ref q2, .ref q3, .int ((upd F 0 (0 : Int32)) 4), .int ((upd F 0 (0 : Int32)) 5), .int ((upd F 0 (0 : Int32)) 6), .int ((upd F 0 (0 : Int32)) 7), .int ((upd F 0 (0 : Int32)) 8), .int ((upd F 0 (0 : Int32)) 9), .long (J 10), .int ((upd F 0 (0 : Int32)) 11), .int ((upd F 0 (0 : Int32)) 12), .int ((upd F 0 (0 : Int32)) 13), .ref q4, .int ((upd F 0 (0 : Int32)) 15), .ref q5, .ref q6, .ref q7, .int ((upd F 0 (0 : Int32)) 19), .ref q8, .int ((upd F 0 (0 : Int32)) 21), .int ((upd F 0 (0 : Int32)) 22), .int ((upd F 0 (0 : Int32)) 23), .int ((upd F 0 (0 : Int32)) 24), .ref q9, .ref q10, .ref q11, .long (J 28)])), (q1, .inl (g.2 0, 376, .inl al)), (q7, .inl (g.2 0, 200, .inl he)), (q8, .inl (g.2 0, 65, .inl ma))]) [0, 1, 2, 3] (by decide) rfl
        have hFc := va_free (wc := [(qM, .inr (9, [.int ((upd F 0 (0 : Int32)) 0), .ref q1, .ref q2, .ref q3, .int ((upd F 0 (0 : Int32)) 4), .int ((upd F 0 (0 : Int32)) 5), .int ((upd F 0 (0 : Int32)) 6), .int ((upd F 0 (0 : Int32)) 7), .int ((upd F 0 (0 : Int32)) 8), .int ((upd F 0 (0 : Int32)) 9), .long (J 10), .int ((upd F 0 (0 : Int32)) 11), .int ((upd F 0 (0 : Int32)) 12), .int ((upd F 0 (0 : Int32)) 13), .ref q4, .int ((upd F 0 (0 : Int32)) 15), .ref q5, .ref q6, .ref q7, .int ((upd F 0 (0 : Int32)) 19), .ref q8, .int ((upd F 0 (0 : Int32)) 21), .int ((upd F 0 (0 : Int32)) 22), .int ((upd F 0 (0 : Int32)) 23), .int ((upd F 0 (0 : Int32)) 24), .ref q9, .ref q10, .ref q11, .long (J 28)])), (q1, .inl (g.2 0, 376, .inl al)), (q7, .inl (g.2 0, 200, .inl he)), (q8, .inl (g.2 0, 65, .inl ma))]) hD hS hA [0, 1, 2, 3] rfl
        refine va_callv (va_runV (As := [.int p1]) (rest := []) S (wX9_laysLeg l g qM q1 q2 q3 q4 q5 q6 q7 q8 q9 q10 q11 H.size (upd F 0 (0 : Int32)) J al he ma p1 (sX9_laysLeg T_42 G0_42 G1_42 lg_42 lim_42 (upd F 0 (0 : Int32)) J al he ma p1 ho_5)) (cwV 1 hts gX9_match_X9_laysLeg rfl rfl rfl (by decide +kernel) ⟨Nat.le_of_ble_eq_true rfl, Nat.le_of_ble_eq_true rfl⟩) ⟨blindRW, va_recv hK hP (ci := 9) (q0 := 0) rfl rfl, fun U hU hW => ⟨rfl, by rw [hU], by rw [hU]; exact hPc, hG.warm hW, hDc.weaken (fun _ _ _ _ => trivial)⟩⟩ rfl rfl hl.1 rfl (lv_room (Nat.le_of_ble_eq_true rfl)) dX9_match_42 ⟨Nat.le_of_ble_eq_true rfl, Nat.le_of_ble_eq_true rfl⟩) hS (fun q _ h => hFc q h) hFc (fun u t H1 locs ht hvm hw hB hz1 hk1 hS => ?_)
        obtain ⟨F_42, he_42, ma_42⟩ := u
        obtain ⟨hP1, hD1⟩ := hB
        rw [ht] at hP1
        have hv := hv F_42 he_42 ma_42 hw
        obtain ⟨hP, hD⟩ := va_join (wr := []) (w1 := [(qM, .inr (9, [.int (F_42 0), .ref q1, .ref q2, .ref q3, .int (F_42 4), .int (F_42 5), .int (F_42 6), .int (F_42 7), .int (F_42 8), .int (F_42 9), .long (J 10), .int (F_42 11), .int (F_42 12), .int (F_42 13), .ref q4, .int (F_42 15), .ref q5, .ref q6, .ref q7, .int (F_42 19), .ref q8, .int (F_42 21), .int (F_42 22), .int (F_42 23), .int (F_42 24), .ref q9, .ref q10, .ref q11, .long (J 28)])), (q1, .inl (g.2 0, 376, .inl al)), (q7, .inl (g.2 0, 200, .inl he_42)), (q8, .inl (g.2 0, 65, .inl ma_42))]) hP hD [0, 1, 2, 3] [] rfl rfl (by decide) (by decide) hk1 hFc hP1 hD1
        clear hP1 hD1 hPc hDc hFc hk1
        generalize H1 = H at hP hS ⊢
        have hP : va_P g.1 vwCl [(qM, .inr (9, [.int (F_42 0), .ref q1, .ref q2, .ref q3, .int (F_42 4), .int (F_42 5), .int (F_42 6), .int (F_42 7), .int (F_42 8), .int (F_42 9), .long (J 10), .int (F_42 11), .int (F_42 12), .int (F_42 13), .ref q4, .int (F_42 15), .ref q5, .ref q6, .ref q7, .int (F_42 19), .ref q8, .int (F_42 21), .int (F_42 22), .int (F_42 23), .int (F_42 24), .ref q9, .ref q10, .ref q11, .long (J 28)])), (q1, .inl (g.2 0, 376, .inl al)), (q7, .inl (g.2 0, 200, .inl he_42)), (q8, .inl (g.2 0, 65, .inl ma_42))] H := hP
        have hD : va_D A [(qM, .inr (9, [.int (F_42 0), .ref q1, .ref q2, .ref q3, .int (F_42 4), .int (F_42 5), .int (F_42 6), .int (F_42 7), .int (F_42 8), .int (F_42 9), .long (J 10), .int (F_42 11), .int (F_42 12), .int (F_42 13), .ref q4, .int (F_42 15), .ref q5, .ref q6, .ref q7, .int (F_42 19), .ref q8, .int (F_42 21), .int (F_42 22), .int (F_42 23), .int (F_42 24), .ref q9, .ref q10, .ref q11, .long (J 28)])), (q1, .inl (g.2 0, 376, .inl al)), (q7, .inl (g.2 0, 200, .inl he_42)), (q8, .inl (g.2 0, 65, .inl ma_42))] := hD
        refine lv_aload_n hx hb dX9_match_45 rfl (lv_at hl 0 rfl) ?_
        refine va_get (D := g.1) (ci := 9) (v := .ref q8) (C := RX9) (T := TX9) (N := 29) hx hb hts inX9_match_9 hown hK hP 0 rfl rfl 20 (by decide) (hts (.fieldLink RX9 33 "RangeCodesModel" "matches" "[I") (List.mem_of_getElem? (i := 2) rfl)) (fun _ h9 => h9) rfl dX9_match_46 ?_
        refine lv_bipush (v := (13 : Int32)) hx hb dX9_match_49 (by decide) ?_
        refine lv_iload_n hx hb dX9_match_51 rfl (lv_at hl 2 rfl) ?_
        refine lv_imul hx hb dX9_match_52 ?_
        refine lv_iload_n hx hb dX9_match_53 rfl (lv_at hl 3 rfl) ?_
        refine lv_iadd hx hb dX9_match_54 ?_
        obtain ⟨ho_6, hv⟩ := hv
        refine va_iald hx hb hK hP 3 0 rfl rfl ho_6 dX9_match_55 ?_
        have hP9 := hP.sub (ws' := [(qM, .inr (9, [.int (F_42 0), .ref q1, .ref q2, .ref q3, .int (F_42 4), .int (F_42 5), .int (F_42 6), .int (F_42 7), .int (F_42 8), .int (F_42 9), .long (J 10), .int (F_42 11), .int (F_42 12), .int (F_42 13), .ref q4, .int (F_42 15), .ref q5, .ref q6, .ref q7, .int (F_42 19), .ref q8, .int (F_42 21), .int (F_42 22), .int (F_42 23), .int (F_42 24), .ref q9, .ref q10, .ref q11, .long (J 28)])), (q1, .inl (g.2 0, 376, .inl al)), (q7, .inl (g.2 0, 200, .inl he_42)), (q8, .inl (g.2 0, 65, .inl ma_42))]) [0, 1, 2, 3] rfl
        have hD9 := hD.sub (ws' := [(qM, .inr (9, [.int (F_42 0), .ref q1, .ref q2, .ref q3, .int (F_42 4), .int (F_42 5), .int (F_42 6), .int (F_42 7), .int (F_42 8), .int (F_42 9), .long (J 10), .int (F_42 11), .int (F_42 12), .int (F_42 13), .ref q4, .int (F_42 15), .ref q5, .ref q6, .ref q7, .int (F_42 19), .ref q8, .int (F_42 21), .int (F_42 22), .int (F_42 23), .int (F_42 24), .ref q9, .ref q10, .ref q11, .long (J 28)])), (q1, .inl (g.2 0, 376, .inl al)), (q7, .inl (g.2 0, 200, .inl he_42)), (q8, .inl (g.2 0, 65, .inl ma_42))]) [0, 1, 2, 3] (by decide) rfl
        exact W.iret (v := (ma_42 (((13 : Int32) * p2) + p3).toNatClampNeg)) hx hb hr (fun t ht hW => ⟨⟨_, (F_42, he_42, ma_42), rfl, hv, by rw [ht]; exact hP9, hD9⟩, hS.F ht⟩) hS.2.2 dX9_match_56
      · have hv := hvf hc
        refine lv_sipush (v := (-1000 : Int32)) hx hb dX9_match_36 (by decide) ?_
        have hP9 := hP.sub (ws' := [(qM, .inr (9, [.int ((upd F 0 (0 : Int32)) 0), .ref q1, .ref q2, .ref q3, .int ((upd F 0 (0 : Int32)) 4), .int ((upd F 0 (0 : Int32)) 5), .int ((upd F 0 (0 : Int32)) 6), .int ((upd F 0 (0 : Int32)) 7), .int ((upd F 0 (0 : Int32)) 8), .int ((upd F 0 (0 : Int32)) 9), .long (J 10), .int ((upd F 0 (0 : Int32)) 11), .int ((upd F 0 (0 : Int32)) 12), .int ((upd F 0 (0 : Int32)) 13), .ref q4, .int ((upd F 0 (0 : Int32)) 15), .ref q5, .ref q6, .ref q7, .int ((upd F 0 (0 : Int32)) 19), .ref q8, .int ((upd F 0 (0 : Int32)) 21), .int ((upd F 0 (0 : Int32)) 22), .int ((upd F 0 (0 : Int32)) 23), .int ((upd F 0 (0 : Int32)) 24), .ref q9, .ref q10, .ref q11, .long (J 28)])), (q1, .inl (g.2 0, 376, .inl al)), (q7, .inl (g.2 0, 200, .inl he)), (q8, .inl (g.2 0, 65, .inl ma))]) [0, 1, 2, 3] rfl
        have hD9 := hD.sub (ws' := [(qM, .inr (9, [.int ((upd F 0 (0 : Int32)) 0), .ref q1, .ref q2, .ref q3, .int ((upd F 0 (0 : Int32)) 4), .int ((upd F 0 (0 : Int32)) 5), .int ((upd F 0 (0 : Int32)) 6), .int ((upd F 0 (0 : Int32)) 7), .int ((upd F 0 (0 : Int32)) 8), .int ((upd F 0 (0 : Int32)) 9), .long (J 10), .int ((upd F 0 (0 : Int32)) 11), .int ((upd F 0 (0 : Int32)) 12), .int ((upd F 0 (0 : Int32)) 13), .ref q4, .int ((upd F 0 (0 : Int32)) 15), .ref q5, .ref q6, .ref q7, .int ((upd F 0 (0 : Int32)) 19), .ref q8, .int ((upd F 0 (0 : Int32)) 21), .int ((upd F 0 (0 : Int32)) 22), .int ((upd F 0 (0 : Int32)) 23), .int ((upd F 0 (0 : Int32)) 24), .ref q9, .ref q10, .ref q11, .long (J 28)])), (q1, .inl (g.2 0, 376, .inl al)), (q7, .inl (g.2 0, 200, .inl he)), (q8, .inl (g.2 0, 65, .inl ma))]) [0, 1, 2, 3] (by decide) rfl
        exact W.iret (v := (-1000 : Int32)) hx hb hr (fun t ht hW => ⟨⟨_, ((upd F 0 (0 : Int32)), he, ma), rfl, hv, by rw [ht]; exact hP9, hD9⟩, hS.F ht⟩) hS.2.2 dX9_match_39
abbrev preX9_match (T : Cd) (G0 : Lg) (G1 : Lg) (lim : Nat) (F : Nat → Int32) (J : Nat → Int64) (al : Nat → Int32) (he : Nat → Int32) (ma : Nat → Int32) (p1 : Int32) (p2 : Int32) (p3 : Int32) : Prop := fcR T G0 G1 lim al
abbrev postX9_match (T : Cd) (G0 : Lg) (G1 : Lg) (lim : Nat) (F : Nat → Int32) (J : Nat → Int64) (al : Nat → Int32) (he : Nat → Int32) (ma : Nat → Int32) (p1 : Int32) (p2 : Int32) (p3 : Int32) (r : Int32) (F' : Nat → Int32) (he' : Nat → Int32) (ma' : Nat → Int32) : Prop := r.toInt = spMatch T G0 G1 lim p1.toInt p2.toInt p3.toInt
theorem sX9_match (T : Cd) (G0 : Lg) (G1 : Lg) (lim : Nat) (F : Nat → Int32) (J : Nat → Int64) (al : Nat → Int32) (he : Nat → Int32) (ma : Nat → Int32) (p1 : Int32) (p2 : Int32) (p3 : Int32) (H : preX9_match T G0 G1 lim F J al he ma p1 p2 p3) : vX9_match F J al he ma p1 p2 p3 (postX9_match T G0 G1 lim F J al he ma p1 p2 p3) := by
  obtain ⟨hT, h0, h1, hlim, hl9, hl1⟩ := id H
  have hn5 := hT.1.2
  unfold postX9_match spMatch
  refine ⟨trivial, fun r hr => ?_⟩
  have hr : r = if p1.toInt = 0 ∨ p1.toInt = 1 then 1 else 0 := hr
  rw [hr, q_if1]
  refine ⟨fun hc => by rw [if_neg (fun q => hc q.1)]; rfl, fun hc => ⟨cn T, hT.1.1, fun r2 hr2 => ?_⟩⟩
  have hc := Decidable.not_not.mp hc
  have hr2 : r2 = if 0 ≤ p2.toInt ∧ p2.toInt < (cn T : Int) then 1 else 0 := hr2
  rw [hr2, q_if1]
  refine ⟨fun hd => by rw [if_neg (fun q => hd q.2.1)]; rfl, fun hd => ?_⟩
  have hd := Decidable.not_not.mp hd
  have e2 : p2.toInt = (p2.toInt.toNat : Int) := by omega
  have hp : p2.toInt.toNat < cn T := by omega
  have hlp := mT_L hT hp
  refine ⟨p2.toInt.toNat, 0, ⟨e2, rfl, by omega⟩, fun r3 hr3 => ⟨trivial, fun r4 hr4 => ?_⟩⟩
  have hr3 : r3.toInt = (cL T p2.toInt.toNat : Int) := by rw [hr3]; exact hlp.1
  have hr4 : r4 = if 0 ≤ p3.toInt ∧ p3.toInt < (cL T p2.toInt.toNat : Int) then 1 else 0 := by rw [← in_to hr3]; exact hr4
  rw [hr4, q_if1]
  refine ⟨fun he => ?_, fun he => by rw [if_neg (fun q => he q.2.2)]; rfl⟩
  have he := Decidable.not_not.mp he
  refine ⟨T, G0, G1, p1.toInt.toNat, lim, fcR_ll H _ _ _ _ hc, fun F2 he2 ma2 hq => ?_⟩
  have h2 := rlC_of hq
  have e3 : p3.toInt = (p3.toInt.toNat : Int) := by omega
  have e := q_13 e2 e3 (by omega) (by omega)
  refine ⟨q_in e (by omega), ?_⟩
  rw [if_pos ⟨hc, hd, he⟩, q_cl e]
  exact h2.2.1 _ hp _ (by omega)
set_option maxRecDepth 20000 in
theorem ggX9_joined_X9_isLeg : GoodIn wsX9_joined wsX9_isLeg := goodIn_r _ [5, 6, 7, 4, 8] (by decide +kernel) (by decide +kernel)
set_option maxRecDepth 20000 in
theorem gX9_joined_X9_isLeg : GoodIn wsX9_joined (va_wsS RX9 182 yX9_isLeg wsX9_isLeg) := goodIn_app (goodIn_of _ (by decide +kernel)) ggX9_joined_X9_isLeg
set_option maxRecDepth 20000 in
theorem ggX9_joined_X9_everyPart : GoodIn wsX9_joined wsX9_everyPart := goodIn_r _ [12, 13, 111, 112, 113, 114, 115, 116, 117, 118, 119, 120, 121, 122, 123, 124, 125, 126, 127, 128, 129, 130, 131, 132, 133, 134, 135, 136, 137, 138, 139] (by decide +kernel) (by decide +kernel)
set_option maxRecDepth 20000 in
theorem gX9_joined_X9_everyPart : GoodIn wsX9_joined (wsV RX9 210 RX9 yX9_everyPart wsX9_everyPart) := goodIn_app (goodIn_of _ (by decide +kernel)) ggX9_joined_X9_everyPart
set_option maxRecDepth 20000 in
theorem ggX9_joined_X9_in : GoodIn wsX9_joined wsX9_in := goodIn_r _ [8] (by decide +kernel) (by decide +kernel)
set_option maxRecDepth 20000 in
theorem gX9_joined_X9_in : GoodIn wsX9_joined (va_wsS RX9 63 yX9_in wsX9_in) := goodIn_app (goodIn_of _ (by decide +kernel)) ggX9_joined_X9_in
set_option maxRecDepth 20000 in
theorem ggX9_joined_X9_laysLeg : GoodIn wsX9_joined wsX9_laysLeg := goodIn_r _ [17, 18, 19, 20, 21, 22, 4, 23, 24, 25, 26, 27, 28, 29, 30, 31, 32, 33, 34, 35, 36, 13, 37, 38, 39, 40, 41, 42, 43, 44, 45, 46, 47, 48, 49, 50, 51, 52, 53, 54, 55, 56, 57, 58, 59, 60, 61, 62, 63, 64, 65, 66, 67, 68, 69, 6, 7, 8, 70, 71, 72, 73, 74, 75, 76, 77, 78, 79, 80, 81, 82, 83, 84, 85, 9, 10, 11, 12, 86, 87, 88, 89, 90, 91, 92, 93, 94, 95, 96, 97, 98, 99, 100, 101, 102, 103, 104, 105, 106, 107, 108, 109, 110, 111, 112, 113, 114, 115, 116, 117, 118, 119, 120, 121, 122, 123, 124, 125, 126, 127, 128, 129, 130, 131, 132, 133, 134, 135, 136, 137, 138, 139] (by decide +kernel) (by decide +kernel)
set_option maxRecDepth 20000 in
theorem gX9_joined_X9_laysLeg : GoodIn wsX9_joined (wsV RX9 294 RX9 yX9_laysLeg wsX9_laysLeg) := goodIn_app (goodIn_of _ (by decide +kernel)) ggX9_joined_X9_laysLeg
set_option maxRecDepth 20000 in
theorem ggX9_joined_X9_joinedBy : GoodIn wsX9_joined wsX9_joinedBy := goodIn_r _ [96, 13, 63, 64, 4, 65, 59, 60, 61, 62, 97, 98, 99, 100, 74, 101, 102, 103, 104, 105, 106, 111, 112, 113, 114, 115, 116, 117, 118, 119, 120, 121, 122, 123, 124, 125, 126, 127, 128, 129, 130, 131, 132, 133, 134, 135, 136, 137, 138, 139] (by decide +kernel) (by decide +kernel)
set_option maxRecDepth 20000 in
theorem gX9_joined_X9_joinedBy : GoodIn wsX9_joined (wsV RX9 263 RX9 yX9_joinedBy wsX9_joinedBy) := goodIn_app (goodIn_of _ (by decide +kernel)) ggX9_joined_X9_joinedBy
theorem dX9_joined_0 : decode cX9_joined 0 = .ok (.aload_n 0, 1) := by decide +kernel
theorem dX9_joined_1 : decode cX9_joined 1 = .ok (.iconst 0, 1) := by decide +kernel
theorem dX9_joined_2 : decode cX9_joined 2 = .ok (.putfield 51, 3) := by decide +kernel
theorem dX9_joined_5 : decode cX9_joined 5 = .ok (.iload_n 1, 1) := by decide +kernel
theorem dX9_joined_6 : decode cX9_joined 6 = .ok (.invokestatic 182, 3) := by decide +kernel
theorem dX9_joined_9 : decode cX9_joined 9 = .ok (.ifCond .eq 15, 3) := by decide +kernel
theorem dX9_joined_12 : decode cX9_joined 12 = .ok (.iload_n 2, 1) := by decide +kernel
theorem dX9_joined_13 : decode cX9_joined 13 = .ok (.iconst 0, 1) := by decide +kernel
theorem dX9_joined_14 : decode cX9_joined 14 = .ok (.aload_n 0, 1) := by decide +kernel
theorem dX9_joined_15 : decode cX9_joined 15 = .ok (.invokevirtual 210, 3) := by decide +kernel
theorem dX9_joined_18 : decode cX9_joined 18 = .ok (.invokestatic 63, 3) := by decide +kernel
theorem dX9_joined_21 : decode cX9_joined 21 = .ok (.ifCond .ne 6, 3) := by decide +kernel
theorem dX9_joined_24 : decode cX9_joined 24 = .ok (.bipush (-2), 2) := by decide +kernel
theorem dX9_joined_26 : decode cX9_joined 26 = .ok (.ireturn, 1) := by decide +kernel
theorem dX9_joined_27 : decode cX9_joined 27 = .ok (.aload_n 0, 1) := by decide +kernel
theorem dX9_joined_28 : decode cX9_joined 28 = .ok (.iload_n 1, 1) := by decide +kernel
theorem dX9_joined_29 : decode cX9_joined 29 = .ok (.invokevirtual 294, 3) := by decide +kernel
theorem dX9_joined_32 : decode cX9_joined 32 = .ok (.aload_n 0, 1) := by decide +kernel
theorem dX9_joined_33 : decode cX9_joined 33 = .ok (.iload_n 2, 1) := by decide +kernel
theorem dX9_joined_34 : decode cX9_joined 34 = .ok (.invokevirtual 263, 3) := by decide +kernel
theorem dX9_joined_37 : decode cX9_joined 37 = .ok (.ireturn, 1) := by decide +kernel
abbrev rmX9_joined : Room := { frames := 7, cells := 0, slots := 0, locals := 162 }
theorem inX9_joined_9 : ∀ w ∈ wsX90, w ∈ wsX9_joined := by decide +kernel
def vX9_joined (F : Nat → Int32) (J : Nat → Int64) (al : Nat → Int32) (he : Nat → Int32) (ma : Nat → Int32) (p1 : Int32) (p2 : Int32) (Q : Int32 → (Nat → Int32) → (Nat → Int32) → (Nat → Int32) → Prop) : Prop := (preX9_isLeg p1 ∧ (∀ r_6 : Int32, postX9_isLeg p1 r_6 → ((r_6 = 0 → (Q (-2 : Int32) (upd F 0 (0 : Int32)) he ma)) ∧ (¬ r_6 = 0 → (∃ (T_15 : Cd), preX9_everyPart T_15 (upd F 0 (0 : Int32)) J al ∧ (∀ r_15 : Int32, postX9_everyPart T_15 (upd F 0 (0 : Int32)) J al r_15 → (preX9_in p2 (0 : Int32) r_15 ∧ (∀ r_18 : Int32, postX9_in p2 (0 : Int32) r_15 r_18 → ((¬ r_18 = 0 → (∃ (T_29 : Cd) (G0_29 : Lg) (G1_29 : Lg) (lg_29 : Nat) (lim_29 : Nat), preX9_laysLeg T_29 G0_29 G1_29 lg_29 lim_29 (upd F 0 (0 : Int32)) J al he ma p1 ∧ (∀ (F_29 : Nat → Int32) (he_29 : Nat → Int32) (ma_29 : Nat → Int32), postX9_laysLeg T_29 G0_29 G1_29 lg_29 lim_29 (upd F 0 (0 : Int32)) J al he ma p1 F_29 he_29 ma_29 → (∃ (T_34 : Cd) (m_34 : Nat → Nat → Int) (s_34 : Nat), preX9_joinedBy T_34 m_34 s_34 F_29 J al ma_29 p2 ∧ (∀ r_34 : Int32, postX9_joinedBy T_34 m_34 s_34 F_29 J al ma_29 p2 r_34 → (Q r_34 F_29 he_29 ma_29)))))) ∧ (r_18 = 0 → (Q (-2 : Int32) (upd F 0 (0 : Int32)) he ma)))))))))))
set_option maxHeartbeats 4000000 in
set_option maxRecDepth 100000 in
theorem wX9_joined (l : Launch) (g : GP) (qM : Nat) (q1 : Nat) (q2 : Nat) (q3 : Nat) (q4 : Nat) (q5 : Nat) (q6 : Nat) (q7 : Nat) (q8 : Nat) (q9 : Nat) (q10 : Nat) (q11 : Nat) (sz : Nat) (F : Nat → Int32) (J : Nat → Int64) (al : Nat → Int32) (he : Nat → Int32) (ma : Nat → Int32) (p1 : Int32) (p2 : Int32) {Q : Int32 → (Nat → Int32) → (Nat → Int32) → (Nat → Int32) → Prop} (hv : vX9_joined F J al he ma p1 p2 Q) : Met l yX9_joined wsX9_joined rmX9_joined (va_Pc [.ref qM, .int p1, .int p2] (fun U => U.heap.size = sz ∧ va_P g.1 vwCl [(qM, .inr (9, [.int (F 0), .ref q1, .ref q2, .ref q3, .int (F 4), .int (F 5), .int (F 6), .int (F 7), .int (F 8), .int (F 9), .long (J 10), .int (F 11), .int (F 12), .int (F 13), .ref q4, .int (F 15), .ref q5, .ref q6, .ref q7, .int (F 19), .ref q8, .int (F 21), .int (F 22), .int (F 23), .int (F 24), .ref q9, .ref q10, .ref q11, .long (J 28)])), (q1, .inl (g.2 0, 376, .inl al)), (q7, .inl (g.2 0, 200, .inl he)), (q8, .inl (g.2 0, 65, .inl ma))] U.heap ∧ GK g U ∧ va_D (fun _ => True) [(qM, .inr (9, [.int (F 0), .ref q1, .ref q2, .ref q3, .int (F 4), .int (F 5), .int (F 6), .int (F 7), .int (F 8), .int (F 9), .long (J 10), .int (F 11), .int (F 12), .int (F 13), .ref q4, .int (F 15), .ref q5, .ref q6, .ref q7, .int (F 19), .ref q8, .int (F 21), .int (F 22), .int (F 23), .int (F 24), .ref q9, .ref q10, .ref q11, .long (J 28)])), (q1, .inl (g.2 0, 376, .inl al)), (q7, .inl (g.2 0, 200, .inl he)), (q8, .inl (g.2 0, 65, .inl ma))])) (va_Qi (fun (r : Int32) (u : (Nat → Int32) × (Nat → Int32) × (Nat → Int32)) => Q r u.1 u.2.1 u.2.2) (fun (u : (Nat → Int32) × (Nat → Int32) × (Nat → Int32)) t => va_P g.1 vwCl [(qM, .inr (9, [.int (u.1 0), .ref q1, .ref q2, .ref q3, .int (u.1 4), .int (u.1 5), .int (u.1 6), .int (u.1 7), .int (u.1 8), .int (u.1 9), .long (J 10), .int (u.1 11), .int (u.1 12), .int (u.1 13), .ref q4, .int (u.1 15), .ref q5, .ref q6, .ref q7, .int (u.1 19), .ref q8, .int (u.1 21), .int (u.1 22), .int (u.1 23), .int (u.1 24), .ref q9, .ref q10, .ref q11, .long (J 28)])), (q1, .inl (g.2 0, 376, .inl al)), (q7, .inl (g.2 0, 200, .inl u.2.1)), (q8, .inl (g.2 0, 65, .inl u.2.2))] t.heap ∧ va_D (va_A [(qM, .inr (9, [.int (F 0), .ref q1, .ref q2, .ref q3, .int (F 4), .int (F 5), .int (F 6), .int (F 7), .int (F 8), .int (F 9), .long (J 10), .int (F 11), .int (F 12), .int (F 13), .ref q4, .int (F 15), .ref q5, .ref q6, .ref q7, .int (F 19), .ref q8, .int (F 21), .int (F 22), .int (F 23), .int (F 24), .ref q9, .ref q10, .ref q11, .long (J 28)])), (q1, .inl (g.2 0, 376, .inl al)), (q7, .inl (g.2 0, 200, .inl he)), (q8, .inl (g.2 0, 65, .inl ma))] sz) [(qM, .inr (9, [.int (u.1 0), .ref q1, .ref q2, .ref q3, .int (u.1 4), .int (u.1 5), .int (u.1 6), .int (u.1 7), .int (u.1 8), .int (u.1 9), .long (J 10), .int (u.1 11), .int (u.1 12), .int (u.1 13), .ref q4, .int (u.1 15), .ref q5, .ref q6, .ref q7, .int (u.1 19), .ref q8, .int (u.1 21), .int (u.1 22), .int (u.1 23), .int (u.1 24), .ref q9, .ref q10, .ref q11, .long (J 28)])), (q1, .inl (g.2 0, 376, .inl al)), (q7, .inl (g.2 0, 200, .inl u.2.1)), (q8, .inl (g.2 0, 65, .inl u.2.2))]) (va_A [(qM, .inr (9, [.int (F 0), .ref q1, .ref q2, .ref q3, .int (F 4), .int (F 5), .int (F 6), .int (F 7), .int (F 8), .int (F 9), .long (J 10), .int (F 11), .int (F 12), .int (F 13), .ref q4, .int (F 15), .ref q5, .ref q6, .ref q7, .int (F 19), .ref q8, .int (F 21), .int (F 22), .int (F 23), .int (F 24), .ref q9, .ref q10, .ref q11, .long (J 28)])), (q1, .inl (g.2 0, 376, .inl al)), (q7, .inl (g.2 0, 200, .inl he)), (q8, .inl (g.2 0, 65, .inl ma))] sz)) 0 0 (va_A [(qM, .inr (9, [.int (F 0), .ref q1, .ref q2, .ref q3, .int (F 4), .int (F 5), .int (F 6), .int (F 7), .int (F 8), .int (F 9), .long (J 10), .int (F 11), .int (F 12), .int (F 13), .ref q4, .int (F 15), .ref q5, .ref q6, .ref q7, .int (F 19), .ref q8, .int (F 21), .int (F 22), .int (F 23), .int (F 24), .ref q9, .ref q10, .ref q11, .long (J 28)])), (q1, .inl (g.2 0, 376, .inl al)), (q7, .inl (g.2 0, 200, .inl he)), (q8, .inl (g.2 0, 65, .inl ma))] sz) := by
  refine Met.ofW (cc := cX9_joined) (maxL := 3) (ret := (some .int)) (by decide) rfl ?_
  intro p e s m args below meth c s₁ B hml hv'
  obtain ⟨rfl, hsz, hP, hG, hD0⟩ := hv'
  have S : CallFix p m c cX9_joined 3 s _ wsX9_joined RX9 := ⟨B.exec, B.bytes, hml, findClass_of_methodNamed B.named, atoms_spec (ws := wsX9_joined) B.pre⟩
  obtain ⟨hx, hb, hml, hown, hts⟩ := id S
  have hK := hG.1
  have hr := B.returns
  have hlocks := B.notSynchronized
  subst hsz
  have hD := hD0.self (sz := s.heap.size)
  generalize hAe : va_A [(qM, .inr (9, [.int (F 0), .ref q1, .ref q2, .ref q3, .int (F 4), .int (F 5), .int (F 6), .int (F 7), .int (F 8), .int (F 9), .long (J 10), .int (F 11), .int (F 12), .int (F 13), .ref q4, .int (F 15), .ref q5, .ref q6, .ref q7, .int (F 19), .ref q8, .int (F 21), .int (F 22), .int (F 23), .int (F 24), .ref q9, .ref q10, .ref q11, .long (J 28)])), (q1, .inl (g.2 0, 376, .inl al)), (q7, .inl (g.2 0, 200, .inl he)), (q8, .inl (g.2 0, 65, .inl ma))] s.heap.size = A at hD ⊢
  have hA : ∀ q : Nat, s.heap.size ≤ q → A q := fun q h => by rw [← hAe]; exact Or.inr h
  have hS : va_S A s.heap s.heap [] := va_S.rf
  clear hD0 hAe
  have hl := lv_entry ([.ref qM, .int p1, .int p2]) (n := 3) (Nat.le_of_ble_eq_true rfl)
  rw [lg_entry_eq]
  generalize (lg_sl ([.ref qM, .int p1, .int p2]) ++ List.replicate (3 - (lg_sl ([.ref qM, .int p1, .int p2])).length) Slot.unset).toArray = ls at hl ⊢
  have hl : lv_has ls 3 [(0, .ref qM), (1, .int p1), (2, .int p2)] := hl
  unfold vX9_joined at hv
  refine lv_aload_n hx hb dX9_joined_0 rfl (lv_at hl 0 rfl) ?_
  refine lv_iconst (v := (0 : Int32)) hx hb dX9_joined_1 (by decide) ?_
  refine va_put (D := g.1) (ci := 9) (v := .int (0 : Int32)) (ty := .int) (C := RX9) (T := TX9) (N := 29) hx hb hts inX9_joined_9 tyX9 tyX9_ok nmX9 hown hK hP hD hS 0 rfl rfl 0 (by decide) (hts (.fieldLink RX9 51 "RangeCodesModel" "raised" "I") (List.mem_of_getElem? (i := 1) rfl)) (fun _ h9 => h9) rfl (by decide +kernel) rfl rfl (Nat.le_of_ble_eq_true rfl) dX9_joined_2 (fun H locs hP hD hS => ?_)
  have hP : va_P g.1 vwCl [(qM, .inr (9, [.int (0 : Int32), .ref q1, .ref q2, .ref q3, .int (F 4), .int (F 5), .int (F 6), .int (F 7), .int (F 8), .int (F 9), .long (J 10), .int (F 11), .int (F 12), .int (F 13), .ref q4, .int (F 15), .ref q5, .ref q6, .ref q7, .int (F 19), .ref q8, .int (F 21), .int (F 22), .int (F 23), .int (F 24), .ref q9, .ref q10, .ref q11, .long (J 28)])), (q1, .inl (g.2 0, 376, .inl al)), (q7, .inl (g.2 0, 200, .inl he)), (q8, .inl (g.2 0, 65, .inl ma))] H := hP
  have hD : va_D A [(qM, .inr (9, [.int (0 : Int32), .ref q1, .ref q2, .ref q3, .int (F 4), .int (F 5), .int (F 6), .int (F 7), .int (F 8), .int (F 9), .long (J 10), .int (F 11), .int (F 12), .int (F 13), .ref q4, .int (F 15), .ref q5, .ref q6, .ref q7, .int (F 19), .ref q8, .int (F 21), .int (F 22), .int (F 23), .int (F 24), .ref q9, .ref q10, .ref q11, .long (J 28)])), (q1, .inl (g.2 0, 376, .inl al)), (q7, .inl (g.2 0, 200, .inl he)), (q8, .inl (g.2 0, 65, .inl ma))] := hD
  refine lv_iload_n hx hb dX9_joined_5 rfl (lv_at hl 1 rfl) ?_
  obtain ⟨ho_1, hv⟩ := hv
  refine vp_callSi (W.runS (As := [.int p1]) (rest := []) S (wX9_isLeg l g p1 (sX9_isLeg p1 ho_1)) (va_cwS 1 hts gX9_joined_X9_isLeg rfl rfl rfl (by decide +kernel) ⟨Nat.le_of_ble_eq_true rfl, Nat.le_of_ble_eq_true rfl⟩) ⟨blindRO, fun U hU hW => ⟨rfl, by rw [hU]; exact hP.sub (ws' := []) [] rfl, hG.warm hW⟩⟩ rfl rfl hl.1 rfl (lv_room (Nat.le_of_ble_eq_true rfl)) dX9_joined_6 ⟨Nat.le_of_ble_eq_true rfl, Nat.le_of_ble_eq_true rfl⟩) (fun r_6 hr_6 => ?_)
  have hv := hv r_6 hr_6
  obtain ⟨hvt, hvf⟩ := hv
  refine lv_if_eq (tgt := 24) hx hb dX9_joined_9 (by decide) (fun hc => ?_) (fun hc => ?_)
  · have hv := hvt hc
    refine lv_bipush (v := (-2 : Int32)) hx hb dX9_joined_24 (by decide) ?_
    have hP9 := hP.sub (ws' := [(qM, .inr (9, [.int ((upd F 0 (0 : Int32)) 0), .ref q1, .ref q2, .ref q3, .int ((upd F 0 (0 : Int32)) 4), .int ((upd F 0 (0 : Int32)) 5), .int ((upd F 0 (0 : Int32)) 6), .int ((upd F 0 (0 : Int32)) 7), .int ((upd F 0 (0 : Int32)) 8), .int ((upd F 0 (0 : Int32)) 9), .long (J 10), .int ((upd F 0 (0 : Int32)) 11), .int ((upd F 0 (0 : Int32)) 12), .int ((upd F 0 (0 : Int32)) 13), .ref q4, .int ((upd F 0 (0 : Int32)) 15), .ref q5, .ref q6, .ref q7, .int ((upd F 0 (0 : Int32)) 19), .ref q8, .int ((upd F 0 (0 : Int32)) 21), .int ((upd F 0 (0 : Int32)) 22), .int ((upd F 0 (0 : Int32)) 23), .int ((upd F 0 (0 : Int32)) 24), .ref q9, .ref q10, .ref q11, .long (J 28)])), (q1, .inl (g.2 0, 376, .inl al)), (q7, .inl (g.2 0, 200, .inl he)), (q8, .inl (g.2 0, 65, .inl ma))]) [0, 1, 2, 3] rfl
    have hD9 := hD.sub (ws' := [(qM, .inr (9, [.int ((upd F 0 (0 : Int32)) 0), .ref q1, .ref q2, .ref q3, .int ((upd F 0 (0 : Int32)) 4), .int ((upd F 0 (0 : Int32)) 5), .int ((upd F 0 (0 : Int32)) 6), .int ((upd F 0 (0 : Int32)) 7), .int ((upd F 0 (0 : Int32)) 8), .int ((upd F 0 (0 : Int32)) 9), .long (J 10), .int ((upd F 0 (0 : Int32)) 11), .int ((upd F 0 (0 : Int32)) 12), .int ((upd F 0 (0 : Int32)) 13), .ref q4, .int ((upd F 0 (0 : Int32)) 15), .ref q5, .ref q6, .ref q7, .int ((upd F 0 (0 : Int32)) 19), .ref q8, .int ((upd F 0 (0 : Int32)) 21), .int ((upd F 0 (0 : Int32)) 22), .int ((upd F 0 (0 : Int32)) 23), .int ((upd F 0 (0 : Int32)) 24), .ref q9, .ref q10, .ref q11, .long (J 28)])), (q1, .inl (g.2 0, 376, .inl al)), (q7, .inl (g.2 0, 200, .inl he)), (q8, .inl (g.2 0, 65, .inl ma))]) [0, 1, 2, 3] (by decide) rfl
    exact W.iret (v := (-2 : Int32)) hx hb hr (fun t ht hW => ⟨⟨_, ((upd F 0 (0 : Int32)), he, ma), rfl, hv, by rw [ht]; exact hP9, hD9⟩, hS.F ht⟩) hS.2.2 dX9_joined_26
  · have hv := hvf hc
    refine lv_iload_n hx hb dX9_joined_12 rfl (lv_at hl 2 rfl) ?_
    refine lv_iconst (v := (0 : Int32)) hx hb dX9_joined_13 (by decide) ?_
    refine lv_aload_n hx hb dX9_joined_14 rfl (lv_at hl 0 rfl) ?_
    obtain ⟨T_15, ho_2, hv⟩ := hv
    refine vp_callSi (W.runV (As := []) (rest := [.int (0 : Int32), .int p2]) S (wX9_everyPart l g qM q1 q2 q3 q4 q5 q6 q7 q8 q9 q10 q11 (upd F 0 (0 : Int32)) J al (sX9_everyPart T_15 (upd F 0 (0 : Int32)) J al ho_2)) (cwV 0 hts gX9_joined_X9_everyPart rfl rfl rfl (by decide +kernel) ⟨Nat.le_of_ble_eq_true rfl, Nat.le_of_ble_eq_true rfl⟩) ⟨blindRO, va_recv hK hP (ci := 9) (q0 := 0) rfl rfl, fun U hU hW => ⟨rfl, by rw [hU]; exact hP.sub (ws' := [(qM, .inr (9, [.int ((upd F 0 (0 : Int32)) 0), .ref q1, .ref q2, .ref q3, .int ((upd F 0 (0 : Int32)) 4), .int ((upd F 0 (0 : Int32)) 5), .int ((upd F 0 (0 : Int32)) 6), .int ((upd F 0 (0 : Int32)) 7), .int ((upd F 0 (0 : Int32)) 8), .int ((upd F 0 (0 : Int32)) 9), .long (J 10), .int ((upd F 0 (0 : Int32)) 11), .int ((upd F 0 (0 : Int32)) 12), .int ((upd F 0 (0 : Int32)) 13), .ref q4, .int ((upd F 0 (0 : Int32)) 15), .ref q5, .ref q6, .ref q7, .int ((upd F 0 (0 : Int32)) 19), .ref q8, .int ((upd F 0 (0 : Int32)) 21), .int ((upd F 0 (0 : Int32)) 22), .int ((upd F 0 (0 : Int32)) 23), .int ((upd F 0 (0 : Int32)) 24), .ref q9, .ref q10, .ref q11, .long (J 28)])), (q1, .inl (g.2 0, 376, .inl al))]) [0, 1] rfl, hG.warm hW⟩⟩ rfl rfl hl.1 rfl (lv_room (Nat.le_of_ble_eq_true rfl)) dX9_joined_15 ⟨Nat.le_of_ble_eq_true rfl, Nat.le_of_ble_eq_true rfl⟩) (fun r_15 hr_15 => ?_)
    have hv := hv r_15 hr_15
    obtain ⟨ho_3, hv⟩ := hv
    refine vp_callSi (W.runS (As := [.int p2, .int (0 : Int32), .int r_15]) (rest := []) S (wX9_in l g p2 (0 : Int32) r_15 (sX9_in p2 (0 : Int32) r_15 ho_3)) (va_cwS 3 hts gX9_joined_X9_in rfl rfl rfl (by decide +kernel) ⟨Nat.le_of_ble_eq_true rfl, Nat.le_of_ble_eq_true rfl⟩) ⟨blindRO, fun U hU hW => ⟨rfl, by rw [hU]; exact hP.sub (ws' := []) [] rfl, hG.warm hW⟩⟩ rfl rfl hl.1 rfl (lv_room (Nat.le_of_ble_eq_true rfl)) dX9_joined_18 ⟨Nat.le_of_ble_eq_true rfl, Nat.le_of_ble_eq_true rfl⟩) (fun r_18 hr_18 => ?_)
    have hv := hv r_18 hr_18
    obtain ⟨hvt, hvf⟩ := hv
    refine lv_if_ne (tgt := 27) hx hb dX9_joined_21 (by decide) (fun hc => ?_) (fun hc => ?_)
    · have hv := hvt hc
      refine lv_aload_n hx hb dX9_joined_27 rfl (lv_at hl 0 rfl) ?_
      refine lv_iload_n hx hb dX9_joined_28 rfl (lv_at hl 1 rfl) ?_
      obtain ⟨T_29, G0_29, G1_29, lg_29, lim_29, ho_4, hv⟩ := hv
      have hPc := hP.sub (ws' := [(qM, .inr (9, [.int ((upd F 0 (0 : Int32)) 0), .ref q1, .ref q2, .ref q3, .int ((upd F 0 (0 : Int32)) 4), .int ((upd F 0 (0 : Int32)) 5), .int ((upd F 0 (0 : Int32)) 6), .int ((upd F 0 (0 : Int32)) 7), .int ((upd F 0 (0 : Int32)) 8), .int ((upd F 0 (0 : Int32)) 9), .long (J 10), .int ((upd F 0 (0 : Int32)) 11), .int ((upd F 0 (0 : Int32)) 12), .int ((upd F 0 (0 : Int32)) 13), .ref q4, .int ((upd F 0 (0 : Int32)) 15), .ref q5, .ref q6, .ref q7, .int ((upd F 0 (0 : Int32)) 19), .ref q8, .int ((upd F 0 (0 : Int32)) 21), .int ((upd F 0 (0 : Int32)) 22), .int ((upd F 0 (0 : Int32)) 23), .int ((upd F 0 (0 : Int32)) 24), .ref q9, .ref q10, .ref q11, .long (J 28)])), (q1, .inl (g.2 0, 376, .inl al)), (q7, .inl (g.2 0, 200, .inl he)), (q8, .inl (g.2 0, 65, .inl ma))]) [0, 1, 2, 3] rfl
      have hDc := hD.sub (ws' := [(qM, .inr (9, [.int ((upd F 0 (0 : Int32)) 0), .ref q1, .ref q2, .ref q3, .int ((upd F 0 (0 : Int32)) 4), .int ((upd F 0 (0 : Int32)) 5), .int ((upd F 0 (0 : Int32)) 6), .int ((upd F 0 (0 : Int32)) 7), .int ((upd F 0 (0 : Int32)) 8), .int ((upd F 0 (0 : Int32)) 9), .long (J 10), .int ((upd F 0 (0 : Int32)) 11), .int ((upd F 0 (0 : Int32)) 12), .int ((upd F 0 (0 : Int32)) 13), .ref q4, .int ((upd F 0 (0 : Int32)) 15), .ref q5, .ref q6, .ref q7, .int ((upd F 0 (0 : Int32)) 19), .ref q8, .int ((upd F 0 (0 : Int32)) 21), .int ((upd F 0 (0 : Int32)) 22), .int ((upd F 0 (0 : Int32)) 23), .int ((upd F 0 (0 : Int32)) 24), .ref q9, .ref q10, .ref q11, .long (J 28)])), (q1, .inl (g.2 0, 376, .inl al)), (q7, .inl (g.2 0, 200, .inl he)), (q8, .inl (g.2 0, 65, .inl ma))]) [0, 1, 2, 3] (by decide) rfl
      have hFc := va_free (wc := [(qM, .inr (9, [.int ((upd F 0 (0 : Int32)) 0), .ref q1, .ref q2, .ref q3, .int ((upd F 0 (0 : Int32)) 4), .int ((upd F 0 (0 : Int32)) 5), .int ((upd F 0 (0 : Int32)) 6), .int ((upd F 0 (0 : Int32)) 7), .int ((upd F 0 (0 : Int32)) 8), .int ((upd F 0 (0 : Int32)) 9), .long (J 10), .int ((upd F 0 (0 : Int32)) 11), .int ((upd F 0 (0 : Int32)) 12), .int ((upd F 0 (0 : Int32)) 13), .ref q4, .int ((upd F 0 (0 : Int32)) 15), .ref q5, .ref q6, .ref q7, .int ((upd F 0 (0 : Int32)) 19), .ref q8, .int ((upd F 0 (0 : Int32)) 21), .int ((upd F 0 (0 : Int32)) 22), .int ((upd F 0 (0 : Int32)) 23), .int ((upd F 0 (0 : Int32)) 24), .ref q9, .ref q10, .ref q11, .long (J 28)])), (q1, .inl (g.2 0, 376, .inl al)), (q7, .inl (g.2 0, 200, .inl he)), (q8, .inl (g.2 0, 65, .inl ma))]) hD hS hA [0, 1, 2, 3] rfl
      refine va_callv (va_runV (As := [.int p1]) (rest := []) S (wX9_laysLeg l g qM q1 q2 q3 q4 q5 q6 q7 q8 q9 q10 q11 H.size (upd F 0 (0 : Int32)) J al he ma p1 (sX9_laysLeg T_29 G0_29 G1_29 lg_29 lim_29 (upd F 0 (0 : Int32)) J al he ma p1 ho_4)) (cwV 1 hts gX9_joined_X9_laysLeg rfl rfl rfl (by decide +kernel) ⟨Nat.le_of_ble_eq_true rfl, Nat.le_of_ble_eq_true rfl⟩) ⟨blindRW, va_recv hK hP (ci := 9) (q0 := 0) rfl rfl, fun U hU hW => ⟨rfl, by rw [hU], by rw [hU]; exact hPc, hG.warm hW, hDc.weaken (fun _ _ _ _ => trivial)⟩⟩ rfl rfl hl.1 rfl (lv_room (Nat.le_of_ble_eq_true rfl)) dX9_joined_29 ⟨Nat.le_of_ble_eq_true rfl, Nat.le_of_ble_eq_true rfl⟩) hS (fun q _ h => hFc q h) hFc (fun u t H1 locs ht hvm hw hB hz1 hk1 hS => ?_)
      obtain ⟨F_29, he_29, ma_29⟩ := u
      obtain ⟨hP1, hD1⟩ := hB
      rw [ht] at hP1
      have hv := hv F_29 he_29 ma_29 hw
      obtain ⟨hP, hD⟩ := va_join (wr := []) (w1 := [(qM, .inr (9, [.int (F_29 0), .ref q1, .ref q2, .ref q3, .int (F_29 4), .int (F_29 5), .int (F_29 6), .int (F_29 7), .int (F_29 8), .int (F_29 9), .long (J 10), .int (F_29 11), .int (F_29 12), .int (F_29 13), .ref q4, .int (F_29 15), .ref q5, .ref q6, .ref q7, .int (F_29 19), .ref q8, .int (F_29 21), .int (F_29 22), .int (F_29 23), .int (F_29 24), .ref q9, .ref q10, .ref q11, .long (J 28)])), (q1, .inl (g.2 0, 376, .inl al)), (q7, .inl (g.2 0, 200, .inl he_29)), (q8, .inl (g.2 0, 65, .inl ma_29))]) hP hD [0, 1, 2, 3] [] rfl rfl (by decide) (by decide) hk1 hFc hP1 hD1
      clear hP1 hD1 hPc hDc hFc hk1
      generalize H1 = H at hP hS ⊢
      have hP : va_P g.1 vwCl [(qM, .inr (9, [.int (F_29 0), .ref q1, .ref q2, .ref q3, .int (F_29 4), .int (F_29 5), .int (F_29 6), .int (F_29 7), .int (F_29 8), .int (F_29 9), .long (J 10), .int (F_29 11), .int (F_29 12), .int (F_29 13), .ref q4, .int (F_29 15), .ref q5, .ref q6, .ref q7, .int (F_29 19), .ref q8, .int (F_29 21), .int (F_29 22), .int (F_29 23), .int (F_29 24), .ref q9, .ref q10, .ref q11, .long (J 28)])), (q1, .inl (g.2 0, 376, .inl al)), (q7, .inl (g.2 0, 200, .inl he_29)), (q8, .inl (g.2 0, 65, .inl ma_29))] H := hP
      have hD : va_D A [(qM, .inr (9, [.int (F_29 0), .ref q1, .ref q2, .ref q3, .int (F_29 4), .int (F_29 5), .int (F_29 6), .int (F_29 7), .int (F_29 8), .int (F_29 9), .long (J 10), .int (F_29 11), .int (F_29 12), .int (F_29 13), .ref q4, .int (F_29 15), .ref q5, .ref q6, .ref q7, .int (F_29 19), .ref q8, .int (F_29 21), .int (F_29 22), .int (F_29 23), .int (F_29 24), .ref q9, .ref q10, .ref q11, .long (J 28)])), (q1, .inl (g.2 0, 376, .inl al)), (q7, .inl (g.2 0, 200, .inl he_29)), (q8, .inl (g.2 0, 65, .inl ma_29))] := hD
      refine lv_aload_n hx hb dX9_joined_32 rfl (lv_at hl 0 rfl) ?_
      refine lv_iload_n hx hb dX9_joined_33 rfl (lv_at hl 2 rfl) ?_
      obtain ⟨T_34, m_34, s_34, ho_5, hv⟩ := hv
      refine vp_callSi (W.runV (As := [.int p2]) (rest := []) S (wX9_joinedBy l g qM q1 q2 q3 q4 q5 q6 q7 q8 q9 q10 q11 F_29 J al ma_29 p2 (sX9_joinedBy T_34 m_34 s_34 F_29 J al ma_29 p2 ho_5)) (cwV 1 hts gX9_joined_X9_joinedBy rfl rfl rfl (by decide +kernel) ⟨Nat.le_of_ble_eq_true rfl, Nat.le_of_ble_eq_true rfl⟩) ⟨blindRO, va_recv hK hP (ci := 9) (q0 := 0) rfl rfl, fun U hU hW => ⟨rfl, by rw [hU]; exact hP.sub (ws' := [(qM, .inr (9, [.int (F_29 0), .ref q1, .ref q2, .ref q3, .int (F_29 4), .int (F_29 5), .int (F_29 6), .int (F_29 7), .int (F_29 8), .int (F_29 9), .long (J 10), .int (F_29 11), .int (F_29 12), .int (F_29 13), .ref q4, .int (F_29 15), .ref q5, .ref q6, .ref q7, .int (F_29 19), .ref q8, .int (F_29 21), .int (F_29 22), .int (F_29 23), .int (F_29 24), .ref q9, .ref q10, .ref q11, .long (J 28)])), (q1, .inl (g.2 0, 376, .inl al)), (q8, .inl (g.2 0, 65, .inl ma_29))]) [0, 1, 3] rfl, hG.warm hW⟩⟩ rfl rfl hl.1 rfl (lv_room (Nat.le_of_ble_eq_true rfl)) dX9_joined_34 ⟨Nat.le_of_ble_eq_true rfl, Nat.le_of_ble_eq_true rfl⟩) (fun r_34 hr_34 => ?_)
      have hv := hv r_34 hr_34
      have hP9 := hP.sub (ws' := [(qM, .inr (9, [.int (F_29 0), .ref q1, .ref q2, .ref q3, .int (F_29 4), .int (F_29 5), .int (F_29 6), .int (F_29 7), .int (F_29 8), .int (F_29 9), .long (J 10), .int (F_29 11), .int (F_29 12), .int (F_29 13), .ref q4, .int (F_29 15), .ref q5, .ref q6, .ref q7, .int (F_29 19), .ref q8, .int (F_29 21), .int (F_29 22), .int (F_29 23), .int (F_29 24), .ref q9, .ref q10, .ref q11, .long (J 28)])), (q1, .inl (g.2 0, 376, .inl al)), (q7, .inl (g.2 0, 200, .inl he_29)), (q8, .inl (g.2 0, 65, .inl ma_29))]) [0, 1, 2, 3] rfl
      have hD9 := hD.sub (ws' := [(qM, .inr (9, [.int (F_29 0), .ref q1, .ref q2, .ref q3, .int (F_29 4), .int (F_29 5), .int (F_29 6), .int (F_29 7), .int (F_29 8), .int (F_29 9), .long (J 10), .int (F_29 11), .int (F_29 12), .int (F_29 13), .ref q4, .int (F_29 15), .ref q5, .ref q6, .ref q7, .int (F_29 19), .ref q8, .int (F_29 21), .int (F_29 22), .int (F_29 23), .int (F_29 24), .ref q9, .ref q10, .ref q11, .long (J 28)])), (q1, .inl (g.2 0, 376, .inl al)), (q7, .inl (g.2 0, 200, .inl he_29)), (q8, .inl (g.2 0, 65, .inl ma_29))]) [0, 1, 2, 3] (by decide) rfl
      exact W.iret (v := r_34) hx hb hr (fun t ht hW => ⟨⟨_, (F_29, he_29, ma_29), rfl, hv, by rw [ht]; exact hP9, hD9⟩, hS.F ht⟩) hS.2.2 dX9_joined_37
    · have hv := hvf hc
      refine lv_bipush (v := (-2 : Int32)) hx hb dX9_joined_24 (by decide) ?_
      have hP9 := hP.sub (ws' := [(qM, .inr (9, [.int ((upd F 0 (0 : Int32)) 0), .ref q1, .ref q2, .ref q3, .int ((upd F 0 (0 : Int32)) 4), .int ((upd F 0 (0 : Int32)) 5), .int ((upd F 0 (0 : Int32)) 6), .int ((upd F 0 (0 : Int32)) 7), .int ((upd F 0 (0 : Int32)) 8), .int ((upd F 0 (0 : Int32)) 9), .long (J 10), .int ((upd F 0 (0 : Int32)) 11), .int ((upd F 0 (0 : Int32)) 12), .int ((upd F 0 (0 : Int32)) 13), .ref q4, .int ((upd F 0 (0 : Int32)) 15), .ref q5, .ref q6, .ref q7, .int ((upd F 0 (0 : Int32)) 19), .ref q8, .int ((upd F 0 (0 : Int32)) 21), .int ((upd F 0 (0 : Int32)) 22), .int ((upd F 0 (0 : Int32)) 23), .int ((upd F 0 (0 : Int32)) 24), .ref q9, .ref q10, .ref q11, .long (J 28)])), (q1, .inl (g.2 0, 376, .inl al)), (q7, .inl (g.2 0, 200, .inl he)), (q8, .inl (g.2 0, 65, .inl ma))]) [0, 1, 2, 3] rfl
      have hD9 := hD.sub (ws' := [(qM, .inr (9, [.int ((upd F 0 (0 : Int32)) 0), .ref q1, .ref q2, .ref q3, .int ((upd F 0 (0 : Int32)) 4), .int ((upd F 0 (0 : Int32)) 5), .int ((upd F 0 (0 : Int32)) 6), .int ((upd F 0 (0 : Int32)) 7), .int ((upd F 0 (0 : Int32)) 8), .int ((upd F 0 (0 : Int32)) 9), .long (J 10), .int ((upd F 0 (0 : Int32)) 11), .int ((upd F 0 (0 : Int32)) 12), .int ((upd F 0 (0 : Int32)) 13), .ref q4, .int ((upd F 0 (0 : Int32)) 15), .ref q5, .ref q6, .ref q7, .int ((upd F 0 (0 : Int32)) 19), .ref q8, .int ((upd F 0 (0 : Int32)) 21), .int ((upd F 0 (0 : Int32)) 22), .int ((upd F 0 (0 : Int32)) 23), .int ((upd F 0 (0 : Int32)) 24), .ref q9, .ref q10, .ref q11, .long (J 28)])), (q1, .inl (g.2 0, 376, .inl al)), (q7, .inl (g.2 0, 200, .inl he)), (q8, .inl (g.2 0, 65, .inl ma))]) [0, 1, 2, 3] (by decide) rfl
      exact W.iret (v := (-2 : Int32)) hx hb hr (fun t ht hW => ⟨⟨_, ((upd F 0 (0 : Int32)), he, ma), rfl, hv, by rw [ht]; exact hP9, hD9⟩, hS.F ht⟩) hS.2.2 dX9_joined_26
abbrev preX9_joined (T : Cd) (G0 : Lg) (G1 : Lg) (lim : Nat) (F : Nat → Int32) (J : Nat → Int64) (al : Nat → Int32) (he : Nat → Int32) (ma : Nat → Int32) (p1 : Int32) (p2 : Int32) : Prop := fcR T G0 G1 lim al
abbrev postX9_joined (T : Cd) (G0 : Lg) (G1 : Lg) (lim : Nat) (F : Nat → Int32) (J : Nat → Int64) (al : Nat → Int32) (he : Nat → Int32) (ma : Nat → Int32) (p1 : Int32) (p2 : Int32) (r : Int32) (F' : Nat → Int32) (he' : Nat → Int32) (ma' : Nat → Int32) : Prop := r.toInt = spJoined T G0 G1 lim p1.toInt p2.toInt
theorem sX9_joined (T : Cd) (G0 : Lg) (G1 : Lg) (lim : Nat) (F : Nat → Int32) (J : Nat → Int64) (al : Nat → Int32) (he : Nat → Int32) (ma : Nat → Int32) (p1 : Int32) (p2 : Int32) (H : preX9_joined T G0 G1 lim F J al he ma p1 p2) : vX9_joined F J al he ma p1 p2 (postX9_joined T G0 G1 lim F J al he ma p1 p2) := by
  obtain ⟨hT, h0, h1, hlim, hl9, hl1⟩ := id H
  have hp2 := Nat.two_pow_pos (cn T)
  unfold postX9_joined spJoined
  refine ⟨trivial, fun r hr => ?_⟩
  have hr : r = if p1.toInt = 0 ∨ p1.toInt = 1 then 1 else 0 := hr
  rw [hr, q_if1]
  refine ⟨fun hc => by rw [if_neg (fun q => hc q.1)]; rfl, fun hc => ⟨T, hT.1, fun r2 hr2 => ⟨trivial, fun r3 hr3 => ?_⟩⟩⟩
  have hc := Decidable.not_not.mp hc
  have hr2 : r2.toInt = ((2 ^ cn T - 1 : Nat) : Int) := hr2
  have hr3 : r3 = if (0 : Int32).toInt ≤ p2.toInt ∧ p2.toInt ≤ r2.toInt then 1 else 0 := hr3
  rw [hr3, q_if1, z0, hr2]
  refine ⟨fun hd => ?_, fun hd => by rw [if_neg (fun q => hd ⟨q.2.1, by omega⟩)]; rfl⟩
  have hd := Decidable.not_not.mp hd
  refine ⟨T, G0, G1, p1.toInt.toNat, lim, fcR_ll H _ _ _ _ hc, fun F2 he2 ma2 hq => ?_⟩
  have h2 := rlC_of hq
  rw [if_pos ⟨hc, hd.1, by omega⟩]
  exact ⟨T, mN T G0 G1 lim p1.toInt.toNat, p2.toInt.toNat, ⟨hT.1, hT.2.1, h2.2.1, by omega⟩, fun r4 hr4 => isO_op hr4⟩
theorem dX9_guesses_0 : decode cX9_guesses 0 = .ok (.aload_n 0, 1) := by decide +kernel
theorem dX9_guesses_1 : decode cX9_guesses 1 = .ok (.getfield 266, 3) := by decide +kernel
theorem dX9_guesses_4 : decode cX9_guesses 4 = .ok (.iconst (-1), 1) := by decide +kernel
theorem dX9_guesses_5 : decode cX9_guesses 5 = .ok (.if_icmp .ne 7, 3) := by decide +kernel
theorem dX9_guesses_8 : decode cX9_guesses 8 = .ok (.iconst 0, 1) := by decide +kernel
theorem dX9_guesses_9 : decode cX9_guesses 9 = .ok (.goto 23, 3) := by decide +kernel
theorem dX9_guesses_12 : decode cX9_guesses 12 = .ok (.aload_n 0, 1) := by decide +kernel
theorem dX9_guesses_13 : decode cX9_guesses 13 = .ok (.getfield 7, 3) := by decide +kernel
theorem dX9_guesses_16 : decode cX9_guesses 16 = .ok (.iconst 1, 1) := by decide +kernel
theorem dX9_guesses_17 : decode cX9_guesses 17 = .ok (.iaload, 1) := by decide +kernel
theorem dX9_guesses_18 : decode cX9_guesses 18 = .ok (.iconst 1, 1) := by decide +kernel
theorem dX9_guesses_19 : decode cX9_guesses 19 = .ok (.isub, 1) := by decide +kernel
theorem dX9_guesses_20 : decode cX9_guesses 20 = .ok (.aload_n 0, 1) := by decide +kernel
theorem dX9_guesses_21 : decode cX9_guesses 21 = .ok (.getfield 266, 3) := by decide +kernel
theorem dX9_guesses_24 : decode cX9_guesses 24 = .ok (.isub, 1) := by decide +kernel
theorem dX9_guesses_25 : decode cX9_guesses 25 = .ok (.aload_n 0, 1) := by decide +kernel
theorem dX9_guesses_26 : decode cX9_guesses 26 = .ok (.getfield 272, 3) := by decide +kernel
theorem dX9_guesses_29 : decode cX9_guesses 29 = .ok (.idiv, 1) := by decide +kernel
theorem dX9_guesses_30 : decode cX9_guesses 30 = .ok (.iconst 1, 1) := by decide +kernel
theorem dX9_guesses_31 : decode cX9_guesses 31 = .ok (.iadd, 1) := by decide +kernel
theorem dX9_guesses_32 : decode cX9_guesses 32 = .ok (.ireturn, 1) := by decide +kernel
abbrev rmX9_guesses : Room := { frames := 0, cells := 0, slots := 0, locals := 0 }
theorem inX9_guesses_9 : ∀ w ∈ wsX90, w ∈ wsX9_guesses := by decide +kernel
def vX9_guesses (F : Nat → Int32) (J : Nat → Int64) (al : Nat → Int32) (Q : Int32 → Prop) : Prop := ((¬ (F 21) = (-1 : Int32) → (¬ (F 23) = 0 ∧ (Q (((((al 1) - (1 : Int32)) - (F 21)) / (F 23)) + (1 : Int32))))) ∧ ((F 21) = (-1 : Int32) → (Q (0 : Int32))))
set_option maxHeartbeats 4000000 in
set_option maxRecDepth 100000 in
theorem wX9_guesses (l : Launch) (g : GP) (qM : Nat) (q1 : Nat) (q2 : Nat) (q3 : Nat) (q4 : Nat) (q5 : Nat) (q6 : Nat) (q7 : Nat) (q8 : Nat) (q9 : Nat) (q10 : Nat) (q11 : Nat) (F : Nat → Int32) (J : Nat → Int64) (al : Nat → Int32) {Q : Int32 → Prop} (hv : vX9_guesses F J al Q) : Met l yX9_guesses wsX9_guesses rmX9_guesses (va_Pc [.ref qM] (fun U => va_P g.1 vwCl [(qM, .inr (9, [.int (F 0), .ref q1, .ref q2, .ref q3, .int (F 4), .int (F 5), .int (F 6), .int (F 7), .int (F 8), .int (F 9), .long (J 10), .int (F 11), .int (F 12), .int (F 13), .ref q4, .int (F 15), .ref q5, .ref q6, .ref q7, .int (F 19), .ref q8, .int (F 21), .int (F 22), .int (F 23), .int (F 24), .ref q9, .ref q10, .ref q11, .long (J 28)])), (q1, .inl (g.2 0, 376, .inl al))] U.heap ∧ GK g U)) (vp_Si Q) 0 0 (fun _ => False) := by
  refine Met.ofW (cc := cX9_guesses) (maxL := 1) (ret := (some .int)) (by decide) rfl ?_
  intro p e s m args below meth c s₁ B hml hv'
  obtain ⟨rfl, hP, hG⟩ := hv'
  have S : CallFix p m c cX9_guesses 1 s _ wsX9_guesses RX9 := ⟨B.exec, B.bytes, hml, findClass_of_methodNamed B.named, atoms_spec (ws := wsX9_guesses) B.pre⟩
  obtain ⟨hx, hb, hml, hown, hts⟩ := id S
  have hK := hG.1
  have hr := B.returns
  have hlocks := B.notSynchronized
  have hl := lv_entry ([.ref qM]) (n := 1) (Nat.le_of_ble_eq_true rfl)
  rw [lg_entry_eq]
  generalize (lg_sl ([.ref qM]) ++ List.replicate (1 - (lg_sl ([.ref qM])).length) Slot.unset).toArray = ls at hl ⊢
  have hl : lv_has ls 1 [(0, .ref qM)] := hl
  unfold vX9_guesses at hv
  refine lv_aload_n hx hb dX9_guesses_0 rfl (lv_at hl 0 rfl) ?_
  refine va_get (D := g.1) (ci := 9) (v := .int (F 21)) (C := RX9) (T := TX9) (N := 29) hx hb hts inX9_guesses_9 hown hK hP 0 rfl rfl 21 (by decide) (hts (.fieldLink RX9 266 "RangeCodesModel" "distance" "I") (List.mem_of_getElem? (i := 1) rfl)) (fun _ h9 => h9) rfl dX9_guesses_1 ?_
  refine lv_iconst (v := (-1 : Int32)) hx hb dX9_guesses_4 (by decide) ?_
  obtain ⟨hvt, hvf⟩ := hv
  refine lv_icmp_ne (tgt := 12) hx hb dX9_guesses_5 (by decide) (fun hc => ?_) (fun hc => ?_)
  · have hv := hvt hc
    refine lv_aload_n hx hb dX9_guesses_12 rfl (lv_at hl 0 rfl) ?_
    refine va_get (D := g.1) (ci := 9) (v := .ref q1) (C := RX9) (T := TX9) (N := 29) hx hb hts inX9_guesses_9 hown hK hP 0 rfl rfl 1 (by decide) (hts (.fieldLink RX9 7 "RangeCodesModel" "all" "[I") (List.mem_of_getElem? (i := 2) rfl)) (fun _ h9 => h9) rfl dX9_guesses_13 ?_
    refine lv_iconst (v := (1 : Int32)) hx hb dX9_guesses_16 (by decide) ?_
    refine va_iald hx hb hK hP 1 0 rfl rfl (by unfold vp_in; decide) dX9_guesses_17 ?_
    refine lv_iconst (v := (1 : Int32)) hx hb dX9_guesses_18 (by decide) ?_
    refine lv_isub hx hb dX9_guesses_19 ?_
    refine lv_aload_n hx hb dX9_guesses_20 rfl (lv_at hl 0 rfl) ?_
    refine va_get (D := g.1) (ci := 9) (v := .int (F 21)) (C := RX9) (T := TX9) (N := 29) hx hb hts inX9_guesses_9 hown hK hP 0 rfl rfl 21 (by decide) (hts (.fieldLink RX9 266 "RangeCodesModel" "distance" "I") (List.mem_of_getElem? (i := 1) rfl)) (fun _ h9 => h9) rfl dX9_guesses_21 ?_
    refine lv_isub hx hb dX9_guesses_24 ?_
    refine lv_aload_n hx hb dX9_guesses_25 rfl (lv_at hl 0 rfl) ?_
    refine va_get (D := g.1) (ci := 9) (v := .int (F 23)) (C := RX9) (T := TX9) (N := 29) hx hb hts inX9_guesses_9 hown hK hP 0 rfl rfl 23 (by decide) (hts (.fieldLink RX9 272 "RangeCodesModel" "step" "I") (List.mem_of_getElem? (i := 3) rfl)) (fun _ h9 => h9) rfl dX9_guesses_26 ?_
    obtain ⟨ho_1, hv⟩ := hv
    refine lv_idiv hx hb dX9_guesses_29 ho_1 ?_
    refine lv_iconst (v := (1 : Int32)) hx hb dX9_guesses_30 (by decide) ?_
    refine lv_iadd hx hb dX9_guesses_31 ?_
    exact W.iret (v := (((((al 1) - (1 : Int32)) - (F 21)) / (F 23)) + (1 : Int32))) hx hb hr (fun t ht hW => ⟨_, rfl, hv, ht⟩) (fun _ h => by cases h) dX9_guesses_32
  · have hv := hvf hc
    refine lv_iconst (v := (0 : Int32)) hx hb dX9_guesses_8 (by decide) ?_
    refine lv_goto (tgt := 32) hx hb dX9_guesses_9 (by decide) ?_
    exact W.iret (v := (0 : Int32)) hx hb hr (fun t ht hW => ⟨_, rfl, hv, ht⟩) (fun _ h => by cases h) dX9_guesses_32
abbrev preX9_guesses (o : Option Nat) (st lim : Nat) (F : Nat → Int32) (_ : Nat → Int64) (al : Nat → Int32) : Prop := isO o (F 21) ∧ (∀ d, o = some d → d < lim ∧ 1 ≤ st ∧ (F 23).toInt = (st : Int)) ∧ (al 1).toInt = (lim : Int) ∧ lim ≤ 9999
abbrev postX9_guesses (o : Option Nat) (st lim : Nat) (_ : Nat → Int32) (_ : Nat → Int64) (_ : Nat → Int32) (r : Int32) : Prop := r.toInt = ((guN o st lim : Nat) : Int)
theorem sX9_guesses (o : Option Nat) (st lim : Nat) (F : Nat → Int32) (J : Nat → Int64) (al : Nat → Int32) (H : preX9_guesses o st lim F J al) : vX9_guesses F J al (postX9_guesses o st lim F J al) := by
  obtain ⟨h8, h10, hlim, hl9⟩ := H
  unfold vX9_guesses
  rw [fa_eq (F 21), zm1]
  cases o with
  | none =>
    have h8 : (F 21).toInt = -1 := h8
    exact ⟨fun q => absurd h8 q, fun _ => rfl⟩
  | some d =>
    have h8 : (F 21).toInt = (d : Int) := h8
    obtain ⟨hd, hs, he⟩ := h10 d rfl
    refine ⟨fun _ => ⟨by rw [fa_eq, z0]; omega, ?_⟩, fun q => absurd q (by omega)⟩
    have e1 : ((al 1) - (1 : Int32)).toInt = ((lim - 1 : Nat) : Int) := q_subN (b := 1) hlim rfl (by omega) (by omega)
    have e2 := q_subN e1 h8 (by omega) (by omega)
    have e3 := q_divN e2 he hs
    have := Nat.div_le_self (lim - 1 - d) st
    exact q_1 e3 (by omega)
set_option maxRecDepth 20000 in
theorem ggX9_told_X9_guesses : GoodIn wsX9_told wsX9_guesses := goodIn_r _ [9, 3, 10, 4, 11, 12, 13, 14, 15, 16, 17, 18, 19, 20, 21, 22, 23, 24, 25, 26, 27, 28, 29, 30, 31, 32, 33, 34, 35, 36, 37, 38, 39] (by decide +kernel) (by decide +kernel)
set_option maxRecDepth 20000 in
theorem gX9_told_X9_guesses : GoodIn wsX9_told (wsV RX9 307 RX9 yX9_guesses wsX9_guesses) := goodIn_app (goodIn_of _ (by decide +kernel)) ggX9_told_X9_guesses
theorem dX9_told_0 : decode cX9_told 0 = .ok (.iload_n 1, 1) := by decide +kernel
theorem dX9_told_1 : decode cX9_told 1 = .ok (.iconst 2, 1) := by decide +kernel
theorem dX9_told_2 : decode cX9_told 2 = .ok (.if_icmp .le 47, 3) := by decide +kernel
theorem dX9_told_5 : decode cX9_told 5 = .ok (.iload_n 1, 1) := by decide +kernel
theorem dX9_told_6 : decode cX9_told 6 = .ok (.iconst 3, 1) := by decide +kernel
theorem dX9_told_7 : decode cX9_told 7 = .ok (.if_icmp .ne 10, 3) := by decide +kernel
theorem dX9_told_10 : decode cX9_told 10 = .ok (.aload_n 0, 1) := by decide +kernel
theorem dX9_told_11 : decode cX9_told 11 = .ok (.invokevirtual 307, 3) := by decide +kernel
theorem dX9_told_14 : decode cX9_told 14 = .ok (.goto 34, 3) := by decide +kernel
theorem dX9_told_17 : decode cX9_told 17 = .ok (.iload_n 1, 1) := by decide +kernel
theorem dX9_told_18 : decode cX9_told 18 = .ok (.iconst 4, 1) := by decide +kernel
theorem dX9_told_19 : decode cX9_told 19 = .ok (.if_icmp .ne 25, 3) := by decide +kernel
theorem dX9_told_22 : decode cX9_told 22 = .ok (.aload_n 0, 1) := by decide +kernel
theorem dX9_told_23 : decode cX9_told 23 = .ok (.getfield 275, 3) := by decide +kernel
theorem dX9_told_26 : decode cX9_told 26 = .ok (.ifCond .le 14, 3) := by decide +kernel
theorem dX9_told_29 : decode cX9_told 29 = .ok (.aload_n 0, 1) := by decide +kernel
theorem dX9_told_30 : decode cX9_told 30 = .ok (.getfield 269, 3) := by decide +kernel
theorem dX9_told_33 : decode cX9_told 33 = .ok (.ifCond .ne 7, 3) := by decide +kernel
theorem dX9_told_36 : decode cX9_told 36 = .ok (.iconst 1, 1) := by decide +kernel
theorem dX9_told_37 : decode cX9_told 37 = .ok (.goto 11, 3) := by decide +kernel
theorem dX9_told_40 : decode cX9_told 40 = .ok (.iconst 0, 1) := by decide +kernel
theorem dX9_told_41 : decode cX9_told 41 = .ok (.goto 7, 3) := by decide +kernel
theorem dX9_told_44 : decode cX9_told 44 = .ok (.aload_n 0, 1) := by decide +kernel
theorem dX9_told_45 : decode cX9_told 45 = .ok (.getfield 275, 3) := by decide +kernel
theorem dX9_told_48 : decode cX9_told 48 = .ok (.ireturn, 1) := by decide +kernel
theorem dX9_told_49 : decode cX9_told 49 = .ok (.aload_n 0, 1) := by decide +kernel
theorem dX9_told_50 : decode cX9_told 50 = .ok (.getfield 266, 3) := by decide +kernel
theorem dX9_told_53 : decode cX9_told 53 = .ok (.iconst (-1), 1) := by decide +kernel
theorem dX9_told_54 : decode cX9_told 54 = .ok (.if_icmp .ne 7, 3) := by decide +kernel
theorem dX9_told_57 : decode cX9_told 57 = .ok (.iconst (-1), 1) := by decide +kernel
theorem dX9_told_58 : decode cX9_told 58 = .ok (.goto 30, 3) := by decide +kernel
theorem dX9_told_61 : decode cX9_told 61 = .ok (.iload_n 1, 1) := by decide +kernel
theorem dX9_told_62 : decode cX9_told 62 = .ok (.ifCond .ne 10, 3) := by decide +kernel
theorem dX9_told_65 : decode cX9_told 65 = .ok (.aload_n 0, 1) := by decide +kernel
theorem dX9_told_66 : decode cX9_told 66 = .ok (.getfield 266, 3) := by decide +kernel
theorem dX9_told_69 : decode cX9_told 69 = .ok (.goto 19, 3) := by decide +kernel
theorem dX9_told_72 : decode cX9_told 72 = .ok (.iload_n 1, 1) := by decide +kernel
theorem dX9_told_73 : decode cX9_told 73 = .ok (.iconst 1, 1) := by decide +kernel
theorem dX9_told_74 : decode cX9_told 74 = .ok (.if_icmp .ne 10, 3) := by decide +kernel
theorem dX9_told_77 : decode cX9_told 77 = .ok (.aload_n 0, 1) := by decide +kernel
theorem dX9_told_78 : decode cX9_told 78 = .ok (.getfield 269, 3) := by decide +kernel
theorem dX9_told_81 : decode cX9_told 81 = .ok (.goto 7, 3) := by decide +kernel
theorem dX9_told_84 : decode cX9_told 84 = .ok (.aload_n 0, 1) := by decide +kernel
theorem dX9_told_85 : decode cX9_told 85 = .ok (.getfield 272, 3) := by decide +kernel
theorem dX9_told_88 : decode cX9_told 88 = .ok (.ireturn, 1) := by decide +kernel
abbrev rmX9_told : Room := { frames := 1, cells := 0, slots := 0, locals := 20 }
theorem inX9_told_9 : ∀ w ∈ wsX90, w ∈ wsX9_told := by decide +kernel
def vX9_told (F : Nat → Int32) (J : Nat → Int64) (al : Nat → Int32) (p1 : Int32) (Q : Int32 → Prop) : Prop := ((p1 ≤ (2 : Int32) → ((¬ (F 21) = (-1 : Int32) → ((¬ p1 = 0 → ((¬ p1 = (1 : Int32) → (Q (F 23))) ∧ (p1 = (1 : Int32) → (Q (F 22))))) ∧ (p1 = 0 → (Q (F 21))))) ∧ ((F 21) = (-1 : Int32) → (Q (-1 : Int32))))) ∧ (¬ p1 ≤ (2 : Int32) → ((¬ p1 = (3 : Int32) → ((¬ p1 = (4 : Int32) → (Q (F 24))) ∧ (p1 = (4 : Int32) → (((F 24) ≤ 0 → (Q (0 : Int32))) ∧ (¬ (F 24) ≤ 0 → ((¬ (F 22) = 0 → (Q (0 : Int32))) ∧ ((F 22) = 0 → (Q (1 : Int32))))))))) ∧ (p1 = (3 : Int32) → (∃ (o_11 : Option Nat) (st_11 : Nat) (lim_11 : Nat), preX9_guesses o_11 st_11 lim_11 F J al ∧ (∀ r_11 : Int32, postX9_guesses o_11 st_11 lim_11 F J al r_11 → (Q r_11)))))))
set_option maxHeartbeats 4000000 in
set_option maxRecDepth 100000 in
theorem wX9_told (l : Launch) (g : GP) (qM : Nat) (q1 : Nat) (q2 : Nat) (q3 : Nat) (q4 : Nat) (q5 : Nat) (q6 : Nat) (q7 : Nat) (q8 : Nat) (q9 : Nat) (q10 : Nat) (q11 : Nat) (F : Nat → Int32) (J : Nat → Int64) (al : Nat → Int32) (p1 : Int32) {Q : Int32 → Prop} (hv : vX9_told F J al p1 Q) : Met l yX9_told wsX9_told rmX9_told (va_Pc [.ref qM, .int p1] (fun U => va_P g.1 vwCl [(qM, .inr (9, [.int (F 0), .ref q1, .ref q2, .ref q3, .int (F 4), .int (F 5), .int (F 6), .int (F 7), .int (F 8), .int (F 9), .long (J 10), .int (F 11), .int (F 12), .int (F 13), .ref q4, .int (F 15), .ref q5, .ref q6, .ref q7, .int (F 19), .ref q8, .int (F 21), .int (F 22), .int (F 23), .int (F 24), .ref q9, .ref q10, .ref q11, .long (J 28)])), (q1, .inl (g.2 0, 376, .inl al))] U.heap ∧ GK g U)) (vp_Si Q) 0 0 (fun _ => False) := by
  refine Met.ofW (cc := cX9_told) (maxL := 2) (ret := (some .int)) (by decide) rfl ?_
  intro p e s m args below meth c s₁ B hml hv'
  obtain ⟨rfl, hP, hG⟩ := hv'
  have S : CallFix p m c cX9_told 2 s _ wsX9_told RX9 := ⟨B.exec, B.bytes, hml, findClass_of_methodNamed B.named, atoms_spec (ws := wsX9_told) B.pre⟩
  obtain ⟨hx, hb, hml, hown, hts⟩ := id S
  have hK := hG.1
  have hr := B.returns
  have hlocks := B.notSynchronized
  have hl := lv_entry ([.ref qM, .int p1]) (n := 2) (Nat.le_of_ble_eq_true rfl)
  rw [lg_entry_eq]
  generalize (lg_sl ([.ref qM, .int p1]) ++ List.replicate (2 - (lg_sl ([.ref qM, .int p1])).length) Slot.unset).toArray = ls at hl ⊢
  have hl : lv_has ls 2 [(0, .ref qM), (1, .int p1)] := hl
  unfold vX9_told at hv
  refine lv_iload_n hx hb dX9_told_0 rfl (lv_at hl 1 rfl) ?_
  refine lv_iconst (v := (2 : Int32)) hx hb dX9_told_1 (by decide) ?_
  obtain ⟨hvt, hvf⟩ := hv
  refine lv_icmp_le (tgt := 49) hx hb dX9_told_2 (by decide) (fun hc => ?_) (fun hc => ?_)
  · have hv := hvt hc
    refine lv_aload_n hx hb dX9_told_49 rfl (lv_at hl 0 rfl) ?_
    refine va_get (D := g.1) (ci := 9) (v := .int (F 21)) (C := RX9) (T := TX9) (N := 29) hx hb hts inX9_told_9 hown hK hP 0 rfl rfl 21 (by decide) (hts (.fieldLink RX9 266 "RangeCodesModel" "distance" "I") (List.mem_of_getElem? (i := 3) rfl)) (fun _ h9 => h9) rfl dX9_told_50 ?_
    refine lv_iconst (v := (-1 : Int32)) hx hb dX9_told_53 (by decide) ?_
    obtain ⟨hvt, hvf⟩ := hv
    refine lv_icmp_ne (tgt := 61) hx hb dX9_told_54 (by decide) (fun hc => ?_) (fun hc => ?_)
    · have hv := hvt hc
      refine lv_iload_n hx hb dX9_told_61 rfl (lv_at hl 1 rfl) ?_
      obtain ⟨hvt, hvf⟩ := hv
      refine lv_if_ne (tgt := 72) hx hb dX9_told_62 (by decide) (fun hc => ?_) (fun hc => ?_)
      · have hv := hvt hc
        refine lv_iload_n hx hb dX9_told_72 rfl (lv_at hl 1 rfl) ?_
        refine lv_iconst (v := (1 : Int32)) hx hb dX9_told_73 (by decide) ?_
        obtain ⟨hvt, hvf⟩ := hv
        refine lv_icmp_ne (tgt := 84) hx hb dX9_told_74 (by decide) (fun hc => ?_) (fun hc => ?_)
        · have hv := hvt hc
          refine lv_aload_n hx hb dX9_told_84 rfl (lv_at hl 0 rfl) ?_
          refine va_get (D := g.1) (ci := 9) (v := .int (F 23)) (C := RX9) (T := TX9) (N := 29) hx hb hts inX9_told_9 hown hK hP 0 rfl rfl 23 (by decide) (hts (.fieldLink RX9 272 "RangeCodesModel" "step" "I") (List.mem_of_getElem? (i := 4) rfl)) (fun _ h9 => h9) rfl dX9_told_85 ?_
          exact W.iret (v := (F 23)) hx hb hr (fun t ht hW => ⟨_, rfl, hv, ht⟩) (fun _ h => by cases h) dX9_told_88
        · have hv := hvf hc
          refine lv_aload_n hx hb dX9_told_77 rfl (lv_at hl 0 rfl) ?_
          refine va_get (D := g.1) (ci := 9) (v := .int (F 22)) (C := RX9) (T := TX9) (N := 29) hx hb hts inX9_told_9 hown hK hP 0 rfl rfl 22 (by decide) (hts (.fieldLink RX9 269 "RangeCodesModel" "wrong" "I") (List.mem_of_getElem? (i := 2) rfl)) (fun _ h9 => h9) rfl dX9_told_78 ?_
          refine lv_goto (tgt := 88) hx hb dX9_told_81 (by decide) ?_
          exact W.iret (v := (F 22)) hx hb hr (fun t ht hW => ⟨_, rfl, hv, ht⟩) (fun _ h => by cases h) dX9_told_88
      · have hv := hvf hc
        refine lv_aload_n hx hb dX9_told_65 rfl (lv_at hl 0 rfl) ?_
        refine va_get (D := g.1) (ci := 9) (v := .int (F 21)) (C := RX9) (T := TX9) (N := 29) hx hb hts inX9_told_9 hown hK hP 0 rfl rfl 21 (by decide) (hts (.fieldLink RX9 266 "RangeCodesModel" "distance" "I") (List.mem_of_getElem? (i := 3) rfl)) (fun _ h9 => h9) rfl dX9_told_66 ?_
        refine lv_goto (tgt := 88) hx hb dX9_told_69 (by decide) ?_
        exact W.iret (v := (F 21)) hx hb hr (fun t ht hW => ⟨_, rfl, hv, ht⟩) (fun _ h => by cases h) dX9_told_88
    · have hv := hvf hc
      refine lv_iconst (v := (-1 : Int32)) hx hb dX9_told_57 (by decide) ?_
      refine lv_goto (tgt := 88) hx hb dX9_told_58 (by decide) ?_
      exact W.iret (v := (-1 : Int32)) hx hb hr (fun t ht hW => ⟨_, rfl, hv, ht⟩) (fun _ h => by cases h) dX9_told_88
  · have hv := hvf hc
    refine lv_iload_n hx hb dX9_told_5 rfl (lv_at hl 1 rfl) ?_
    refine lv_iconst (v := (3 : Int32)) hx hb dX9_told_6 (by decide) ?_
    obtain ⟨hvt, hvf⟩ := hv
    refine lv_icmp_ne (tgt := 17) hx hb dX9_told_7 (by decide) (fun hc => ?_) (fun hc => ?_)
    · have hv := hvt hc
      refine lv_iload_n hx hb dX9_told_17 rfl (lv_at hl 1 rfl) ?_
      refine lv_iconst (v := (4 : Int32)) hx hb dX9_told_18 (by decide) ?_
      obtain ⟨hvt, hvf⟩ := hv
      refine lv_icmp_ne (tgt := 44) hx hb dX9_told_19 (by decide) (fun hc => ?_) (fun hc => ?_)
      · have hv := hvt hc
        refine lv_aload_n hx hb dX9_told_44 rfl (lv_at hl 0 rfl) ?_
        refine va_get (D := g.1) (ci := 9) (v := .int (F 24)) (C := RX9) (T := TX9) (N := 29) hx hb hts inX9_told_9 hown hK hP 0 rfl rfl 24 (by decide) (hts (.fieldLink RX9 275 "RangeCodesModel" "sets" "I") (List.mem_of_getElem? (i := 1) rfl)) (fun _ h9 => h9) rfl dX9_told_45 ?_
        exact W.iret (v := (F 24)) hx hb hr (fun t ht hW => ⟨_, rfl, hv, ht⟩) (fun _ h => by cases h) dX9_told_48
      · have hv := hvf hc
        refine lv_aload_n hx hb dX9_told_22 rfl (lv_at hl 0 rfl) ?_
        refine va_get (D := g.1) (ci := 9) (v := .int (F 24)) (C := RX9) (T := TX9) (N := 29) hx hb hts inX9_told_9 hown hK hP 0 rfl rfl 24 (by decide) (hts (.fieldLink RX9 275 "RangeCodesModel" "sets" "I") (List.mem_of_getElem? (i := 1) rfl)) (fun _ h9 => h9) rfl dX9_told_23 ?_
        obtain ⟨hvt, hvf⟩ := hv
        refine lv_if_le (tgt := 40) hx hb dX9_told_26 (by decide) (fun hc => ?_) (fun hc => ?_)
        · have hv := hvt hc
          refine lv_iconst (v := (0 : Int32)) hx hb dX9_told_40 (by decide) ?_
          refine lv_goto (tgt := 48) hx hb dX9_told_41 (by decide) ?_
          exact W.iret (v := (0 : Int32)) hx hb hr (fun t ht hW => ⟨_, rfl, hv, ht⟩) (fun _ h => by cases h) dX9_told_48
        · have hv := hvf hc
          refine lv_aload_n hx hb dX9_told_29 rfl (lv_at hl 0 rfl) ?_
          refine va_get (D := g.1) (ci := 9) (v := .int (F 22)) (C := RX9) (T := TX9) (N := 29) hx hb hts inX9_told_9 hown hK hP 0 rfl rfl 22 (by decide) (hts (.fieldLink RX9 269 "RangeCodesModel" "wrong" "I") (List.mem_of_getElem? (i := 2) rfl)) (fun _ h9 => h9) rfl dX9_told_30 ?_
          obtain ⟨hvt, hvf⟩ := hv
          refine lv_if_ne (tgt := 40) hx hb dX9_told_33 (by decide) (fun hc => ?_) (fun hc => ?_)
          · have hv := hvt hc
            refine lv_iconst (v := (0 : Int32)) hx hb dX9_told_40 (by decide) ?_
            refine lv_goto (tgt := 48) hx hb dX9_told_41 (by decide) ?_
            exact W.iret (v := (0 : Int32)) hx hb hr (fun t ht hW => ⟨_, rfl, hv, ht⟩) (fun _ h => by cases h) dX9_told_48
          · have hv := hvf hc
            refine lv_iconst (v := (1 : Int32)) hx hb dX9_told_36 (by decide) ?_
            refine lv_goto (tgt := 48) hx hb dX9_told_37 (by decide) ?_
            exact W.iret (v := (1 : Int32)) hx hb hr (fun t ht hW => ⟨_, rfl, hv, ht⟩) (fun _ h => by cases h) dX9_told_48
    · have hv := hvf hc
      refine lv_aload_n hx hb dX9_told_10 rfl (lv_at hl 0 rfl) ?_
      obtain ⟨o_11, st_11, lim_11, ho_1, hv⟩ := hv
      refine vp_callSi (W.runV (As := []) (rest := []) S (wX9_guesses l g qM q1 q2 q3 q4 q5 q6 q7 q8 q9 q10 q11 F J al (sX9_guesses o_11 st_11 lim_11 F J al ho_1)) (cwV 0 hts gX9_told_X9_guesses rfl rfl rfl (by decide +kernel) ⟨Nat.le_of_ble_eq_true rfl, Nat.le_of_ble_eq_true rfl⟩) ⟨blindRO, va_recv hK hP (ci := 9) (q0 := 0) rfl rfl, fun U hU hW => ⟨rfl, by rw [hU]; exact hP.sub (ws' := [(qM, .inr (9, [.int (F 0), .ref q1, .ref q2, .ref q3, .int (F 4), .int (F 5), .int (F 6), .int (F 7), .int (F 8), .int (F 9), .long (J 10), .int (F 11), .int (F 12), .int (F 13), .ref q4, .int (F 15), .ref q5, .ref q6, .ref q7, .int (F 19), .ref q8, .int (F 21), .int (F 22), .int (F 23), .int (F 24), .ref q9, .ref q10, .ref q11, .long (J 28)])), (q1, .inl (g.2 0, 376, .inl al))]) [0, 1] rfl, hG.warm hW⟩⟩ rfl rfl hl.1 rfl (lv_room (Nat.le_of_ble_eq_true rfl)) dX9_told_11 ⟨Nat.le_of_ble_eq_true rfl, Nat.le_of_ble_eq_true rfl⟩) (fun r_11 hr_11 => ?_)
      have hv := hv r_11 hr_11
      refine lv_goto (tgt := 48) hx hb dX9_told_14 (by decide) ?_
      exact W.iret (v := r_11) hx hb hr (fun t ht hW => ⟨_, rfl, hv, ht⟩) (fun _ h => by cases h) dX9_told_48
abbrev preX9_told (T : Cd) (b : Nat → Nat) (lim : Nat) (F : Nat → Int32) (_ : Nat → Int64) (al : Nat → Int32) (p1 : Int32) : Prop := (∀ p, p < cn T → 2 ≤ cL T p) ∧ isD T b lim (F 21) (F 22) (F 23) (F 24) ∧ (al 1).toInt = (lim : Int) ∧ lim ≤ 9999 ∧ 0 ≤ p1.toInt ∧ p1.toInt ≤ 5
abbrev postX9_told (T : Cd) (b : Nat → Nat) (lim : Nat) (_ : Nat → Int32) (_ : Nat → Int64) (_ : Nat → Int32) (p1 r : Int32) : Prop := r.toInt = fdZ T b lim p1.toInt
theorem hasD_cnt {T : Cd} {b : Nat → Nat} {lim d : Nat} (h : dsO T b lim = some d) : 0 < fa_cnt (okW T b lim (fewW T b lim)) (2 ^ cn T) := by
  have hq : hasD T b lim := by
    by_cases q : hasD T b lim
    · exact q
    · rw [dsO_none q] at h; cases h
  have h1 := fa_first_yes _ _ hq
  simp only [decide_eq_true_eq] at h1
  exact (ff_iff _ _).mpr h1
theorem sX9_told (T : Cd) (b : Nat → Nat) (lim : Nat) (F : Nat → Int32) (J : Nat → Int64) (al : Nat → Int32) (p1 : Int32) (H : preX9_told T b lim F J al p1) : vX9_told F J al p1 (postX9_told T b lim F J al p1) := by
  obtain ⟨hL, hD, hlim, hl9, hp0, hp5⟩ := H
  have hO := isD_O hD
  have hgu : ∃ (o : Option Nat) (st l2 : Nat), preX9_guesses o st l2 F J al ∧ ∀ r : Int32, postX9_guesses o st l2 F J al r → r.toInt = ((guN (dsO T b lim) (lcS T (2 ^ cn T - 1 - wrW T b lim) (cn T)) lim : Nat) : Int) := by
    refine ⟨dsO T b lim, lcS T (2 ^ cn T - 1 - wrW T b lim) (cn T), lim, ⟨hO, fun d hd => ⟨dsO_lt hd, lcS_pos hL _ _ (Nat.le_refl _), (isD_S hD hd).2.2.1⟩, hlim, hl9⟩, fun r hr => hr⟩
  unfold vX9_told postX9_told fdZ
  simp only [fa_eq p1, fa_le p1, z0, z1, z2, z3, z4, z5, fa_eq (F 21), zm1, fa_le (F 24), fa_eq (F 22)]
  cases hd : dsO T b lim with
  | none =>
    obtain ⟨e1, e2, e3, e4⟩ := isD_N hD hd
    rw [hd] at hgu
    refine ⟨fun q => ⟨fun z => absurd e1 z, fun _ => ?_⟩, fun q => ⟨fun q3 => ⟨fun q4 => ?_, fun q4 => ⟨fun _ => ?_, fun z => absurd z (by omega)⟩⟩, fun q3 => ?_⟩⟩
    · rcases (show p1.toInt = 0 ∨ p1.toInt = 1 ∨ p1.toInt = 2 by omega) with z | z | z <;> simp [z]
    · have : p1.toInt = 5 := by omega
      simp [this]; exact e4
    · simp [q4]
    · simpa [q3] using hgu
  | some d =>
    obtain ⟨e1, e2, e3, e4⟩ := isD_S hD hd
    have hc := hasD_cnt hd
    rw [hd] at hgu
    refine ⟨fun q => ⟨fun _ => ⟨fun q0 => ⟨fun q1 => ?_, fun q1 => ?_⟩, fun q0 => ?_⟩, fun z => absurd z (by omega)⟩, fun q => ⟨fun q3 => ⟨fun q4 => ?_, fun q4 => ⟨fun z => absurd z (by omega), fun _ => ⟨fun z => ?_, fun z => ?_⟩⟩⟩, fun q3 => ?_⟩⟩
    · have : p1.toInt = 2 := by omega
      simp [this]; exact e3
    · simp [q1]; exact e2
    · simp [q0]; exact e1
    · have : p1.toInt = 5 := by omega
      simp [this]; exact e4
    · simp [q4, show ¬ wrW T b lim = 0 by omega]
    · simp [q4, show wrW T b lim = 0 by omega]
    · simpa [q3] using hgu
set_option maxRecDepth 20000 in
theorem ggX9_found_X9_isLeg : GoodIn wsX9_found wsX9_isLeg := goodIn_r _ [5, 6, 7, 4, 8] (by decide +kernel) (by decide +kernel)
set_option maxRecDepth 20000 in
theorem gX9_found_X9_isLeg : GoodIn wsX9_found (va_wsS RX9 182 yX9_isLeg wsX9_isLeg) := goodIn_app (goodIn_of _ (by decide +kernel)) ggX9_found_X9_isLeg
set_option maxRecDepth 20000 in
theorem ggX9_found_X9_in : GoodIn wsX9_found wsX9_in := goodIn_r _ [8] (by decide +kernel) (by decide +kernel)
set_option maxRecDepth 20000 in
theorem gX9_found_X9_in : GoodIn wsX9_found (va_wsS RX9 63 yX9_in wsX9_in) := goodIn_app (goodIn_of _ (by decide +kernel)) ggX9_found_X9_in
set_option maxRecDepth 20000 in
theorem ggX9_found_X9_laysLeg : GoodIn wsX9_found wsX9_laysLeg := goodIn_r _ [12, 13, 14, 15, 16, 17, 4, 18, 19, 20, 21, 22, 23, 24, 25, 26, 27, 28, 29, 30, 31, 32, 33, 34, 35, 36, 37, 38, 39, 40, 41, 42, 43, 44, 45, 46, 47, 48, 49, 50, 51, 52, 53, 54, 55, 56, 57, 58, 59, 60, 61, 62, 63, 64, 65, 6, 7, 8, 66, 67, 68, 69, 70, 71, 72, 73, 74, 75, 76, 77, 78, 79, 80, 81, 82, 83, 84, 85, 86, 87, 88, 89, 90, 91, 92, 93, 94, 95, 96, 97, 98, 99, 100, 101, 102, 103, 104, 105, 106, 107, 108, 109, 110, 119, 120, 121, 122, 123, 124, 125, 126, 127, 128, 129, 130, 131, 132, 133, 134, 135, 136, 137, 138, 139, 140, 141, 142, 143, 144, 145, 146, 147] (by decide +kernel) (by decide +kernel)
set_option maxRecDepth 20000 in
theorem gX9_found_X9_laysLeg : GoodIn wsX9_found (wsV RX9 294 RX9 yX9_laysLeg wsX9_laysLeg) := goodIn_app (goodIn_of _ (by decide +kernel)) ggX9_found_X9_laysLeg
set_option maxRecDepth 20000 in
theorem ggX9_found_X9_told : GoodIn wsX9_found wsX9_told := goodIn_r _ [114, 81, 79, 13, 80, 115, 116, 117, 4, 118, 32, 119, 120, 121, 122, 123, 124, 125, 126, 127, 128, 129, 130, 131, 132, 133, 134, 135, 136, 137, 138, 139, 140, 141, 142, 143, 144, 145, 146, 147] (by decide +kernel) (by decide +kernel)
set_option maxRecDepth 20000 in
theorem gX9_found_X9_told : GoodIn wsX9_found (wsV RX9 310 RX9 yX9_told wsX9_told) := goodIn_app (goodIn_of _ (by decide +kernel)) ggX9_found_X9_told
theorem dX9_found_0 : decode cX9_found 0 = .ok (.aload_n 0, 1) := by decide +kernel
theorem dX9_found_1 : decode cX9_found 1 = .ok (.iconst 0, 1) := by decide +kernel
theorem dX9_found_2 : decode cX9_found 2 = .ok (.putfield 51, 3) := by decide +kernel
theorem dX9_found_5 : decode cX9_found 5 = .ok (.iload_n 1, 1) := by decide +kernel
theorem dX9_found_6 : decode cX9_found 6 = .ok (.invokestatic 182, 3) := by decide +kernel
theorem dX9_found_9 : decode cX9_found 9 = .ok (.ifCond .eq 12, 3) := by decide +kernel
theorem dX9_found_12 : decode cX9_found 12 = .ok (.iload_n 2, 1) := by decide +kernel
theorem dX9_found_13 : decode cX9_found 13 = .ok (.iconst 0, 1) := by decide +kernel
theorem dX9_found_14 : decode cX9_found 14 = .ok (.iconst 5, 1) := by decide +kernel
theorem dX9_found_15 : decode cX9_found 15 = .ok (.invokestatic 63, 3) := by decide +kernel
theorem dX9_found_18 : decode cX9_found 18 = .ok (.ifCond .ne 5, 3) := by decide +kernel
theorem dX9_found_21 : decode cX9_found 21 = .ok (.iconst (-1), 1) := by decide +kernel
theorem dX9_found_22 : decode cX9_found 22 = .ok (.ireturn, 1) := by decide +kernel
theorem dX9_found_23 : decode cX9_found 23 = .ok (.aload_n 0, 1) := by decide +kernel
theorem dX9_found_24 : decode cX9_found 24 = .ok (.iload_n 1, 1) := by decide +kernel
theorem dX9_found_25 : decode cX9_found 25 = .ok (.invokevirtual 294, 3) := by decide +kernel
theorem dX9_found_28 : decode cX9_found 28 = .ok (.aload_n 0, 1) := by decide +kernel
theorem dX9_found_29 : decode cX9_found 29 = .ok (.iload_n 2, 1) := by decide +kernel
theorem dX9_found_30 : decode cX9_found 30 = .ok (.invokevirtual 310, 3) := by decide +kernel
theorem dX9_found_33 : decode cX9_found 33 = .ok (.ireturn, 1) := by decide +kernel
abbrev rmX9_found : Room := { frames := 7, cells := 0, slots := 0, locals := 162 }
theorem inX9_found_9 : ∀ w ∈ wsX90, w ∈ wsX9_found := by decide +kernel
def vX9_found (F : Nat → Int32) (J : Nat → Int64) (al : Nat → Int32) (he : Nat → Int32) (ma : Nat → Int32) (p1 : Int32) (p2 : Int32) (Q : Int32 → (Nat → Int32) → (Nat → Int32) → (Nat → Int32) → Prop) : Prop := (preX9_isLeg p1 ∧ (∀ r_6 : Int32, postX9_isLeg p1 r_6 → ((r_6 = 0 → (Q (-1 : Int32) (upd F 0 (0 : Int32)) he ma)) ∧ (¬ r_6 = 0 → (preX9_in p2 (0 : Int32) (5 : Int32) ∧ (∀ r_15 : Int32, postX9_in p2 (0 : Int32) (5 : Int32) r_15 → ((¬ r_15 = 0 → (∃ (T_25 : Cd) (G0_25 : Lg) (G1_25 : Lg) (lg_25 : Nat) (lim_25 : Nat), preX9_laysLeg T_25 G0_25 G1_25 lg_25 lim_25 (upd F 0 (0 : Int32)) J al he ma p1 ∧ (∀ (F_25 : Nat → Int32) (he_25 : Nat → Int32) (ma_25 : Nat → Int32), postX9_laysLeg T_25 G0_25 G1_25 lg_25 lim_25 (upd F 0 (0 : Int32)) J al he ma p1 F_25 he_25 ma_25 → (∃ (T_30 : Cd) (b_30 : Nat → Nat) (lim_30 : Nat), preX9_told T_30 b_30 lim_30 F_25 J al p2 ∧ (∀ r_30 : Int32, postX9_told T_30 b_30 lim_30 F_25 J al p2 r_30 → (Q r_30 F_25 he_25 ma_25)))))) ∧ (r_15 = 0 → (Q (-1 : Int32) (upd F 0 (0 : Int32)) he ma)))))))))
set_option maxHeartbeats 4000000 in
set_option maxRecDepth 100000 in
theorem wX9_found (l : Launch) (g : GP) (qM : Nat) (q1 : Nat) (q2 : Nat) (q3 : Nat) (q4 : Nat) (q5 : Nat) (q6 : Nat) (q7 : Nat) (q8 : Nat) (q9 : Nat) (q10 : Nat) (q11 : Nat) (sz : Nat) (F : Nat → Int32) (J : Nat → Int64) (al : Nat → Int32) (he : Nat → Int32) (ma : Nat → Int32) (p1 : Int32) (p2 : Int32) {Q : Int32 → (Nat → Int32) → (Nat → Int32) → (Nat → Int32) → Prop} (hv : vX9_found F J al he ma p1 p2 Q) : Met l yX9_found wsX9_found rmX9_found (va_Pc [.ref qM, .int p1, .int p2] (fun U => U.heap.size = sz ∧ va_P g.1 vwCl [(qM, .inr (9, [.int (F 0), .ref q1, .ref q2, .ref q3, .int (F 4), .int (F 5), .int (F 6), .int (F 7), .int (F 8), .int (F 9), .long (J 10), .int (F 11), .int (F 12), .int (F 13), .ref q4, .int (F 15), .ref q5, .ref q6, .ref q7, .int (F 19), .ref q8, .int (F 21), .int (F 22), .int (F 23), .int (F 24), .ref q9, .ref q10, .ref q11, .long (J 28)])), (q1, .inl (g.2 0, 376, .inl al)), (q7, .inl (g.2 0, 200, .inl he)), (q8, .inl (g.2 0, 65, .inl ma))] U.heap ∧ GK g U ∧ va_D (fun _ => True) [(qM, .inr (9, [.int (F 0), .ref q1, .ref q2, .ref q3, .int (F 4), .int (F 5), .int (F 6), .int (F 7), .int (F 8), .int (F 9), .long (J 10), .int (F 11), .int (F 12), .int (F 13), .ref q4, .int (F 15), .ref q5, .ref q6, .ref q7, .int (F 19), .ref q8, .int (F 21), .int (F 22), .int (F 23), .int (F 24), .ref q9, .ref q10, .ref q11, .long (J 28)])), (q1, .inl (g.2 0, 376, .inl al)), (q7, .inl (g.2 0, 200, .inl he)), (q8, .inl (g.2 0, 65, .inl ma))])) (va_Qi (fun (r : Int32) (u : (Nat → Int32) × (Nat → Int32) × (Nat → Int32)) => Q r u.1 u.2.1 u.2.2) (fun (u : (Nat → Int32) × (Nat → Int32) × (Nat → Int32)) t => va_P g.1 vwCl [(qM, .inr (9, [.int (u.1 0), .ref q1, .ref q2, .ref q3, .int (u.1 4), .int (u.1 5), .int (u.1 6), .int (u.1 7), .int (u.1 8), .int (u.1 9), .long (J 10), .int (u.1 11), .int (u.1 12), .int (u.1 13), .ref q4, .int (u.1 15), .ref q5, .ref q6, .ref q7, .int (u.1 19), .ref q8, .int (u.1 21), .int (u.1 22), .int (u.1 23), .int (u.1 24), .ref q9, .ref q10, .ref q11, .long (J 28)])), (q1, .inl (g.2 0, 376, .inl al)), (q7, .inl (g.2 0, 200, .inl u.2.1)), (q8, .inl (g.2 0, 65, .inl u.2.2))] t.heap ∧ va_D (va_A [(qM, .inr (9, [.int (F 0), .ref q1, .ref q2, .ref q3, .int (F 4), .int (F 5), .int (F 6), .int (F 7), .int (F 8), .int (F 9), .long (J 10), .int (F 11), .int (F 12), .int (F 13), .ref q4, .int (F 15), .ref q5, .ref q6, .ref q7, .int (F 19), .ref q8, .int (F 21), .int (F 22), .int (F 23), .int (F 24), .ref q9, .ref q10, .ref q11, .long (J 28)])), (q1, .inl (g.2 0, 376, .inl al)), (q7, .inl (g.2 0, 200, .inl he)), (q8, .inl (g.2 0, 65, .inl ma))] sz) [(qM, .inr (9, [.int (u.1 0), .ref q1, .ref q2, .ref q3, .int (u.1 4), .int (u.1 5), .int (u.1 6), .int (u.1 7), .int (u.1 8), .int (u.1 9), .long (J 10), .int (u.1 11), .int (u.1 12), .int (u.1 13), .ref q4, .int (u.1 15), .ref q5, .ref q6, .ref q7, .int (u.1 19), .ref q8, .int (u.1 21), .int (u.1 22), .int (u.1 23), .int (u.1 24), .ref q9, .ref q10, .ref q11, .long (J 28)])), (q1, .inl (g.2 0, 376, .inl al)), (q7, .inl (g.2 0, 200, .inl u.2.1)), (q8, .inl (g.2 0, 65, .inl u.2.2))]) (va_A [(qM, .inr (9, [.int (F 0), .ref q1, .ref q2, .ref q3, .int (F 4), .int (F 5), .int (F 6), .int (F 7), .int (F 8), .int (F 9), .long (J 10), .int (F 11), .int (F 12), .int (F 13), .ref q4, .int (F 15), .ref q5, .ref q6, .ref q7, .int (F 19), .ref q8, .int (F 21), .int (F 22), .int (F 23), .int (F 24), .ref q9, .ref q10, .ref q11, .long (J 28)])), (q1, .inl (g.2 0, 376, .inl al)), (q7, .inl (g.2 0, 200, .inl he)), (q8, .inl (g.2 0, 65, .inl ma))] sz)) 0 0 (va_A [(qM, .inr (9, [.int (F 0), .ref q1, .ref q2, .ref q3, .int (F 4), .int (F 5), .int (F 6), .int (F 7), .int (F 8), .int (F 9), .long (J 10), .int (F 11), .int (F 12), .int (F 13), .ref q4, .int (F 15), .ref q5, .ref q6, .ref q7, .int (F 19), .ref q8, .int (F 21), .int (F 22), .int (F 23), .int (F 24), .ref q9, .ref q10, .ref q11, .long (J 28)])), (q1, .inl (g.2 0, 376, .inl al)), (q7, .inl (g.2 0, 200, .inl he)), (q8, .inl (g.2 0, 65, .inl ma))] sz) := by
  refine Met.ofW (cc := cX9_found) (maxL := 3) (ret := (some .int)) (by decide) rfl ?_
  intro p e s m args below meth c s₁ B hml hv'
  obtain ⟨rfl, hsz, hP, hG, hD0⟩ := hv'
  have S : CallFix p m c cX9_found 3 s _ wsX9_found RX9 := ⟨B.exec, B.bytes, hml, findClass_of_methodNamed B.named, atoms_spec (ws := wsX9_found) B.pre⟩
  obtain ⟨hx, hb, hml, hown, hts⟩ := id S
  have hK := hG.1
  have hr := B.returns
  have hlocks := B.notSynchronized
  subst hsz
  have hD := hD0.self (sz := s.heap.size)
  generalize hAe : va_A [(qM, .inr (9, [.int (F 0), .ref q1, .ref q2, .ref q3, .int (F 4), .int (F 5), .int (F 6), .int (F 7), .int (F 8), .int (F 9), .long (J 10), .int (F 11), .int (F 12), .int (F 13), .ref q4, .int (F 15), .ref q5, .ref q6, .ref q7, .int (F 19), .ref q8, .int (F 21), .int (F 22), .int (F 23), .int (F 24), .ref q9, .ref q10, .ref q11, .long (J 28)])), (q1, .inl (g.2 0, 376, .inl al)), (q7, .inl (g.2 0, 200, .inl he)), (q8, .inl (g.2 0, 65, .inl ma))] s.heap.size = A at hD ⊢
  have hA : ∀ q : Nat, s.heap.size ≤ q → A q := fun q h => by rw [← hAe]; exact Or.inr h
  have hS : va_S A s.heap s.heap [] := va_S.rf
  clear hD0 hAe
  have hl := lv_entry ([.ref qM, .int p1, .int p2]) (n := 3) (Nat.le_of_ble_eq_true rfl)
  rw [lg_entry_eq]
  generalize (lg_sl ([.ref qM, .int p1, .int p2]) ++ List.replicate (3 - (lg_sl ([.ref qM, .int p1, .int p2])).length) Slot.unset).toArray = ls at hl ⊢
  have hl : lv_has ls 3 [(0, .ref qM), (1, .int p1), (2, .int p2)] := hl
  unfold vX9_found at hv
  refine lv_aload_n hx hb dX9_found_0 rfl (lv_at hl 0 rfl) ?_
  refine lv_iconst (v := (0 : Int32)) hx hb dX9_found_1 (by decide) ?_
  refine va_put (D := g.1) (ci := 9) (v := .int (0 : Int32)) (ty := .int) (C := RX9) (T := TX9) (N := 29) hx hb hts inX9_found_9 tyX9 tyX9_ok nmX9 hown hK hP hD hS 0 rfl rfl 0 (by decide) (hts (.fieldLink RX9 51 "RangeCodesModel" "raised" "I") (List.mem_of_getElem? (i := 1) rfl)) (fun _ h9 => h9) rfl (by decide +kernel) rfl rfl (Nat.le_of_ble_eq_true rfl) dX9_found_2 (fun H locs hP hD hS => ?_)
  have hP : va_P g.1 vwCl [(qM, .inr (9, [.int (0 : Int32), .ref q1, .ref q2, .ref q3, .int (F 4), .int (F 5), .int (F 6), .int (F 7), .int (F 8), .int (F 9), .long (J 10), .int (F 11), .int (F 12), .int (F 13), .ref q4, .int (F 15), .ref q5, .ref q6, .ref q7, .int (F 19), .ref q8, .int (F 21), .int (F 22), .int (F 23), .int (F 24), .ref q9, .ref q10, .ref q11, .long (J 28)])), (q1, .inl (g.2 0, 376, .inl al)), (q7, .inl (g.2 0, 200, .inl he)), (q8, .inl (g.2 0, 65, .inl ma))] H := hP
  have hD : va_D A [(qM, .inr (9, [.int (0 : Int32), .ref q1, .ref q2, .ref q3, .int (F 4), .int (F 5), .int (F 6), .int (F 7), .int (F 8), .int (F 9), .long (J 10), .int (F 11), .int (F 12), .int (F 13), .ref q4, .int (F 15), .ref q5, .ref q6, .ref q7, .int (F 19), .ref q8, .int (F 21), .int (F 22), .int (F 23), .int (F 24), .ref q9, .ref q10, .ref q11, .long (J 28)])), (q1, .inl (g.2 0, 376, .inl al)), (q7, .inl (g.2 0, 200, .inl he)), (q8, .inl (g.2 0, 65, .inl ma))] := hD
  refine lv_iload_n hx hb dX9_found_5 rfl (lv_at hl 1 rfl) ?_
  obtain ⟨ho_1, hv⟩ := hv
  refine vp_callSi (W.runS (As := [.int p1]) (rest := []) S (wX9_isLeg l g p1 (sX9_isLeg p1 ho_1)) (va_cwS 1 hts gX9_found_X9_isLeg rfl rfl rfl (by decide +kernel) ⟨Nat.le_of_ble_eq_true rfl, Nat.le_of_ble_eq_true rfl⟩) ⟨blindRO, fun U hU hW => ⟨rfl, by rw [hU]; exact hP.sub (ws' := []) [] rfl, hG.warm hW⟩⟩ rfl rfl hl.1 rfl (lv_room (Nat.le_of_ble_eq_true rfl)) dX9_found_6 ⟨Nat.le_of_ble_eq_true rfl, Nat.le_of_ble_eq_true rfl⟩) (fun r_6 hr_6 => ?_)
  have hv := hv r_6 hr_6
  obtain ⟨hvt, hvf⟩ := hv
  refine lv_if_eq (tgt := 21) hx hb dX9_found_9 (by decide) (fun hc => ?_) (fun hc => ?_)
  · have hv := hvt hc
    refine lv_iconst (v := (-1 : Int32)) hx hb dX9_found_21 (by decide) ?_
    have hP9 := hP.sub (ws' := [(qM, .inr (9, [.int ((upd F 0 (0 : Int32)) 0), .ref q1, .ref q2, .ref q3, .int ((upd F 0 (0 : Int32)) 4), .int ((upd F 0 (0 : Int32)) 5), .int ((upd F 0 (0 : Int32)) 6), .int ((upd F 0 (0 : Int32)) 7), .int ((upd F 0 (0 : Int32)) 8), .int ((upd F 0 (0 : Int32)) 9), .long (J 10), .int ((upd F 0 (0 : Int32)) 11), .int ((upd F 0 (0 : Int32)) 12), .int ((upd F 0 (0 : Int32)) 13), .ref q4, .int ((upd F 0 (0 : Int32)) 15), .ref q5, .ref q6, .ref q7, .int ((upd F 0 (0 : Int32)) 19), .ref q8, .int ((upd F 0 (0 : Int32)) 21), .int ((upd F 0 (0 : Int32)) 22), .int ((upd F 0 (0 : Int32)) 23), .int ((upd F 0 (0 : Int32)) 24), .ref q9, .ref q10, .ref q11, .long (J 28)])), (q1, .inl (g.2 0, 376, .inl al)), (q7, .inl (g.2 0, 200, .inl he)), (q8, .inl (g.2 0, 65, .inl ma))]) [0, 1, 2, 3] rfl
    have hD9 := hD.sub (ws' := [(qM, .inr (9, [.int ((upd F 0 (0 : Int32)) 0), .ref q1, .ref q2, .ref q3, .int ((upd F 0 (0 : Int32)) 4), .int ((upd F 0 (0 : Int32)) 5), .int ((upd F 0 (0 : Int32)) 6), .int ((upd F 0 (0 : Int32)) 7), .int ((upd F 0 (0 : Int32)) 8), .int ((upd F 0 (0 : Int32)) 9), .long (J 10), .int ((upd F 0 (0 : Int32)) 11), .int ((upd F 0 (0 : Int32)) 12), .int ((upd F 0 (0 : Int32)) 13), .ref q4, .int ((upd F 0 (0 : Int32)) 15), .ref q5, .ref q6, .ref q7, .int ((upd F 0 (0 : Int32)) 19), .ref q8, .int ((upd F 0 (0 : Int32)) 21), .int ((upd F 0 (0 : Int32)) 22), .int ((upd F 0 (0 : Int32)) 23), .int ((upd F 0 (0 : Int32)) 24), .ref q9, .ref q10, .ref q11, .long (J 28)])), (q1, .inl (g.2 0, 376, .inl al)), (q7, .inl (g.2 0, 200, .inl he)), (q8, .inl (g.2 0, 65, .inl ma))]) [0, 1, 2, 3] (by decide) rfl
    exact W.iret (v := (-1 : Int32)) hx hb hr (fun t ht hW => ⟨⟨_, ((upd F 0 (0 : Int32)), he, ma), rfl, hv, by rw [ht]; exact hP9, hD9⟩, hS.F ht⟩) hS.2.2 dX9_found_22
  · have hv := hvf hc
    refine lv_iload_n hx hb dX9_found_12 rfl (lv_at hl 2 rfl) ?_
    refine lv_iconst (v := (0 : Int32)) hx hb dX9_found_13 (by decide) ?_
    refine lv_iconst (v := (5 : Int32)) hx hb dX9_found_14 (by decide) ?_
    obtain ⟨ho_2, hv⟩ := hv
    refine vp_callSi (W.runS (As := [.int p2, .int (0 : Int32), .int (5 : Int32)]) (rest := []) S (wX9_in l g p2 (0 : Int32) (5 : Int32) (sX9_in p2 (0 : Int32) (5 : Int32) ho_2)) (va_cwS 3 hts gX9_found_X9_in rfl rfl rfl (by decide +kernel) ⟨Nat.le_of_ble_eq_true rfl, Nat.le_of_ble_eq_true rfl⟩) ⟨blindRO, fun U hU hW => ⟨rfl, by rw [hU]; exact hP.sub (ws' := []) [] rfl, hG.warm hW⟩⟩ rfl rfl hl.1 rfl (lv_room (Nat.le_of_ble_eq_true rfl)) dX9_found_15 ⟨Nat.le_of_ble_eq_true rfl, Nat.le_of_ble_eq_true rfl⟩) (fun r_15 hr_15 => ?_)
    have hv := hv r_15 hr_15
    obtain ⟨hvt, hvf⟩ := hv
    refine lv_if_ne (tgt := 23) hx hb dX9_found_18 (by decide) (fun hc => ?_) (fun hc => ?_)
    · have hv := hvt hc
      refine lv_aload_n hx hb dX9_found_23 rfl (lv_at hl 0 rfl) ?_
      refine lv_iload_n hx hb dX9_found_24 rfl (lv_at hl 1 rfl) ?_
      obtain ⟨T_25, G0_25, G1_25, lg_25, lim_25, ho_3, hv⟩ := hv
      have hPc := hP.sub (ws' := [(qM, .inr (9, [.int ((upd F 0 (0 : Int32)) 0), .ref q1, .ref q2, .ref q3, .int ((upd F 0 (0 : Int32)) 4), .int ((upd F 0 (0 : Int32)) 5), .int ((upd F 0 (0 : Int32)) 6), .int ((upd F 0 (0 : Int32)) 7), .int ((upd F 0 (0 : Int32)) 8), .int ((upd F 0 (0 : Int32)) 9), .long (J 10), .int ((upd F 0 (0 : Int32)) 11), .int ((upd F 0 (0 : Int32)) 12), .int ((upd F 0 (0 : Int32)) 13), .ref q4, .int ((upd F 0 (0 : Int32)) 15), .ref q5, .ref q6, .ref q7, .int ((upd F 0 (0 : Int32)) 19), .ref q8, .int ((upd F 0 (0 : Int32)) 21), .int ((upd F 0 (0 : Int32)) 22), .int ((upd F 0 (0 : Int32)) 23), .int ((upd F 0 (0 : Int32)) 24), .ref q9, .ref q10, .ref q11, .long (J 28)])), (q1, .inl (g.2 0, 376, .inl al)), (q7, .inl (g.2 0, 200, .inl he)), (q8, .inl (g.2 0, 65, .inl ma))]) [0, 1, 2, 3] rfl
      have hDc := hD.sub (ws' := [(qM, .inr (9, [.int ((upd F 0 (0 : Int32)) 0), .ref q1, .ref q2, .ref q3, .int ((upd F 0 (0 : Int32)) 4), .int ((upd F 0 (0 : Int32)) 5), .int ((upd F 0 (0 : Int32)) 6), .int ((upd F 0 (0 : Int32)) 7), .int ((upd F 0 (0 : Int32)) 8), .int ((upd F 0 (0 : Int32)) 9), .long (J 10), .int ((upd F 0 (0 : Int32)) 11), .int ((upd F 0 (0 : Int32)) 12), .int ((upd F 0 (0 : Int32)) 13), .ref q4, .int ((upd F 0 (0 : Int32)) 15), .ref q5, .ref q6, .ref q7, .int ((upd F 0 (0 : Int32)) 19), .ref q8, .int ((upd F 0 (0 : Int32)) 21), .int ((upd F 0 (0 : Int32)) 22), .int ((upd F 0 (0 : Int32)) 23), .int ((upd F 0 (0 : Int32)) 24), .ref q9, .ref q10, .ref q11, .long (J 28)])), (q1, .inl (g.2 0, 376, .inl al)), (q7, .inl (g.2 0, 200, .inl he)), (q8, .inl (g.2 0, 65, .inl ma))]) [0, 1, 2, 3] (by decide) rfl
      have hFc := va_free (wc := [(qM, .inr (9, [.int ((upd F 0 (0 : Int32)) 0), .ref q1, .ref q2, .ref q3, .int ((upd F 0 (0 : Int32)) 4), .int ((upd F 0 (0 : Int32)) 5), .int ((upd F 0 (0 : Int32)) 6), .int ((upd F 0 (0 : Int32)) 7), .int ((upd F 0 (0 : Int32)) 8), .int ((upd F 0 (0 : Int32)) 9), .long (J 10), .int ((upd F 0 (0 : Int32)) 11), .int ((upd F 0 (0 : Int32)) 12), .int ((upd F 0 (0 : Int32)) 13), .ref q4, .int ((upd F 0 (0 : Int32)) 15), .ref q5, .ref q6, .ref q7, .int ((upd F 0 (0 : Int32)) 19), .ref q8, .int ((upd F 0 (0 : Int32)) 21), .int ((upd F 0 (0 : Int32)) 22), .int ((upd F 0 (0 : Int32)) 23), .int ((upd F 0 (0 : Int32)) 24), .ref q9, .ref q10, .ref q11, .long (J 28)])), (q1, .inl (g.2 0, 376, .inl al)), (q7, .inl (g.2 0, 200, .inl he)), (q8, .inl (g.2 0, 65, .inl ma))]) hD hS hA [0, 1, 2, 3] rfl
      refine va_callv (va_runV (As := [.int p1]) (rest := []) S (wX9_laysLeg l g qM q1 q2 q3 q4 q5 q6 q7 q8 q9 q10 q11 H.size (upd F 0 (0 : Int32)) J al he ma p1 (sX9_laysLeg T_25 G0_25 G1_25 lg_25 lim_25 (upd F 0 (0 : Int32)) J al he ma p1 ho_3)) (cwV 1 hts gX9_found_X9_laysLeg rfl rfl rfl (by decide +kernel) ⟨Nat.le_of_ble_eq_true rfl, Nat.le_of_ble_eq_true rfl⟩) ⟨blindRW, va_recv hK hP (ci := 9) (q0 := 0) rfl rfl, fun U hU hW => ⟨rfl, by rw [hU], by rw [hU]; exact hPc, hG.warm hW, hDc.weaken (fun _ _ _ _ => trivial)⟩⟩ rfl rfl hl.1 rfl (lv_room (Nat.le_of_ble_eq_true rfl)) dX9_found_25 ⟨Nat.le_of_ble_eq_true rfl, Nat.le_of_ble_eq_true rfl⟩) hS (fun q _ h => hFc q h) hFc (fun u t H1 locs ht hvm hw hB hz1 hk1 hS => ?_)
      obtain ⟨F_25, he_25, ma_25⟩ := u
      obtain ⟨hP1, hD1⟩ := hB
      rw [ht] at hP1
      have hv := hv F_25 he_25 ma_25 hw
      obtain ⟨hP, hD⟩ := va_join (wr := []) (w1 := [(qM, .inr (9, [.int (F_25 0), .ref q1, .ref q2, .ref q3, .int (F_25 4), .int (F_25 5), .int (F_25 6), .int (F_25 7), .int (F_25 8), .int (F_25 9), .long (J 10), .int (F_25 11), .int (F_25 12), .int (F_25 13), .ref q4, .int (F_25 15), .ref q5, .ref q6, .ref q7, .int (F_25 19), .ref q8, .int (F_25 21), .int (F_25 22), .int (F_25 23), .int (F_25 24), .ref q9, .ref q10, .ref q11, .long (J 28)])), (q1, .inl (g.2 0, 376, .inl al)), (q7, .inl (g.2 0, 200, .inl he_25)), (q8, .inl (g.2 0, 65, .inl ma_25))]) hP hD [0, 1, 2, 3] [] rfl rfl (by decide) (by decide) hk1 hFc hP1 hD1
      clear hP1 hD1 hPc hDc hFc hk1
      generalize H1 = H at hP hS ⊢
      have hP : va_P g.1 vwCl [(qM, .inr (9, [.int (F_25 0), .ref q1, .ref q2, .ref q3, .int (F_25 4), .int (F_25 5), .int (F_25 6), .int (F_25 7), .int (F_25 8), .int (F_25 9), .long (J 10), .int (F_25 11), .int (F_25 12), .int (F_25 13), .ref q4, .int (F_25 15), .ref q5, .ref q6, .ref q7, .int (F_25 19), .ref q8, .int (F_25 21), .int (F_25 22), .int (F_25 23), .int (F_25 24), .ref q9, .ref q10, .ref q11, .long (J 28)])), (q1, .inl (g.2 0, 376, .inl al)), (q7, .inl (g.2 0, 200, .inl he_25)), (q8, .inl (g.2 0, 65, .inl ma_25))] H := hP
      have hD : va_D A [(qM, .inr (9, [.int (F_25 0), .ref q1, .ref q2, .ref q3, .int (F_25 4), .int (F_25 5), .int (F_25 6), .int (F_25 7), .int (F_25 8), .int (F_25 9), .long (J 10), .int (F_25 11), .int (F_25 12), .int (F_25 13), .ref q4, .int (F_25 15), .ref q5, .ref q6, .ref q7, .int (F_25 19), .ref q8, .int (F_25 21), .int (F_25 22), .int (F_25 23), .int (F_25 24), .ref q9, .ref q10, .ref q11, .long (J 28)])), (q1, .inl (g.2 0, 376, .inl al)), (q7, .inl (g.2 0, 200, .inl he_25)), (q8, .inl (g.2 0, 65, .inl ma_25))] := hD
      refine lv_aload_n hx hb dX9_found_28 rfl (lv_at hl 0 rfl) ?_
      refine lv_iload_n hx hb dX9_found_29 rfl (lv_at hl 2 rfl) ?_
      obtain ⟨T_30, b_30, lim_30, ho_4, hv⟩ := hv
      refine vp_callSi (W.runV (As := [.int p2]) (rest := []) S (wX9_told l g qM q1 q2 q3 q4 q5 q6 q7 q8 q9 q10 q11 F_25 J al p2 (sX9_told T_30 b_30 lim_30 F_25 J al p2 ho_4)) (cwV 1 hts gX9_found_X9_told rfl rfl rfl (by decide +kernel) ⟨Nat.le_of_ble_eq_true rfl, Nat.le_of_ble_eq_true rfl⟩) ⟨blindRO, va_recv hK hP (ci := 9) (q0 := 0) rfl rfl, fun U hU hW => ⟨rfl, by rw [hU]; exact hP.sub (ws' := [(qM, .inr (9, [.int (F_25 0), .ref q1, .ref q2, .ref q3, .int (F_25 4), .int (F_25 5), .int (F_25 6), .int (F_25 7), .int (F_25 8), .int (F_25 9), .long (J 10), .int (F_25 11), .int (F_25 12), .int (F_25 13), .ref q4, .int (F_25 15), .ref q5, .ref q6, .ref q7, .int (F_25 19), .ref q8, .int (F_25 21), .int (F_25 22), .int (F_25 23), .int (F_25 24), .ref q9, .ref q10, .ref q11, .long (J 28)])), (q1, .inl (g.2 0, 376, .inl al))]) [0, 1] rfl, hG.warm hW⟩⟩ rfl rfl hl.1 rfl (lv_room (Nat.le_of_ble_eq_true rfl)) dX9_found_30 ⟨Nat.le_of_ble_eq_true rfl, Nat.le_of_ble_eq_true rfl⟩) (fun r_30 hr_30 => ?_)
      have hv := hv r_30 hr_30
      have hP9 := hP.sub (ws' := [(qM, .inr (9, [.int (F_25 0), .ref q1, .ref q2, .ref q3, .int (F_25 4), .int (F_25 5), .int (F_25 6), .int (F_25 7), .int (F_25 8), .int (F_25 9), .long (J 10), .int (F_25 11), .int (F_25 12), .int (F_25 13), .ref q4, .int (F_25 15), .ref q5, .ref q6, .ref q7, .int (F_25 19), .ref q8, .int (F_25 21), .int (F_25 22), .int (F_25 23), .int (F_25 24), .ref q9, .ref q10, .ref q11, .long (J 28)])), (q1, .inl (g.2 0, 376, .inl al)), (q7, .inl (g.2 0, 200, .inl he_25)), (q8, .inl (g.2 0, 65, .inl ma_25))]) [0, 1, 2, 3] rfl
      have hD9 := hD.sub (ws' := [(qM, .inr (9, [.int (F_25 0), .ref q1, .ref q2, .ref q3, .int (F_25 4), .int (F_25 5), .int (F_25 6), .int (F_25 7), .int (F_25 8), .int (F_25 9), .long (J 10), .int (F_25 11), .int (F_25 12), .int (F_25 13), .ref q4, .int (F_25 15), .ref q5, .ref q6, .ref q7, .int (F_25 19), .ref q8, .int (F_25 21), .int (F_25 22), .int (F_25 23), .int (F_25 24), .ref q9, .ref q10, .ref q11, .long (J 28)])), (q1, .inl (g.2 0, 376, .inl al)), (q7, .inl (g.2 0, 200, .inl he_25)), (q8, .inl (g.2 0, 65, .inl ma_25))]) [0, 1, 2, 3] (by decide) rfl
      exact W.iret (v := r_30) hx hb hr (fun t ht hW => ⟨⟨_, (F_25, he_25, ma_25), rfl, hv, by rw [ht]; exact hP9, hD9⟩, hS.F ht⟩) hS.2.2 dX9_found_33
    · have hv := hvf hc
      refine lv_iconst (v := (-1 : Int32)) hx hb dX9_found_21 (by decide) ?_
      have hP9 := hP.sub (ws' := [(qM, .inr (9, [.int ((upd F 0 (0 : Int32)) 0), .ref q1, .ref q2, .ref q3, .int ((upd F 0 (0 : Int32)) 4), .int ((upd F 0 (0 : Int32)) 5), .int ((upd F 0 (0 : Int32)) 6), .int ((upd F 0 (0 : Int32)) 7), .int ((upd F 0 (0 : Int32)) 8), .int ((upd F 0 (0 : Int32)) 9), .long (J 10), .int ((upd F 0 (0 : Int32)) 11), .int ((upd F 0 (0 : Int32)) 12), .int ((upd F 0 (0 : Int32)) 13), .ref q4, .int ((upd F 0 (0 : Int32)) 15), .ref q5, .ref q6, .ref q7, .int ((upd F 0 (0 : Int32)) 19), .ref q8, .int ((upd F 0 (0 : Int32)) 21), .int ((upd F 0 (0 : Int32)) 22), .int ((upd F 0 (0 : Int32)) 23), .int ((upd F 0 (0 : Int32)) 24), .ref q9, .ref q10, .ref q11, .long (J 28)])), (q1, .inl (g.2 0, 376, .inl al)), (q7, .inl (g.2 0, 200, .inl he)), (q8, .inl (g.2 0, 65, .inl ma))]) [0, 1, 2, 3] rfl
      have hD9 := hD.sub (ws' := [(qM, .inr (9, [.int ((upd F 0 (0 : Int32)) 0), .ref q1, .ref q2, .ref q3, .int ((upd F 0 (0 : Int32)) 4), .int ((upd F 0 (0 : Int32)) 5), .int ((upd F 0 (0 : Int32)) 6), .int ((upd F 0 (0 : Int32)) 7), .int ((upd F 0 (0 : Int32)) 8), .int ((upd F 0 (0 : Int32)) 9), .long (J 10), .int ((upd F 0 (0 : Int32)) 11), .int ((upd F 0 (0 : Int32)) 12), .int ((upd F 0 (0 : Int32)) 13), .ref q4, .int ((upd F 0 (0 : Int32)) 15), .ref q5, .ref q6, .ref q7, .int ((upd F 0 (0 : Int32)) 19), .ref q8, .int ((upd F 0 (0 : Int32)) 21), .int ((upd F 0 (0 : Int32)) 22), .int ((upd F 0 (0 : Int32)) 23), .int ((upd F 0 (0 : Int32)) 24), .ref q9, .ref q10, .ref q11, .long (J 28)])), (q1, .inl (g.2 0, 376, .inl al)), (q7, .inl (g.2 0, 200, .inl he)), (q8, .inl (g.2 0, 65, .inl ma))]) [0, 1, 2, 3] (by decide) rfl
      exact W.iret (v := (-1 : Int32)) hx hb hr (fun t ht hW => ⟨⟨_, ((upd F 0 (0 : Int32)), he, ma), rfl, hv, by rw [ht]; exact hP9, hD9⟩, hS.F ht⟩) hS.2.2 dX9_found_22
abbrev preX9_found (T : Cd) (G0 : Lg) (G1 : Lg) (lim : Nat) (F : Nat → Int32) (J : Nat → Int64) (al : Nat → Int32) (he : Nat → Int32) (ma : Nat → Int32) (p1 : Int32) (p2 : Int32) : Prop := fcR T G0 G1 lim al
abbrev postX9_found (T : Cd) (G0 : Lg) (G1 : Lg) (lim : Nat) (F : Nat → Int32) (J : Nat → Int64) (al : Nat → Int32) (he : Nat → Int32) (ma : Nat → Int32) (p1 : Int32) (p2 : Int32) (r : Int32) (F' : Nat → Int32) (he' : Nat → Int32) (ma' : Nat → Int32) : Prop := r.toInt = spFound T G0 G1 lim p1.toInt p2.toInt
theorem fdZ_out {T : Cd} {b : Nat → Nat} {lim : Nat} {w : Int} (h : ¬ (0 ≤ w ∧ w ≤ 5)) : fdZ T b lim w = -1 := by
  unfold fdZ
  rw [if_neg (by omega), if_neg (by omega), if_neg (by omega), if_neg (by omega), if_neg (by omega), if_neg (by omega)]
theorem sX9_found (T : Cd) (G0 : Lg) (G1 : Lg) (lim : Nat) (F : Nat → Int32) (J : Nat → Int64) (al : Nat → Int32) (he : Nat → Int32) (ma : Nat → Int32) (p1 : Int32) (p2 : Int32) (H : preX9_found T G0 G1 lim F J al he ma p1 p2) : vX9_found F J al he ma p1 p2 (postX9_found T G0 G1 lim F J al he ma p1 p2) := by
  obtain ⟨hT, h0, h1, hlim, hl9, hl1⟩ := id H
  unfold postX9_found spFound
  refine ⟨trivial, fun r hr => ?_⟩
  have hr : r = if p1.toInt = 0 ∨ p1.toInt = 1 then 1 else 0 := hr
  rw [hr, q_if1]
  refine ⟨fun hc => by rw [if_neg hc]; rfl, fun hc => ⟨trivial, fun r2 hr2 => ?_⟩⟩
  have hc := Decidable.not_not.mp hc
  have hr2 : r2 = if 0 ≤ p2.toInt ∧ p2.toInt ≤ 5 then 1 else 0 := hr2
  rw [hr2, q_if1, if_pos hc]
  refine ⟨fun hd => ?_, fun hd => by rw [fdZ_out hd]; rfl⟩
  have hd := Decidable.not_not.mp hd
  refine ⟨T, G0, G1, p1.toInt.toNat, lim, fcR_ll H _ _ _ _ hc, fun F2 he2 ma2 hq => ?_⟩
  have h2 := rlC_of hq
  exact ⟨T, _, lim, ⟨fun p hp => (hT.2.1 p hp).2.1, h2.2.2.1, hlim, hl9, hd.1, hd.2⟩, fun r3 hr3 => hr3⟩
