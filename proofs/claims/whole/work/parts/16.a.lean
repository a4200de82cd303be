-- scores, and the order of numbers by them
def scZ (T : Cd) (m : Nat → Nat → Int) (n : Nat) : Nat → Int
  | 0 => 0
  | p + 1 => scZ T m n p + m p (n % cL T p) * (cV T p : Int)
def scr (T : Cd) (m : Nat → Nat → Int) (n : Nat) : Int := scZ T m n (cn T)
def okM (T : Cd) (m : Nat → Nat → Int) : Prop := ∀ p, p < cn T → ∀ w, w < cL T p → -200 ≤ m p w ∧ m p w ≤ 200
theorem scZ_le {T : Cd} {m : Nat → Nat → Int} (hL : ∀ p, p < cn T → 2 ≤ cL T p) (hV : ∀ p, p < cn T → cV T p ≤ 9) (hm : okM T m) (n : Nat) : ∀ k : Nat, k ≤ cn T → -(1800 * (k : Int)) ≤ scZ T m n k ∧ scZ T m n k ≤ 1800 * (k : Int)
  | 0, _ => by simp [scZ]
  | k + 1, hk => by
    have ih := scZ_le hL hV hm n k (by omega)
    have h1 := hm k (by omega) (n % cL T k) (Nat.mod_lt _ (by have := hL k (by omega); omega))
    have h2 := q_mulb (b := 200) (c := 9) h1.1 h1.2 (y := (cV T k : Int)) (by omega) (by have := hV k (by omega); omega) (by omega)
    rw [scZ]; omega
theorem md_s {n L : Nat} (hL : 0 < L) : (n + 1) % L = if L ≤ n % L + 1 then 0 else n % L + 1 := by
  have h := Nat.mod_lt n hL
  rw [← Nat.mod_add_mod]
  split
  · have : n % L + 1 = L := by omega
    rw [this, Nat.mod_self]
  · exact Nat.mod_eq_of_lt (by omega)
/-- one number is ahead of another one -/
def bfB (s : Nat → Int) (a b : Nat) : Bool := decide (s b < s a ∨ (s a = s b ∧ a < b))
theorem bf_iff {s : Nat → Int} {a b : Nat} : bfB s a b = true ↔ (s b < s a ∨ (s a = s b ∧ a < b)) := decide_eq_true_iff
theorem bf_no {s : Nat → Int} {a b : Nat} (h : ¬ (s b < s a ∨ (s a = s b ∧ a < b))) : bfB s a b = false := decide_eq_false h
theorem bf_irr (s : Nat → Int) (a : Nat) : bfB s a a = false := bf_no (by omega)
theorem bf_tr {s : Nat → Int} {a b c : Nat} (h : bfB s a b = true) (h2 : bfB s b c = true) : bfB s a c = true := by
  rw [bf_iff] at *; omega
theorem bf_as {s : Nat → Int} {a b : Nat} (h : bfB s a b = true) (h2 : bfB s b a = true) : False := by
  rw [bf_iff] at *; omega
theorem bf_to {s : Nat → Int} {a b : Nat} (h : a ≠ b) (h2 : ¬ bfB s a b = true) : bfB s b a = true := by
  rw [bf_iff] at *; omega
theorem cnt_all {p : Nat → Bool} : ∀ {n : Nat}, (∀ j, j < n → p j = true) → fa_cnt p n = n
  | 0, _ => rfl
  | n + 1, h => by rw [fa_cnt_yes (h n (by omega)), cnt_all (fun j hj => h j (by omega))]
theorem cnt_none {p : Nat → Bool} : ∀ {n : Nat}, (∀ j, j < n → p j = false) → fa_cnt p n = 0
  | 0, _ => rfl
  | n + 1, h => by rw [fa_cnt_no (h n (by omega)), cnt_none (fun j hj => h j (by omega))]
theorem cnt_add {p : Nat → Bool} {a : Nat} (hp : p a = false) : ∀ {n : Nat}, a < n → fa_cnt (fun j => p j || decide (j = a)) n = fa_cnt p n + 1
  | 0, h => absurd h (by omega)
  | n + 1, h => by
    by_cases e : a = n
    · subst e
      rw [fa_cnt_yes (by simp), fa_cnt_no hp]
      rw [fa_cnt_cong (fun k hk => by rw [decide_eq_false (by omega), Bool.or_false])]
    · have ih := cnt_add hp (n := n) (by omega)
      have hl : (p n || decide (n = a)) = p n := by rw [decide_eq_false (by omega), Bool.or_false]
      cases hn : p n
      · rw [fa_cnt_no (by rw [hl]; exact hn), fa_cnt_no hn, ih]
      · rw [fa_cnt_yes (by rw [hl]; exact hn), fa_cnt_yes hn, ih]
theorem cnt_le {p q : Nat → Bool} : ∀ {n : Nat}, (∀ j, j < n → p j = true → q j = true) → fa_cnt p n ≤ fa_cnt q n
  | 0, _ => Nat.le_refl 0
  | n + 1, h => by
    have ih := cnt_le (p := p) (q := q) (n := n) (fun j hj => h j (by omega))
    cases hn : p n
    · rw [fa_cnt_no hn]
      cases hq : q n
      · rw [fa_cnt_no hq]; exact ih
      · rw [fa_cnt_yes hq]; omega
    · rw [fa_cnt_yes hn, fa_cnt_yes (h n (by omega) hn)]; omega
/-- how many are ahead of a number -/
def rkN (s : Nat → Int) (lim x : Nat) : Nat := fa_cnt (fun j => bfB s j x) lim
def kth (s : Nat → Int) (lim k : Nat) : Nat := fa_first (fun x => decide (rkN s lim x = k)) lim
theorem rk_lt {s : Nat → Int} {lim a b : Nat} (ha : a < lim) (h : bfB s a b = true) : rkN s lim a < rkN s lim b := by
  have e := cnt_add (p := fun j => bfB s j a) (a := a) (bf_irr s a) ha
  have l := cnt_le (p := fun j => bfB s j a || decide (j = a)) (q := fun j => bfB s j b) (n := lim) (fun j hj q => by
    rw [Bool.or_eq_true, decide_eq_true_iff] at q
    rcases q with q | q
    · exact bf_tr q h
    · subst q; exact h)
  unfold rkN
  omega
theorem rk_inj {s : Nat → Int} {lim a b : Nat} (ha : a < lim) (hb : b < lim) (h : rkN s lim a = rkN s lim b) : a = b := by
  by_cases e : a = b
  · exact e
  · by_cases q : bfB s a b = true
    · have := rk_lt ha q; omega
    · have := rk_lt hb (bf_to e q); omega
theorem kth_eq {s : Nat → Int} {lim x k : Nat} (hx : x < lim) (h : rkN s lim x = k) : kth s lim k = x :=
  ff_eq hx (decide_eq_true h) (fun j hj => decide_eq_false (fun e => absurd (rk_inj (a := j) (b := x) (by omega) hx (by rw [e, h])) (by omega)))
def inL (num : Nat → Nat) : Nat → Nat → Bool
  | 0, _ => false
  | t + 1, x => inL num t x || decide (x = num t)
theorem inL_iff (num : Nat → Nat) : ∀ t x, inL num t x = true ↔ ∃ j, j < t ∧ num j = x
  | 0, x => by simp [inL]
  | t + 1, x => by
    rw [inL, Bool.or_eq_true, inL_iff num t x, decide_eq_true_iff]
    constructor
    · intro h
      rcases h with ⟨j, h1, h2⟩ | h
      · exact ⟨j, by omega, h2⟩
      · exact ⟨t, by omega, h.symm⟩
    · intro ⟨j, h1, h2⟩
      by_cases e : j = t
      · subst e; exact Or.inr h2.symm
      · exact Or.inl ⟨j, by omega, h2⟩
theorem inL_cnt (num : Nat → Nat) (lim : Nat) : ∀ t, (∀ j, j < t → num j < lim) → (∀ a b, a < b → b < t → num a ≠ num b) → fa_cnt (inL num t) lim = t
  | 0, _, _ => cnt_none (fun _ _ => rfl)
  | t + 1, h, h2 => by
    have ih := inL_cnt num lim t (fun j hj => h j (by omega)) (fun a b hab hb => h2 a b hab (by omega))
    have hn : inL num t (num t) = false := by
      cases e : inL num t (num t)
      · rfl
      · obtain ⟨j, hj, ej⟩ := (inL_iff num t _).mp e
        exact absurd ej (h2 j t hj (by omega))
    have e := cnt_add hn (h t (by omega))
    rw [show inL num (t + 1) = fun j => inL num t j || decide (j = num t) from rfl, e, ih]
noncomputable section
def spLikely (T : Cd) (G0 G1 : Lg) (lim : Nat) (l k c : Int) : Int := if (l = 0 ∨ l = 1) ∧ 0 ≤ k ∧ k < 20 ∧ k < (lim : Int) then (if c = 0 then (kth (scr T (mN T G0 G1 lim l.toNat)) lim k.toNat : Int) else scr T (mN T G0 G1 lim l.toNat) (kth (scr T (mN T G0 G1 lim l.toNat)) lim k.toNat)) else -1000000
def spRank (T : Cd) (G0 G1 : Lg) (lim : Nat) (l n : Int) : Int := if (l = 0 ∨ l = 1) ∧ 0 ≤ n ∧ n < (lim : Int) then (rkN (scr T (mN T G0 G1 lim l.toNat)) lim n.toNat : Int) else -1
end
theorem mN_ok (T : Cd) (G0 G1 : Lg) (lim l : Nat) (hg : gmn (pkG G0 G1 l) ≤ 200) : okM T (mN T G0 G1 lim l) := fun p _ w _ => mN_le T G0 G1 lim l hg p w
theorem dX3_nextScore_0 : decode cX3_nextScore 0 = .ok (.aload_n 0, 1) := by decide +kernel
theorem dX3_nextScore_1 : decode cX3_nextScore 1 = .ok (.getfield 21, 3) := by decide +kernel
theorem dX3_nextScore_4 : decode cX3_nextScore 4 = .ok (.getfield 31, 3) := by decide +kernel
theorem dX3_nextScore_7 : decode cX3_nextScore 7 = .ok (.astore_n 1, 1) := by decide +kernel
theorem dX3_nextScore_8 : decode cX3_nextScore 8 = .ok (.iconst 0, 1) := by decide +kernel
theorem dX3_nextScore_9 : decode cX3_nextScore 9 = .ok (.istore_n 2, 1) := by decide +kernel
theorem dX3_nextScore_10 : decode cX3_nextScore 10 = .ok (.iconst 0, 1) := by decide +kernel
theorem dX3_nextScore_11 : decode cX3_nextScore 11 = .ok (.istore_n 3, 1) := by decide +kernel
theorem dX3_nextScore_12 : decode cX3_nextScore 12 = .ok (.iload_n 3, 1) := by decide +kernel
theorem dX3_nextScore_13 : decode cX3_nextScore 13 = .ok (.aload_n 1, 1) := by decide +kernel
theorem dX3_nextScore_14 : decode cX3_nextScore 14 = .ok (.getfield 57, 3) := by decide +kernel
theorem dX3_nextScore_17 : decode cX3_nextScore 17 = .ok (.if_icmp .ge 70, 3) := by decide +kernel
theorem dX3_nextScore_20 : decode cX3_nextScore 20 = .ok (.iload_n 2, 1) := by decide +kernel
theorem dX3_nextScore_21 : decode cX3_nextScore 21 = .ok (.aload_n 0, 1) := by decide +kernel
theorem dX3_nextScore_22 : decode cX3_nextScore 22 = .ok (.getfield 21, 3) := by decide +kernel
theorem dX3_nextScore_25 : decode cX3_nextScore 25 = .ok (.getfield 66, 3) := by decide +kernel
theorem dX3_nextScore_28 : decode cX3_nextScore 28 = .ok (.iload_n 3, 1) := by decide +kernel
theorem dX3_nextScore_29 : decode cX3_nextScore 29 = .ok (.aaload, 1) := by decide +kernel
theorem dX3_nextScore_30 : decode cX3_nextScore 30 = .ok (.aload_n 0, 1) := by decide +kernel
theorem dX3_nextScore_31 : decode cX3_nextScore 31 = .ok (.getfield 18, 3) := by decide +kernel
theorem dX3_nextScore_34 : decode cX3_nextScore 34 = .ok (.iload_n 3, 1) := by decide +kernel
theorem dX3_nextScore_35 : decode cX3_nextScore 35 = .ok (.iaload, 1) := by decide +kernel
theorem dX3_nextScore_36 : decode cX3_nextScore 36 = .ok (.iaload, 1) := by decide +kernel
theorem dX3_nextScore_37 : decode cX3_nextScore 37 = .ok (.aload_n 1, 1) := by decide +kernel
theorem dX3_nextScore_38 : decode cX3_nextScore 38 = .ok (.getfield 70, 3) := by decide +kernel
theorem dX3_nextScore_41 : decode cX3_nextScore 41 = .ok (.iload_n 3, 1) := by decide +kernel
theorem dX3_nextScore_42 : decode cX3_nextScore 42 = .ok (.iaload, 1) := by decide +kernel
theorem dX3_nextScore_43 : decode cX3_nextScore 43 = .ok (.imul, 1) := by decide +kernel
theorem dX3_nextScore_44 : decode cX3_nextScore 44 = .ok (.iadd, 1) := by decide +kernel
theorem dX3_nextScore_45 : decode cX3_nextScore 45 = .ok (.istore_n 2, 1) := by decide +kernel
theorem dX3_nextScore_46 : decode cX3_nextScore 46 = .ok (.aload_n 0, 1) := by decide +kernel
theorem dX3_nextScore_47 : decode cX3_nextScore 47 = .ok (.getfield 18, 3) := by decide +kernel
theorem dX3_nextScore_50 : decode cX3_nextScore 50 = .ok (.iload_n 3, 1) := by decide +kernel
theorem dX3_nextScore_51 : decode cX3_nextScore 51 = .ok (.aload_n 0, 1) := by decide +kernel
theorem dX3_nextScore_52 : decode cX3_nextScore 52 = .ok (.getfield 18, 3) := by decide +kernel
theorem dX3_nextScore_55 : decode cX3_nextScore 55 = .ok (.iload_n 3, 1) := by decide +kernel
theorem dX3_nextScore_56 : decode cX3_nextScore 56 = .ok (.iaload, 1) := by decide +kernel
theorem dX3_nextScore_57 : decode cX3_nextScore 57 = .ok (.iconst 1, 1) := by decide +kernel
theorem dX3_nextScore_58 : decode cX3_nextScore 58 = .ok (.iadd, 1) := by decide +kernel
theorem dX3_nextScore_59 : decode cX3_nextScore 59 = .ok (.aload_n 1, 1) := by decide +kernel
theorem dX3_nextScore_60 : decode cX3_nextScore 60 = .ok (.getfield 60, 3) := by decide +kernel
theorem dX3_nextScore_63 : decode cX3_nextScore 63 = .ok (.iload_n 3, 1) := by decide +kernel
theorem dX3_nextScore_64 : decode cX3_nextScore 64 = .ok (.iaload, 1) := by decide +kernel
theorem dX3_nextScore_65 : decode cX3_nextScore 65 = .ok (.if_icmp .ge 14, 3) := by decide +kernel
theorem dX3_nextScore_68 : decode cX3_nextScore 68 = .ok (.aload_n 0, 1) := by decide +kernel
theorem dX3_nextScore_69 : decode cX3_nextScore 69 = .ok (.getfield 18, 3) := by decide +kernel
theorem dX3_nextScore_72 : decode cX3_nextScore 72 = .ok (.iload_n 3, 1) := by decide +kernel
theorem dX3_nextScore_73 : decode cX3_nextScore 73 = .ok (.iaload, 1) := by decide +kernel
theorem dX3_nextScore_74 : decode cX3_nextScore 74 = .ok (.iconst 1, 1) := by decide +kernel
theorem dX3_nextScore_75 : decode cX3_nextScore 75 = .ok (.iadd, 1) := by decide +kernel
theorem dX3_nextScore_76 : decode cX3_nextScore 76 = .ok (.goto 4, 3) := by decide +kernel
theorem dX3_nextScore_79 : decode cX3_nextScore 79 = .ok (.iconst 0, 1) := by decide +kernel
theorem dX3_nextScore_80 : decode cX3_nextScore 80 = .ok (.iastore, 1) := by decide +kernel
theorem dX3_nextScore_81 : decode cX3_nextScore 81 = .ok (.iinc 3 1, 3) := by decide +kernel
theorem dX3_nextScore_84 : decode cX3_nextScore 84 = .ok (.goto (-72), 3) := by decide +kernel
theorem dX3_nextScore_87 : decode cX3_nextScore 87 = .ok (.iload_n 2, 1) := by decide +kernel
theorem dX3_nextScore_88 : decode cX3_nextScore 88 = .ok (.ireturn, 1) := by decide +kernel
abbrev rmX3_nextScore : Room := { frames := 0, cells := 0, slots := 0, locals := 0 }
theorem inX3_nextScore_0 : ∀ w ∈ wsX00, w ∈ wsX3_nextScore := by decide +kernel
theorem inX3_nextScore_3 : ∀ w ∈ wsX30, w ∈ wsX3_nextScore := by decide +kernel
theorem inX3_nextScore_7 : ∀ w ∈ wsX70, w ∈ wsX3_nextScore := by decide +kernel
def vX3_nextScore_c12 (E : Nat → Int32) (M : Nat → Nat → Int32) (parts : Int32) (limit : Int32) (len : Nat → Int32) (vot : Nat → Int32) (Q : Int32 → (Nat → Int32) → Prop) : Nat → Int32 → Int32 → (Nat → Int32) → Prop
  | 0, _, _, _ => False
  | n + 1, x2, x3, rs => ((parts ≤ x3 → (Q x2 rs)) ∧ (¬ parts ≤ x3 → (vp_in x3 5 ∧ (∀ j_29 : Nat, j_29 < 5 → x3 = nI j_29 → (vp_in x3 5 ∧ (vp_in (rs x3.toNatClampNeg) 13 ∧ (vp_in x3 5 ∧ (∀ y_45 : Int32, y_45 = (x2 + ((M j_29 (rs x3.toNatClampNeg).toNatClampNeg) * (vot x3.toNatClampNeg))) → (vp_in x3 5 ∧ (vp_in x3 5 ∧ (((len x3.toNatClampNeg) ≤ ((rs x3.toNatClampNeg) + (1 : Int32)) → (vp_in x3 5 ∧ (vX3_nextScore_c12 E M parts limit len vot Q n y_45 (x3 + (1 : Int32)) (upd rs x3.toNatClampNeg (0 : Int32))))) ∧ (¬ (len x3.toNatClampNeg) ≤ ((rs x3.toNatClampNeg) + (1 : Int32)) → (vp_in x3 5 ∧ (∀ a_80 : Int32, a_80 = ((rs x3.toNatClampNeg) + (1 : Int32)) → (vp_in x3 5 ∧ (vX3_nextScore_c12 E M parts limit len vot Q n y_45 (x3 + (1 : Int32)) (upd rs x3.toNatClampNeg a_80)))))))))))))))))
set_option maxHeartbeats 4000000 in
set_option maxRecDepth 100000 in
theorem kX3_nextScore_c12 {p : Program} {l : Launch} {e : Env} {s : State} {m : MethodId} {args : Array Value} {below : List Frame} {meth : Method} {c : Code} {g : GP} {qrk : Nat} {qN : Nat} {qS : Nat} {qR : Nat} {qh : Nat} {qm : Nat} {qb : Nat} {qx : Nat} {aM : Nat → Nat} {ql : Nat} {qr : Nat} {qv : Nat} {qg : Nat} {qe : Nat} {qt : Nat} {E : Nat → Int32} {M : Nat → Nat → Int32} {parts : Int32} {limit : Int32} {len : Nat → Int32} {vot : Nat → Int32}  {Q : Int32 → (Nat → Int32) → Prop} {A : Nat → Prop} (S : CallFix p m c cX3_nextScore 4 s args wsX3_nextScore RX3) (hr : meth.sig.returnType = (some .int)) (hlocks : meth.locks = false) (hG : GK g s) (hA : ∀ q : Nat, s.heap.size ≤ q → A q) : ∀ (n : Nat), ∀ (x2 : Int32) (x3 : Int32) (rs : Nat → Int32), vX3_nextScore_c12 E M parts limit len vot Q n x2 x3 rs → ∀ (H : Heap) (locs : List Loc), va_P g.1 vwCl [(qrk, .inr (3, [.ref qe, .ref qN, .ref qS, .ref qR])), (qR, .inl (g.2 0, 5, .inl rs)), (qe, .inr (0, [.ref qt, .ref qh, .ref qm, .ref qb, .ref qx, .int (E 5), .int (E 6), .int (E 7), .int (E 8), .int (E 9), .int (E 10), .int (E 11)])), (qm, .inl (g.2 6, 5, .inr (.inr (.inr (.inr (rwM aM)))))), ((aM 0), .inl (g.2 0, 13, .inl (M 0))), ((aM 1), .inl (g.2 0, 13, .inl (M 1))), ((aM 2), .inl (g.2 0, 13, .inl (M 2))), ((aM 3), .inl (g.2 0, 13, .inl (M 3))), ((aM 4), .inl (g.2 0, 13, .inl (M 4))), (qt, .inr (7, [.ref ql, .ref qr, .ref qv, .ref qg, .int parts, .int limit])), (ql, .inl (g.2 0, 5, .inl len)), (qv, .inl (g.2 0, 5, .inl vot))] H → va_D A [(qrk, .inr (3, [.ref qe, .ref qN, .ref qS, .ref qR])), (qR, .inl (g.2 0, 5, .inl rs)), (qe, .inr (0, [.ref qt, .ref qh, .ref qm, .ref qb, .ref qx, .int (E 5), .int (E 6), .int (E 7), .int (E 8), .int (E 9), .int (E 10), .int (E 11)])), (qm, .inl (g.2 6, 5, .inr (.inr (.inr (.inr (rwM aM)))))), ((aM 0), .inl (g.2 0, 13, .inl (M 0))), ((aM 1), .inl (g.2 0, 13, .inl (M 1))), ((aM 2), .inl (g.2 0, 13, .inl (M 2))), ((aM 3), .inl (g.2 0, 13, .inl (M 3))), ((aM 4), .inl (g.2 0, 13, .inl (M 4))), (qt, .inr (7, [.ref ql, .ref qr, .ref qv, .ref qg, .int parts, .int limit])), (ql, .inl (g.2 0, 5, .inl len)), (qv, .inl (g.2 0, 5, .inl vot))] → va_S A s.heap H locs → ∀ (ls : Array Slot), lv_has ls 4 [(0, .ref qrk), (1, .ref qt), (2, .int x2), (3, .int x3)] → W p l e (headSpec wsX3_nextScore rmX3_nextScore).room s m args below meth c H locs 0 0 (MQ below (va_Qi (fun (r : Int32) (u : (Nat → Int32)) => Q r u) (fun (u : (Nat → Int32)) t => va_P g.1 vwCl [(qrk, .inr (3, [.ref qe, .ref qN, .ref qS, .ref qR])), (qR, .inl (g.2 0, 5, .inl u)), (qe, .inr (0, [.ref qt, .ref qh, .ref qm, .ref qb, .ref qx, .int (E 5), .int (E 6), .int (E 7), .int (E 8), .int (E 9), .int (E 10), .int (E 11)])), (qm, .inl (g.2 6, 5, .inr (.inr (.inr (.inr (rwM aM)))))), ((aM 0), .inl (g.2 0, 13, .inl (M 0))), ((aM 1), .inl (g.2 0, 13, .inl (M 1))), ((aM 2), .inl (g.2 0, 13, .inl (M 2))), ((aM 3), .inl (g.2 0, 13, .inl (M 3))), ((aM 4), .inl (g.2 0, 13, .inl (M 4))), (qt, .inr (7, [.ref ql, .ref qr, .ref qv, .ref qg, .int parts, .int limit])), (ql, .inl (g.2 0, 5, .inl len)), (qv, .inl (g.2 0, 5, .inl vot))] t.heap ∧ va_D A [(qrk, .inr (3, [.ref qe, .ref qN, .ref qS, .ref qR])), (qR, .inl (g.2 0, 5, .inl u)), (qe, .inr (0, [.ref qt, .ref qh, .ref qm, .ref qb, .ref qx, .int (E 5), .int (E 6), .int (E 7), .int (E 8), .int (E 9), .int (E 10), .int (E 11)])), (qm, .inl (g.2 6, 5, .inr (.inr (.inr (.inr (rwM aM)))))), ((aM 0), .inl (g.2 0, 13, .inl (M 0))), ((aM 1), .inl (g.2 0, 13, .inl (M 1))), ((aM 2), .inl (g.2 0, 13, .inl (M 2))), ((aM 3), .inl (g.2 0, 13, .inl (M 3))), ((aM 4), .inl (g.2 0, 13, .inl (M 4))), (qt, .inr (7, [.ref ql, .ref qr, .ref qv, .ref qg, .int parts, .int limit])), (ql, .inl (g.2 0, 5, .inl len)), (qv, .inl (g.2 0, 5, .inl vot))]) A) args s 0 0 A) (F0 m 12 ls []) := by
  obtain ⟨hx, hb, hml, hown, hts⟩ := id S
  have hK := hG.1
  intro n
  induction n with
  | zero => intro x2 x3 rs hv; exact hv.elim
  | succ n ih =>
    intro x2 x3 rs hv H locs hP hD hS ls hl
    refine lv_iload_n hx hb dX3_nextScore_12 rfl (lv_at hl 3 rfl) ?_
    refine lv_aload_n hx hb dX3_nextScore_13 rfl (lv_at hl 1 rfl) ?_
    refine va_get (D := g.1) (ci := 7) (v := .int parts) (C := RX7) (T := TX7) (N := 6) hx hb hts inX3_nextScore_7 hown hK hP 9 rfl rfl 4 (by decide) (hts (.fieldLink RX3 57 "RangeCodes$Told" "parts" "I") (List.mem_of_getElem? (i := 3) rfl)) (fun _ h9 => h9) rfl dX3_nextScore_14 ?_
    obtain ⟨hvt, hvf⟩ := hv
    refine lv_icmp_ge (tgt := 87) hx hb dX3_nextScore_17 (by decide) (fun hc => ?_) (fun hc => ?_)
    · have hv := hvt hc
      refine lv_iload_n hx hb dX3_nextScore_87 rfl (lv_at hl 2 rfl) ?_
      have hP9 := hP.sub (ws' := [(qrk, .inr (3, [.ref qe, .ref qN, .ref qS, .ref qR])), (qR, .inl (g.2 0, 5, .inl rs)), (qe, .inr (0, [.ref qt, .ref qh, .ref qm, .ref qb, .ref qx, .int (E 5), .int (E 6), .int (E 7), .int (E 8), .int (E 9), .int (E 10), .int (E 11)])), (qm, .inl (g.2 6, 5, .inr (.inr (.inr (.inr (rwM aM)))))), ((aM 0), .inl (g.2 0, 13, .inl (M 0))), ((aM 1), .inl (g.2 0, 13, .inl (M 1))), ((aM 2), .inl (g.2 0, 13, .inl (M 2))), ((aM 3), .inl (g.2 0, 13, .inl (M 3))), ((aM 4), .inl (g.2 0, 13, .inl (M 4))), (qt, .inr (7, [.ref ql, .ref qr, .ref qv, .ref qg, .int parts, .int limit])), (ql, .inl (g.2 0, 5, .inl len)), (qv, .inl (g.2 0, 5, .inl vot))]) [0, 1, 2, 3, 4, 5, 6, 7, 8, 9, 10, 11] rfl
      have hD9 := hD.sub (ws' := [(qrk, .inr (3, [.ref qe, .ref qN, .ref qS, .ref qR])), (qR, .inl (g.2 0, 5, .inl rs)), (qe, .inr (0, [.ref qt, .ref qh, .ref qm, .ref qb, .ref qx, .int (E 5), .int (E 6), .int (E 7), .int (E 8), .int (E 9), .int (E 10), .int (E 11)])), (qm, .inl (g.2 6, 5, .inr (.inr (.inr (.inr (rwM aM)))))), ((aM 0), .inl (g.2 0, 13, .inl (M 0))), ((aM 1), .inl (g.2 0, 13, .inl (M 1))), ((aM 2), .inl (g.2 0, 13, .inl (M 2))), ((aM 3), .inl (g.2 0, 13, .inl (M 3))), ((aM 4), .inl (g.2 0, 13, .inl (M 4))), (qt, .inr (7, [.ref ql, .ref qr, .ref qv, .ref qg, .int parts, .int limit])), (ql, .inl (g.2 0, 5, .inl len)), (qv, .inl (g.2 0, 5, .inl vot))]) [0, 1, 2, 3, 4, 5, 6, 7, 8, 9, 10, 11] (by decide) rfl
      exact W.iret (v := x2) hx hb hr (fun t ht hW => ⟨⟨_, (rs), rfl, hv, by rw [ht]; exact hP9, hD9⟩, hS.F ht⟩) hS.2.2 dX3_nextScore_88
    · have hv := hvf hc
      refine lv_iload_n hx hb dX3_nextScore_20 rfl (lv_at hl 2 rfl) ?_
      refine lv_aload_n hx hb dX3_nextScore_21 rfl (lv_at hl 0 rfl) ?_
      refine va_get (D := g.1) (ci := 3) (v := .ref qe) (C := RX3) (T := TX3) (N := 4) hx hb hts inX3_nextScore_3 hown hK hP 0 rfl rfl 0 (by decide) (hts (.fieldLink RX3 21 "RangeCodes$Ranking" "ear" "LRangeCodes$Ear;") (List.mem_of_getElem? (i := 1) rfl)) (fun _ h9 => h9) rfl dX3_nextScore_22 ?_
      refine va_get (D := g.1) (ci := 0) (v := .ref qm) (C := RX0) (T := TX0) (N := 12) hx hb hts inX3_nextScore_0 hown hK hP 2 rfl rfl 2 (by decide) (hts (.fieldLink RX3 66 "RangeCodes$Ear" "matches" "[[I") (List.mem_of_getElem? (i := 4) rfl)) (fun _ h9 => h9) rfl dX3_nextScore_25 ?_
      refine lv_iload_n hx hb dX3_nextScore_28 rfl (lv_at hl 3 rfl) ?_
      obtain ⟨ho_1, hv⟩ := hv
      obtain ⟨j_29, hj_29, ej_29⟩ := vp_in_of ho_1 (by decide)
      have hv := hv j_29 hj_29 ej_29
      refine va_ldM hx hb hK hP 3 6 j_29 rfl rfl ej_29 hj_29 dX3_nextScore_29 ?_
      refine lv_aload_n hx hb dX3_nextScore_30 rfl (lv_at hl 0 rfl) ?_
      refine va_get (D := g.1) (ci := 3) (v := .ref qR) (C := RX3) (T := TX3) (N := 4) hx hb hts inX3_nextScore_3 hown hK hP 0 rfl rfl 3 (by decide) (hts (.fieldLink RX3 18 "RangeCodes$Ranking" "rests" "[I") (List.mem_of_getElem? (i := 5) rfl)) (fun _ h9 => h9) rfl dX3_nextScore_31 ?_
      refine lv_iload_n hx hb dX3_nextScore_34 rfl (lv_at hl 3 rfl) ?_
      obtain ⟨ho_2, hv⟩ := hv
      refine va_iald hx hb hK hP 1 0 rfl rfl ho_2 dX3_nextScore_35 ?_
      obtain ⟨ho_3, hv⟩ := hv
      refine va_iald hx hb hK hP (4 + j_29) 0 (co_5 (P := fun k => ([(qrk, .inr (3, [.ref qe, .ref qN, .ref qS, .ref qR])), (qR, .inl (g.2 0, 5, .inl rs)), (qe, .inr (0, [.ref qt, .ref qh, .ref qm, .ref qb, .ref qx, .int (E 5), .int (E 6), .int (E 7), .int (E 8), .int (E 9), .int (E 10), .int (E 11)])), (qm, .inl (g.2 6, 5, .inr (.inr (.inr (.inr (rwM aM)))))), ((aM 0), .inl (g.2 0, 13, .inl (M 0))), ((aM 1), .inl (g.2 0, 13, .inl (M 1))), ((aM 2), .inl (g.2 0, 13, .inl (M 2))), ((aM 3), .inl (g.2 0, 13, .inl (M 3))), ((aM 4), .inl (g.2 0, 13, .inl (M 4))), (qt, .inr (7, [.ref ql, .ref qr, .ref qv, .ref qg, .int parts, .int limit])), (ql, .inl (g.2 0, 5, .inl len)), (qv, .inl (g.2 0, 5, .inl vot))] : va_W)[4 + k]? = some (aM k, .inl (g.2 0, 13, .inl (M k)))) rfl rfl rfl rfl rfl hj_29) rfl ho_3 dX3_nextScore_36 ?_
      refine lv_aload_n hx hb dX3_nextScore_37 rfl (lv_at hl 1 rfl) ?_
      refine va_get (D := g.1) (ci := 7) (v := .ref qv) (C := RX7) (T := TX7) (N := 6) hx hb hts inX3_nextScore_7 hown hK hP 9 rfl rfl 2 (by decide) (hts (.fieldLink RX3 70 "RangeCodes$Told" "votes" "[I") (List.mem_of_getElem? (i := 6) rfl)) (fun _ h9 => h9) rfl dX3_nextScore_38 ?_
      refine lv_iload_n hx hb dX3_nextScore_41 rfl (lv_at hl 3 rfl) ?_
      obtain ⟨ho_4, hv⟩ := hv
      refine va_iald hx hb hK hP 11 0 rfl rfl ho_4 dX3_nextScore_42 ?_
      refine lv_imul hx hb dX3_nextScore_43 ?_
      refine lv_iadd hx hb dX3_nextScore_44 ?_
      refine lv_topi (fun y_45 ey_45 => ?_)
      have hv := hv y_45 ey_45
      refine lv_istore_n (lv' := [(2, .int y_45), (0, .ref qrk), (1, .ref qt), (3, .int x3)]) hx hb dX3_nextScore_45 rfl hl (by decide) rfl (fun ls hl => ?_)
      refine lv_aload_n hx hb dX3_nextScore_46 rfl (lv_at hl 1 rfl) ?_
      refine va_get (D := g.1) (ci := 3) (v := .ref qR) (C := RX3) (T := TX3) (N := 4) hx hb hts inX3_nextScore_3 hown hK hP 0 rfl rfl 3 (by decide) (hts (.fieldLink RX3 18 "RangeCodes$Ranking" "rests" "[I") (List.mem_of_getElem? (i := 5) rfl)) (fun _ h9 => h9) rfl dX3_nextScore_47 ?_
      refine lv_iload_n hx hb dX3_nextScore_50 rfl (lv_at hl 3 rfl) ?_
      refine lv_aload_n hx hb dX3_nextScore_51 rfl (lv_at hl 1 rfl) ?_
      refine va_get (D := g.1) (ci := 3) (v := .ref qR) (C := RX3) (T := TX3) (N := 4) hx hb hts inX3_nextScore_3 hown hK hP 0 rfl rfl 3 (by decide) (hts (.fieldLink RX3 18 "RangeCodes$Ranking" "rests" "[I") (List.mem_of_getElem? (i := 5) rfl)) (fun _ h9 => h9) rfl dX3_nextScore_52 ?_
      refine lv_iload_n hx hb dX3_nextScore_55 rfl (lv_at hl 3 rfl) ?_
      obtain ⟨ho_5, hv⟩ := hv
      refine va_iald hx hb hK hP 1 0 rfl rfl ho_5 dX3_nextScore_56 ?_
      refine lv_iconst (v := (1 : Int32)) hx hb dX3_nextScore_57 (by decide) ?_
      refine lv_iadd hx hb dX3_nextScore_58 ?_
      refine lv_aload_n hx hb dX3_nextScore_59 rfl (lv_at hl 2 rfl) ?_
      refine va_get (D := g.1) (ci := 7) (v := .ref ql) (C := RX7) (T := TX7) (N := 6) hx hb hts inX3_nextScore_7 hown hK hP 9 rfl rfl 0 (by decide) (hts (.fieldLink RX3 60 "RangeCodes$Told" "lengths" "[I") (List.mem_of_getElem? (i := 7) rfl)) (fun _ h9 => h9) rfl dX3_nextScore_60 ?_
      refine lv_iload_n hx hb dX3_nextScore_63 rfl (lv_at hl 3 rfl) ?_
      obtain ⟨ho_6, hv⟩ := hv
      refine va_iald hx hb hK hP 10 0 rfl rfl ho_6 dX3_nextScore_64 ?_
      obtain ⟨hvt, hvf⟩ := hv
      refine lv_icmp_ge (tgt := 79) hx hb dX3_nextScore_65 (by decide) (fun hc => ?_) (fun hc => ?_)
      · have hv := hvt hc
        refine lv_iconst (v := (0 : Int32)) hx hb dX3_nextScore_79 (by decide) ?_
        obtain ⟨ho_7, hv⟩ := hv
        refine va_iast hx hb hK hP hD hS 1 0 rfl rfl ho_7 dX3_nextScore_80 (fun H locs hP hD hS => ?_)
        have hP : va_P g.1 vwCl [(qrk, .inr (3, [.ref qe, .ref qN, .ref qS, .ref qR])), (qR, .inl (g.2 0, 5, .inl (upd rs x3.toNatClampNeg (0 : Int32)))), (qe, .inr (0, [.ref qt, .ref qh, .ref qm, .ref qb, .ref qx, .int (E 5), .int (E 6), .int (E 7), .int (E 8), .int (E 9), .int (E 10), .int (E 11)])), (qm, .inl (g.2 6, 5, .inr (.inr (.inr (.inr (rwM aM)))))), ((aM 0), .inl (g.2 0, 13, .inl (M 0))), ((aM 1), .inl (g.2 0, 13, .inl (M 1))), ((aM 2), .inl (g.2 0, 13, .inl (M 2))), ((aM 3), .inl (g.2 0, 13, .inl (M 3))), ((aM 4), .inl (g.2 0, 13, .inl (M 4))), (qt, .inr (7, [.ref ql, .ref qr, .ref qv, .ref qg, .int parts, .int limit])), (ql, .inl (g.2 0, 5, .inl len)), (qv, .inl (g.2 0, 5, .inl vot))] H := hP
        have hD : va_D A [(qrk, .inr (3, [.ref qe, .ref qN, .ref qS, .ref qR])), (qR, .inl (g.2 0, 5, .inl (upd rs x3.toNatClampNeg (0 : Int32)))), (qe, .inr (0, [.ref qt, .ref qh, .ref qm, .ref qb, .ref qx, .int (E 5), .int (E 6), .int (E 7), .int (E 8), .int (E 9), .int (E 10), .int (E 11)])), (qm, .inl (g.2 6, 5, .inr (.inr (.inr (.inr (rwM aM)))))), ((aM 0), .inl (g.2 0, 13, .inl (M 0))), ((aM 1), .inl (g.2 0, 13, .inl (M 1))), ((aM 2), .inl (g.2 0, 13, .inl (M 2))), ((aM 3), .inl (g.2 0, 13, .inl (M 3))), ((aM 4), .inl (g.2 0, 13, .inl (M 4))), (qt, .inr (7, [.ref ql, .ref qr, .ref qv, .ref qg, .int parts, .int limit])), (ql, .inl (g.2 0, 5, .inl len)), (qv, .inl (g.2 0, 5, .inl vot))] := hD
        refine lv_iinc (v := (x3 + (1 : Int32))) (lv' := [(3, .int (x3 + (1 : Int32))), (2, .int y_45), (0, .ref qrk), (1, .ref qt)]) hx hb dX3_nextScore_81 hl (k := 3) rfl rfl (by decide) rfl (fun ls hl => ?_)
        refine lv_goto (tgt := 12) hx hb dX3_nextScore_84 (by decide) ?_
        exact ih _ _ _ hv _ _ (hP.sub (ws' := [(qrk, .inr (3, [.ref qe, .ref qN, .ref qS, .ref qR])), (qR, .inl (g.2 0, 5, .inl (upd rs x3.toNatClampNeg (0 : Int32)))), (qe, .inr (0, [.ref qt, .ref qh, .ref qm, .ref qb, .ref qx, .int (E 5), .int (E 6), .int (E 7), .int (E 8), .int (E 9), .int (E 10), .int (E 11)])), (qm, .inl (g.2 6, 5, .inr (.inr (.inr (.inr (rwM aM)))))), ((aM 0), .inl (g.2 0, 13, .inl (M 0))), ((aM 1), .inl (g.2 0, 13, .inl (M 1))), ((aM 2), .inl (g.2 0, 13, .inl (M 2))), ((aM 3), .inl (g.2 0, 13, .inl (M 3))), ((aM 4), .inl (g.2 0, 13, .inl (M 4))), (qt, .inr (7, [.ref ql, .ref qr, .ref qv, .ref qg, .int parts, .int limit])), (ql, .inl (g.2 0, 5, .inl len)), (qv, .inl (g.2 0, 5, .inl vot))]) [0, 1, 2, 3, 4, 5, 6, 7, 8, 9, 10, 11] rfl) (hD.sub (ws' := [(qrk, .inr (3, [.ref qe, .ref qN, .ref qS, .ref qR])), (qR, .inl (g.2 0, 5, .inl (upd rs x3.toNatClampNeg (0 : Int32)))), (qe, .inr (0, [.ref qt, .ref qh, .ref qm, .ref qb, .ref qx, .int (E 5), .int (E 6), .int (E 7), .int (E 8), .int (E 9), .int (E 10), .int (E 11)])), (qm, .inl (g.2 6, 5, .inr (.inr (.inr (.inr (rwM aM)))))), ((aM 0), .inl (g.2 0, 13, .inl (M 0))), ((aM 1), .inl (g.2 0, 13, .inl (M 1))), ((aM 2), .inl (g.2 0, 13, .inl (M 2))), ((aM 3), .inl (g.2 0, 13, .inl (M 3))), ((aM 4), .inl (g.2 0, 13, .inl (M 4))), (qt, .inr (7, [.ref ql, .ref qr, .ref qv, .ref qg, .int parts, .int limit])), (ql, .inl (g.2 0, 5, .inl len)), (qv, .inl (g.2 0, 5, .inl vot))]) [0, 1, 2, 3, 4, 5, 6, 7, 8, 9, 10, 11] (by decide) rfl) hS ls (lv_sub hl [2, 3, 1, 0] rfl)
      · have hv := hvf hc
        refine lv_aload_n hx hb dX3_nextScore_68 rfl (lv_at hl 1 rfl) ?_
        refine va_get (D := g.1) (ci := 3) (v := .ref qR) (C := RX3) (T := TX3) (N := 4) hx hb hts inX3_nextScore_3 hown hK hP 0 rfl rfl 3 (by decide) (hts (.fieldLink RX3 18 "RangeCodes$Ranking" "rests" "[I") (List.mem_of_getElem? (i := 5) rfl)) (fun _ h9 => h9) rfl dX3_nextScore_69 ?_
        refine lv_iload_n hx hb dX3_nextScore_72 rfl (lv_at hl 3 rfl) ?_
        obtain ⟨ho_8, hv⟩ := hv
        refine va_iald hx hb hK hP 1 0 rfl rfl ho_8 dX3_nextScore_73 ?_
        refine lv_iconst (v := (1 : Int32)) hx hb dX3_nextScore_74 (by decide) ?_
        refine lv_iadd hx hb dX3_nextScore_75 ?_
        refine lv_goto (tgt := 80) hx hb dX3_nextScore_76 (by decide) ?_
        refine lv_topi (fun a_80 ea_80 => ?_)
        have hv := hv a_80 ea_80
        obtain ⟨ho_9, hv⟩ := hv
        refine va_iast hx hb hK hP hD hS 1 0 rfl rfl ho_9 dX3_nextScore_80 (fun H locs hP hD hS => ?_)
        have hP : va_P g.1 vwCl [(qrk, .inr (3, [.ref qe, .ref qN, .ref qS, .ref qR])), (qR, .inl (g.2 0, 5, .inl (upd rs x3.toNatClampNeg a_80))), (qe, .inr (0, [.ref qt, .ref qh, .ref qm, .ref qb, .ref qx, .int (E 5), .int (E 6), .int (E 7), .int (E 8), .int (E 9), .int (E 10), .int (E 11)])), (qm, .inl (g.2 6, 5, .inr (.inr (.inr (.inr (rwM aM)))))), ((aM 0), .inl (g.2 0, 13, .inl (M 0))), ((aM 1), .inl (g.2 0, 13, .inl (M 1))), ((aM 2), .inl (g.2 0, 13, .inl (M 2))), ((aM 3), .inl (g.2 0, 13, .inl (M 3))), ((aM 4), .inl (g.2 0, 13, .inl (M 4))), (qt, .inr (7, [.ref ql, .ref qr, .ref qv, .ref qg, .int parts, .int limit])), (ql, .inl (g.2 0, 5, .inl len)), (qv, .inl (g.2 0, 5, .inl vot))] H := hP
        have hD : va_D A [(qrk, .inr (3, [.ref qe, .ref qN, .ref qS, .ref qR])), (qR, .inl (g.2 0, 5, .inl (upd rs x3.toNatClampNeg a_80))), (qe, .inr (0, [.ref qt, .ref qh, .ref qm, .ref qb, .ref qx, .int (E 5), .int (E 6), .int (E 7), .int (E 8), .int (E 9), .int (E 10), .int (E 11)])), (qm, .inl (g.2 6, 5, .inr (.inr (.inr (.inr (rwM aM)))))), ((aM 0), .inl (g.2 0, 13, .inl (M 0))), ((aM 1), .inl (g.2 0, 13, .inl (M 1))), ((aM 2), .inl (g.2 0, 13, .inl (M 2))), ((aM 3), .inl (g.2 0, 13, .inl (M 3))), ((aM 4), .inl (g.2 0, 13, .inl (M 4))), (qt, .inr (7, [.ref ql, .ref qr, .ref qv, .ref qg, .int parts, .int limit])), (ql, .inl (g.2 0, 5, .inl len)), (qv, .inl (g.2 0, 5, .inl vot))] := hD
        refine lv_iinc (v := (x3 + (1 : Int32))) (lv' := [(3, .int (x3 + (1 : Int32))), (2, .int y_45), (0, .ref qrk), (1, .ref qt)]) hx hb dX3_nextScore_81 hl (k := 3) rfl rfl (by decide) rfl (fun ls hl => ?_)
        refine lv_goto (tgt := 12) hx hb dX3_nextScore_84 (by decide) ?_
        exact ih _ _ _ hv _ _ (hP.sub (ws' := [(qrk, .inr (3, [.ref qe, .ref qN, .ref qS, .ref qR])), (qR, .inl (g.2 0, 5, .inl (upd rs x3.toNatClampNeg a_80))), (qe, .inr (0, [.ref qt, .ref qh, .ref qm, .ref qb, .ref qx, .int (E 5), .int (E 6), .int (E 7), .int (E 8), .int (E 9), .int (E 10), .int (E 11)])), (qm, .inl (g.2 6, 5, .inr (.inr (.inr (.inr (rwM aM)))))), ((aM 0), .inl (g.2 0, 13, .inl (M 0))), ((aM 1), .inl (g.2 0, 13, .inl (M 1))), ((aM 2), .inl (g.2 0, 13, .inl (M 2))), ((aM 3), .inl (g.2 0, 13, .inl (M 3))), ((aM 4), .inl (g.2 0, 13, .inl (M 4))), (qt, .inr (7, [.ref ql, .ref qr, .ref qv, .ref qg, .int parts, .int limit])), (ql, .inl (g.2 0, 5, .inl len)), (qv, .inl (g.2 0, 5, .inl vot))]) [0, 1, 2, 3, 4, 5, 6, 7, 8, 9, 10, 11] rfl) (hD.sub (ws' := [(qrk, .inr (3, [.ref qe, .ref qN, .ref qS, .ref qR])), (qR, .inl (g.2 0, 5, .inl (upd rs x3.toNatClampNeg a_80))), (qe, .inr (0, [.ref qt, .ref qh, .ref qm, .ref qb, .ref qx, .int (E 5), .int (E 6), .int (E 7), .int (E 8), .int (E 9), .int (E 10), .int (E 11)])), (qm, .inl (g.2 6, 5, .inr (.inr (.inr (.inr (rwM aM)))))), ((aM 0), .inl (g.2 0, 13, .inl (M 0))), ((aM 1), .inl (g.2 0, 13, .inl (M 1))), ((aM 2), .inl (g.2 0, 13, .inl (M 2))), ((aM 3), .inl (g.2 0, 13, .inl (M 3))), ((aM 4), .inl (g.2 0, 13, .inl (M 4))), (qt, .inr (7, [.ref ql, .ref qr, .ref qv, .ref qg, .int parts, .int limit])), (ql, .inl (g.2 0, 5, .inl len)), (qv, .inl (g.2 0, 5, .inl vot))]) [0, 1, 2, 3, 4, 5, 6, 7, 8, 9, 10, 11] (by decide) rfl) hS ls (lv_sub hl [2, 3, 1, 0] rfl)
def vX3_nextScore (rs : Nat → Int32) (E : Nat → Int32) (M : Nat → Nat → Int32) (parts : Int32) (limit : Int32) (len : Nat → Int32) (vot : Nat → Int32) (Q : Int32 → (Nat → Int32) → Prop) : Prop := (∃ nn, vX3_nextScore_c12 E M parts limit len vot Q nn (0 : Int32) (0 : Int32) rs)
set_option maxHeartbeats 4000000 in
set_option maxRecDepth 100000 in
theorem wX3_nextScore (l : Launch) (g : GP) (qrk : Nat) (qN : Nat) (qS : Nat) (qR : Nat) (qh : Nat) (qm : Nat) (qb : Nat) (qx : Nat) (aM : Nat → Nat) (ql : Nat) (qr : Nat) (qv : Nat) (qg : Nat) (qe : Nat) (qt : Nat) (sz : Nat) (rs : Nat → Int32) (E : Nat → Int32) (M : Nat → Nat → Int32) (parts : Int32) (limit : Int32) (len : Nat → Int32) (vot : Nat → Int32) {Q : Int32 → (Nat → Int32) → Prop} (hv : vX3_nextScore rs E M parts limit len vot Q) : Met l yX3_nextScore wsX3_nextScore rmX3_nextScore (va_Pc [.ref qrk] (fun U => U.heap.size = sz ∧ va_P g.1 vwCl [(qrk, .inr (3, [.ref qe, .ref qN, .ref qS, .ref qR])), (qR, .inl (g.2 0, 5, .inl rs)), (qe, .inr (0, [.ref qt, .ref qh, .ref qm, .ref qb, .ref qx, .int (E 5), .int (E 6), .int (E 7), .int (E 8), .int (E 9), .int (E 10), .int (E 11)])), (qm, .inl (g.2 6, 5, .inr (.inr (.inr (.inr (rwM aM)))))), ((aM 0), .inl (g.2 0, 13, .inl (M 0))), ((aM 1), .inl (g.2 0, 13, .inl (M 1))), ((aM 2), .inl (g.2 0, 13, .inl (M 2))), ((aM 3), .inl (g.2 0, 13, .inl (M 3))), ((aM 4), .inl (g.2 0, 13, .inl (M 4))), (qt, .inr (7, [.ref ql, .ref qr, .ref qv, .ref qg, .int parts, .int limit])), (ql, .inl (g.2 0, 5, .inl len)), (qv, .inl (g.2 0, 5, .inl vot))] U.heap ∧ GK g U ∧ va_D (fun _ => True) [(qrk, .inr (3, [.ref qe, .ref qN, .ref qS, .ref qR])), (qR, .inl (g.2 0, 5, .inl rs)), (qe, .inr (0, [.ref qt, .ref qh, .ref qm, .ref qb, .ref qx, .int (E 5), .int (E 6), .int (E 7), .int (E 8), .int (E 9), .int (E 10), .int (E 11)])), (qm, .inl (g.2 6, 5, .inr (.inr (.inr (.inr (rwM aM)))))), ((aM 0), .inl (g.2 0, 13, .inl (M 0))), ((aM 1), .inl (g.2 0, 13, .inl (M 1))), ((aM 2), .inl (g.2 0, 13, .inl (M 2))), ((aM 3), .inl (g.2 0, 13, .inl (M 3))), ((aM 4), .inl (g.2 0, 13, .inl (M 4))), (qt, .inr (7, [.ref ql, .ref qr, .ref qv, .ref qg, .int parts, .int limit])), (ql, .inl (g.2 0, 5, .inl len)), (qv, .inl (g.2 0, 5, .inl vot))])) (va_Qi (fun (r : Int32) (u : (Nat → Int32)) => Q r u) (fun (u : (Nat → Int32)) t => va_P g.1 vwCl [(qrk, .inr (3, [.ref qe, .ref qN, .ref qS, .ref qR])), (qR, .inl (g.2 0, 5, .inl u)), (qe, .inr (0, [.ref qt, .ref qh, .ref qm, .ref qb, .ref qx, .int (E 5), .int (E 6), .int (E 7), .int (E 8), .int (E 9), .int (E 10), .int (E 11)])), (qm, .inl (g.2 6, 5, .inr (.inr (.inr (.inr (rwM aM)))))), ((aM 0), .inl (g.2 0, 13, .inl (M 0))), ((aM 1), .inl (g.2 0, 13, .inl (M 1))), ((aM 2), .inl (g.2 0, 13, .inl (M 2))), ((aM 3), .inl (g.2 0, 13, .inl (M 3))), ((aM 4), .inl (g.2 0, 13, .inl (M 4))), (qt, .inr (7, [.ref ql, .ref qr, .ref qv, .ref qg, .int parts, .int limit])), (ql, .inl (g.2 0, 5, .inl len)), (qv, .inl (g.2 0, 5, .inl vot))] t.heap ∧ va_D (va_A [(qrk, .inr (3, [.ref qe, .ref qN, .ref qS, .ref qR])), (qR, .inl (g.2 0, 5, .inl rs)), (qe, .inr (0, [.ref qt, .ref qh, .ref qm, .ref qb, .ref qx, .int (E 5), .int (E 6), .int (E 7), .int (E 8), .int (E 9), .int (E 10), .int (E 11)])), (qm, .inl (g.2 6, 5, .inr (.inr (.inr (.inr (rwM aM)))))), ((aM 0), .inl (g.2 0, 13, .inl (M 0))), ((aM 1), .inl (g.2 0, 13, .inl (M 1))), ((aM 2), .inl (g.2 0, 13, .inl (M 2))), ((aM 3), .inl (g.2 0, 13, .inl (M 3))), ((aM 4), .inl (g.2 0, 13, .inl (M 4))), (qt, .inr (7, [.ref ql, .ref qr, .ref qv, .ref qg, .int parts, .int limit])), (ql, .inl (g.2 0, 5, .inl len)), (qv, .inl (g.2 0, 5, .inl vot))] sz) [(qrk, .inr (3, [.ref qe, .ref qN, .ref qS, .ref qR])), (qR, .inl (g.2 0, 5, .inl u)), (qe, .inr (0, [.ref qt, .ref qh, .ref qm, .ref qb, .ref qx, .int (E 5), .int (E 6), .int (E 7), .int (E 8), .int (E 9), .int (E 10), .int (E 11)])), (qm, .inl (g.2 6, 5, .inr (.inr (.inr (.inr (rwM aM)))))), ((aM 0), .inl (g.2 0, 13, .inl (M 0))), ((aM 1), .inl (g.2 0, 13, .inl (M 1))), ((aM 2), .inl (g.2 0, 13, .inl (M 2))), ((aM 3), .inl (g.2 0, 13, .inl (M 3))), ((aM 4), .inl (g.2 0, 13, .inl (M 4))), (qt, .inr (7, [.ref ql, .ref qr, .ref qv, .ref qg, .int parts, .int limit])), (ql, .inl (g.2 0, 5, .inl len)), (qv, .inl (g.2 0, 5, .inl vot))]) (va_A [(qrk, .inr (3, [.ref qe, .ref qN, .ref qS, .ref qR])), (qR, .inl (g.2 0, 5, .inl rs)), (qe, .inr (0, [.ref qt, .ref qh, .ref qm, .ref qb, .ref qx, .int (E 5), .int (E 6), .int (E 7), .int (E 8), .int (E 9), .int (E 10), .int (E 11)])), (qm, .inl (g.2 6, 5, .inr (.inr (.inr (.inr (rwM aM)))))), ((aM 0), .inl (g.2 0, 13, .inl (M 0))), ((aM 1), .inl (g.2 0, 13, .inl (M 1))), ((aM 2), .inl (g.2 0, 13, .inl (M 2))), ((aM 3), .inl (g.2 0, 13, .inl (M 3))), ((aM 4), .inl (g.2 0, 13, .inl (M 4))), (qt, .inr (7, [.ref ql, .ref qr, .ref qv, .ref qg, .int parts, .int limit])), (ql, .inl (g.2 0, 5, .inl len)), (qv, .inl (g.2 0, 5, .inl vot))] sz)) 0 0 (va_A [(qrk, .inr (3, [.ref qe, .ref qN, .ref qS, .ref qR])), (qR, .inl (g.2 0, 5, .inl rs)), (qe, .inr (0, [.ref qt, .ref qh, .ref qm, .ref qb, .ref qx, .int (E 5), .int (E 6), .int (E 7), .int (E 8), .int (E 9), .int (E 10), .int (E 11)])), (qm, .inl (g.2 6, 5, .inr (.inr (.inr (.inr (rwM aM)))))), ((aM 0), .inl (g.2 0, 13, .inl (M 0))), ((aM 1), .inl (g.2 0, 13, .inl (M 1))), ((aM 2), .inl (g.2 0, 13, .inl (M 2))), ((aM 3), .inl (g.2 0, 13, .inl (M 3))), ((aM 4), .inl (g.2 0, 13, .inl (M 4))), (qt, .inr (7, [.ref ql, .ref qr, .ref qv, .ref qg, .int parts, .int limit])), (ql, .inl (g.2 0, 5, .inl len)), (qv, .inl (g.2 0, 5, .inl vot))] sz) := by
  refine Met.ofW (cc := cX3_nextScore) (maxL := 4) (ret := (some .int)) (by decide) rfl ?_
  intro p e s m args below meth c s₁ B hml hv'
  obtain ⟨rfl, hsz, hP, hG, hD0⟩ := hv'
  have S : CallFix p m c cX3_nextScore 4 s _ wsX3_nextScore RX3 := ⟨B.exec, B.bytes, hml, findClass_of_methodNamed B.named, atoms_spec (ws := wsX3_nextScore) B.pre⟩
  obtain ⟨hx, hb, hml, hown, hts⟩ := id S
  have hK := hG.1
  have hr := B.returns
  have hlocks := B.notSynchronized
  subst hsz
  have hD := hD0.self (sz := s.heap.size)
  generalize hAe : va_A [(qrk, .inr (3, [.ref qe, .ref qN, .ref qS, .ref qR])), (qR, .inl (g.2 0, 5, .inl rs)), (qe, .inr (0, [.ref qt, .ref qh, .ref qm, .ref qb, .ref qx, .int (E 5), .int (E 6), .int (E 7), .int (E 8), .int (E 9), .int (E 10), .int (E 11)])), (qm, .inl (g.2 6, 5, .inr (.inr (.inr (.inr (rwM aM)))))), ((aM 0), .inl (g.2 0, 13, .inl (M 0))), ((aM 1), .inl (g.2 0, 13, .inl (M 1))), ((aM 2), .inl (g.2 0, 13, .inl (M 2))), ((aM 3), .inl (g.2 0, 13, .inl (M 3))), ((aM 4), .inl (g.2 0, 13, .inl (M 4))), (qt, .inr (7, [.ref ql, .ref qr, .ref qv, .ref qg, .int parts, .int limit])), (ql, .inl (g.2 0, 5, .inl len)), (qv, .inl (g.2 0, 5, .inl vot))] s.heap.size = A at hD ⊢
  have hA : ∀ q : Nat, s.heap.size ≤ q → A q := fun q h => by rw [← hAe]; exact Or.inr h
  have hS : va_S A s.heap s.heap [] := va_S.rf
  clear hD0 hAe
  have hl := lv_entry ([.ref qrk]) (n := 4) (Nat.le_of_ble_eq_true rfl)
  rw [lg_entry_eq]
  generalize (lg_sl ([.ref qrk]) ++ List.replicate (4 - (lg_sl ([.ref qrk])).length) Slot.unset).toArray = ls at hl ⊢
  have hl : lv_has ls 4 [(0, .ref qrk)] := hl
  unfold vX3_nextScore at hv
  refine lv_aload_n hx hb dX3_nextScore_0 rfl (lv_at hl 0 rfl) ?_
  refine va_get (D := g.1) (ci := 3) (v := .ref qe) (C := RX3) (T := TX3) (N := 4) hx hb hts inX3_nextScore_3 hown hK hP 0 rfl rfl 0 (by decide) (hts (.fieldLink RX3 21 "RangeCodes$Ranking" "ear" "LRangeCodes$Ear;") (List.mem_of_getElem? (i := 1) rfl)) (fun _ h9 => h9) rfl dX3_nextScore_1 ?_
  refine va_get (D := g.1) (ci := 0) (v := .ref qt) (C := RX0) (T := TX0) (N := 12) hx hb hts inX3_nextScore_0 hown hK hP 2 rfl rfl 0 (by decide) (hts (.fieldLink RX3 31 "RangeCodes$Ear" "told" "LRangeCodes$Told;") (List.mem_of_getElem? (i := 2) rfl)) (fun _ h9 => h9) rfl dX3_nextScore_4 ?_
  refine lv_astore_n (lv' := [(1, .ref qt), (0, .ref qrk)]) hx hb dX3_nextScore_7 rfl hl (by decide) rfl (fun ls hl => ?_)
  refine lv_iconst (v := (0 : Int32)) hx hb dX3_nextScore_8 (by decide) ?_
  refine lv_istore_n (lv' := [(2, .int (0 : Int32)), (1, .ref qt), (0, .ref qrk)]) hx hb dX3_nextScore_9 rfl hl (by decide) rfl (fun ls hl => ?_)
  refine lv_iconst (v := (0 : Int32)) hx hb dX3_nextScore_10 (by decide) ?_
  refine lv_istore_n (lv' := [(3, .int (0 : Int32)), (2, .int (0 : Int32)), (1, .ref qt), (0, .ref qrk)]) hx hb dX3_nextScore_11 rfl hl (by decide) rfl (fun ls hl => ?_)
  obtain ⟨nn, hv⟩ := hv
  exact kX3_nextScore_c12 S hr hlocks hG hA nn _ _ _ hv _ _ (hP.sub (ws' := [(qrk, .inr (3, [.ref qe, .ref qN, .ref qS, .ref qR])), (qR, .inl (g.2 0, 5, .inl rs)), (qe, .inr (0, [.ref qt, .ref qh, .ref qm, .ref qb, .ref qx, .int (E 5), .int (E 6), .int (E 7), .int (E 8), .int (E 9), .int (E 10), .int (E 11)])), (qm, .inl (g.2 6, 5, .inr (.inr (.inr (.inr (rwM aM)))))), ((aM 0), .inl (g.2 0, 13, .inl (M 0))), ((aM 1), .inl (g.2 0, 13, .inl (M 1))), ((aM 2), .inl (g.2 0, 13, .inl (M 2))), ((aM 3), .inl (g.2 0, 13, .inl (M 3))), ((aM 4), .inl (g.2 0, 13, .inl (M 4))), (qt, .inr (7, [.ref ql, .ref qr, .ref qv, .ref qg, .int parts, .int limit])), (ql, .inl (g.2 0, 5, .inl len)), (qv, .inl (g.2 0, 5, .inl vot))]) [0, 1, 2, 3, 4, 5, 6, 7, 8, 9, 10, 11] rfl) (hD.sub (ws' := [(qrk, .inr (3, [.ref qe, .ref qN, .ref qS, .ref qR])), (qR, .inl (g.2 0, 5, .inl rs)), (qe, .inr (0, [.ref qt, .ref qh, .ref qm, .ref qb, .ref qx, .int (E 5), .int (E 6), .int (E 7), .int (E 8), .int (E 9), .int (E 10), .int (E 11)])), (qm, .inl (g.2 6, 5, .inr (.inr (.inr (.inr (rwM aM)))))), ((aM 0), .inl (g.2 0, 13, .inl (M 0))), ((aM 1), .inl (g.2 0, 13, .inl (M 1))), ((aM 2), .inl (g.2 0, 13, .inl (M 2))), ((aM 3), .inl (g.2 0, 13, .inl (M 3))), ((aM 4), .inl (g.2 0, 13, .inl (M 4))), (qt, .inr (7, [.ref ql, .ref qr, .ref qv, .ref qg, .int parts, .int limit])), (ql, .inl (g.2 0, 5, .inl len)), (qv, .inl (g.2 0, 5, .inl vot))]) [0, 1, 2, 3, 4, 5, 6, 7, 8, 9, 10, 11] (by decide) rfl) hS ls (lv_sub hl [3, 2, 1, 0] rfl)
def rkC (T : Cd) (m : Nat → Nat → Int) (M : Nat → Nat → Int32) (parts : Int32) (len vot : Nat → Int32) : Prop := isN T parts ∧ isL T len ∧ isV T vot ∧ okM T m ∧ ∀ p, p < cn T → ∀ w, w < cL T p → (M p w).toInt = m p w
abbrev preX3_nextScore (T : Cd) (m : Nat → Nat → Int) (n : Nat) (rs : Nat → Int32) (E : Nat → Int32) (M : Nat → Nat → Int32) (parts : Int32) (limit : Int32) (len : Nat → Int32) (vot : Nat → Int32) : Prop := rkC T m M parts len vot ∧ ∀ p, p < cn T → (rs p).toInt = ((n % cL T p : Nat) : Int)
abbrev postX3_nextScore (T : Cd) (m : Nat → Nat → Int) (n : Nat) (rs : Nat → Int32) (E : Nat → Int32) (M : Nat → Nat → Int32) (parts : Int32) (limit : Int32) (len : Nat → Int32) (vot : Nat → Int32) (r : Int32) (rs' : Nat → Int32) : Prop := r.toInt = scr T m n ∧ ∀ p, p < cn T → (rs' p).toInt = (((n + 1) % cL T p : Nat) : Int)
theorem sX3_nextScore_12 (T : Cd) (m : Nat → Nat → Int) (k : Nat) (E : Nat → Int32) (M : Nat → Nat → Int32) (parts limit : Int32) (len vot : Nat → Int32) (H : rkC T m M parts len vot) (Q : Int32 → (Nat → Int32) → Prop) (hQ : ∀ (r : Int32) (rs' : Nat → Int32), r.toInt = scr T m k → (∀ p, p < cn T → (rs' p).toInt = (((k + 1) % cL T p : Nat) : Int)) → Q r rs') : ∀ (n i : Nat) (x2 x3 : Int32) (rs : Nat → Int32), x2.toInt = scZ T m k i → x3.toInt = (i : Int) → (∀ p, p < cn T → (rs p).toInt = (((if p < i then k + 1 else k) % cL T p : Nat) : Int)) → i ≤ cn T → cn T + 1 ≤ i + n → vX3_nextScore_c12 E M parts limit len vot Q n x2 x3 rs
  | 0, i, x2, x3, rs, _, _, _, hi, hn => absurd hn (by omega)
  | n + 1, i, x2, x3, rs, h2, h3, hrs, hi, hn => by
    obtain ⟨hN, hL, hV, hok, hM⟩ := id H
    have hn5 := hN.2
    rw [vX3_nextScore_c12, q_le hN.1 h3]
    refine ⟨fun hc => ?_, fun hc => ⟨q_in h3 (by omega), fun j hj ej => ⟨q_in h3 (by omega), ?_⟩⟩⟩
    · have : i = cn T := by omega
      subst this
      exact hQ _ _ h2 (fun p hp => by rw [hrs p hp, if_pos hp])
    · have hi2 : i < cn T := by omega
      have e := q_nI (n := j) (by omega)
      rw [← ej, h3] at e
      have : j = i := by omega
      subst this
      have hl := hL j hi2
      have hri := hrs j hi2
      rw [if_neg (by omega)] at hri
      have hw := Nat.mod_lt k (show 0 < cL T j by omega)
      have hm := hok j hi2 _ hw
      have hv := hV j hi2
      have hp := q_mulb (b := 200) (c := 9) hm.1 hm.2 (y := (cV T j : Int)) (by omega) (by omega) (by omega)
      have hs := scZ_le (fun p hp => (hL p hp).2.1) (fun p hp => (hV p hp).2) hok k j (by omega)
      have h3s := q_1 h3 (by omega)
      rw [q_cl h3, q_cl hri]
      refine ⟨q_in hri (by omega), q_in h3 (by omega), fun y hy => ⟨q_in h3 (by omega), q_in h3 (by omega), ?_⟩⟩
      have hy : y.toInt = scZ T m k (j + 1) := by
        rw [hy, scZ]
        exact q_add h2 (q_mul (hM j hi2 _ hw) hv.1 (by omega) (by omega)) (by omega) (by omega)
      have hr1 := q_1 hri (by omega)
      have hmd := md_s (n := k) (L := cL T j) (by omega)
      have next : ∀ v : Int32, v.toInt = (((k + 1) % cL T j : Nat) : Int) → vX3_nextScore_c12 E M parts limit len vot Q n y (x3 + (1 : Int32)) (upd rs j v) := fun v hv => by
        refine sX3_nextScore_12 T m k E M parts limit len vot H Q hQ n (j + 1) _ _ _ hy h3s (fun p hp => ?_) (by omega) (by omega)
        by_cases e : p = j
        · subst e; rw [upd_eq, if_pos (by omega)]; exact hv
        · rw [upd_ne e, hrs p hp]
          by_cases z : p < j
          · rw [if_pos z, if_pos (by omega)]
          · rw [if_neg z, if_neg (by omega)]
      rw [q_le hl.1 hr1]
      refine ⟨fun hz => ⟨q_in h3 (by omega), next _ ?_⟩, fun hz => ⟨q_in h3 (by omega), fun a ha => ⟨q_in h3 (by omega), next _ ?_⟩⟩⟩
      · rw [hmd, if_pos (by omega)]; rfl
      · rw [ha, hr1, hmd, if_neg (by omega)]
theorem sX3_nextScore (T : Cd) (m : Nat → Nat → Int) (n : Nat) (rs : Nat → Int32) (E : Nat → Int32) (M : Nat → Nat → Int32) (parts : Int32) (limit : Int32) (len : Nat → Int32) (vot : Nat → Int32) (H : preX3_nextScore T m n rs E M parts limit len vot) : vX3_nextScore rs E M parts limit len vot (postX3_nextScore T m n rs E M parts limit len vot) := ⟨cn T + 1, sX3_nextScore_12 T m n E M parts limit len vot H.1 _ (fun r rs' h1 h2 => ⟨h1, h2⟩) (cn T + 1) 0 0 0 rs rfl rfl (fun p hp => by rw [if_neg (by omega)]; exact H.2 p hp) (by omega) (by omega)⟩
set_option maxRecDepth 20000 in
theorem ggX3_placeOf_X8_rest : GoodIn wsX3_placeOf wsX8_rest := goodIn_r _ [9] (by decide +kernel) (by decide +kernel)
set_option maxRecDepth 20000 in
theorem gX3_placeOf_X8_rest_n63 : GoodIn wsX3_placeOf (wsX8_rest) := ggX3_placeOf_X8_rest
set_option maxRecDepth 20000 in
theorem ggX3_placeOf_X3_nextScore : GoodIn wsX3_placeOf wsX3_nextScore := goodIn_r _ [14, 1, 2, 3, 15, 4, 16, 5, 21, 22, 23, 24, 25, 26, 27, 28, 29, 30, 31, 32, 33, 34, 35, 36, 37, 38, 39, 40, 41, 42] (by decide +kernel) (by decide +kernel)
set_option maxRecDepth 20000 in
theorem gX3_placeOf_X3_nextScore : GoodIn wsX3_placeOf (wsV RX3 43 RX3 yX3_nextScore wsX3_nextScore) := goodIn_app (goodIn_of _ (by decide +kernel)) ggX3_placeOf_X3_nextScore
set_option maxRecDepth 20000 in
theorem ggX3_placeOf_J7_fill_53178 : GoodIn wsX3_placeOf wsJ7_fill_53178 := goodIn_r _ [20] (by decide +kernel) (by decide +kernel)
set_option maxRecDepth 20000 in
theorem gX3_placeOf_J7_fill_53178 : GoodIn wsX3_placeOf (va_wsS RX3 25 yJ7_fill_53178 wsJ7_fill_53178) := goodIn_app (goodIn_of _ (by decide +kernel)) ggX3_placeOf_J7_fill_53178
theorem dX3_placeOf_0 : decode cX3_placeOf 0 = .ok (.iconst 0, 1) := by decide +kernel
theorem dX3_placeOf_1 : decode cX3_placeOf 1 = .ok (.istore_n 2, 1) := by decide +kernel
theorem dX3_placeOf_2 : decode cX3_placeOf 2 = .ok (.iload_n 2, 1) := by decide +kernel
theorem dX3_placeOf_3 : decode cX3_placeOf 3 = .ok (.aload_n 0, 1) := by decide +kernel
theorem dX3_placeOf_4 : decode cX3_placeOf 4 = .ok (.getfield 21, 3) := by decide +kernel
theorem dX3_placeOf_7 : decode cX3_placeOf 7 = .ok (.getfield 31, 3) := by decide +kernel
theorem dX3_placeOf_10 : decode cX3_placeOf 10 = .ok (.getfield 57, 3) := by decide +kernel
theorem dX3_placeOf_13 : decode cX3_placeOf 13 = .ok (.if_icmp .ge 31, 3) := by decide +kernel
theorem dX3_placeOf_16 : decode cX3_placeOf 16 = .ok (.aload_n 0, 1) := by decide +kernel
theorem dX3_placeOf_17 : decode cX3_placeOf 17 = .ok (.getfield 18, 3) := by decide +kernel
theorem dX3_placeOf_20 : decode cX3_placeOf 20 = .ok (.iload_n 2, 1) := by decide +kernel
theorem dX3_placeOf_21 : decode cX3_placeOf 21 = .ok (.iload_n 1, 1) := by decide +kernel
theorem dX3_placeOf_22 : decode cX3_placeOf 22 = .ok (.aload_n 0, 1) := by decide +kernel
theorem dX3_placeOf_23 : decode cX3_placeOf 23 = .ok (.getfield 21, 3) := by decide +kernel
theorem dX3_placeOf_26 : decode cX3_placeOf 26 = .ok (.getfield 31, 3) := by decide +kernel
theorem dX3_placeOf_29 : decode cX3_placeOf 29 = .ok (.getfield 60, 3) := by decide +kernel
theorem dX3_placeOf_32 : decode cX3_placeOf 32 = .ok (.iload_n 2, 1) := by decide +kernel
theorem dX3_placeOf_33 : decode cX3_placeOf 33 = .ok (.iaload, 1) := by decide +kernel
theorem dX3_placeOf_34 : decode cX3_placeOf 34 = .ok (.invokestatic 63, 3) := by decide +kernel
theorem dX3_placeOf_37 : decode cX3_placeOf 37 = .ok (.iastore, 1) := by decide +kernel
theorem dX3_placeOf_38 : decode cX3_placeOf 38 = .ok (.iinc 2 1, 3) := by decide +kernel
theorem dX3_placeOf_41 : decode cX3_placeOf 41 = .ok (.goto (-39), 3) := by decide +kernel
theorem dX3_placeOf_44 : decode cX3_placeOf 44 = .ok (.aload_n 0, 1) := by decide +kernel
theorem dX3_placeOf_45 : decode cX3_placeOf 45 = .ok (.invokevirtual 43, 3) := by decide +kernel
theorem dX3_placeOf_48 : decode cX3_placeOf 48 = .ok (.istore_n 2, 1) := by decide +kernel
theorem dX3_placeOf_49 : decode cX3_placeOf 49 = .ok (.aload_n 0, 1) := by decide +kernel
theorem dX3_placeOf_50 : decode cX3_placeOf 50 = .ok (.getfield 18, 3) := by decide +kernel
theorem dX3_placeOf_53 : decode cX3_placeOf 53 = .ok (.iconst 0, 1) := by decide +kernel
theorem dX3_placeOf_54 : decode cX3_placeOf 54 = .ok (.invokestatic 25, 3) := by decide +kernel
theorem dX3_placeOf_57 : decode cX3_placeOf 57 = .ok (.iconst 0, 1) := by decide +kernel
theorem dX3_placeOf_58 : decode cX3_placeOf 58 = .ok (.istore_n 3, 1) := by decide +kernel
theorem dX3_placeOf_59 : decode cX3_placeOf 59 = .ok (.iconst 0, 1) := by decide +kernel
theorem dX3_placeOf_60 : decode cX3_placeOf 60 = .ok (.istore 4, 2) := by decide +kernel
theorem dX3_placeOf_62 : decode cX3_placeOf 62 = .ok (.iload 4, 2) := by decide +kernel
theorem dX3_placeOf_64 : decode cX3_placeOf 64 = .ok (.aload_n 0, 1) := by decide +kernel
theorem dX3_placeOf_65 : decode cX3_placeOf 65 = .ok (.getfield 21, 3) := by decide +kernel
theorem dX3_placeOf_68 : decode cX3_placeOf 68 = .ok (.getfield 31, 3) := by decide +kernel
theorem dX3_placeOf_71 : decode cX3_placeOf 71 = .ok (.getfield 37, 3) := by decide +kernel
theorem dX3_placeOf_74 : decode cX3_placeOf 74 = .ok (.if_icmp .ge 36, 3) := by decide +kernel
theorem dX3_placeOf_77 : decode cX3_placeOf 77 = .ok (.aload_n 0, 1) := by decide +kernel
theorem dX3_placeOf_78 : decode cX3_placeOf 78 = .ok (.invokevirtual 43, 3) := by decide +kernel
theorem dX3_placeOf_81 : decode cX3_placeOf 81 = .ok (.istore 5, 2) := by decide +kernel
theorem dX3_placeOf_83 : decode cX3_placeOf 83 = .ok (.iload 5, 2) := by decide +kernel
theorem dX3_placeOf_85 : decode cX3_placeOf 85 = .ok (.iload_n 2, 1) := by decide +kernel
theorem dX3_placeOf_86 : decode cX3_placeOf 86 = .ok (.if_icmp .gt 15, 3) := by decide +kernel
theorem dX3_placeOf_89 : decode cX3_placeOf 89 = .ok (.iload 5, 2) := by decide +kernel
theorem dX3_placeOf_91 : decode cX3_placeOf 91 = .ok (.iload_n 2, 1) := by decide +kernel
theorem dX3_placeOf_92 : decode cX3_placeOf 92 = .ok (.if_icmp .ne 12, 3) := by decide +kernel
theorem dX3_placeOf_95 : decode cX3_placeOf 95 = .ok (.iload 4, 2) := by decide +kernel
theorem dX3_placeOf_97 : decode cX3_placeOf 97 = .ok (.iload_n 1, 1) := by decide +kernel
theorem dX3_placeOf_98 : decode cX3_placeOf 98 = .ok (.if_icmp .ge 6, 3) := by decide +kernel
theorem dX3_placeOf_101 : decode cX3_placeOf 101 = .ok (.iinc 3 1, 3) := by decide +kernel
theorem dX3_placeOf_104 : decode cX3_placeOf 104 = .ok (.iinc 4 1, 3) := by decide +kernel
theorem dX3_placeOf_107 : decode cX3_placeOf 107 = .ok (.goto (-45), 3) := by decide +kernel
theorem dX3_placeOf_110 : decode cX3_placeOf 110 = .ok (.iload_n 3, 1) := by decide +kernel
theorem dX3_placeOf_111 : decode cX3_placeOf 111 = .ok (.ireturn, 1) := by decide +kernel
abbrev rmX3_placeOf : Room := { frames := 1, cells := 0, slots := 0, locals := 23 }
theorem inX3_placeOf_0 : ∀ w ∈ wsX00, w ∈ wsX3_placeOf := by decide +kernel
theorem inX3_placeOf_3 : ∀ w ∈ wsX30, w ∈ wsX3_placeOf := by decide +kernel
theorem inX3_placeOf_7 : ∀ w ∈ wsX70, w ∈ wsX3_placeOf := by decide +kernel
def vX3_placeOf_c62 (E : Nat → Int32) (M : Nat → Nat → Int32) (parts : Int32) (limit : Int32) (len : Nat → Int32) (vot : Nat → Int32) (p1 : Int32) (Q : Int32 → (Nat → Int32) → Prop) : Nat → Int32 → Int32 → Int32 → (Nat → Int32) → Prop
  | 0, _, _, _, _ => False
  | n + 1, x2, x3, x4, rs => ((limit ≤ x4 → (Q x3 rs)) ∧ (¬ limit ≤ x4 → (∃ (T_78 : Cd) (m_78 : Nat → Nat → Int) (n_78 : Nat), preX3_nextScore T_78 m_78 n_78 rs E M parts limit len vot ∧ (∀ (r_78 : Int32) (rs_78 : Nat → Int32), postX3_nextScore T_78 m_78 n_78 rs E M parts limit len vot r_78 rs_78 → ((x2 < r_78 → (vX3_placeOf_c62 E M parts limit len vot p1 Q n x2 (x3 + (1 : Int32)) (x4 + (1 : Int32)) rs_78)) ∧ (¬ x2 < r_78 → ((¬ r_78 = x2 → (vX3_placeOf_c62 E M parts limit len vot p1 Q n x2 x3 (x4 + (1 : Int32)) rs_78)) ∧ (r_78 = x2 → ((p1 ≤ x4 → (vX3_placeOf_c62 E M parts limit len vot p1 Q n x2 x3 (x4 + (1 : Int32)) rs_78)) ∧ (¬ p1 ≤ x4 → (vX3_placeOf_c62 E M parts limit len vot p1 Q n x2 (x3 + (1 : Int32)) (x4 + (1 : Int32)) rs_78)))))))))))
set_option maxHeartbeats 4000000 in
set_option maxRecDepth 100000 in
theorem kX3_placeOf_c62 {p : Program} {l : Launch} {e : Env} {s : State} {m : MethodId} {args : Array Value} {below : List Frame} {meth : Method} {c : Code} {g : GP} {qrk : Nat} {qN : Nat} {qS : Nat} {qR : Nat} {qh : Nat} {qm : Nat} {qb : Nat} {qx : Nat} {aM : Nat → Nat} {ql : Nat} {qr : Nat} {qv : Nat} {qg : Nat} {qe : Nat} {qt : Nat} {E : Nat → Int32} {M : Nat → Nat → Int32} {parts : Int32} {limit : Int32} {len : Nat → Int32} {vot : Nat → Int32} {p1 : Int32} {Q : Int32 → (Nat → Int32) → Prop} {A : Nat → Prop} (S : CallFix p m c cX3_placeOf 6 s args wsX3_placeOf RX3) (hr : meth.sig.returnType = (some .int)) (hlocks : meth.locks = false) (hG : GK g s) (hA : ∀ q : Nat, s.heap.size ≤ q → A q) : ∀ (n : Nat), ∀ (x2 : Int32) (x3 : Int32) (x4 : Int32) (rs : Nat → Int32), vX3_placeOf_c62 E M parts limit len vot p1 Q n x2 x3 x4 rs → ∀ (H : Heap) (locs : List Loc), va_P g.1 vwCl [(qrk, .inr (3, [.ref qe, .ref qN, .ref qS, .ref qR])), (qR, .inl (g.2 0, 5, .inl rs)), (qe, .inr (0, [.ref qt, .ref qh, .ref qm, .ref qb, .ref qx, .int (E 5), .int (E 6), .int (E 7), .int (E 8), .int (E 9), .int (E 10), .int (E 11)])), (qm, .inl (g.2 6, 5, .inr (.inr (.inr (.inr (rwM aM)))))), ((aM 0), .inl (g.2 0, 13, .inl (M 0))), ((aM 1), .inl (g.2 0, 13, .inl (M 1))), ((aM 2), .inl (g.2 0, 13, .inl (M 2))), ((aM 3), .inl (g.2 0, 13, .inl (M 3))), ((aM 4), .inl (g.2 0, 13, .inl (M 4))), (qt, .inr (7, [.ref ql, .ref qr, .ref qv, .ref qg, .int parts, .int limit])), (ql, .inl (g.2 0, 5, .inl len)), (qv, .inl (g.2 0, 5, .inl vot))] H → va_D A [(qrk, .inr (3, [.ref qe, .ref qN, .ref qS, .ref qR])), (qR, .inl (g.2 0, 5, .inl rs)), (qe, .inr (0, [.ref qt, .ref qh, .ref qm, .ref qb, .ref qx, .int (E 5), .int (E 6), .int (E 7), .int (E 8), .int (E 9), .int (E 10), .int (E 11)])), (qm, .inl (g.2 6, 5, .inr (.inr (.inr (.inr (rwM aM)))))), ((aM 0), .inl (g.2 0, 13, .inl (M 0))), ((aM 1), .inl (g.2 0, 13, .inl (M 1))), ((aM 2), .inl (g.2 0, 13, .inl (M 2))), ((aM 3), .inl (g.2 0, 13, .inl (M 3))), ((aM 4), .inl (g.2 0, 13, .inl (M 4))), (qt, .inr (7, [.ref ql, .ref qr, .ref qv, .ref qg, .int parts, .int limit])), (ql, .inl (g.2 0, 5, .inl len)), (qv, .inl (g.2 0, 5, .inl vot))] → va_S A s.heap H locs → ∀ (ls : Array Slot), lv_has ls 6 [(0, .ref qrk), (1, .int p1), (2, .int x2), (3, .int x3), (4, .int x4)] → W p l e (headSpec wsX3_placeOf rmX3_placeOf).room s m args below meth c H locs 0 0 (MQ below (va_Qi (fun (r : Int32) (u : (Nat → Int32)) => Q r u) (fun (u : (Nat → Int32)) t => va_P g.1 vwCl [(qrk, .inr (3, [.ref qe, .ref qN, .ref qS, .ref qR])), (qR, .inl (g.2 0, 5, .inl u)), (qe, .inr (0, [.ref qt, .ref qh, .ref qm, .ref qb, .ref qx, .int (E 5), .int (E 6), .int (E 7), .int (E 8), .int (E 9), .int (E 10), .int (E 11)])), (qm, .inl (g.2 6, 5, .inr (.inr (.inr (.inr (rwM aM)))))), ((aM 0), .inl (g.2 0, 13, .inl (M 0))), ((aM 1), .inl (g.2 0, 13, .inl (M 1))), ((aM 2), .inl (g.2 0, 13, .inl (M 2))), ((aM 3), .inl (g.2 0, 13, .inl (M 3))), ((aM 4), .inl (g.2 0, 13, .inl (M 4))), (qt, .inr (7, [.ref ql, .ref qr, .ref qv, .ref qg, .int parts, .int limit])), (ql, .inl (g.2 0, 5, .inl len)), (qv, .inl (g.2 0, 5, .inl vot))] t.heap ∧ va_D A [(qrk, .inr (3, [.ref qe, .ref qN, .ref qS, .ref qR])), (qR, .inl (g.2 0, 5, .inl u)), (qe, .inr (0, [.ref qt, .ref qh, .ref qm, .ref qb, .ref qx, .int (E 5), .int (E 6), .int (E 7), .int (E 8), .int (E 9), .int (E 10), .int (E 11)])), (qm, .inl (g.2 6, 5, .inr (.inr (.inr (.inr (rwM aM)))))), ((aM 0), .inl (g.2 0, 13, .inl (M 0))), ((aM 1), .inl (g.2 0, 13, .inl (M 1))), ((aM 2), .inl (g.2 0, 13, .inl (M 2))), ((aM 3), .inl (g.2 0, 13, .inl (M 3))), ((aM 4), .inl (g.2 0, 13, .inl (M 4))), (qt, .inr (7, [.ref ql, .ref qr, .ref qv, .ref qg, .int parts, .int limit])), (ql, .inl (g.2 0, 5, .inl len)), (qv, .inl (g.2 0, 5, .inl vot))]) A) args s 0 0 A) (F0 m 62 ls []) := by
  obtain ⟨hx, hb, hml, hown, hts⟩ := id S
  have hK := hG.1
  intro n
  induction n with
  | zero => intro x2 x3 x4 rs hv; exact hv.elim
  | succ n ih =>
    intro x2 x3 x4 rs hv H locs hP hD hS ls hl
    refine lv_iload hx hb dX3_placeOf_62 (lv_at hl 4 rfl) ?_
    refine lv_aload_n hx hb dX3_placeOf_64 rfl (lv_at hl 0 rfl) ?_
    refine va_get (D := g.1) (ci := 3) (v := .ref qe) (C := RX3) (T := TX3) (N := 4) hx hb hts inX3_placeOf_3 hown hK hP 0 rfl rfl 0 (by decide) (hts (.fieldLink RX3 21 "RangeCodes$Ranking" "ear" "LRangeCodes$Ear;") (List.mem_of_getElem? (i := 1) rfl)) (fun _ h9 => h9) rfl dX3_placeOf_65 ?_
    refine va_get (D := g.1) (ci := 0) (v := .ref qt) (C := RX0) (T := TX0) (N := 12) hx hb hts inX3_placeOf_0 hown hK hP 2 rfl rfl 0 (by decide) (hts (.fieldLink RX3 31 "RangeCodes$Ear" "told" "LRangeCodes$Told;") (List.mem_of_getElem? (i := 2) rfl)) (fun _ h9 => h9) rfl dX3_placeOf_68 ?_
    refine va_get (D := g.1) (ci := 7) (v := .int limit) (C := RX7) (T := TX7) (N := 6) hx hb hts inX3_placeOf_7 hown hK hP 9 rfl rfl 5 (by decide) (hts (.fieldLink RX3 37 "RangeCodes$Told" "limit" "I") (List.mem_of_getElem? (i := 6) rfl)) (fun _ h9 => h9) rfl dX3_placeOf_71 ?_
    obtain ⟨hvt, hvf⟩ := hv
    refine lv_icmp_ge (tgt := 110) hx hb dX3_placeOf_74 (by decide) (fun hc => ?_) (fun hc => ?_)
    · have hv := hvt hc
      refine lv_iload_n hx hb dX3_placeOf_110 rfl (lv_at hl 3 rfl) ?_
      have hP9 := hP.sub (ws' := [(qrk, .inr (3, [.ref qe, .ref qN, .ref qS, .ref qR])), (qR, .inl (g.2 0, 5, .inl rs)), (qe, .inr (0, [.ref qt, .ref qh, .ref qm, .ref qb, .ref qx, .int (E 5), .int (E 6), .int (E 7), .int (E 8), .int (E 9), .int (E 10), .int (E 11)])), (qm, .inl (g.2 6, 5, .inr (.inr (.inr (.inr (rwM aM)))))), ((aM 0), .inl (g.2 0, 13, .inl (M 0))), ((aM 1), .inl (g.2 0, 13, .inl (M 1))), ((aM 2), .inl (g.2 0, 13, .inl (M 2))), ((aM 3), .inl (g.2 0, 13, .inl (M 3))), ((aM 4), .inl (g.2 0, 13, .inl (M 4))), (qt, .inr (7, [.ref ql, .ref qr, .ref qv, .ref qg, .int parts, .int limit])), (ql, .inl (g.2 0, 5, .inl len)), (qv, .inl (g.2 0, 5, .inl vot))]) [0, 1, 2, 3, 4, 5, 6, 7, 8, 9, 10, 11] rfl
      have hD9 := hD.sub (ws' := [(qrk, .inr (3, [.ref qe, .ref qN, .ref qS, .ref qR])), (qR, .inl (g.2 0, 5, .inl rs)), (qe, .inr (0, [.ref qt, .ref qh, .ref qm, .ref qb, .ref qx, .int (E 5), .int (E 6), .int (E 7), .int (E 8), .int (E 9), .int (E 10), .int (E 11)])), (qm, .inl (g.2 6, 5, .inr (.inr (.inr (.inr (rwM aM)))))), ((aM 0), .inl (g.2 0, 13, .inl (M 0))), ((aM 1), .inl (g.2 0, 13, .inl (M 1))), ((aM 2), .inl (g.2 0, 13, .inl (M 2))), ((aM 3), .inl (g.2 0, 13, .inl (M 3))), ((aM 4), .inl (g.2 0, 13, .inl (M 4))), (qt, .inr (7, [.ref ql, .ref qr, .ref qv, .ref qg, .int parts, .int limit])), (ql, .inl (g.2 0, 5, .inl len)), (qv, .inl (g.2 0, 5, .inl vot))]) [0, 1, 2, 3, 4, 5, 6, 7, 8, 9, 10, 11] (by decide) rfl
      exact W.iret (v := x3) hx hb hr (fun t ht hW => ⟨⟨_, (rs), rfl, hv, by rw [ht]; exact hP9, hD9⟩, hS.F ht⟩) hS.2.2 dX3_placeOf_111
    · have hv := hvf hc
      refine lv_aload_n hx hb dX3_placeOf_77 rfl (lv_at hl 0 rfl) ?_
      obtain ⟨T_78, m_78, n_78, ho_1, hv⟩ := hv
      have hPc := hP.sub (ws' := [(qrk, .inr (3, [.ref qe, .ref qN, .ref qS, .ref qR])), (qR, .inl (g.2 0, 5, .inl rs)), (qe, .inr (0, [.ref qt, .ref qh, .ref qm, .ref qb, .ref qx, .int (E 5), .int (E 6), .int (E 7), .int (E 8), .int (E 9), .int (E 10), .int (E 11)])), (qm, .inl (g.2 6, 5, .inr (.inr (.inr (.inr (rwM aM)))))), ((aM 0), .inl (g.2 0, 13, .inl (M 0))), ((aM 1), .inl (g.2 0, 13, .inl (M 1))), ((aM 2), .inl (g.2 0, 13, .inl (M 2))), ((aM 3), .inl (g.2 0, 13, .inl (M 3))), ((aM 4), .inl (g.2 0, 13, .inl (M 4))), (qt, .inr (7, [.ref ql, .ref qr, .ref qv, .ref qg, .int parts, .int limit])), (ql, .inl (g.2 0, 5, .inl len)), (qv, .inl (g.2 0, 5, .inl vot))]) [0, 1, 2, 3, 4, 5, 6, 7, 8, 9, 10, 11] rfl
      have hDc := hD.sub (ws' := [(qrk, .inr (3, [.ref qe, .ref qN, .ref qS, .ref qR])), (qR, .inl (g.2 0, 5, .inl rs)), (qe, .inr (0, [.ref qt, .ref qh, .ref qm, .ref qb, .ref qx, .int (E 5), .int (E 6), .int (E 7), .int (E 8), .int (E 9), .int (E 10), .int (E 11)])), (qm, .inl (g.2 6, 5, .inr (.inr (.inr (.inr (rwM aM)))))), ((aM 0), .inl (g.2 0, 13, .inl (M 0))), ((aM 1), .inl (g.2 0, 13, .inl (M 1))), ((aM 2), .inl (g.2 0, 13, .inl (M 2))), ((aM 3), .inl (g.2 0, 13, .inl (M 3))), ((aM 4), .inl (g.2 0, 13, .inl (M 4))), (qt, .inr (7, [.ref ql, .ref qr, .ref qv, .ref qg, .int parts, .int limit])), (ql, .inl (g.2 0, 5, .inl len)), (qv, .inl (g.2 0, 5, .inl vot))]) [0, 1, 2, 3, 4, 5, 6, 7, 8, 9, 10, 11] (by decide) rfl
      have hFc := va_free (wc := [(qrk, .inr (3, [.ref qe, .ref qN, .ref qS, .ref qR])), (qR, .inl (g.2 0, 5, .inl rs)), (qe, .inr (0, [.ref qt, .ref qh, .ref qm, .ref qb, .ref qx, .int (E 5), .int (E 6), .int (E 7), .int (E 8), .int (E 9), .int (E 10), .int (E 11)])), (qm, .inl (g.2 6, 5, .inr (.inr (.inr (.inr (rwM aM)))))), ((aM 0), .inl (g.2 0, 13, .inl (M 0))), ((aM 1), .inl (g.2 0, 13, .inl (M 1))), ((aM 2), .inl (g.2 0, 13, .inl (M 2))), ((aM 3), .inl (g.2 0, 13, .inl (M 3))), ((aM 4), .inl (g.2 0, 13, .inl (M 4))), (qt, .inr (7, [.ref ql, .ref qr, .ref qv, .ref qg, .int parts, .int limit])), (ql, .inl (g.2 0, 5, .inl len)), (qv, .inl (g.2 0, 5, .inl vot))]) hD hS hA [0, 1, 2, 3, 4, 5, 6, 7, 8, 9, 10, 11] rfl
      refine va_calli (va_runV (As := []) (rest := []) S (wX3_nextScore l g qrk qN qS qR qh qm qb qx aM ql qr qv qg qe qt H.size rs E M parts limit len vot (sX3_nextScore T_78 m_78 n_78 rs E M parts limit len vot ho_1)) (cwV 0 hts gX3_placeOf_X3_nextScore rfl rfl rfl (by decide +kernel) ⟨Nat.le_of_ble_eq_true rfl, Nat.le_of_ble_eq_true rfl⟩) ⟨blindRW, va_recv hK hP (ci := 3) (q0 := 0) rfl rfl, fun U hU hW => ⟨rfl, by rw [hU], by rw [hU]; exact hPc, hG.warm hW, hDc.weaken (fun _ _ _ _ => trivial)⟩⟩ rfl rfl hl.1 rfl (lv_room (Nat.le_of_ble_eq_true rfl)) dX3_placeOf_78 ⟨Nat.le_of_ble_eq_true rfl, Nat.le_of_ble_eq_true rfl⟩) hS (fun q _ h => hFc q h) hFc (fun r_78 u t H1 locs ht hvm hw hB hz1 hk1 hS => ?_)
      obtain ⟨rs_78, rfl⟩ : ∃ z, z = u := ⟨_, rfl⟩
      obtain ⟨hP1, hD1⟩ := hB
      rw [ht] at hP1
      have hv := hv r_78 rs_78 hw
      obtain ⟨hP, hD⟩ := va_join (wr := []) (w1 := [(qrk, .inr (3, [.ref qe, .ref qN, .ref qS, .ref qR])), (qR, .inl (g.2 0, 5, .inl rs_78)), (qe, .inr (0, [.ref qt, .ref qh, .ref qm, .ref qb, .ref qx, .int (E 5), .int (E 6), .int (E 7), .int (E 8), .int (E 9), .int (E 10), .int (E 11)])), (qm, .inl (g.2 6, 5, .inr (.inr (.inr (.inr (rwM aM)))))), ((aM 0), .inl (g.2 0, 13, .inl (M 0))), ((aM 1), .inl (g.2 0, 13, .inl (M 1))), ((aM 2), .inl (g.2 0, 13, .inl (M 2))), ((aM 3), .inl (g.2 0, 13, .inl (M 3))), ((aM 4), .inl (g.2 0, 13, .inl (M 4))), (qt, .inr (7, [.ref ql, .ref qr, .ref qv, .ref qg, .int parts, .int limit])), (ql, .inl (g.2 0, 5, .inl len)), (qv, .inl (g.2 0, 5, .inl vot))]) hP hD [0, 1, 2, 3, 4, 5, 6, 7, 8, 9, 10, 11] [] rfl rfl (by decide) (by decide) hk1 hFc hP1 hD1
      clear hP1 hD1 hPc hDc hFc hk1
      generalize H1 = H at hP hS ⊢
      have hP : va_P g.1 vwCl [(qrk, .inr (3, [.ref qe, .ref qN, .ref qS, .ref qR])), (qR, .inl (g.2 0, 5, .inl rs_78)), (qe, .inr (0, [.ref qt, .ref qh, .ref qm, .ref qb, .ref qx, .int (E 5), .int (E 6), .int (E 7), .int (E 8), .int (E 9), .int (E 10), .int (E 11)])), (qm, .inl (g.2 6, 5, .inr (.inr (.inr (.inr (rwM aM)))))), ((aM 0), .inl (g.2 0, 13, .inl (M 0))), ((aM 1), .inl (g.2 0, 13, .inl (M 1))), ((aM 2), .inl (g.2 0, 13, .inl (M 2))), ((aM 3), .inl (g.2 0, 13, .inl (M 3))), ((aM 4), .inl (g.2 0, 13, .inl (M 4))), (qt, .inr (7, [.ref ql, .ref qr, .ref qv, .ref qg, .int parts, .int limit])), (ql, .inl (g.2 0, 5, .inl len)), (qv, .inl (g.2 0, 5, .inl vot))] H := hP
      have hD : va_D A [(qrk, .inr (3, [.ref qe, .ref qN, .ref qS, .ref qR])), (qR, .inl (g.2 0, 5, .inl rs_78)), (qe, .inr (0, [.ref qt, .ref qh, .ref qm, .ref qb, .ref qx, .int (E 5), .int (E 6), .int (E 7), .int (E 8), .int (E 9), .int (E 10), .int (E 11)])), (qm, .inl (g.2 6, 5, .inr (.inr (.inr (.inr (rwM aM)))))), ((aM 0), .inl (g.2 0, 13, .inl (M 0))), ((aM 1), .inl (g.2 0, 13, .inl (M 1))), ((aM 2), .inl (g.2 0, 13, .inl (M 2))), ((aM 3), .inl (g.2 0, 13, .inl (M 3))), ((aM 4), .inl (g.2 0, 13, .inl (M 4))), (qt, .inr (7, [.ref ql, .ref qr, .ref qv, .ref qg, .int parts, .int limit])), (ql, .inl (g.2 0, 5, .inl len)), (qv, .inl (g.2 0, 5, .inl vot))] := hD
      refine lv_istore (lv' := [(5, .int r_78), (0, .ref qrk), (1, .int p1), (2, .int x2), (3, .int x3), (4, .int x4)]) hx hb dX3_placeOf_81 hl (by decide) rfl (fun ls hl => ?_)
      refine lv_iload hx hb dX3_placeOf_83 (lv_at hl 0 rfl) ?_
      refine lv_iload_n hx hb dX3_placeOf_85 rfl (lv_at hl 3 rfl) ?_
      obtain ⟨hvt, hvf⟩ := hv
      refine lv_icmp_gt (tgt := 101) hx hb dX3_placeOf_86 (by decide) (fun hc => ?_) (fun hc => ?_)
      · have hv := hvt hc
        refine lv_iinc (v := (x3 + (1 : Int32))) (lv' := [(3, .int (x3 + (1 : Int32))), (5, .int r_78), (0, .ref qrk), (1, .int p1), (2, .int x2), (4, .int x4)]) hx hb dX3_placeOf_101 hl (k := 4) rfl rfl (by decide) rfl (fun ls hl => ?_)
        refine lv_iinc (v := (x4 + (1 : Int32))) (lv' := [(4, .int (x4 + (1 : Int32))), (3, .int (x3 + (1 : Int32))), (5, .int r_78), (0, .ref qrk), (1, .int p1), (2, .int x2)]) hx hb dX3_placeOf_104 hl (k := 5) rfl rfl (by decide) rfl (fun ls hl => ?_)
        refine lv_goto (tgt := 62) hx hb dX3_placeOf_107 (by decide) ?_
        exact ih _ _ _ _ hv _ _ (hP.sub (ws' := [(qrk, .inr (3, [.ref qe, .ref qN, .ref qS, .ref qR])), (qR, .inl (g.2 0, 5, .inl rs_78)), (qe, .inr (0, [.ref qt, .ref qh, .ref qm, .ref qb, .ref qx, .int (E 5), .int (E 6), .int (E 7), .int (E 8), .int (E 9), .int (E 10), .int (E 11)])), (qm, .inl (g.2 6, 5, .inr (.inr (.inr (.inr (rwM aM)))))), ((aM 0), .inl (g.2 0, 13, .inl (M 0))), ((aM 1), .inl (g.2 0, 13, .inl (M 1))), ((aM 2), .inl (g.2 0, 13, .inl (M 2))), ((aM 3), .inl (g.2 0, 13, .inl (M 3))), ((aM 4), .inl (g.2 0, 13, .inl (M 4))), (qt, .inr (7, [.ref ql, .ref qr, .ref qv, .ref qg, .int parts, .int limit])), (ql, .inl (g.2 0, 5, .inl len)), (qv, .inl (g.2 0, 5, .inl vot))]) [0, 1, 2, 3, 4, 5, 6, 7, 8, 9, 10, 11] rfl) (hD.sub (ws' := [(qrk, .inr (3, [.ref qe, .ref qN, .ref qS, .ref qR])), (qR, .inl (g.2 0, 5, .inl rs_78)), (qe, .inr (0, [.ref qt, .ref qh, .ref qm, .ref qb, .ref qx, .int (E 5), .int (E 6), .int (E 7), .int (E 8), .int (E 9), .int (E 10), .int (E 11)])), (qm, .inl (g.2 6, 5, .inr (.inr (.inr (.inr (rwM aM)))))), ((aM 0), .inl (g.2 0, 13, .inl (M 0))), ((aM 1), .inl (g.2 0, 13, .inl (M 1))), ((aM 2), .inl (g.2 0, 13, .inl (M 2))), ((aM 3), .inl (g.2 0, 13, .inl (M 3))), ((aM 4), .inl (g.2 0, 13, .inl (M 4))), (qt, .inr (7, [.ref ql, .ref qr, .ref qv, .ref qg, .int parts, .int limit])), (ql, .inl (g.2 0, 5, .inl len)), (qv, .inl (g.2 0, 5, .inl vot))]) [0, 1, 2, 3, 4, 5, 6, 7, 8, 9, 10, 11] (by decide) rfl) hS ls (lv_sub hl [3, 4, 5, 1, 0] rfl)
      · have hv := hvf hc
        refine lv_iload hx hb dX3_placeOf_89 (lv_at hl 0 rfl) ?_
        refine lv_iload_n hx hb dX3_placeOf_91 rfl (lv_at hl 3 rfl) ?_
        obtain ⟨hvt, hvf⟩ := hv
        refine lv_icmp_ne (tgt := 104) hx hb dX3_placeOf_92 (by decide) (fun hc => ?_) (fun hc => ?_)
        · have hv := hvt hc
          refine lv_iinc (v := (x4 + (1 : Int32))) (lv' := [(4, .int (x4 + (1 : Int32))), (5, .int r_78), (0, .ref qrk), (1, .int p1), (2, .int x2), (3, .int x3)]) hx hb dX3_placeOf_104 hl (k := 5) rfl rfl (by decide) rfl (fun ls hl => ?_)
          refine lv_goto (tgt := 62) hx hb dX3_placeOf_107 (by decide) ?_
          exact ih _ _ _ _ hv _ _ (hP.sub (ws' := [(qrk, .inr (3, [.ref qe, .ref qN, .ref qS, .ref qR])), (qR, .inl (g.2 0, 5, .inl rs_78)), (qe, .inr (0, [.ref qt, .ref qh, .ref qm, .ref qb, .ref qx, .int (E 5), .int (E 6), .int (E 7), .int (E 8), .int (E 9), .int (E 10), .int (E 11)])), (qm, .inl (g.2 6, 5, .inr (.inr (.inr (.inr (rwM aM)))))), ((aM 0), .inl (g.2 0, 13, .inl (M 0))), ((aM 1), .inl (g.2 0, 13, .inl (M 1))), ((aM 2), .inl (g.2 0, 13, .inl (M 2))), ((aM 3), .inl (g.2 0, 13, .inl (M 3))), ((aM 4), .inl (g.2 0, 13, .inl (M 4))), (qt, .inr (7, [.ref ql, .ref qr, .ref qv, .ref qg, .int parts, .int limit])), (ql, .inl (g.2 0, 5, .inl len)), (qv, .inl (g.2 0, 5, .inl vot))]) [0, 1, 2, 3, 4, 5, 6, 7, 8, 9, 10, 11] rfl) (hD.sub (ws' := [(qrk, .inr (3, [.ref qe, .ref qN, .ref qS, .ref qR])), (qR, .inl (g.2 0, 5, .inl rs_78)), (qe, .inr (0, [.ref qt, .ref qh, .ref qm, .ref qb, .ref qx, .int (E 5), .int (E 6), .int (E 7), .int (E 8), .int (E 9), .int (E 10), .int (E 11)])), (qm, .inl (g.2 6, 5, .inr (.inr (.inr (.inr (rwM aM)))))), ((aM 0), .inl (g.2 0, 13, .inl (M 0))), ((aM 1), .inl (g.2 0, 13, .inl (M 1))), ((aM 2), .inl (g.2 0, 13, .inl (M 2))), ((aM 3), .inl (g.2 0, 13, .inl (M 3))), ((aM 4), .inl (g.2 0, 13, .inl (M 4))), (qt, .inr (7, [.ref ql, .ref qr, .ref qv, .ref qg, .int parts, .int limit])), (ql, .inl (g.2 0, 5, .inl len)), (qv, .inl (g.2 0, 5, .inl vot))]) [0, 1, 2, 3, 4, 5, 6, 7, 8, 9, 10, 11] (by decide) rfl) hS ls (lv_sub hl [2, 3, 4, 5, 0] rfl)
        · have hv := hvf hc
          refine lv_iload hx hb dX3_placeOf_95 (lv_at hl 5 rfl) ?_
          refine lv_iload_n hx hb dX3_placeOf_97 rfl (lv_at hl 2 rfl) ?_
          obtain ⟨hvt, hvf⟩ := hv
          refine lv_icmp_ge (tgt := 104) hx hb dX3_placeOf_98 (by decide) (fun hc => ?_) (fun hc => ?_)
          · have hv := hvt hc
            refine lv_iinc (v := (x4 + (1 : Int32))) (lv' := [(4, .int (x4 + (1 : Int32))), (5, .int r_78), (0, .ref qrk), (1, .int p1), (2, .int x2), (3, .int x3)]) hx hb dX3_placeOf_104 hl (k := 5) rfl rfl (by decide) rfl (fun ls hl => ?_)
            refine lv_goto (tgt := 62) hx hb dX3_placeOf_107 (by decide) ?_
            exact ih _ _ _ _ hv _ _ (hP.sub (ws' := [(qrk, .inr (3, [.ref qe, .ref qN, .ref qS, .ref qR])), (qR, .inl (g.2 0, 5, .inl rs_78)), (qe, .inr (0, [.ref qt, .ref qh, .ref qm, .ref qb, .ref qx, .int (E 5), .int (E 6), .int (E 7), .int (E 8), .int (E 9), .int (E 10), .int (E 11)])), (qm, .inl (g.2 6, 5, .inr (.inr (.inr (.inr (rwM aM)))))), ((aM 0), .inl (g.2 0, 13, .inl (M 0))), ((aM 1), .inl (g.2 0, 13, .inl (M 1))), ((aM 2), .inl (g.2 0, 13, .inl (M 2))), ((aM 3), .inl (g.2 0, 13, .inl (M 3))), ((aM 4), .inl (g.2 0, 13, .inl (M 4))), (qt, .inr (7, [.ref ql, .ref qr, .ref qv, .ref qg, .int parts, .int limit])), (ql, .inl (g.2 0, 5, .inl len)), (qv, .inl (g.2 0, 5, .inl vot))]) [0, 1, 2, 3, 4, 5, 6, 7, 8, 9, 10, 11] rfl) (hD.sub (ws' := [(qrk, .inr (3, [.ref qe, .ref qN, .ref qS, .ref qR])), (qR, .inl (g.2 0, 5, .inl rs_78)), (qe, .inr (0, [.ref qt, .ref qh, .ref qm, .ref qb, .ref qx, .int (E 5), .int (E 6), .int (E 7), .int (E 8), .int (E 9), .int (E 10), .int (E 11)])), (qm, .inl (g.2 6, 5, .inr (.inr (.inr (.inr (rwM aM)))))), ((aM 0), .inl (g.2 0, 13, .inl (M 0))), ((aM 1), .inl (g.2 0, 13, .inl (M 1))), ((aM 2), .inl (g.2 0, 13, .inl (M 2))), ((aM 3), .inl (g.2 0, 13, .inl (M 3))), ((aM 4), .inl (g.2 0, 13, .inl (M 4))), (qt, .inr (7, [.ref ql, .ref qr, .ref qv, .ref qg, .int parts, .int limit])), (ql, .inl (g.2 0, 5, .inl len)), (qv, .inl (g.2 0, 5, .inl vot))]) [0, 1, 2, 3, 4, 5, 6, 7, 8, 9, 10, 11] (by decide) rfl) hS ls (lv_sub hl [2, 3, 4, 5, 0] rfl)
          · have hv := hvf hc
            refine lv_iinc (v := (x3 + (1 : Int32))) (lv' := [(3, .int (x3 + (1 : Int32))), (5, .int r_78), (0, .ref qrk), (1, .int p1), (2, .int x2), (4, .int x4)]) hx hb dX3_placeOf_101 hl (k := 4) rfl rfl (by decide) rfl (fun ls hl => ?_)
            refine lv_iinc (v := (x4 + (1 : Int32))) (lv' := [(4, .int (x4 + (1 : Int32))), (3, .int (x3 + (1 : Int32))), (5, .int r_78), (0, .ref qrk), (1, .int p1), (2, .int x2)]) hx hb dX3_placeOf_104 hl (k := 5) rfl rfl (by decide) rfl (fun ls hl => ?_)
            refine lv_goto (tgt := 62) hx hb dX3_placeOf_107 (by decide) ?_
            exact ih _ _ _ _ hv _ _ (hP.sub (ws' := [(qrk, .inr (3, [.ref qe, .ref qN, .ref qS, .ref qR])), (qR, .inl (g.2 0, 5, .inl rs_78)), (qe, .inr (0, [.ref qt, .ref qh, .ref qm, .ref qb, .ref qx, .int (E 5), .int (E 6), .int (E 7), .int (E 8), .int (E 9), .int (E 10), .int (E 11)])), (qm, .inl (g.2 6, 5, .inr (.inr (.inr (.inr (rwM aM)))))), ((aM 0), .inl (g.2 0, 13, .inl (M 0))), ((aM 1), .inl (g.2 0, 13, .inl (M 1))), ((aM 2), .inl (g.2 0, 13, .inl (M 2))), ((aM 3), .inl (g.2 0, 13, .inl (M 3))), ((aM 4), .inl (g.2 0, 13, .inl (M 4))), (qt, .inr (7, [.ref ql, .ref qr, .ref qv, .ref qg, .int parts, .int limit])), (ql, .inl (g.2 0, 5, .inl len)), (qv, .inl (g.2 0, 5, .inl vot))]) [0, 1, 2, 3, 4, 5, 6, 7, 8, 9, 10, 11] rfl) (hD.sub (ws' := [(qrk, .inr (3, [.ref qe, .ref qN, .ref qS, .ref qR])), (qR, .inl (g.2 0, 5, .inl rs_78)), (qe, .inr (0, [.ref qt, .ref qh, .ref qm, .ref qb, .ref qx, .int (E 5), .int (E 6), .int (E 7), .int (E 8), .int (E 9), .int (E 10), .int (E 11)])), (qm, .inl (g.2 6, 5, .inr (.inr (.inr (.inr (rwM aM)))))), ((aM 0), .inl (g.2 0, 13, .inl (M 0))), ((aM 1), .inl (g.2 0, 13, .inl (M 1))), ((aM 2), .inl (g.2 0, 13, .inl (M 2))), ((aM 3), .inl (g.2 0, 13, .inl (M 3))), ((aM 4), .inl (g.2 0, 13, .inl (M 4))), (qt, .inr (7, [.ref ql, .ref qr, .ref qv, .ref qg, .int parts, .int limit])), (ql, .inl (g.2 0, 5, .inl len)), (qv, .inl (g.2 0, 5, .inl vot))]) [0, 1, 2, 3, 4, 5, 6, 7, 8, 9, 10, 11] (by decide) rfl) hS ls (lv_sub hl [3, 4, 5, 1, 0] rfl)
def vX3_placeOf_c2 (E : Nat → Int32) (M : Nat → Nat → Int32) (parts : Int32) (limit : Int32) (len : Nat → Int32) (vot : Nat → Int32) (p1 : Int32) (Q : Int32 → (Nat → Int32) → Prop) : Nat → Int32 → (Nat → Int32) → Prop
  | 0, _, _ => False
  | n + 1, x2, rs => ((parts ≤ x2 → (∃ (T_45 : Cd) (m_45 : Nat → Nat → Int) (n_45 : Nat), preX3_nextScore T_45 m_45 n_45 rs E M parts limit len vot ∧ (∀ (r_45 : Int32) (rs_45 : Nat → Int32), postX3_nextScore T_45 m_45 n_45 rs E M parts limit len vot r_45 rs_45 → (preJ7_fill_53178 5 rs_45 (0 : Int32) ∧ (∀ (fA_54 : Nat → Int32), postJ7_fill_53178 5 rs_45 (0 : Int32) fA_54 → (∃ nn, vX3_placeOf_c62 E M parts limit len vot p1 Q nn r_45 (0 : Int32) (0 : Int32) fA_54)))))) ∧ (¬ parts ≤ x2 → (vp_in x2 5 ∧ (preX8_rest p1 (len x2.toNatClampNeg) ∧ (∀ r_34 : Int32, postX8_rest p1 (len x2.toNatClampNeg) r_34 → (vp_in x2 5 ∧ (vX3_placeOf_c2 E M parts limit len vot p1 Q n (x2 + (1 : Int32)) (upd rs x2.toNatClampNeg r_34))))))))
set_option maxHeartbeats 4000000 in
set_option maxRecDepth 100000 in
theorem kX3_placeOf_c2 {p : Program} {l : Launch} {e : Env} {s : State} {m : MethodId} {args : Array Value} {below : List Frame} {meth : Method} {c : Code} {g : GP} {qrk : Nat} {qN : Nat} {qS : Nat} {qR : Nat} {qh : Nat} {qm : Nat} {qb : Nat} {qx : Nat} {aM : Nat → Nat} {ql : Nat} {qr : Nat} {qv : Nat} {qg : Nat} {qe : Nat} {qt : Nat} {E : Nat → Int32} {M : Nat → Nat → Int32} {parts : Int32} {limit : Int32} {len : Nat → Int32} {vot : Nat → Int32} {p1 : Int32} {Q : Int32 → (Nat → Int32) → Prop} {A : Nat → Prop} (S : CallFix p m c cX3_placeOf 6 s args wsX3_placeOf RX3) (hr : meth.sig.returnType = (some .int)) (hlocks : meth.locks = false) (hG : GK g s) (hA : ∀ q : Nat, s.heap.size ≤ q → A q) : ∀ (n : Nat), ∀ (x2 : Int32) (rs : Nat → Int32), vX3_placeOf_c2 E M parts limit len vot p1 Q n x2 rs → ∀ (H : Heap) (locs : List Loc), va_P g.1 vwCl [(qrk, .inr (3, [.ref qe, .ref qN, .ref qS, .ref qR])), (qR, .inl (g.2 0, 5, .inl rs)), (qe, .inr (0, [.ref qt, .ref qh, .ref qm, .ref qb, .ref qx, .int (E 5), .int (E 6), .int (E 7), .int (E 8), .int (E 9), .int (E 10), .int (E 11)])), (qm, .inl (g.2 6, 5, .inr (.inr (.inr (.inr (rwM aM)))))), ((aM 0), .inl (g.2 0, 13, .inl (M 0))), ((aM 1), .inl (g.2 0, 13, .inl (M 1))), ((aM 2), .inl (g.2 0, 13, .inl (M 2))), ((aM 3), .inl (g.2 0, 13, .inl (M 3))), ((aM 4), .inl (g.2 0, 13, .inl (M 4))), (qt, .inr (7, [.ref ql, .ref qr, .ref qv, .ref qg, .int parts, .int limit])), (ql, .inl (g.2 0, 5, .inl len)), (qv, .inl (g.2 0, 5, .inl vot))] H → va_D A [(qrk, .inr (3, [.ref qe, .ref qN, .ref qS, .ref qR])), (qR, .inl (g.2 0, 5, .inl rs)), (qe, .inr (0, [.ref qt, .ref qh, .ref qm, .ref qb, .ref qx, .int (E 5), .int (E 6), .int (E 7), .int (E 8), .int (E 9), .int (E 10), .int (E 11)])), (qm, .inl (g.2 6, 5, .inr (.inr (.inr (.inr (rwM aM)))))), ((aM 0), .inl (g.2 0, 13, .inl (M 0))), ((aM 1), .inl (g.2 0, 13, .inl (M 1))), ((aM 2), .inl (g.2 0, 13, .inl (M 2))), ((aM 3), .inl (g.2 0, 13, .inl (M 3))), ((aM 4), .inl (g.2 0, 13, .inl (M 4))), (qt, .inr (7, [.ref ql, .ref qr, .ref qv, .ref qg, .int parts, .int limit])), (ql, .inl (g.2 0, 5, .inl len)), (qv, .inl (g.2 0, 5, .inl vot))] → va_S A s.heap H locs → ∀ (ls : Array Slot), lv_has ls 6 [(0, .ref qrk), (1, .int p1), (2, .int x2)] → W p l e (headSpec wsX3_placeOf rmX3_placeOf).room s m args below meth c H locs 0 0 (MQ below (va_Qi (fun (r : Int32) (u : (Nat → Int32)) => Q r u) (fun (u : (Nat → Int32)) t => va_P g.1 vwCl [(qrk, .inr (3, [.ref qe, .ref qN, .ref qS, .ref qR])), (qR, .inl (g.2 0, 5, .inl u)), (qe, .inr (0, [.ref qt, .ref qh, .ref qm, .ref qb, .ref qx, .int (E 5), .int (E 6), .int (E 7), .int (E 8), .int (E 9), .int (E 10), .int (E 11)])), (qm, .inl (g.2 6, 5, .inr (.inr (.inr (.inr (rwM aM)))))), ((aM 0), .inl (g.2 0, 13, .inl (M 0))), ((aM 1), .inl (g.2 0, 13, .inl (M 1))), ((aM 2), .inl (g.2 0, 13, .inl (M 2))), ((aM 3), .inl (g.2 0, 13, .inl (M 3))), ((aM 4), .inl (g.2 0, 13, .inl (M 4))), (qt, .inr (7, [.ref ql, .ref qr, .ref qv, .ref qg, .int parts, .int limit])), (ql, .inl (g.2 0, 5, .inl len)), (qv, .inl (g.2 0, 5, .inl vot))] t.heap ∧ va_D A [(qrk, .inr (3, [.ref qe, .ref qN, .ref qS, .ref qR])), (qR, .inl (g.2 0, 5, .inl u)), (qe, .inr (0, [.ref qt, .ref qh, .ref qm, .ref qb, .ref qx, .int (E 5), .int (E 6), .int (E 7), .int (E 8), .int (E 9), .int (E 10), .int (E 11)])), (qm, .inl (g.2 6, 5, .inr (.inr (.inr (.inr (rwM aM)))))), ((aM 0), .inl (g.2 0, 13, .inl (M 0))), ((aM 1), .inl (g.2 0, 13, .inl (M 1))), ((aM 2), .inl (g.2 0, 13, .inl (M 2))), ((aM 3), .inl (g.2 0, 13, .inl (M 3))), ((aM 4), .inl (g.2 0, 13, .inl (M 4))), (qt, .inr (7, [.ref ql, .ref qr, .ref qv, .ref qg, .int parts, .int limit])), (ql, .inl (g.2 0, 5, .inl len)), (qv, .inl (g.2 0, 5, .inl vot))]) A) args s 0 0 A) (F0 m 2 ls []) := by
  obtain ⟨hx, hb, hml, hown, hts⟩ := id S
  have hK := hG.1
  intro n
  induction n with
  | zero => intro x2 rs hv; exact hv.elim
  | succ n ih =>
    intro x2 rs hv H locs hP hD hS ls hl
    refine lv_iload_n hx hb dX3_placeOf_2 rfl (lv_at hl 2 rfl) ?_
    refine lv_aload_n hx hb dX3_placeOf_3 rfl (lv_at hl 0 rfl) ?_
    refine va_get (D := g.1) (ci := 3) (v := .ref qe) (C := RX3) (T := TX3) (N := 4) hx hb hts inX3_placeOf_3 hown hK hP 0 rfl rfl 0 (by decide) (hts (.fieldLink RX3 21 "RangeCodes$Ranking" "ear" "LRangeCodes$Ear;") (List.mem_of_getElem? (i := 1) rfl)) (fun _ h9 => h9) rfl dX3_placeOf_4 ?_
    refine va_get (D := g.1) (ci := 0) (v := .ref qt) (C := RX0) (T := TX0) (N := 12) hx hb hts inX3_placeOf_0 hown hK hP 2 rfl rfl 0 (by decide) (hts (.fieldLink RX3 31 "RangeCodes$Ear" "told" "LRangeCodes$Told;") (List.mem_of_getElem? (i := 2) rfl)) (fun _ h9 => h9) rfl dX3_placeOf_7 ?_
    refine va_get (D := g.1) (ci := 7) (v := .int parts) (C := RX7) (T := TX7) (N := 6) hx hb hts inX3_placeOf_7 hown hK hP 9 rfl rfl 4 (by decide) (hts (.fieldLink RX3 57 "RangeCodes$Told" "parts" "I") (List.mem_of_getElem? (i := 3) rfl)) (fun _ h9 => h9) rfl dX3_placeOf_10 ?_
    obtain ⟨hvt, hvf⟩ := hv
    refine lv_icmp_ge (tgt := 44) hx hb dX3_placeOf_13 (by decide) (fun hc => ?_) (fun hc => ?_)
    · have hv := hvt hc
      refine lv_aload_n hx hb dX3_placeOf_44 rfl (lv_at hl 0 rfl) ?_
      obtain ⟨T_45, m_45, n_45, ho_1, hv⟩ := hv
      have hPc := hP.sub (ws' := [(qrk, .inr (3, [.ref qe, .ref qN, .ref qS, .ref qR])), (qR, .inl (g.2 0, 5, .inl rs)), (qe, .inr (0, [.ref qt, .ref qh, .ref qm, .ref qb, .ref qx, .int (E 5), .int (E 6), .int (E 7), .int (E 8), .int (E 9), .int (E 10), .int (E 11)])), (qm, .inl (g.2 6, 5, .inr (.inr (.inr (.inr (rwM aM)))))), ((aM 0), .inl (g.2 0, 13, .inl (M 0))), ((aM 1), .inl (g.2 0, 13, .inl (M 1))), ((aM 2), .inl (g.2 0, 13, .inl (M 2))), ((aM 3), .inl (g.2 0, 13, .inl (M 3))), ((aM 4), .inl (g.2 0, 13, .inl (M 4))), (qt, .inr (7, [.ref ql, .ref qr, .ref qv, .ref qg, .int parts, .int limit])), (ql, .inl (g.2 0, 5, .inl len)), (qv, .inl (g.2 0, 5, .inl vot))]) [0, 1, 2, 3, 4, 5, 6, 7, 8, 9, 10, 11] rfl
      have hDc := hD.sub (ws' := [(qrk, .inr (3, [.ref qe, .ref qN, .ref qS, .ref qR])), (qR, .inl (g.2 0, 5, .inl rs)), (qe, .inr (0, [.ref qt, .ref qh, .ref qm, .ref qb, .ref qx, .int (E 5), .int (E 6), .int (E 7), .int (E 8), .int (E 9), .int (E 10), .int (E 11)])), (qm, .inl (g.2 6, 5, .inr (.inr (.inr (.inr (rwM aM)))))), ((aM 0), .inl (g.2 0, 13, .inl (M 0))), ((aM 1), .inl (g.2 0, 13, .inl (M 1))), ((aM 2), .inl (g.2 0, 13, .inl (M 2))), ((aM 3), .inl (g.2 0, 13, .inl (M 3))), ((aM 4), .inl (g.2 0, 13, .inl (M 4))), (qt, .inr (7, [.ref ql, .ref qr, .ref qv, .ref qg, .int parts, .int limit])), (ql, .inl (g.2 0, 5, .inl len)), (qv, .inl (g.2 0, 5, .inl vot))]) [0, 1, 2, 3, 4, 5, 6, 7, 8, 9, 10, 11] (by decide) rfl
      have hFc := va_free (wc := [(qrk, .inr (3, [.ref qe, .ref qN, .ref qS, .ref qR])), (qR, .inl (g.2 0, 5, .inl rs)), (qe, .inr (0, [.ref qt, .ref qh, .ref qm, .ref qb, .ref qx, .int (E 5), .int (E 6), .int (E 7), .int (E 8), .int (E 9), .int (E 10), .int (E 11)])), (qm, .inl (g.2 6, 5, .inr (.inr (.inr (.inr (rwM aM)))))), ((aM 0), .inl (g.2 0, 13, .inl (M 0))), ((aM 1), .inl (g.2 0, 13, .inl (M 1))), ((aM 2), .inl (g.2 0, 13, .inl (M 2))), ((aM 3), .inl (g.2 0, 13, .inl (M 3))), ((aM 4), .inl (g.2 0, 13, .inl (M 4))), (qt, .inr (7, [.ref ql, .ref qr, .ref qv, .ref qg, .int parts, .int limit])), (ql, .inl (g.2 0, 5, .inl len)), (qv, .inl (g.2 0, 5, .inl vot))]) hD hS hA [0, 1, 2, 3, 4, 5, 6, 7, 8, 9, 10, 11] rfl
      refine va_calli (va_runV (As := []) (rest := []) S (wX3_nextScore l g qrk qN qS qR qh qm qb qx aM ql qr qv qg qe qt H.size rs E M parts limit len vot (sX3_nextScore T_45 m_45 n_45 rs E M parts limit len vot ho_1)) (cwV 0 hts gX3_placeOf_X3_nextScore rfl rfl rfl (by decide +kernel) ⟨Nat.le_of_ble_eq_true rfl, Nat.le_of_ble_eq_true rfl⟩) ⟨blindRW, va_recv hK hP (ci := 3) (q0 := 0) rfl rfl, fun U hU hW => ⟨rfl, by rw [hU], by rw [hU]; exact hPc, hG.warm hW, hDc.weaken (fun _ _ _ _ => trivial)⟩⟩ rfl rfl hl.1 rfl (lv_room (Nat.le_of_ble_eq_true rfl)) dX3_placeOf_45 ⟨Nat.le_of_ble_eq_true rfl, Nat.le_of_ble_eq_true rfl⟩) hS (fun q _ h => hFc q h) hFc (fun r_45 u t H1 locs ht hvm hw hB hz1 hk1 hS => ?_)
      obtain ⟨rs_45, rfl⟩ : ∃ z, z = u := ⟨_, rfl⟩
      obtain ⟨hP1, hD1⟩ := hB
      rw [ht] at hP1
      have hv := hv r_45 rs_45 hw
      obtain ⟨hP, hD⟩ := va_join (wr := []) (w1 := [(qrk, .inr (3, [.ref qe, .ref qN, .ref qS, .ref qR])), (qR, .inl (g.2 0, 5, .inl rs_45)), (qe, .inr (0, [.ref qt, .ref qh, .ref qm, .ref qb, .ref qx, .int (E 5), .int (E 6), .int (E 7), .int (E 8), .int (E 9), .int (E 10), .int (E 11)])), (qm, .inl (g.2 6, 5, .inr (.inr (.inr (.inr (rwM aM)))))), ((aM 0), .inl (g.2 0, 13, .inl (M 0))), ((aM 1), .inl (g.2 0, 13, .inl (M 1))), ((aM 2), .inl (g.2 0, 13, .inl (M 2))), ((aM 3), .inl (g.2 0, 13, .inl (M 3))), ((aM 4), .inl (g.2 0, 13, .inl (M 4))), (qt, .inr (7, [.ref ql, .ref qr, .ref qv, .ref qg, .int parts, .int limit])), (ql, .inl (g.2 0, 5, .inl len)), (qv, .inl (g.2 0, 5, .inl vot))]) hP hD [0, 1, 2, 3, 4, 5, 6, 7, 8, 9, 10, 11] [] rfl rfl (by decide) (by decide) hk1 hFc hP1 hD1
      clear hP1 hD1 hPc hDc hFc hk1
      generalize H1 = H at hP hS ⊢
      have hP : va_P g.1 vwCl [(qrk, .inr (3, [.ref qe, .ref qN, .ref qS, .ref qR])), (qR, .inl (g.2 0, 5, .inl rs_45)), (qe, .inr (0, [.ref qt, .ref qh, .ref qm, .ref qb, .ref qx, .int (E 5), .int (E 6), .int (E 7), .int (E 8), .int (E 9), .int (E 10), .int (E 11)])), (qm, .inl (g.2 6, 5, .inr (.inr (.inr (.inr (rwM aM)))))), ((aM 0), .inl (g.2 0, 13, .inl (M 0))), ((aM 1), .inl (g.2 0, 13, .inl (M 1))), ((aM 2), .inl (g.2 0, 13, .inl (M 2))), ((aM 3), .inl (g.2 0, 13, .inl (M 3))), ((aM 4), .inl (g.2 0, 13, .inl (M 4))), (qt, .inr (7, [.ref ql, .ref qr, .ref qv, .ref qg, .int parts, .int limit])), (ql, .inl (g.2 0, 5, .inl len)), (qv, .inl (g.2 0, 5, .inl vot))] H := hP
      have hD : va_D A [(qrk, .inr (3, [.ref qe, .ref qN, .ref qS, .ref qR])), (qR, .inl (g.2 0, 5, .inl rs_45)), (qe, .inr (0, [.ref qt, .ref qh, .ref qm, .ref qb, .ref qx, .int (E 5), .int (E 6), .int (E 7), .int (E 8), .int (E 9), .int (E 10), .int (E 11)])), (qm, .inl (g.2 6, 5, .inr (.inr (.inr (.inr (rwM aM)))))), ((aM 0), .inl (g.2 0, 13, .inl (M 0))), ((aM 1), .inl (g.2 0, 13, .inl (M 1))), ((aM 2), .inl (g.2 0, 13, .inl (M 2))), ((aM 3), .inl (g.2 0, 13, .inl (M 3))), ((aM 4), .inl (g.2 0, 13, .inl (M 4))), (qt, .inr (7, [.ref ql, .ref qr, .ref qv, .ref qg, .int parts, .int limit])), (ql, .inl (g.2 0, 5, .inl len)), (qv, .inl (g.2 0, 5, .inl vot))] := hD
      refine lv_istore_n (lv' := [(2, .int r_45), (0, .ref qrk), (1, .int p1)]) hx hb dX3_placeOf_48 rfl hl (by decide) rfl (fun ls hl => ?_)
      refine lv_aload_n hx hb dX3_placeOf_49 rfl (lv_at hl 1 rfl) ?_
      refine va_get (D := g.1) (ci := 3) (v := .ref qR) (C := RX3) (T := TX3) (N := 4) hx hb hts inX3_placeOf_3 hown hK hP 0 rfl rfl 3 (by decide) (hts (.fieldLink RX3 18 "RangeCodes$Ranking" "rests" "[I") (List.mem_of_getElem? (i := 4) rfl)) (fun _ h9 => h9) rfl dX3_placeOf_50 ?_
      refine lv_iconst (v := (0 : Int32)) hx hb dX3_placeOf_53 (by decide) ?_
      obtain ⟨ho_2, hv⟩ := hv
      have hPc := hP.sub (ws' := [(qR, .inl (g.2 0, 5, .inl rs_45))]) [1] rfl
      have hDc := hD.sub (ws' := [(qR, .inl (g.2 0, 5, .inl rs_45))]) [1] (by decide) rfl
      have hFc := va_free (wc := [(qR, .inl (g.2 0, 5, .inl rs_45))]) hD hS hA [1] rfl
      refine va_callv (va_runS (As := [.ref qR, .int (0 : Int32)]) (rest := []) S (wJ7_fill_53178 l g qR H.size 5 rs_45 (0 : Int32) (sJ7_fill_53178 5 rs_45 (0 : Int32) ho_2)) (va_cwS 2 hts gX3_placeOf_J7_fill_53178 rfl rfl rfl (by decide +kernel) ⟨Nat.le_of_ble_eq_true rfl, Nat.le_of_ble_eq_true rfl⟩) ⟨blindRW, fun U hU hW => ⟨rfl, by rw [hU], by rw [hU]; exact hPc, hG.warm hW, hDc.weaken (fun _ _ _ _ => trivial)⟩⟩ rfl rfl hl.1 rfl (lv_room (Nat.le_of_ble_eq_true rfl)) dX3_placeOf_54 ⟨Nat.le_of_ble_eq_true rfl, Nat.le_of_ble_eq_true rfl⟩) hS (fun q _ h => hFc q h) hFc (fun u t H1 locs ht hvm hw hB hz1 hk1 hS => ?_)
      obtain ⟨fA_54, rfl⟩ : ∃ z, z = u := ⟨_, rfl⟩
      obtain ⟨hP1, hD1⟩ := hB
      rw [ht] at hP1
      have hv := hv fA_54 hw
      obtain ⟨hP, hD⟩ := va_join (wr := [(qrk, .inr (3, [.ref qe, .ref qN, .ref qS, .ref qR])), (qe, .inr (0, [.ref qt, .ref qh, .ref qm, .ref qb, .ref qx, .int (E 5), .int (E 6), .int (E 7), .int (E 8), .int (E 9), .int (E 10), .int (E 11)])), (qm, .inl (g.2 6, 5, .inr (.inr (.inr (.inr (rwM aM)))))), ((aM 0), .inl (g.2 0, 13, .inl (M 0))), ((aM 1), .inl (g.2 0, 13, .inl (M 1))), ((aM 2), .inl (g.2 0, 13, .inl (M 2))), ((aM 3), .inl (g.2 0, 13, .inl (M 3))), ((aM 4), .inl (g.2 0, 13, .inl (M 4))), (qt, .inr (7, [.ref ql, .ref qr, .ref qv, .ref qg, .int parts, .int limit])), (ql, .inl (g.2 0, 5, .inl len)), (qv, .inl (g.2 0, 5, .inl vot))]) (w1 := [(qR, .inl (g.2 0, 5, .inl fA_54))]) hP hD [1] [0, 2, 3, 4, 5, 6, 7, 8, 9, 10, 11] rfl rfl (by decide) (by decide) hk1 hFc hP1 hD1
      clear hP1 hD1 hPc hDc hFc hk1
      generalize H1 = H at hP hS ⊢
      have hP : va_P g.1 vwCl [(qrk, .inr (3, [.ref qe, .ref qN, .ref qS, .ref qR])), (qe, .inr (0, [.ref qt, .ref qh, .ref qm, .ref qb, .ref qx, .int (E 5), .int (E 6), .int (E 7), .int (E 8), .int (E 9), .int (E 10), .int (E 11)])), (qm, .inl (g.2 6, 5, .inr (.inr (.inr (.inr (rwM aM)))))), ((aM 0), .inl (g.2 0, 13, .inl (M 0))), ((aM 1), .inl (g.2 0, 13, .inl (M 1))), ((aM 2), .inl (g.2 0, 13, .inl (M 2))), ((aM 3), .inl (g.2 0, 13, .inl (M 3))), ((aM 4), .inl (g.2 0, 13, .inl (M 4))), (qt, .inr (7, [.ref ql, .ref qr, .ref qv, .ref qg, .int parts, .int limit])), (ql, .inl (g.2 0, 5, .inl len)), (qv, .inl (g.2 0, 5, .inl vot)), (qR, .inl (g.2 0, 5, .inl fA_54))] H := hP
      have hD : va_D A [(qrk, .inr (3, [.ref qe, .ref qN, .ref qS, .ref qR])), (qe, .inr (0, [.ref qt, .ref qh, .ref qm, .ref qb, .ref qx, .int (E 5), .int (E 6), .int (E 7), .int (E 8), .int (E 9), .int (E 10), .int (E 11)])), (qm, .inl (g.2 6, 5, .inr (.inr (.inr (.inr (rwM aM)))))), ((aM 0), .inl (g.2 0, 13, .inl (M 0))), ((aM 1), .inl (g.2 0, 13, .inl (M 1))), ((aM 2), .inl (g.2 0, 13, .inl (M 2))), ((aM 3), .inl (g.2 0, 13, .inl (M 3))), ((aM 4), .inl (g.2 0, 13, .inl (M 4))), (qt, .inr (7, [.ref ql, .ref qr, .ref qv, .ref qg, .int parts, .int limit])), (ql, .inl (g.2 0, 5, .inl len)), (qv, .inl (g.2 0, 5, .inl vot)), (qR, .inl (g.2 0, 5, .inl fA_54))] := hD
      refine lv_iconst (v := (0 : Int32)) hx hb dX3_placeOf_57 (by decide) ?_
      refine lv_istore_n (lv' := [(3, .int (0 : Int32)), (2, .int r_45), (0, .ref qrk), (1, .int p1)]) hx hb dX3_placeOf_58 rfl hl (by decide) rfl (fun ls hl => ?_)
      refine lv_iconst (v := (0 : Int32)) hx hb dX3_placeOf_59 (by decide) ?_
      refine lv_istore (lv' := [(4, .int (0 : Int32)), (3, .int (0 : Int32)), (2, .int r_45), (0, .ref qrk), (1, .int p1)]) hx hb dX3_placeOf_60 hl (by decide) rfl (fun ls hl => ?_)
      obtain ⟨nn, hv⟩ := hv
      exact kX3_placeOf_c62 S hr hlocks hG hA nn _ _ _ _ hv _ _ (hP.sub (ws' := [(qrk, .inr (3, [.ref qe, .ref qN, .ref qS, .ref qR])), (qR, .inl (g.2 0, 5, .inl fA_54)), (qe, .inr (0, [.ref qt, .ref qh, .ref qm, .ref qb, .ref qx, .int (E 5), .int (E 6), .int (E 7), .int (E 8), .int (E 9), .int (E 10), .int (E 11)])), (qm, .inl (g.2 6, 5, .inr (.inr (.inr (.inr (rwM aM)))))), ((aM 0), .inl (g.2 0, 13, .inl (M 0))), ((aM 1), .inl (g.2 0, 13, .inl (M 1))), ((aM 2), .inl (g.2 0, 13, .inl (M 2))), ((aM 3), .inl (g.2 0, 13, .inl (M 3))), ((aM 4), .inl (g.2 0, 13, .inl (M 4))), (qt, .inr (7, [.ref ql, .ref qr, .ref qv, .ref qg, .int parts, .int limit])), (ql, .inl (g.2 0, 5, .inl len)), (qv, .inl (g.2 0, 5, .inl vot))]) [0, 11, 1, 2, 3, 4, 5, 6, 7, 8, 9, 10] rfl) (hD.sub (ws' := [(qrk, .inr (3, [.ref qe, .ref qN, .ref qS, .ref qR])), (qR, .inl (g.2 0, 5, .inl fA_54)), (qe, .inr (0, [.ref qt, .ref qh, .ref qm, .ref qb, .ref qx, .int (E 5), .int (E 6), .int (E 7), .int (E 8), .int (E 9), .int (E 10), .int (E 11)])), (qm, .inl (g.2 6, 5, .inr (.inr (.inr (.inr (rwM aM)))))), ((aM 0), .inl (g.2 0, 13, .inl (M 0))), ((aM 1), .inl (g.2 0, 13, .inl (M 1))), ((aM 2), .inl (g.2 0, 13, .inl (M 2))), ((aM 3), .inl (g.2 0, 13, .inl (M 3))), ((aM 4), .inl (g.2 0, 13, .inl (M 4))), (qt, .inr (7, [.ref ql, .ref qr, .ref qv, .ref qg, .int parts, .int limit])), (ql, .inl (g.2 0, 5, .inl len)), (qv, .inl (g.2 0, 5, .inl vot))]) [0, 11, 1, 2, 3, 4, 5, 6, 7, 8, 9, 10] (by decide) rfl) hS ls (lv_sub hl [3, 4, 2, 1, 0] rfl)
    · have hv := hvf hc
      refine lv_aload_n hx hb dX3_placeOf_16 rfl (lv_at hl 0 rfl) ?_
      refine va_get (D := g.1) (ci := 3) (v := .ref qR) (C := RX3) (T := TX3) (N := 4) hx hb hts inX3_placeOf_3 hown hK hP 0 rfl rfl 3 (by decide) (hts (.fieldLink RX3 18 "RangeCodes$Ranking" "rests" "[I") (List.mem_of_getElem? (i := 4) rfl)) (fun _ h9 => h9) rfl dX3_placeOf_17 ?_
      refine lv_iload_n hx hb dX3_placeOf_20 rfl (lv_at hl 2 rfl) ?_
      refine lv_iload_n hx hb dX3_placeOf_21 rfl (lv_at hl 1 rfl) ?_
      refine lv_aload_n hx hb dX3_placeOf_22 rfl (lv_at hl 0 rfl) ?_
      refine va_get (D := g.1) (ci := 3) (v := .ref qe) (C := RX3) (T := TX3) (N := 4) hx hb hts inX3_placeOf_3 hown hK hP 0 rfl rfl 0 (by decide) (hts (.fieldLink RX3 21 "RangeCodes$Ranking" "ear" "LRangeCodes$Ear;") (List.mem_of_getElem? (i := 1) rfl)) (fun _ h9 => h9) rfl dX3_placeOf_23 ?_
      refine va_get (D := g.1) (ci := 0) (v := .ref qt) (C := RX0) (T := TX0) (N := 12) hx hb hts inX3_placeOf_0 hown hK hP 2 rfl rfl 0 (by decide) (hts (.fieldLink RX3 31 "RangeCodes$Ear" "told" "LRangeCodes$Told;") (List.mem_of_getElem? (i := 2) rfl)) (fun _ h9 => h9) rfl dX3_placeOf_26 ?_
      refine va_get (D := g.1) (ci := 7) (v := .ref ql) (C := RX7) (T := TX7) (N := 6) hx hb hts inX3_placeOf_7 hown hK hP 9 rfl rfl 0 (by decide) (hts (.fieldLink RX3 60 "RangeCodes$Told" "lengths" "[I") (List.mem_of_getElem? (i := 5) rfl)) (fun _ h9 => h9) rfl dX3_placeOf_29 ?_
      refine lv_iload_n hx hb dX3_placeOf_32 rfl (lv_at hl 2 rfl) ?_
      obtain ⟨ho_3, hv⟩ := hv
      refine va_iald hx hb hK hP 10 0 rfl rfl ho_3 dX3_placeOf_33 ?_
      obtain ⟨ho_4, hv⟩ := hv
      refine vp_callSi (run_of (va_runSN (As := [.int p1, .int (len x2.toNatClampNeg)]) (rest := [.int x2, .ref qR]) S (wX8_rest l g p1 (len x2.toNatClampNeg) (sX8_rest p1 (len x2.toNatClampNeg) ho_4)) ⟨va_cnB 2 hts gX3_placeOf_X8_rest_n63 rfl rfl rfl (hG.2 _ (List.mem_of_getElem? (i := 4) rfl)) (hts (.initialized RX8) (List.mem_of_getElem? (i := 8) rfl)) (by decide +kernel) ⟨Nat.le_of_ble_eq_true rfl, Nat.le_of_ble_eq_true rfl⟩, (hts (.static yX8_rest) (List.mem_of_getElem? (i := 7) rfl)), trivial⟩ ⟨blindRO, fun U hU hW => ⟨rfl, by rw [hU]; exact hP.sub (ws' := []) [] rfl, hG.warm hW⟩⟩ rfl rfl hl.1 rfl (lv_room (Nat.le_of_ble_eq_true rfl)) dX3_placeOf_34 ⟨Nat.le_of_ble_eq_true rfl, Nat.le_of_ble_eq_true rfl⟩)) (fun r_34 hr_34 => ?_)
      have hv := hv r_34 hr_34
      obtain ⟨ho_5, hv⟩ := hv
      refine va_iast hx hb hK hP hD hS 1 0 rfl rfl ho_5 dX3_placeOf_37 (fun H locs hP hD hS => ?_)
      have hP : va_P g.1 vwCl [(qrk, .inr (3, [.ref qe, .ref qN, .ref qS, .ref qR])), (qR, .inl (g.2 0, 5, .inl (upd rs x2.toNatClampNeg r_34))), (qe, .inr (0, [.ref qt, .ref qh, .ref qm, .ref qb, .ref qx, .int (E 5), .int (E 6), .int (E 7), .int (E 8), .int (E 9), .int (E 10), .int (E 11)])), (qm, .inl (g.2 6, 5, .inr (.inr (.inr (.inr (rwM aM)))))), ((aM 0), .inl (g.2 0, 13, .inl (M 0))), ((aM 1), .inl (g.2 0, 13, .inl (M 1))), ((aM 2), .inl (g.2 0, 13, .inl (M 2))), ((aM 3), .inl (g.2 0, 13, .inl (M 3))), ((aM 4), .inl (g.2 0, 13, .inl (M 4))), (qt, .inr (7, [.ref ql, .ref qr, .ref qv, .ref qg, .int parts, .int limit])), (ql, .inl (g.2 0, 5, .inl len)), (qv, .inl (g.2 0, 5, .inl vot))] H := hP
      have hD : va_D A [(qrk, .inr (3, [.ref qe, .ref qN, .ref qS, .ref qR])), (qR, .inl (g.2 0, 5, .inl (upd rs x2.toNatClampNeg r_34))), (qe, .inr (0, [.ref qt, .ref qh, .ref qm, .ref qb, .ref qx, .int (E 5), .int (E 6), .int (E 7), .int (E 8), .int (E 9), .int (E 10), .int (E 11)])), (qm, .inl (g.2 6, 5, .inr (.inr (.inr (.inr (rwM aM)))))), ((aM 0), .inl (g.2 0, 13, .inl (M 0))), ((aM 1), .inl (g.2 0, 13, .inl (M 1))), ((aM 2), .inl (g.2 0, 13, .inl (M 2))), ((aM 3), .inl (g.2 0, 13, .inl (M 3))), ((aM 4), .inl (g.2 0, 13, .inl (M 4))), (qt, .inr (7, [.ref ql, .ref qr, .ref qv, .ref qg, .int parts, .int limit])), (ql, .inl (g.2 0, 5, .inl len)), (qv, .inl (g.2 0, 5, .inl vot))] := hD
      refine lv_iinc (v := (x2 + (1 : Int32))) (lv' := [(2, .int (x2 + (1 : Int32))), (0, .ref qrk), (1, .int p1)]) hx hb dX3_placeOf_38 hl (k := 2) rfl rfl (by decide) rfl (fun ls hl => ?_)
      refine lv_goto (tgt := 2) hx hb dX3_placeOf_41 (by decide) ?_
      exact ih _ _ hv _ _ (hP.sub (ws' := [(qrk, .inr (3, [.ref qe, .ref qN, .ref qS, .ref qR])), (qR, .inl (g.2 0, 5, .inl (upd rs x2.toNatClampNeg r_34))), (qe, .inr (0, [.ref qt, .ref qh, .ref qm, .ref qb, .ref qx, .int (E 5), .int (E 6), .int (E 7), .int (E 8), .int (E 9), .int (E 10), .int (E 11)])), (qm, .inl (g.2 6, 5, .inr (.inr (.inr (.inr (rwM aM)))))), ((aM 0), .inl (g.2 0, 13, .inl (M 0))), ((aM 1), .inl (g.2 0, 13, .inl (M 1))), ((aM 2), .inl (g.2 0, 13, .inl (M 2))), ((aM 3), .inl (g.2 0, 13, .inl (M 3))), ((aM 4), .inl (g.2 0, 13, .inl (M 4))), (qt, .inr (7, [.ref ql, .ref qr, .ref qv, .ref qg, .int parts, .int limit])), (ql, .inl (g.2 0, 5, .inl len)), (qv, .inl (g.2 0, 5, .inl vot))]) [0, 1, 2, 3, 4, 5, 6, 7, 8, 9, 10, 11] rfl) (hD.sub (ws' := [(qrk, .inr (3, [.ref qe, .ref qN, .ref qS, .ref qR])), (qR, .inl (g.2 0, 5, .inl (upd rs x2.toNatClampNeg r_34))), (qe, .inr (0, [.ref qt, .ref qh, .ref qm, .ref qb, .ref qx, .int (E 5), .int (E 6), .int (E 7), .int (E 8), .int (E 9), .int (E 10), .int (E 11)])), (qm, .inl (g.2 6, 5, .inr (.inr (.inr (.inr (rwM aM)))))), ((aM 0), .inl (g.2 0, 13, .inl (M 0))), ((aM 1), .inl (g.2 0, 13, .inl (M 1))), ((aM 2), .inl (g.2 0, 13, .inl (M 2))), ((aM 3), .inl (g.2 0, 13, .inl (M 3))), ((aM 4), .inl (g.2 0, 13, .inl (M 4))), (qt, .inr (7, [.ref ql, .ref qr, .ref qv, .ref qg, .int parts, .int limit])), (ql, .inl (g.2 0, 5, .inl len)), (qv, .inl (g.2 0, 5, .inl vot))]) [0, 1, 2, 3, 4, 5, 6, 7, 8, 9, 10, 11] (by decide) rfl) hS ls (lv_sub hl [1, 2, 0] rfl)
def vX3_placeOf (rs : Nat → Int32) (E : Nat → Int32) (M : Nat → Nat → Int32) (parts : Int32) (limit : Int32) (len : Nat → Int32) (vot : Nat → Int32) (p1 : Int32) (Q : Int32 → (Nat → Int32) → Prop) : Prop := (∃ nn, vX3_placeOf_c2 E M parts limit len vot p1 Q nn (0 : Int32) rs)
set_option maxHeartbeats 4000000 in
set_option maxRecDepth 100000 in
theorem wX3_placeOf (l : Launch) (g : GP) (qrk : Nat) (qN : Nat) (qS : Nat) (qR : Nat) (qh : Nat) (qm : Nat) (qb : Nat) (qx : Nat) (aM : Nat → Nat) (ql : Nat) (qr : Nat) (qv : Nat) (qg : Nat) (qe : Nat) (qt : Nat) (sz : Nat) (rs : Nat → Int32) (E : Nat → Int32) (M : Nat → Nat → Int32) (parts : Int32) (limit : Int32) (len : Nat → Int32) (vot : Nat → Int32) (p1 : Int32) {Q : Int32 → (Nat → Int32) → Prop} (hv : vX3_placeOf rs E M parts limit len vot p1 Q) : Met l yX3_placeOf wsX3_placeOf rmX3_placeOf (va_Pc [.ref qrk, .int p1] (fun U => U.heap.size = sz ∧ va_P g.1 vwCl [(qrk, .inr (3, [.ref qe, .ref qN, .ref qS, .ref qR])), (qR, .inl (g.2 0, 5, .inl rs)), (qe, .inr (0, [.ref qt, .ref qh, .ref qm, .ref qb, .ref qx, .int (E 5), .int (E 6), .int (E 7), .int (E 8), .int (E 9), .int (E 10), .int (E 11)])), (qm, .inl (g.2 6, 5, .inr (.inr (.inr (.inr (rwM aM)))))), ((aM 0), .inl (g.2 0, 13, .inl (M 0))), ((aM 1), .inl (g.2 0, 13, .inl (M 1))), ((aM 2), .inl (g.2 0, 13, .inl (M 2))), ((aM 3), .inl (g.2 0, 13, .inl (M 3))), ((aM 4), .inl (g.2 0, 13, .inl (M 4))), (qt, .inr (7, [.ref ql, .ref qr, .ref qv, .ref qg, .int parts, .int limit])), (ql, .inl (g.2 0, 5, .inl len)), (qv, .inl (g.2 0, 5, .inl vot))] U.heap ∧ GK g U ∧ va_D (fun _ => True) [(qrk, .inr (3, [.ref qe, .ref qN, .ref qS, .ref qR])), (qR, .inl (g.2 0, 5, .inl rs)), (qe, .inr (0, [.ref qt, .ref qh, .ref qm, .ref qb, .ref qx, .int (E 5), .int (E 6), .int (E 7), .int (E 8), .int (E 9), .int (E 10), .int (E 11)])), (qm, .inl (g.2 6, 5, .inr (.inr (.inr (.inr (rwM aM)))))), ((aM 0), .inl (g.2 0, 13, .inl (M 0))), ((aM 1), .inl (g.2 0, 13, .inl (M 1))), ((aM 2), .inl (g.2 0, 13, .inl (M 2))), ((aM 3), .inl (g.2 0, 13, .inl (M 3))), ((aM 4), .inl (g.2 0, 13, .inl (M 4))), (qt, .inr (7, [.ref ql, .ref qr, .ref qv, .ref qg, .int parts, .int limit])), (ql, .inl (g.2 0, 5, .inl len)), (qv, .inl (g.2 0, 5, .inl vot))])) (va_Qi (fun (r : Int32) (u : (Nat → Int32)) => Q r u) (fun (u : (Nat → Int32)) t => va_P g.1 vwCl [(qrk, .inr (3, [.ref qe, .ref qN, .ref qS, .ref qR])), (qR, .inl (g.2 0, 5, .inl u)), (qe, .inr (0, [.ref qt, .ref qh, .ref qm, .ref qb, .ref qx, .int (E 5), .int (E 6), .int (E 7), .int (E 8), .int (E 9), .int (E 10), .int (E 11)])), (qm, .inl (g.2 6, 5, .inr (.inr (.inr (.inr (rwM aM)))))), ((aM 0), .inl (g.2 0, 13, .inl (M 0))), ((aM 1), .inl (g.2 0, 13, .inl (M 1))), ((aM 2), .inl (g.2 0, 13, .inl (M 2))), ((aM 3), .inl (g.2 0, 13, .inl (M 3))), ((aM 4), .inl (g.2 0, 13, .inl (M 4))), (qt, .inr (7, [.ref ql, .ref qr, .ref qv, .ref qg, .int parts, .int limit])), (ql, .inl (g.2 0, 5, .inl len)), (qv, .inl (g.2 0, 5, .inl vot))] t.heap ∧ va_D (va_A [(qrk, .inr (3, [.ref qe, .ref qN, .ref qS, .ref qR])), (qR, .inl (g.2 0, 5, .inl rs)), (qe, .inr (0, [.ref qt, .ref qh, .ref qm, .ref qb, .ref qx, .int (E 5), .int (E 6), .int (E 7), .int (E 8), .int (E 9), .int (E 10), .int (E 11)])), (qm, .inl (g.2 6, 5, .inr (.inr (.inr (.inr (rwM aM)))))), ((aM 0), .inl (g.2 0, 13, .inl (M 0))), ((aM 1), .inl (g.2 0, 13, .inl (M 1))), ((aM 2), .inl (g.2 0, 13, .inl (M 2))), ((aM 3), .inl (g.2 0, 13, .inl (M 3))), ((aM 4), .inl (g.2 0, 13, .inl (M 4))), (qt, .inr (7, [.ref ql, .ref qr, .ref qv, .ref qg, .int parts, .int limit])), (ql, .inl (g.2 0, 5, .inl len)), (qv, .inl (g.2 0, 5, .inl vot))] sz) [(qrk, .inr (3, [.ref qe, .ref qN, .ref qS, .ref qR])), (qR, .inl (g.2 0, 5, .inl u)), (qe, .inr (0, [.ref qt, .ref qh, .ref qm, .ref qb, .ref qx, .int (E 5), .int (E 6), .int (E 7), .int (E 8), .int (E 9), .int (E 10), .int (E 11)])), (qm, .inl (g.2 6, 5, .inr (.inr (.inr (.inr (rwM aM)))))), ((aM 0), .inl (g.2 0, 13, .inl (M 0))), ((aM 1), .inl (g.2 0, 13, .inl (M 1))), ((aM 2), .inl (g.2 0, 13, .inl (M 2))), ((aM 3), .inl (g.2 0, 13, .inl (M 3))), ((aM 4), .inl (g.2 0, 13, .inl (M 4))), (qt, .inr (7, [.ref ql, .ref qr, .ref qv, .ref qg, .int parts, .int limit])), (ql, .inl (g.2 0, 5, .inl len)), (qv, .inl (g.2 0, 5, .inl vot))]) (va_A [(qrk, .inr (3, [.ref qe, .ref qN, .ref qS, .ref qR])), (qR, .inl (g.2 0, 5, .inl rs)), (qe, .inr (0, [.ref qt, .ref qh, .ref qm, .ref qb, .ref qx, .int (E 5), .int (E 6), .int (E 7), .int (E 8), .int (E 9), .int (E 10), .int (E 11)])), (qm, .inl (g.2 6, 5, .inr (.inr (.inr (.inr (rwM aM)))))), ((aM 0), .inl (g.2 0, 13, .inl (M 0))), ((aM 1), .inl (g.2 0, 13, .inl (M 1))), ((aM 2), .inl (g.2 0, 13, .inl (M 2))), ((aM 3), .inl (g.2 0, 13, .inl (M 3))), ((aM 4), .inl (g.2 0, 13, .inl (M 4))), (qt, .inr (7, [.ref ql, .ref qr, .ref qv, .ref qg, .int parts, .int limit])), (ql, .inl (g.2 0, 5, .inl len)), (qv, .inl (g.2 0, 5, .inl vot))] sz)) 0 0 (va_A [(qrk, .inr (3, [.ref qe, .ref qN, .ref qS, .ref qR])), (qR, .inl (g.2 0, 5, .inl rs)), (qe, .inr (0, [.ref qt, .ref qh, .ref qm, .ref qb, .ref qx, .int (E 5), .int (E 6), .int (E 7), .int (E 8), .int (E 9), .int (E 10), .int (E 11)])), (qm, .inl (g.2 6, 5, .inr (.inr (.inr (.inr (rwM aM)))))), ((aM 0), .inl (g.2 0, 13, .inl (M 0))), ((aM 1), .inl (g.2 0, 13, .inl (M 1))), ((aM 2), .inl (g.2 0, 13, .inl (M 2))), ((aM 3), .inl (g.2 0, 13, .inl (M 3))), ((aM 4), .inl (g.2 0, 13, .inl (M 4))), (qt, .inr (7, [.ref ql, .ref qr, .ref qv, .ref qg, .int parts, .int limit])), (ql, .inl (g.2 0, 5, .inl len)), (qv, .inl (g.2 0, 5, .inl vot))] sz) := by
  refine Met.ofW (cc := cX3_placeOf) (maxL := 6) (ret := (some .int)) (by decide) rfl ?_
  intro p e s m args below meth c s₁ B hml hv'
  obtain ⟨rfl, hsz, hP, hG, hD0⟩ := hv'
  have S : CallFix p m c cX3_placeOf 6 s _ wsX3_placeOf RX3 := ⟨B.exec, B.bytes, hml, findClass_of_methodNamed B.named, atoms_spec (ws := wsX3_placeOf) B.pre⟩
  obtain ⟨hx, hb, hml, hown, hts⟩ := id S
  have hK := hG.1
  have hr := B.returns
  have hlocks := B.notSynchronized
  subst hsz
  have hD := hD0.self (sz := s.heap.size)
  generalize hAe : va_A [(qrk, .inr (3, [.ref qe, .ref qN, .ref qS, .ref qR])), (qR, .inl (g.2 0, 5, .inl rs)), (qe, .inr (0, [.ref qt, .ref qh, .ref qm, .ref qb, .ref qx, .int (E 5), .int (E 6), .int (E 7), .int (E 8), .int (E 9), .int (E 10), .int (E 11)])), (qm, .inl (g.2 6, 5, .inr (.inr (.inr (.inr (rwM aM)))))), ((aM 0), .inl (g.2 0, 13, .inl (M 0))), ((aM 1), .inl (g.2 0, 13, .inl (M 1))), ((aM 2), .inl (g.2 0, 13, .inl (M 2))), ((aM 3), .inl (g.2 0, 13, .inl (M 3))), ((aM 4), .inl (g.2 0, 13, .inl (M 4))), (qt, .inr (7, [.ref ql, .ref qr, .ref qv, .ref qg, .int parts, .int limit])), (ql, .inl (g.2 0, 5, .inl len)), (qv, .inl (g.2 0, 5, .inl vot))] s.heap.size = A at hD ⊢
  have hA : ∀ q : Nat, s.heap.size ≤ q → A q := fun q h => by rw [← hAe]; exact Or.inr h
  have hS : va_S A s.heap s.heap [] := va_S.rf
  clear hD0 hAe
  have hl := lv_entry ([.ref qrk, .int p1]) (n := 6) (Nat.le_of_ble_eq_true rfl)
  rw [lg_entry_eq]
  generalize (lg_sl ([.ref qrk, .int p1]) ++ List.replicate (6 - (lg_sl ([.ref qrk, .int p1])).length) Slot.unset).toArray = ls at hl ⊢
  have hl : lv_has ls 6 [(0, .ref qrk), (1, .int p1)] := hl
  unfold vX3_placeOf at hv
  refine lv_iconst (v := (0 : Int32)) hx hb dX3_placeOf_0 (by decide) ?_
  refine lv_istore_n (lv' := [(2, .int (0 : Int32)), (0, .ref qrk), (1, .int p1)]) hx hb dX3_placeOf_1 rfl hl (by decide) rfl (fun ls hl => ?_)
  obtain ⟨nn, hv⟩ := hv
  exact kX3_placeOf_c2 S hr hlocks hG hA nn _ _ hv _ _ (hP.sub (ws' := [(qrk, .inr (3, [.ref qe, .ref qN, .ref qS, .ref qR])), (qR, .inl (g.2 0, 5, .inl rs)), (qe, .inr (0, [.ref qt, .ref qh, .ref qm, .ref qb, .ref qx, .int (E 5), .int (E 6), .int (E 7), .int (E 8), .int (E 9), .int (E 10), .int (E 11)])), (qm, .inl (g.2 6, 5, .inr (.inr (.inr (.inr (rwM aM)))))), ((aM 0), .inl (g.2 0, 13, .inl (M 0))), ((aM 1), .inl (g.2 0, 13, .inl (M 1))), ((aM 2), .inl (g.2 0, 13, .inl (M 2))), ((aM 3), .inl (g.2 0, 13, .inl (M 3))), ((aM 4), .inl (g.2 0, 13, .inl (M 4))), (qt, .inr (7, [.ref ql, .ref qr, .ref qv, .ref qg, .int parts, .int limit])), (ql, .inl (g.2 0, 5, .inl len)), (qv, .inl (g.2 0, 5, .inl vot))]) [0, 1, 2, 3, 4, 5, 6, 7, 8, 9, 10, 11] rfl) (hD.sub (ws' := [(qrk, .inr (3, [.ref qe, .ref qN, .ref qS, .ref qR])), (qR, .inl (g.2 0, 5, .inl rs)), (qe, .inr (0, [.ref qt, .ref qh, .ref qm, .ref qb, .ref qx, .int (E 5), .int (E 6), .int (E 7), .int (E 8), .int (E 9), .int (E 10), .int (E 11)])), (qm, .inl (g.2 6, 5, .inr (.inr (.inr (.inr (rwM aM)))))), ((aM 0), .inl (g.2 0, 13, .inl (M 0))), ((aM 1), .inl (g.2 0, 13, .inl (M 1))), ((aM 2), .inl (g.2 0, 13, .inl (M 2))), ((aM 3), .inl (g.2 0, 13, .inl (M 3))), ((aM 4), .inl (g.2 0, 13, .inl (M 4))), (qt, .inr (7, [.ref ql, .ref qr, .ref qv, .ref qg, .int parts, .int limit])), (ql, .inl (g.2 0, 5, .inl len)), (qv, .inl (g.2 0, 5, .inl vot))]) [0, 1, 2, 3, 4, 5, 6, 7, 8, 9, 10, 11] (by decide) rfl) hS ls (lv_sub hl [1, 2, 0] rfl)
abbrev preX3_placeOf (T : Cd) (m : Nat → Nat → Int) (lim : Nat) (rs : Nat → Int32) (E : Nat → Int32) (M : Nat → Nat → Int32) (parts : Int32) (limit : Int32) (len : Nat → Int32) (vot : Nat → Int32) (p1 : Int32) : Prop := rkC T m M parts len vot ∧ limit.toInt = (lim : Int) ∧ lim ≤ 9999 ∧ 0 ≤ p1.toInt
abbrev postX3_placeOf (T : Cd) (m : Nat → Nat → Int) (lim : Nat) (rs : Nat → Int32) (E : Nat → Int32) (M : Nat → Nat → Int32) (parts : Int32) (limit : Int32) (len : Nat → Int32) (vot : Nat → Int32) (p1 : Int32) (r : Int32) (rs' : Nat → Int32) : Prop := r.toInt = (rkN (scr T m) lim p1.toInt.toNat : Int)
theorem sX3_placeOf_62 (T : Cd) (m : Nat → Nat → Int) (lim : Nat) (E : Nat → Int32) (M : Nat → Nat → Int32) (parts limit : Int32) (len vot : Nat → Int32) (p1 : Int32) (H : rkC T m M parts len vot ∧ limit.toInt = (lim : Int) ∧ lim ≤ 9999 ∧ 0 ≤ p1.toInt) (Q : Int32 → (Nat → Int32) → Prop) (hQ : ∀ (r : Int32) (rs' : Nat → Int32), r.toInt = (rkN (scr T m) lim p1.toInt.toNat : Int) → Q r rs') (x2 : Int32) (h2 : x2.toInt = scr T m p1.toInt.toNat) : ∀ (n i : Nat) (x3 x4 : Int32) (rs : Nat → Int32), x3.toInt = (fa_cnt (fun j => bfB (scr T m) j p1.toInt.toNat) i : Int) → x4.toInt = (i : Int) → (∀ p, p < cn T → (rs p).toInt = ((i % cL T p : Nat) : Int)) → i ≤ lim → lim + 1 ≤ i + n → vX3_placeOf_c62 E M parts limit len vot p1 Q n x2 x3 x4 rs
  | 0, i, x3, x4, rs, _, _, _, hi, hn => absurd hn (by omega)
  | n + 1, i, x3, x4, rs, h3, h4, hrs, hi, hn => by
    obtain ⟨hC, hlim, hl9, hp1⟩ := id H
    have hcl := fa_cnt_le (fun j => bfB (scr T m) j p1.toInt.toNat) i
    have h4s := q_1 h4 (by omega)
    rw [vX3_placeOf_c62, q_le hlim h4]
    refine ⟨fun hc => ?_, fun hc => ⟨T, m, i, ⟨hC, hrs⟩, fun r rs2 hr => ?_⟩⟩
    · have : i = lim := by omega
      subst this
      exact hQ _ _ h3
    · obtain ⟨hr, hrs2⟩ := hr
      have yes : (scr T m p1.toInt.toNat < scr T m i ∨ (scr T m i = scr T m p1.toInt.toNat ∧ i < p1.toInt.toNat)) → vX3_placeOf_c62 E M parts limit len vot p1 Q n x2 (x3 + (1 : Int32)) (x4 + (1 : Int32)) rs2 := fun q =>
        sX3_placeOf_62 T m lim E M parts limit len vot p1 H Q hQ x2 h2 n (i + 1) _ _ _ (by rw [fa_cnt_yes (p := fun j => bfB (scr T m) j p1.toInt.toNat) (n := i) (bf_iff.mpr q)]; exact q_1 h3 (by omega)) h4s hrs2 (by omega) (by omega)
      have no : ¬ (scr T m p1.toInt.toNat < scr T m i ∨ (scr T m i = scr T m p1.toInt.toNat ∧ i < p1.toInt.toNat)) → vX3_placeOf_c62 E M parts limit len vot p1 Q n x2 x3 (x4 + (1 : Int32)) rs2 := fun q =>
        sX3_placeOf_62 T m lim E M parts limit len vot p1 H Q hQ x2 h2 n (i + 1) _ _ _ (by rw [fa_cnt_no (p := fun j => bfB (scr T m) j p1.toInt.toNat) (n := i) (bf_no q)]; exact h3) h4s hrs2 (by omega) (by omega)
      rw [q_lt h2 hr, q_eq hr h2, fa_le p1, h4]
      refine ⟨fun q => yes (Or.inl q), fun q => ⟨fun q2 => no (fun z => by omega), fun q2 => ⟨fun q3 => no (fun z => by omega), fun q3 => yes (Or.inr ⟨q2, by omega⟩)⟩⟩⟩
theorem sX3_placeOf_2 (T : Cd) (m : Nat → Nat → Int) (lim : Nat) (E : Nat → Int32) (M : Nat → Nat → Int32) (parts limit : Int32) (len vot : Nat → Int32) (p1 : Int32) (H : rkC T m M parts len vot ∧ limit.toInt = (lim : Int) ∧ lim ≤ 9999 ∧ 0 ≤ p1.toInt) (Q : Int32 → (Nat → Int32) → Prop) (hQ : ∀ (r : Int32) (rs' : Nat → Int32), r.toInt = (rkN (scr T m) lim p1.toInt.toNat : Int) → Q r rs') : ∀ (n i : Nat) (x2 : Int32) (rs : Nat → Int32), x2.toInt = (i : Int) → (∀ p, p < i → (rs p).toInt = ((p1.toInt.toNat % cL T p : Nat) : Int)) → i ≤ cn T → cn T + 1 ≤ i + n → vX3_placeOf_c2 E M parts limit len vot p1 Q n x2 rs
  | 0, i, x2, rs, _, _, hi, hn => absurd hn (by omega)
  | n + 1, i, x2, rs, h2, hrs, hi, hn => by
    obtain ⟨hC, hlim, hl9, hp1⟩ := id H
    have hn5 := hC.1.2
    rw [vX3_placeOf_c2, q_le hC.1.1 h2]
    refine ⟨fun hc => ⟨T, m, p1.toInt.toNat, ⟨hC, fun p hp => hrs p (by omega)⟩, fun r rs2 hr => ⟨by show 5 < 2147483647; omega, fun f hf => ⟨lim + 1, sX3_placeOf_62 T m lim E M parts limit len vot p1 H Q hQ r hr.1 (lim + 1) 0 0 0 f rfl rfl (fun p hp => ?_) (by omega) (by omega)⟩⟩⟩, fun hc => ⟨q_in h2 (by omega), ?_⟩⟩
    · rw [hf p, if_pos (by omega), Nat.zero_mod]; rfl
    · have hl := hC.2.1 i (by omega)
      rw [q_cl h2]
      refine ⟨by show 0 < (len i).toInt; omega, fun r hr => ⟨q_in h2 (by omega), sX3_placeOf_2 T m lim E M parts limit len vot p1 H Q hQ n (i + 1) _ _ (q_1 h2 (by omega)) (fun p hp => ?_) (by omega) (by omega)⟩⟩
      have hr : r.toInt = p1.toInt % (len i).toInt := hr
      by_cases e : p = i
      · subst e
        rw [upd_eq, hr, hl.1, Int.natCast_emod]
        congr 1; omega
      · rw [upd_ne e]; exact hrs p (by omega)
theorem sX3_placeOf (T : Cd) (m : Nat → Nat → Int) (lim : Nat) (rs : Nat → Int32) (E : Nat → Int32) (M : Nat → Nat → Int32) (parts : Int32) (limit : Int32) (len : Nat → Int32) (vot : Nat → Int32) (p1 : Int32) (H : preX3_placeOf T m lim rs E M parts limit len vot p1) : vX3_placeOf rs E M parts limit len vot p1 (postX3_placeOf T m lim rs E M parts limit len vot p1) := ⟨cn T + 1, sX3_placeOf_2 T m lim E M parts limit len vot p1 H _ (fun r rs' h => h) (cn T + 1) 0 0 rs rfl (fun p hp => absurd hp (by omega)) (by omega) (by omega)⟩
theorem dX3_putIn_0 : decode cX3_putIn 0 = .ok (.iload_n 3, 1) := by decide +kernel
theorem dX3_putIn_1 : decode cX3_putIn 1 = .ok (.istore 4, 2) := by decide +kernel
theorem dX3_putIn_3 : decode cX3_putIn 3 = .ok (.iload 4, 2) := by decide +kernel
theorem dX3_putIn_5 : decode cX3_putIn 5 = .ok (.ifCond .le 54, 3) := by decide +kernel
theorem dX3_putIn_8 : decode cX3_putIn 8 = .ok (.aload_n 0, 1) := by decide +kernel
theorem dX3_putIn_9 : decode cX3_putIn 9 = .ok (.getfield 15, 3) := by decide +kernel
theorem dX3_putIn_12 : decode cX3_putIn 12 = .ok (.iload 4, 2) := by decide +kernel
theorem dX3_putIn_14 : decode cX3_putIn 14 = .ok (.iconst 1, 1) := by decide +kernel
theorem dX3_putIn_15 : decode cX3_putIn 15 = .ok (.isub, 1) := by decide +kernel
theorem dX3_putIn_16 : decode cX3_putIn 16 = .ok (.iaload, 1) := by decide +kernel
theorem dX3_putIn_17 : decode cX3_putIn 17 = .ok (.iload_n 2, 1) := by decide +kernel
theorem dX3_putIn_18 : decode cX3_putIn 18 = .ok (.if_icmp .ge 41, 3) := by decide +kernel
theorem dX3_putIn_21 : decode cX3_putIn 21 = .ok (.aload_n 0, 1) := by decide +kernel
theorem dX3_putIn_22 : decode cX3_putIn 22 = .ok (.getfield 15, 3) := by decide +kernel
theorem dX3_putIn_25 : decode cX3_putIn 25 = .ok (.iload 4, 2) := by decide +kernel
theorem dX3_putIn_27 : decode cX3_putIn 27 = .ok (.aload_n 0, 1) := by decide +kernel
theorem dX3_putIn_28 : decode cX3_putIn 28 = .ok (.getfield 15, 3) := by decide +kernel
theorem dX3_putIn_31 : decode cX3_putIn 31 = .ok (.iload 4, 2) := by decide +kernel
theorem dX3_putIn_33 : decode cX3_putIn 33 = .ok (.iconst 1, 1) := by decide +kernel
theorem dX3_putIn_34 : decode cX3_putIn 34 = .ok (.isub, 1) := by decide +kernel
theorem dX3_putIn_35 : decode cX3_putIn 35 = .ok (.iaload, 1) := by decide +kernel
theorem dX3_putIn_36 : decode cX3_putIn 36 = .ok (.iastore, 1) := by decide +kernel
theorem dX3_putIn_37 : decode cX3_putIn 37 = .ok (.aload_n 0, 1) := by decide +kernel
theorem dX3_putIn_38 : decode cX3_putIn 38 = .ok (.getfield 9, 3) := by decide +kernel
theorem dX3_putIn_41 : decode cX3_putIn 41 = .ok (.iload 4, 2) := by decide +kernel
theorem dX3_putIn_43 : decode cX3_putIn 43 = .ok (.aload_n 0, 1) := by decide +kernel
theorem dX3_putIn_44 : decode cX3_putIn 44 = .ok (.getfield 9, 3) := by decide +kernel
theorem dX3_putIn_47 : decode cX3_putIn 47 = .ok (.iload 4, 2) := by decide +kernel
theorem dX3_putIn_49 : decode cX3_putIn 49 = .ok (.iconst 1, 1) := by decide +kernel
theorem dX3_putIn_50 : decode cX3_putIn 50 = .ok (.isub, 1) := by decide +kernel
theorem dX3_putIn_51 : decode cX3_putIn 51 = .ok (.iaload, 1) := by decide +kernel
theorem dX3_putIn_52 : decode cX3_putIn 52 = .ok (.iastore, 1) := by decide +kernel
theorem dX3_putIn_53 : decode cX3_putIn 53 = .ok (.iinc 4 (-1), 3) := by decide +kernel
theorem dX3_putIn_56 : decode cX3_putIn 56 = .ok (.goto (-53), 3) := by decide +kernel
theorem dX3_putIn_59 : decode cX3_putIn 59 = .ok (.aload_n 0, 1) := by decide +kernel
theorem dX3_putIn_60 : decode cX3_putIn 60 = .ok (.getfield 15, 3) := by decide +kernel
theorem dX3_putIn_63 : decode cX3_putIn 63 = .ok (.iload 4, 2) := by decide +kernel
theorem dX3_putIn_65 : decode cX3_putIn 65 = .ok (.iload_n 2, 1) := by decide +kernel
theorem dX3_putIn_66 : decode cX3_putIn 66 = .ok (.iastore, 1) := by decide +kernel
theorem dX3_putIn_67 : decode cX3_putIn 67 = .ok (.aload_n 0, 1) := by decide +kernel
theorem dX3_putIn_68 : decode cX3_putIn 68 = .ok (.getfield 9, 3) := by decide +kernel
theorem dX3_putIn_71 : decode cX3_putIn 71 = .ok (.iload 4, 2) := by decide +kernel
theorem dX3_putIn_73 : decode cX3_putIn 73 = .ok (.iload_n 1, 1) := by decide +kernel
theorem dX3_putIn_74 : decode cX3_putIn 74 = .ok (.iastore, 1) := by decide +kernel
theorem dX3_putIn_75 : decode cX3_putIn 75 = .ok (.return_, 1) := by decide +kernel
abbrev rmX3_putIn : Room := { frames := 0, cells := 0, slots := 0, locals := 0 }
theorem inX3_putIn_3 : ∀ w ∈ wsX30, w ∈ wsX3_putIn := by decide +kernel
def vX3_putIn_c59 (p1 : Int32) (p2 : Int32) (p3 : Int32) (Q : (Nat → Int32) → (Nat → Int32) → Prop) (x4 : Int32) (nm : Nat → Int32) (sc : Nat → Int32) : Prop := (vp_in x4 20 ∧ (vp_in x4 20 ∧ (Q (upd nm x4.toNatClampNeg p1) (upd sc x4.toNatClampNeg p2))))
set_option maxHeartbeats 4000000 in
set_option maxRecDepth 100000 in
theorem kX3_putIn_c59 {p : Program} {l : Launch} {e : Env} {s : State} {m : MethodId} {args : Array Value} {below : List Frame} {meth : Method} {c : Code} {g : GP} {qrk : Nat} {qN : Nat} {qS : Nat} {qR : Nat} {qe : Nat}  {p1 : Int32} {p2 : Int32} {p3 : Int32} {Q : (Nat → Int32) → (Nat → Int32) → Prop} {A : Nat → Prop} (S : CallFix p m c cX3_putIn 5 s args wsX3_putIn RX3) (hr : meth.sig.returnType = none) (hlocks : meth.locks = false) (hG : GK g s) (hA : ∀ q : Nat, s.heap.size ≤ q → A q) : ∀ (x4 : Int32) (nm : Nat → Int32) (sc : Nat → Int32), vX3_putIn_c59 p1 p2 p3 Q x4 nm sc → ∀ (H : Heap) (locs : List Loc), va_P g.1 vwCl [(qrk, .inr (3, [.ref qe, .ref qN, .ref qS, .ref qR])), (qN, .inl (g.2 0, 20, .inl nm)), (qS, .inl (g.2 0, 20, .inl sc))] H → va_D A [(qrk, .inr (3, [.ref qe, .ref qN, .ref qS, .ref qR])), (qN, .inl (g.2 0, 20, .inl nm)), (qS, .inl (g.2 0, 20, .inl sc))] → va_S A s.heap H locs → ∀ (ls : Array Slot), lv_has ls 5 [(0, .ref qrk), (1, .int p1), (2, .int p2), (4, .int x4)] → W p l e (headSpec wsX3_putIn rmX3_putIn).room s m args below meth c H locs 0 0 (MQ below (va_Qv (fun (u : (Nat → Int32) × (Nat → Int32)) => Q u.1 u.2) (fun (u : (Nat → Int32) × (Nat → Int32)) t => va_P g.1 vwCl [(qrk, .inr (3, [.ref qe, .ref qN, .ref qS, .ref qR])), (qN, .inl (g.2 0, 20, .inl u.1)), (qS, .inl (g.2 0, 20, .inl u.2))] t.heap ∧ va_D A [(qrk, .inr (3, [.ref qe, .ref qN, .ref qS, .ref qR])), (qN, .inl (g.2 0, 20, .inl u.1)), (qS, .inl (g.2 0, 20, .inl u.2))]) A) args s 0 0 A) (F0 m 59 ls []) := by
  obtain ⟨hx, hb, hml, hown, hts⟩ := id S
  have hK := hG.1
  intro x4 nm sc hv H locs hP hD hS ls hl
  unfold vX3_putIn_c59 at hv
  refine lv_aload_n hx hb dX3_putIn_59 rfl (lv_at hl 0 rfl) ?_
  refine va_get (D := g.1) (ci := 3) (v := .ref qS) (C := RX3) (T := TX3) (N := 4) hx hb hts inX3_putIn_3 hown hK hP 0 rfl rfl 2 (by decide) (hts (.fieldLink RX3 15 "RangeCodes$Ranking" "scores" "[I") (List.mem_of_getElem? (i := 1) rfl)) (fun _ h9 => h9) rfl dX3_putIn_60 ?_
  refine lv_iload hx hb dX3_putIn_63 (lv_at hl 3 rfl) ?_
  refine lv_iload_n hx hb dX3_putIn_65 rfl (lv_at hl 2 rfl) ?_
  obtain ⟨ho_1, hv⟩ := hv
  refine va_iast hx hb hK hP hD hS 2 0 rfl rfl ho_1 dX3_putIn_66 (fun H locs hP hD hS => ?_)
  have hP : va_P g.1 vwCl [(qrk, .inr (3, [.ref qe, .ref qN, .ref qS, .ref qR])), (qN, .inl (g.2 0, 20, .inl nm)), (qS, .inl (g.2 0, 20, .inl (upd sc x4.toNatClampNeg p2)))] H := hP
  have hD : va_D A [(qrk, .inr (3, [.ref qe, .ref qN, .ref qS, .ref qR])), (qN, .inl (g.2 0, 20, .inl nm)), (qS, .inl (g.2 0, 20, .inl (upd sc x4.toNatClampNeg p2)))] := hD
  refine lv_aload_n hx hb dX3_putIn_67 rfl (lv_at hl 0 rfl) ?_
  refine va_get (D := g.1) (ci := 3) (v := .ref qN) (C := RX3) (T := TX3) (N := 4) hx hb hts inX3_putIn_3 hown hK hP 0 rfl rfl 1 (by decide) (hts (.fieldLink RX3 9 "RangeCodes$Ranking" "numbers" "[I") (List.mem_of_getElem? (i := 2) rfl)) (fun _ h9 => h9) rfl dX3_putIn_68 ?_
  refine lv_iload hx hb dX3_putIn_71 (lv_at hl 3 rfl) ?_
  refine lv_iload_n hx hb dX3_putIn_73 rfl (lv_at hl 1 rfl) ?_
  obtain ⟨ho_2, hv⟩ := hv
  refine va_iast hx hb hK hP hD hS 1 0 rfl rfl ho_2 dX3_putIn_74 (fun H locs hP hD hS => ?_)
  have hP : va_P g.1 vwCl [(qrk, .inr (3, [.ref qe, .ref qN, .ref qS, .ref qR])), (qN, .inl (g.2 0, 20, .inl (upd nm x4.toNatClampNeg p1))), (qS, .inl (g.2 0, 20, .inl (upd sc x4.toNatClampNeg p2)))] H := hP
  have hD : va_D A [(qrk, .inr (3, [.ref qe, .ref qN, .ref qS, .ref qR])), (qN, .inl (g.2 0, 20, .inl (upd nm x4.toNatClampNeg p1))), (qS, .inl (g.2 0, 20, .inl (upd sc x4.toNatClampNeg p2)))] := hD
  have hP9 := hP.sub (ws' := [(qrk, .inr (3, [.ref qe, .ref qN, .ref qS, .ref qR])), (qN, .inl (g.2 0, 20, .inl (upd nm x4.toNatClampNeg p1))), (qS, .inl (g.2 0, 20, .inl (upd sc x4.toNatClampNeg p2)))]) [0, 1, 2] rfl
  have hD9 := hD.sub (ws' := [(qrk, .inr (3, [.ref qe, .ref qN, .ref qS, .ref qR])), (qN, .inl (g.2 0, 20, .inl (upd nm x4.toNatClampNeg p1))), (qS, .inl (g.2 0, 20, .inl (upd sc x4.toNatClampNeg p2)))]) [0, 1, 2] (by decide) rfl
  exact W.vret hx hb hr (fun t ht hW => ⟨⟨((upd nm x4.toNatClampNeg p1), (upd sc x4.toNatClampNeg p2)), rfl, hv, by rw [ht]; exact hP9, hD9⟩, hS.F ht⟩) hS.2.2 dX3_putIn_75
def vX3_putIn_c3 (p1 : Int32) (p2 : Int32) (p3 : Int32) (Q : (Nat → Int32) → (Nat → Int32) → Prop) : Nat → Int32 → (Nat → Int32) → (Nat → Int32) → Prop
  | 0, _, _, _ => False
  | n + 1, x4, nm, sc => ((x4 ≤ 0 → (vX3_putIn_c59 p1 p2 p3 Q x4 nm sc)) ∧ (¬ x4 ≤ 0 → (vp_in (x4 - (1 : Int32)) 20 ∧ ((p2 ≤ (sc (x4 - (1 : Int32)).toNatClampNeg) → (vX3_putIn_c59 p1 p2 p3 Q x4 nm sc)) ∧ (¬ p2 ≤ (sc (x4 - (1 : Int32)).toNatClampNeg) → (vp_in (x4 - (1 : Int32)) 20 ∧ (∀ a_36 : Int32, a_36 = (sc (x4 - (1 : Int32)).toNatClampNeg) → (vp_in x4 20 ∧ (vp_in (x4 - (1 : Int32)) 20 ∧ (∀ a_52 : Int32, a_52 = (nm (x4 - (1 : Int32)).toNatClampNeg) → (vp_in x4 20 ∧ (vX3_putIn_c3 p1 p2 p3 Q n (x4 + (-1 : Int32)) (upd nm x4.toNatClampNeg a_52) (upd sc x4.toNatClampNeg a_36)))))))))))))
set_option maxHeartbeats 4000000 in
set_option maxRecDepth 100000 in
theorem kX3_putIn_c3 {p : Program} {l : Launch} {e : Env} {s : State} {m : MethodId} {args : Array Value} {below : List Frame} {meth : Method} {c : Code} {g : GP} {qrk : Nat} {qN : Nat} {qS : Nat} {qR : Nat} {qe : Nat}  {p1 : Int32} {p2 : Int32} {p3 : Int32} {Q : (Nat → Int32) → (Nat → Int32) → Prop} {A : Nat → Prop} (S : CallFix p m c cX3_putIn 5 s args wsX3_putIn RX3) (hr : meth.sig.returnType = none) (hlocks : meth.locks = false) (hG : GK g s) (hA : ∀ q : Nat, s.heap.size ≤ q → A q) : ∀ (n : Nat), ∀ (x4 : Int32) (nm : Nat → Int32) (sc : Nat → Int32), vX3_putIn_c3 p1 p2 p3 Q n x4 nm sc → ∀ (H : Heap) (locs : List Loc), va_P g.1 vwCl [(qrk, .inr (3, [.ref qe, .ref qN, .ref qS, .ref qR])), (qN, .inl (g.2 0, 20, .inl nm)), (qS, .inl (g.2 0, 20, .inl sc))] H → va_D A [(qrk, .inr (3, [.ref qe, .ref qN, .ref qS, .ref qR])), (qN, .inl (g.2 0, 20, .inl nm)), (qS, .inl (g.2 0, 20, .inl sc))] → va_S A s.heap H locs → ∀ (ls : Array Slot), lv_has ls 5 [(0, .ref qrk), (1, .int p1), (2, .int p2), (4, .int x4)] → W p l e (headSpec wsX3_putIn rmX3_putIn).room s m args below meth c H locs 0 0 (MQ below (va_Qv (fun (u : (Nat → Int32) × (Nat → Int32)) => Q u.1 u.2) (fun (u : (Nat → Int32) × (Nat → Int32)) t => va_P g.1 vwCl [(qrk, .inr (3, [.ref qe, .ref qN, .ref qS, .ref qR])), (qN, .inl (g.2 0, 20, .inl u.1)), (qS, .inl (g.2 0, 20, .inl u.2))] t.heap ∧ va_D A [(qrk, .inr (3, [.ref qe, .ref qN, .ref qS, .ref qR])), (qN, .inl (g.2 0, 20, .inl u.1)), (qS, .inl (g.2 0, 20, .inl u.2))]) A) args s 0 0 A) (F0 m 3 ls []) := by
  obtain ⟨hx, hb, hml, hown, hts⟩ := id S
  have hK := hG.1
  intro n
  induction n with
  | zero => intro x4 nm sc hv; exact hv.elim
  | succ n ih =>
    intro x4 nm sc hv H locs hP hD hS ls hl
    refine lv_iload hx hb dX3_putIn_3 (lv_at hl 3 rfl) ?_
    obtain ⟨hvt, hvf⟩ := hv
    refine lv_if_le (tgt := 59) hx hb dX3_putIn_5 (by decide) (fun hc => ?_) (fun hc => ?_)
    · have hv := hvt hc
      exact kX3_putIn_c59 S hr hlocks hG hA _ _ _ hv _ _ (hP.sub (ws' := [(qrk, .inr (3, [.ref qe, .ref qN, .ref qS, .ref qR])), (qN, .inl (g.2 0, 20, .inl nm)), (qS, .inl (g.2 0, 20, .inl sc))]) [0, 1, 2] rfl) (hD.sub (ws' := [(qrk, .inr (3, [.ref qe, .ref qN, .ref qS, .ref qR])), (qN, .inl (g.2 0, 20, .inl nm)), (qS, .inl (g.2 0, 20, .inl sc))]) [0, 1, 2] (by decide) rfl) hS ls (lv_sub hl [0, 1, 2, 3] rfl)
    · have hv := hvf hc
      refine lv_aload_n hx hb dX3_putIn_8 rfl (lv_at hl 0 rfl) ?_
      refine va_get (D := g.1) (ci := 3) (v := .ref qS) (C := RX3) (T := TX3) (N := 4) hx hb hts inX3_putIn_3 hown hK hP 0 rfl rfl 2 (by decide) (hts (.fieldLink RX3 15 "RangeCodes$Ranking" "scores" "[I") (List.mem_of_getElem? (i := 1) rfl)) (fun _ h9 => h9) rfl dX3_putIn_9 ?_
      refine lv_iload hx hb dX3_putIn_12 (lv_at hl 3 rfl) ?_
      refine lv_iconst (v := (1 : Int32)) hx hb dX3_putIn_14 (by decide) ?_
      refine lv_isub hx hb dX3_putIn_15 ?_
      obtain ⟨ho_1, hv⟩ := hv
      refine va_iald hx hb hK hP 2 0 rfl rfl ho_1 dX3_putIn_16 ?_
      refine lv_iload_n hx hb dX3_putIn_17 rfl (lv_at hl 2 rfl) ?_
      obtain ⟨hvt, hvf⟩ := hv
      refine lv_icmp_ge (tgt := 59) hx hb dX3_putIn_18 (by decide) (fun hc => ?_) (fun hc => ?_)
      · have hv := hvt hc
        exact kX3_putIn_c59 S hr hlocks hG hA _ _ _ hv _ _ (hP.sub (ws' := [(qrk, .inr (3, [.ref qe, .ref qN, .ref qS, .ref qR])), (qN, .inl (g.2 0, 20, .inl nm)), (qS, .inl (g.2 0, 20, .inl sc))]) [0, 1, 2] rfl) (hD.sub (ws' := [(qrk, .inr (3, [.ref qe, .ref qN, .ref qS, .ref qR])), (qN, .inl (g.2 0, 20, .inl nm)), (qS, .inl (g.2 0, 20, .inl sc))]) [0, 1, 2] (by decide) rfl) hS ls (lv_sub hl [0, 1, 2, 3] rfl)
      · have hv := hvf hc
        refine lv_aload_n hx hb dX3_putIn_21 rfl (lv_at hl 0 rfl) ?_
        refine va_get (D := g.1) (ci := 3) (v := .ref qS) (C := RX3) (T := TX3) (N := 4) hx hb hts inX3_putIn_3 hown hK hP 0 rfl rfl 2 (by decide) (hts (.fieldLink RX3 15 "RangeCodes$Ranking" "scores" "[I") (List.mem_of_getElem? (i := 1) rfl)) (fun _ h9 => h9) rfl dX3_putIn_22 ?_
        refine lv_iload hx hb dX3_putIn_25 (lv_at hl 3 rfl) ?_
        refine lv_aload_n hx hb dX3_putIn_27 rfl (lv_at hl 0 rfl) ?_
        refine va_get (D := g.1) (ci := 3) (v := .ref qS) (C := RX3) (T := TX3) (N := 4) hx hb hts inX3_putIn_3 hown hK hP 0 rfl rfl 2 (by decide) (hts (.fieldLink RX3 15 "RangeCodes$Ranking" "scores" "[I") (List.mem_of_getElem? (i := 1) rfl)) (fun _ h9 => h9) rfl dX3_putIn_28 ?_
        refine lv_iload hx hb dX3_putIn_31 (lv_at hl 3 rfl) ?_
        refine lv_iconst (v := (1 : Int32)) hx hb dX3_putIn_33 (by decide) ?_
        refine lv_isub hx hb dX3_putIn_34 ?_
        obtain ⟨ho_2, hv⟩ := hv
        refine va_iald hx hb hK hP 2 0 rfl rfl ho_2 dX3_putIn_35 ?_
        refine lv_topi (fun a_36 ea_36 => ?_)
        have hv := hv a_36 ea_36
        obtain ⟨ho_3, hv⟩ := hv
        refine va_iast hx hb hK hP hD hS 2 0 rfl rfl ho_3 dX3_putIn_36 (fun H locs hP hD hS => ?_)
        have hP : va_P g.1 vwCl [(qrk, .inr (3, [.ref qe, .ref qN, .ref qS, .ref qR])), (qN, .inl (g.2 0, 20, .inl nm)), (qS, .inl (g.2 0, 20, .inl (upd sc x4.toNatClampNeg a_36)))] H := hP
        have hD : va_D A [(qrk, .inr (3, [.ref qe, .ref qN, .ref qS, .ref qR])), (qN, .inl (g.2 0, 20, .inl nm)), (qS, .inl (g.2 0, 20, .inl (upd sc x4.toNatClampNeg a_36)))] := hD
        refine lv_aload_n hx hb dX3_putIn_37 rfl (lv_at hl 0 rfl) ?_
        refine va_get (D := g.1) (ci := 3) (v := .ref qN) (C := RX3) (T := TX3) (N := 4) hx hb hts inX3_putIn_3 hown hK hP 0 rfl rfl 1 (by decide) (hts (.fieldLink RX3 9 "RangeCodes$Ranking" "numbers" "[I") (List.mem_of_getElem? (i := 2) rfl)) (fun _ h9 => h9) rfl dX3_putIn_38 ?_
        refine lv_iload hx hb dX3_putIn_41 (lv_at hl 3 rfl) ?_
        refine lv_aload_n hx hb dX3_putIn_43 rfl (lv_at hl 0 rfl) ?_
        refine va_get (D := g.1) (ci := 3) (v := .ref qN) (C := RX3) (T := TX3) (N := 4) hx hb hts inX3_putIn_3 hown hK hP 0 rfl rfl 1 (by decide) (hts (.fieldLink RX3 9 "RangeCodes$Ranking" "numbers" "[I") (List.mem_of_getElem? (i := 2) rfl)) (fun _ h9 => h9) rfl dX3_putIn_44 ?_
        refine lv_iload hx hb dX3_putIn_47 (lv_at hl 3 rfl) ?_
        refine lv_iconst (v := (1 : Int32)) hx hb dX3_putIn_49 (by decide) ?_
        refine lv_isub hx hb dX3_putIn_50 ?_
        obtain ⟨ho_4, hv⟩ := hv
        refine va_iald hx hb hK hP 1 0 rfl rfl ho_4 dX3_putIn_51 ?_
        refine lv_topi (fun a_52 ea_52 => ?_)
        have hv := hv a_52 ea_52
        obtain ⟨ho_5, hv⟩ := hv
        refine va_iast hx hb hK hP hD hS 1 0 rfl rfl ho_5 dX3_putIn_52 (fun H locs hP hD hS => ?_)
        have hP : va_P g.1 vwCl [(qrk, .inr (3, [.ref qe, .ref qN, .ref qS, .ref qR])), (qN, .inl (g.2 0, 20, .inl (upd nm x4.toNatClampNeg a_52))), (qS, .inl (g.2 0, 20, .inl (upd sc x4.toNatClampNeg a_36)))] H := hP
        have hD : va_D A [(qrk, .inr (3, [.ref qe, .ref qN, .ref qS, .ref qR])), (qN, .inl (g.2 0, 20, .inl (upd nm x4.toNatClampNeg a_52))), (qS, .inl (g.2 0, 20, .inl (upd sc x4.toNatClampNeg a_36)))] := hD
        refine lv_iinc (v := (x4 + (-1 : Int32))) (lv' := [(4, .int (x4 + (-1 : Int32))), (0, .ref qrk), (1, .int p1), (2, .int p2)]) hx hb dX3_putIn_53 hl (k := 3) rfl rfl (by decide) rfl (fun ls hl => ?_)
        refine lv_goto (tgt := 3) hx hb dX3_putIn_56 (by decide) ?_
        exact ih _ _ _ hv _ _ (hP.sub (ws' := [(qrk, .inr (3, [.ref qe, .ref qN, .ref qS, .ref qR])), (qN, .inl (g.2 0, 20, .inl (upd nm x4.toNatClampNeg a_52))), (qS, .inl (g.2 0, 20, .inl (upd sc x4.toNatClampNeg a_36)))]) [0, 1, 2] rfl) (hD.sub (ws' := [(qrk, .inr (3, [.ref qe, .ref qN, .ref qS, .ref qR])), (qN, .inl (g.2 0, 20, .inl (upd nm x4.toNatClampNeg a_52))), (qS, .inl (g.2 0, 20, .inl (upd sc x4.toNatClampNeg a_36)))]) [0, 1, 2] (by decide) rfl) hS ls (lv_sub hl [1, 2, 3, 0] rfl)
def vX3_putIn (nm : Nat → Int32) (sc : Nat → Int32) (p1 : Int32) (p2 : Int32) (p3 : Int32) (Q : (Nat → Int32) → (Nat → Int32) → Prop) : Prop := (∃ nn, vX3_putIn_c3 p1 p2 p3 Q nn p3 nm sc)
set_option maxHeartbeats 4000000 in
set_option maxRecDepth 100000 in
theorem wX3_putIn (l : Launch) (g : GP) (qrk : Nat) (qN : Nat) (qS : Nat) (qR : Nat) (qe : Nat) (sz : Nat) (nm : Nat → Int32) (sc : Nat → Int32) (p1 : Int32) (p2 : Int32) (p3 : Int32) {Q : (Nat → Int32) → (Nat → Int32) → Prop} (hv : vX3_putIn nm sc p1 p2 p3 Q) : Met l yX3_putIn wsX3_putIn rmX3_putIn (va_Pc [.ref qrk, .int p1, .int p2, .int p3] (fun U => U.heap.size = sz ∧ va_P g.1 vwCl [(qrk, .inr (3, [.ref qe, .ref qN, .ref qS, .ref qR])), (qN, .inl (g.2 0, 20, .inl nm)), (qS, .inl (g.2 0, 20, .inl sc))] U.heap ∧ GK g U ∧ va_D (fun _ => True) [(qrk, .inr (3, [.ref qe, .ref qN, .ref qS, .ref qR])), (qN, .inl (g.2 0, 20, .inl nm)), (qS, .inl (g.2 0, 20, .inl sc))])) (va_Qv (fun (u : (Nat → Int32) × (Nat → Int32)) => Q u.1 u.2) (fun (u : (Nat → Int32) × (Nat → Int32)) t => va_P g.1 vwCl [(qrk, .inr (3, [.ref qe, .ref qN, .ref qS, .ref qR])), (qN, .inl (g.2 0, 20, .inl u.1)), (qS, .inl (g.2 0, 20, .inl u.2))] t.heap ∧ va_D (va_A [(qrk, .inr (3, [.ref qe, .ref qN, .ref qS, .ref qR])), (qN, .inl (g.2 0, 20, .inl nm)), (qS, .inl (g.2 0, 20, .inl sc))] sz) [(qrk, .inr (3, [.ref qe, .ref qN, .ref qS, .ref qR])), (qN, .inl (g.2 0, 20, .inl u.1)), (qS, .inl (g.2 0, 20, .inl u.2))]) (va_A [(qrk, .inr (3, [.ref qe, .ref qN, .ref qS, .ref qR])), (qN, .inl (g.2 0, 20, .inl nm)), (qS, .inl (g.2 0, 20, .inl sc))] sz)) 0 0 (va_A [(qrk, .inr (3, [.ref qe, .ref qN, .ref qS, .ref qR])), (qN, .inl (g.2 0, 20, .inl nm)), (qS, .inl (g.2 0, 20, .inl sc))] sz) := by
  refine Met.ofW (cc := cX3_putIn) (maxL := 5) (ret := none) (by decide) rfl ?_
  intro p e s m args below meth c s₁ B hml hv'
  obtain ⟨rfl, hsz, hP, hG, hD0⟩ := hv'
  have S : CallFix p m c cX3_putIn 5 s _ wsX3_putIn RX3 := ⟨B.exec, B.bytes, hml, findClass_of_methodNamed B.named, atoms_spec (ws := wsX3_putIn) B.pre⟩
  obtain ⟨hx, hb, hml, hown, hts⟩ := id S
  have hK := hG.1
  have hr := B.returns
  have hlocks := B.notSynchronized
  subst hsz
  have hD := hD0.self (sz := s.heap.size)
  generalize hAe : va_A [(qrk, .inr (3, [.ref qe, .ref qN, .ref qS, .ref qR])), (qN, .inl (g.2 0, 20, .inl nm)), (qS, .inl (g.2 0, 20, .inl sc))] s.heap.size = A at hD ⊢
  have hA : ∀ q : Nat, s.heap.size ≤ q → A q := fun q h => by rw [← hAe]; exact Or.inr h
  have hS : va_S A s.heap s.heap [] := va_S.rf
  clear hD0 hAe
  have hl := lv_entry ([.ref qrk, .int p1, .int p2, .int p3]) (n := 5) (Nat.le_of_ble_eq_true rfl)
  rw [lg_entry_eq]
  generalize (lg_sl ([.ref qrk, .int p1, .int p2, .int p3]) ++ List.replicate (5 - (lg_sl ([.ref qrk, .int p1, .int p2, .int p3])).length) Slot.unset).toArray = ls at hl ⊢
  have hl : lv_has ls 5 [(0, .ref qrk), (1, .int p1), (2, .int p2), (3, .int p3)] := hl
  unfold vX3_putIn at hv
  refine lv_iload_n hx hb dX3_putIn_0 rfl (lv_at hl 3 rfl) ?_
  refine lv_istore (lv' := [(4, .int p3), (0, .ref qrk), (1, .int p1), (2, .int p2), (3, .int p3)]) hx hb dX3_putIn_1 hl (by decide) rfl (fun ls hl => ?_)
  obtain ⟨nn, hv⟩ := hv
  exact kX3_putIn_c3 S hr hlocks hG hA nn _ _ _ hv _ _ (hP.sub (ws' := [(qrk, .inr (3, [.ref qe, .ref qN, .ref qS, .ref qR])), (qN, .inl (g.2 0, 20, .inl nm)), (qS, .inl (g.2 0, 20, .inl sc))]) [0, 1, 2] rfl) (hD.sub (ws' := [(qrk, .inr (3, [.ref qe, .ref qN, .ref qS, .ref qR])), (qN, .inl (g.2 0, 20, .inl nm)), (qS, .inl (g.2 0, 20, .inl sc))]) [0, 1, 2] (by decide) rfl) hS ls (lv_sub hl [1, 2, 3, 0] rfl)
def shf (f : Nat → Int32) (k la j : Nat) : Int32 := if k < j ∧ j ≤ la then f (j - 1) else f j
theorem shf_0 (f : Nat → Int32) (la : Nat) : shf f la la = f := by
  funext j; unfold shf; rw [if_neg (by omega)]
theorem shf_s (f : Nat → Int32) {k la : Nat} (hk : 0 < k) (hl : k ≤ la) : upd (shf f k la) k (f (k - 1)) = shf f (k - 1) la := by
  funext j
  by_cases e : j = k
  · subst e; rw [upd_eq]; unfold shf; rw [if_pos (by omega)]
  · rw [upd_ne e]; unfold shf
    by_cases q : k < j ∧ j ≤ la
    · rw [if_pos q, if_pos (by omega)]
    · rw [if_neg q, if_neg (by omega)]
theorem shf_at (f : Nat → Int32) {k la j : Nat} (h : j ≤ k) : shf f k la j = f j := by unfold shf; rw [if_neg (by omega)]
abbrev preX3_putIn (la : Nat) (nm : Nat → Int32) (sc : Nat → Int32) (p1 : Int32) (p2 : Int32) (p3 : Int32) : Prop := p3.toInt = (la : Int) ∧ la < 20
abbrev postX3_putIn (la : Nat) (nm : Nat → Int32) (sc : Nat → Int32) (p1 : Int32) (p2 : Int32) (p3 : Int32) (nm' : Nat → Int32) (sc' : Nat → Int32) : Prop := ∃ k, k ≤ la ∧ (k = 0 ∨ p2.toInt ≤ (sc (k - 1)).toInt) ∧ (∀ j, k ≤ j → j < la → (sc j).toInt < p2.toInt) ∧ nm' = upd (shf nm k la) k p1 ∧ sc' = upd (shf sc k la) k p2
theorem sX3_putIn_3 (la : Nat) (nm : Nat → Int32) (sc : Nat → Int32) (p1 : Int32) (p2 : Int32) (p3 : Int32) (H : preX3_putIn la nm sc p1 p2 p3) : ∀ (n k : Nat) (x4 : Int32), x4.toInt = (k : Int) → k ≤ la → (∀ j, k ≤ j → j < la → (sc j).toInt < p2.toInt) → k + 1 ≤ n → vX3_putIn_c3 p1 p2 p3 (postX3_putIn la nm sc p1 p2 p3) n x4 (shf nm k la) (shf sc k la)
  | 0, k, x4, _, hi, _, hn => absurd hn (by omega)
  | n + 1, k, x4, h4, hi, hb, hn => by
    obtain ⟨h3, hl⟩ := id H
    have fin : (k = 0 ∨ p2.toInt ≤ (sc (k - 1)).toInt) → vX3_putIn_c59 p1 p2 p3 (postX3_putIn la nm sc p1 p2 p3) x4 (shf nm k la) (shf sc k la) := fun hq => by
      unfold vX3_putIn_c59
      rw [q_cl h4]
      exact ⟨q_in h4 (by omega), q_in h4 (by omega), k, hi, hq, hb, rfl, rfl⟩
    rw [vX3_putIn_c3, fa_le x4, z0, h4]
    refine ⟨fun hc => fin (Or.inl (by omega)), fun hc => ?_⟩
    have hk : 0 < k := by omega
    have h41 : (x4 - (1 : Int32)).toInt = ((k - 1 : Nat) : Int) := q_subN (b := 1) h4 rfl (by omega) (by omega)
    have h42 : (x4 + (-1 : Int32)).toInt = ((k - 1 : Nat) : Int) := by rw [q_add h4 zm1 (by omega) (by omega)]; omega
    rw [q_cl h41, q_cl h4, shf_at sc (by omega), shf_at nm (by omega), fa_le p2]
    refine ⟨q_in h41 (by omega), fun hq => fin (Or.inr hq), fun hq => ⟨q_in h41 (by omega), fun a ha => ⟨q_in h4 (by omega), q_in h41 (by omega), fun c hc2 => ⟨q_in h4 (by omega), ?_⟩⟩⟩⟩
    subst ha hc2
    rw [shf_s nm hk hi, shf_s sc hk hi]
    refine sX3_putIn_3 la nm sc p1 p2 p3 H n (k - 1) _ h42 (by omega) (fun j hj hj2 => ?_) (by omega)
    by_cases e : j = k - 1
    · subst e; omega
    · exact hb j (by omega) hj2
theorem sX3_putIn (la : Nat) (nm : Nat → Int32) (sc : Nat → Int32) (p1 : Int32) (p2 : Int32) (p3 : Int32) (H : preX3_putIn la nm sc p1 p2 p3) : vX3_putIn nm sc p1 p2 p3 (postX3_putIn la nm sc p1 p2 p3) := by
  have h := sX3_putIn_3 la nm sc p1 p2 p3 H (la + 1) la p3 H.1 (Nat.le_refl _) (fun j a b => absurd b (by omega)) (Nat.le_refl _)
  rw [shf_0, shf_0] at h
  exact ⟨la + 1, h⟩
set_option maxRecDepth 20000 in
theorem ggX3_rankFirst_J7_fill_53178 : GoodIn wsX3_rankFirst wsJ7_fill_53178 := goodIn_r _ [13] (by decide +kernel) (by decide +kernel)
set_option maxRecDepth 20000 in
theorem gX3_rankFirst_J7_fill_53178 : GoodIn wsX3_rankFirst (va_wsS RX3 25 yJ7_fill_53178 wsJ7_fill_53178) := goodIn_app (goodIn_of _ (by decide +kernel)) ggX3_rankFirst_J7_fill_53178
set_option maxRecDepth 20000 in
theorem ggX3_rankFirst_X3_nextScore : GoodIn wsX3_rankFirst wsX3_nextScore := goodIn_r _ [18, 2, 3, 19, 20, 1, 21, 22, 28, 29, 30, 31, 32, 33, 34, 35, 36, 37, 38, 39, 40, 41, 42, 43, 44, 45, 46, 47, 48, 49] (by decide +kernel) (by decide +kernel)
set_option maxRecDepth 20000 in
theorem gX3_rankFirst_X3_nextScore : GoodIn wsX3_rankFirst (wsV RX3 43 RX3 yX3_nextScore wsX3_nextScore) := goodIn_app (goodIn_of _ (by decide +kernel)) ggX3_rankFirst_X3_nextScore
set_option maxRecDepth 20000 in
theorem ggX3_rankFirst_X3_putIn : GoodIn wsX3_rankFirst wsX3_putIn := goodIn_r _ [26, 5, 27, 28, 29, 30, 31] (by decide +kernel) (by decide +kernel)
set_option maxRecDepth 20000 in
theorem gX3_rankFirst_X3_putIn : GoodIn wsX3_rankFirst (wsV RX3 53 RX3 yX3_putIn wsX3_putIn) := goodIn_app (goodIn_of _ (by decide +kernel)) ggX3_rankFirst_X3_putIn
theorem dX3_rankFirst_0 : decode cX3_rankFirst 0 = .ok (.aload_n 0, 1) := by decide +kernel
theorem dX3_rankFirst_1 : decode cX3_rankFirst 1 = .ok (.getfield 18, 3) := by decide +kernel
theorem dX3_rankFirst_4 : decode cX3_rankFirst 4 = .ok (.iconst 0, 1) := by decide +kernel
theorem dX3_rankFirst_5 : decode cX3_rankFirst 5 = .ok (.invokestatic 25, 3) := by decide +kernel
theorem dX3_rankFirst_8 : decode cX3_rankFirst 8 = .ok (.iconst 0, 1) := by decide +kernel
theorem dX3_rankFirst_9 : decode cX3_rankFirst 9 = .ok (.istore_n 2, 1) := by decide +kernel
theorem dX3_rankFirst_10 : decode cX3_rankFirst 10 = .ok (.iconst 0, 1) := by decide +kernel
theorem dX3_rankFirst_11 : decode cX3_rankFirst 11 = .ok (.istore_n 3, 1) := by decide +kernel
theorem dX3_rankFirst_12 : decode cX3_rankFirst 12 = .ok (.iload_n 3, 1) := by decide +kernel
theorem dX3_rankFirst_13 : decode cX3_rankFirst 13 = .ok (.aload_n 0, 1) := by decide +kernel
theorem dX3_rankFirst_14 : decode cX3_rankFirst 14 = .ok (.getfield 21, 3) := by decide +kernel
theorem dX3_rankFirst_17 : decode cX3_rankFirst 17 = .ok (.getfield 31, 3) := by decide +kernel
theorem dX3_rankFirst_20 : decode cX3_rankFirst 20 = .ok (.getfield 37, 3) := by decide +kernel
theorem dX3_rankFirst_23 : decode cX3_rankFirst 23 = .ok (.if_icmp .ge 51, 3) := by decide +kernel
theorem dX3_rankFirst_26 : decode cX3_rankFirst 26 = .ok (.aload_n 0, 1) := by decide +kernel
theorem dX3_rankFirst_27 : decode cX3_rankFirst 27 = .ok (.invokevirtual 43, 3) := by decide +kernel
theorem dX3_rankFirst_30 : decode cX3_rankFirst 30 = .ok (.istore 4, 2) := by decide +kernel
theorem dX3_rankFirst_32 : decode cX3_rankFirst 32 = .ok (.iload_n 2, 1) := by decide +kernel
theorem dX3_rankFirst_33 : decode cX3_rankFirst 33 = .ok (.iload_n 1, 1) := by decide +kernel
theorem dX3_rankFirst_34 : decode cX3_rankFirst 34 = .ok (.if_icmp .lt 16, 3) := by decide +kernel
theorem dX3_rankFirst_37 : decode cX3_rankFirst 37 = .ok (.iload 4, 2) := by decide +kernel
theorem dX3_rankFirst_39 : decode cX3_rankFirst 39 = .ok (.aload_n 0, 1) := by decide +kernel
theorem dX3_rankFirst_40 : decode cX3_rankFirst 40 = .ok (.getfield 15, 3) := by decide +kernel
theorem dX3_rankFirst_43 : decode cX3_rankFirst 43 = .ok (.iload_n 2, 1) := by decide +kernel
theorem dX3_rankFirst_44 : decode cX3_rankFirst 44 = .ok (.iconst 1, 1) := by decide +kernel
theorem dX3_rankFirst_45 : decode cX3_rankFirst 45 = .ok (.isub, 1) := by decide +kernel
theorem dX3_rankFirst_46 : decode cX3_rankFirst 46 = .ok (.iaload, 1) := by decide +kernel
theorem dX3_rankFirst_47 : decode cX3_rankFirst 47 = .ok (.if_icmp .le 21, 3) := by decide +kernel
theorem dX3_rankFirst_50 : decode cX3_rankFirst 50 = .ok (.iload_n 2, 1) := by decide +kernel
theorem dX3_rankFirst_51 : decode cX3_rankFirst 51 = .ok (.iconst 1, 1) := by decide +kernel
theorem dX3_rankFirst_52 : decode cX3_rankFirst 52 = .ok (.iadd, 1) := by decide +kernel
theorem dX3_rankFirst_53 : decode cX3_rankFirst 53 = .ok (.iload_n 1, 1) := by decide +kernel
theorem dX3_rankFirst_54 : decode cX3_rankFirst 54 = .ok (.invokestatic 47, 3) := by decide +kernel
theorem dX3_rankFirst_57 : decode cX3_rankFirst 57 = .ok (.istore_n 2, 1) := by decide +kernel
theorem dX3_rankFirst_58 : decode cX3_rankFirst 58 = .ok (.aload_n 0, 1) := by decide +kernel
theorem dX3_rankFirst_59 : decode cX3_rankFirst 59 = .ok (.iload_n 3, 1) := by decide +kernel
theorem dX3_rankFirst_60 : decode cX3_rankFirst 60 = .ok (.iload 4, 2) := by decide +kernel
theorem dX3_rankFirst_62 : decode cX3_rankFirst 62 = .ok (.iload_n 2, 1) := by decide +kernel
theorem dX3_rankFirst_63 : decode cX3_rankFirst 63 = .ok (.iconst 1, 1) := by decide +kernel
theorem dX3_rankFirst_64 : decode cX3_rankFirst 64 = .ok (.isub, 1) := by decide +kernel
theorem dX3_rankFirst_65 : decode cX3_rankFirst 65 = .ok (.invokevirtual 53, 3) := by decide +kernel
theorem dX3_rankFirst_68 : decode cX3_rankFirst 68 = .ok (.iinc 3 1, 3) := by decide +kernel
theorem dX3_rankFirst_71 : decode cX3_rankFirst 71 = .ok (.goto (-59), 3) := by decide +kernel
theorem dX3_rankFirst_74 : decode cX3_rankFirst 74 = .ok (.return_, 1) := by decide +kernel
abbrev rmX3_rankFirst : Room := { frames := 1, cells := 0, slots := 0, locals := 24 }
theorem inX3_rankFirst_0 : ∀ w ∈ wsX00, w ∈ wsX3_rankFirst := by decide +kernel
theorem inX3_rankFirst_3 : ∀ w ∈ wsX30, w ∈ wsX3_rankFirst := by decide +kernel
theorem inX3_rankFirst_7 : ∀ w ∈ wsX70, w ∈ wsX3_rankFirst := by decide +kernel
def vX3_rankFirst_c50 (E : Nat → Int32) (M : Nat → Nat → Int32) (parts : Int32) (limit : Int32) (len : Nat → Int32) (vot : Nat → Int32) (p1 : Int32) (Q : (Nat → Int32) → (Nat → Int32) → (Nat → Int32) → Prop) (K12 : Int32 → Int32 → (Nat → Int32) → (Nat → Int32) → (Nat → Int32) → Prop) (x2 : Int32) (x3 : Int32) (x4 : Int32) (nm : Nat → Int32) (sc : Nat → Int32) (rs : Nat → Int32) : Prop := (∀ y_57 : Int32, y_57 = (if p1 < (x2 + (1 : Int32)) then p1 else (x2 + (1 : Int32))) → (∃ (la_65 : Nat), preX3_putIn la_65 nm sc x3 x4 (y_57 - (1 : Int32)) ∧ (∀ (nm_65 : Nat → Int32) (sc_65 : Nat → Int32), postX3_putIn la_65 nm sc x3 x4 (y_57 - (1 : Int32)) nm_65 sc_65 → (K12 y_57 (x3 + (1 : Int32)) nm_65 sc_65 rs))))
set_option maxHeartbeats 4000000 in
set_option maxRecDepth 100000 in
theorem kX3_rankFirst_c50 {p : Program} {l : Launch} {e : Env} {s : State} {m : MethodId} {args : Array Value} {below : List Frame} {meth : Method} {c : Code} {g : GP} {qrk : Nat} {qN : Nat} {qS : Nat} {qR : Nat} {qh : Nat} {qm : Nat} {qb : Nat} {qx : Nat} {aM : Nat → Nat} {ql : Nat} {qr : Nat} {qv : Nat} {qg : Nat} {qe : Nat} {qt : Nat} {E : Nat → Int32} {M : Nat → Nat → Int32} {parts : Int32} {limit : Int32} {len : Nat → Int32} {vot : Nat → Int32} {p1 : Int32} {Q : (Nat → Int32) → (Nat → Int32) → (Nat → Int32) → Prop} {A : Nat → Prop} {K12 : Int32 → Int32 → (Nat → Int32) → (Nat → Int32) → (Nat → Int32) → Prop} (S : CallFix p m c cX3_rankFirst 5 s args wsX3_rankFirst RX3) (hr : meth.sig.returnType = none) (hlocks : meth.locks = false) (hG : GK g s) (hA : ∀ q : Nat, s.heap.size ≤ q → A q) (kk12 : ∀ (x2 : Int32) (x3 : Int32) (nm : Nat → Int32) (sc : Nat → Int32) (rs : Nat → Int32), K12 x2 x3 nm sc rs → ∀ (H : Heap) (locs : List Loc), va_P g.1 vwCl [(qrk, .inr (3, [.ref qe, .ref qN, .ref qS, .ref qR])), (qN, .inl (g.2 0, 20, .inl nm)), (qS, .inl (g.2 0, 20, .inl sc)), (qR, .inl (g.2 0, 5, .inl rs)), (qe, .inr (0, [.ref qt, .ref qh, .ref qm, .ref qb, .ref qx, .int (E 5), .int (E 6), .int (E 7), .int (E 8), .int (E 9), .int (E 10), .int (E 11)])), (qm, .inl (g.2 6, 5, .inr (.inr (.inr (.inr (rwM aM)))))), ((aM 0), .inl (g.2 0, 13, .inl (M 0))), ((aM 1), .inl (g.2 0, 13, .inl (M 1))), ((aM 2), .inl (g.2 0, 13, .inl (M 2))), ((aM 3), .inl (g.2 0, 13, .inl (M 3))), ((aM 4), .inl (g.2 0, 13, .inl (M 4))), (qt, .inr (7, [.ref ql, .ref qr, .ref qv, .ref qg, .int parts, .int limit])), (ql, .inl (g.2 0, 5, .inl len)), (qv, .inl (g.2 0, 5, .inl vot))] H → va_D A [(qrk, .inr (3, [.ref qe, .ref qN, .ref qS, .ref qR])), (qN, .inl (g.2 0, 20, .inl nm)), (qS, .inl (g.2 0, 20, .inl sc)), (qR, .inl (g.2 0, 5, .inl rs)), (qe, .inr (0, [.ref qt, .ref qh, .ref qm, .ref qb, .ref qx, .int (E 5), .int (E 6), .int (E 7), .int (E 8), .int (E 9), .int (E 10), .int (E 11)])), (qm, .inl (g.2 6, 5, .inr (.inr (.inr (.inr (rwM aM)))))), ((aM 0), .inl (g.2 0, 13, .inl (M 0))), ((aM 1), .inl (g.2 0, 13, .inl (M 1))), ((aM 2), .inl (g.2 0, 13, .inl (M 2))), ((aM 3), .inl (g.2 0, 13, .inl (M 3))), ((aM 4), .inl (g.2 0, 13, .inl (M 4))), (qt, .inr (7, [.ref ql, .ref qr, .ref qv, .ref qg, .int parts, .int limit])), (ql, .inl (g.2 0, 5, .inl len)), (qv, .inl (g.2 0, 5, .inl vot))] → va_S A s.heap H locs → ∀ (ls : Array Slot), lv_has ls 5 [(0, .ref qrk), (1, .int p1), (2, .int x2), (3, .int x3)] → W p l e (headSpec wsX3_rankFirst rmX3_rankFirst).room s m args below meth c H locs 0 0 (MQ below (va_Qv (fun (u : (Nat → Int32) × (Nat → Int32) × (Nat → Int32)) => Q u.1 u.2.1 u.2.2) (fun (u : (Nat → Int32) × (Nat → Int32) × (Nat → Int32)) t => va_P g.1 vwCl [(qrk, .inr (3, [.ref qe, .ref qN, .ref qS, .ref qR])), (qN, .inl (g.2 0, 20, .inl u.1)), (qS, .inl (g.2 0, 20, .inl u.2.1)), (qR, .inl (g.2 0, 5, .inl u.2.2)), (qe, .inr (0, [.ref qt, .ref qh, .ref qm, .ref qb, .ref qx, .int (E 5), .int (E 6), .int (E 7), .int (E 8), .int (E 9), .int (E 10), .int (E 11)])), (qm, .inl (g.2 6, 5, .inr (.inr (.inr (.inr (rwM aM)))))), ((aM 0), .inl (g.2 0, 13, .inl (M 0))), ((aM 1), .inl (g.2 0, 13, .inl (M 1))), ((aM 2), .inl (g.2 0, 13, .inl (M 2))), ((aM 3), .inl (g.2 0, 13, .inl (M 3))), ((aM 4), .inl (g.2 0, 13, .inl (M 4))), (qt, .inr (7, [.ref ql, .ref qr, .ref qv, .ref qg, .int parts, .int limit])), (ql, .inl (g.2 0, 5, .inl len)), (qv, .inl (g.2 0, 5, .inl vot))] t.heap ∧ va_D A [(qrk, .inr (3, [.ref qe, .ref qN, .ref qS, .ref qR])), (qN, .inl (g.2 0, 20, .inl u.1)), (qS, .inl (g.2 0, 20, .inl u.2.1)), (qR, .inl (g.2 0, 5, .inl u.2.2)), (qe, .inr (0, [.ref qt, .ref qh, .ref qm, .ref qb, .ref qx, .int (E 5), .int (E 6), .int (E 7), .int (E 8), .int (E 9), .int (E 10), .int (E 11)])), (qm, .inl (g.2 6, 5, .inr (.inr (.inr (.inr (rwM aM)))))), ((aM 0), .inl (g.2 0, 13, .inl (M 0))), ((aM 1), .inl (g.2 0, 13, .inl (M 1))), ((aM 2), .inl (g.2 0, 13, .inl (M 2))), ((aM 3), .inl (g.2 0, 13, .inl (M 3))), ((aM 4), .inl (g.2 0, 13, .inl (M 4))), (qt, .inr (7, [.ref ql, .ref qr, .ref qv, .ref qg, .int parts, .int limit])), (ql, .inl (g.2 0, 5, .inl len)), (qv, .inl (g.2 0, 5, .inl vot))]) A) args s 0 0 A) (F0 m 12 ls [])) : ∀ (x2 : Int32) (x3 : Int32) (x4 : Int32) (nm : Nat → Int32) (sc : Nat → Int32) (rs : Nat → Int32), vX3_rankFirst_c50 E M parts limit len vot p1 Q K12 x2 x3 x4 nm sc rs → ∀ (H : Heap) (locs : List Loc), va_P g.1 vwCl [(qrk, .inr (3, [.ref qe, .ref qN, .ref qS, .ref qR])), (qN, .inl (g.2 0, 20, .inl nm)), (qS, .inl (g.2 0, 20, .inl sc)), (qR, .inl (g.2 0, 5, .inl rs)), (qe, .inr (0, [.ref qt, .ref qh, .ref qm, .ref qb, .ref qx, .int (E 5), .int (E 6), .int (E 7), .int (E 8), .int (E 9), .int (E 10), .int (E 11)])), (qm, .inl (g.2 6, 5, .inr (.inr (.inr (.inr (rwM aM)))))), ((aM 0), .inl (g.2 0, 13, .inl (M 0))), ((aM 1), .inl (g.2 0, 13, .inl (M 1))), ((aM 2), .inl (g.2 0, 13, .inl (M 2))), ((aM 3), .inl (g.2 0, 13, .inl (M 3))), ((aM 4), .inl (g.2 0, 13, .inl (M 4))), (qt, .inr (7, [.ref ql, .ref qr, .ref qv, .ref qg, .int parts, .int limit])), (ql, .inl (g.2 0, 5, .inl len)), (qv, .inl (g.2 0, 5, .inl vot))] H → va_D A [(qrk, .inr (3, [.ref qe, .ref qN, .ref qS, .ref qR])), (qN, .inl (g.2 0, 20, .inl nm)), (qS, .inl (g.2 0, 20, .inl sc)), (qR, .inl (g.2 0, 5, .inl rs)), (qe, .inr (0, [.ref qt, .ref qh, .ref qm, .ref qb, .ref qx, .int (E 5), .int (E 6), .int (E 7), .int (E 8), .int (E 9), .int (E 10), .int (E 11)])), (qm, .inl (g.2 6, 5, .inr (.inr (.inr (.inr (rwM aM)))))), ((aM 0), .inl (g.2 0, 13, .inl (M 0))), ((aM 1), .inl (g.2 0, 13, .inl (M 1))), ((aM 2), .inl (g.2 0, 13, .inl (M 2))), ((aM 3), .inl (g.2 0, 13, .inl (M 3))), ((aM 4), .inl (g.2 0, 13, .inl (M 4))), (qt, .inr (7, [.ref ql, .ref qr, .ref qv, .ref qg, .int parts, .int limit])), (ql, .inl (g.2 0, 5, .inl len)), (qv, .inl (g.2 0, 5, .inl vot))] → va_S A s.heap H locs → ∀ (ls : Array Slot), lv_has ls 5 [(0, .ref qrk), (1, .int p1), (2, .int x2), (3, .int x3), (4, .int x4)] → W p l e (headSpec wsX3_rankFirst rmX3_rankFirst).room s m args below meth c H locs 0 0 (MQ below (va_Qv (fun (u : (Nat → Int32) × (Nat → Int32) × (Nat → Int32)) => Q u.1 u.2.1 u.2.2) (fun (u : (Nat → Int32) × (Nat → Int32) × (Nat → Int32)) t => va_P g.1 vwCl [(qrk, .inr (3, [.ref qe, .ref qN, .ref qS, .ref qR])), (qN, .inl (g.2 0, 20, .inl u.1)), (qS, .inl (g.2 0, 20, .inl u.2.1)), (qR, .inl (g.2 0, 5, .inl u.2.2)), (qe, .inr (0, [.ref qt, .ref qh, .ref qm, .ref qb, .ref qx, .int (E 5), .int (E 6), .int (E 7), .int (E 8), .int (E 9), .int (E 10), .int (E 11)])), (qm, .inl (g.2 6, 5, .inr (.inr (.inr (.inr (rwM aM)))))), ((aM 0), .inl (g.2 0, 13, .inl (M 0))), ((aM 1), .inl (g.2 0, 13, .inl (M 1))), ((aM 2), .inl (g.2 0, 13, .inl (M 2))), ((aM 3), .inl (g.2 0, 13, .inl (M 3))), ((aM 4), .inl (g.2 0, 13, .inl (M 4))), (qt, .inr (7, [.ref ql, .ref qr, .ref qv, .ref qg, .int parts, .int limit])), (ql, .inl (g.2 0, 5, .inl len)), (qv, .inl (g.2 0, 5, .inl vot))] t.heap ∧ va_D A [(qrk, .inr (3, [.ref qe, .ref qN, .ref qS, .ref qR])), (qN, .inl (g.2 0, 20, .inl u.1)), (qS, .inl (g.2 0, 20, .inl u.2.1)), (qR, .inl (g.2 0, 5, .inl u.2.2)), (qe, .inr (0, [.ref qt, .ref qh, .ref qm, .ref qb, .ref qx, .int (E 5), .int (E 6), .int (E 7), .int (E 8), .int (E 9), .int (E 10), .int (E 11)])), (qm, .inl (g.2 6, 5, .inr (.inr (.inr (.inr (rwM aM)))))), ((aM 0), .inl (g.2 0, 13, .inl (M 0))), ((aM 1), .inl (g.2 0, 13, .inl (M 1))), ((aM 2), .inl (g.2 0, 13, .inl (M 2))), ((aM 3), .inl (g.2 0, 13, .inl (M 3))), ((aM 4), .inl (g.2 0, 13, .inl (M 4))), (qt, .inr (7, [.ref ql, .ref qr, .ref qv, .ref qg, .int parts, .int limit])), (ql, .inl (g.2 0, 5, .inl len)), (qv, .inl (g.2 0, 5, .inl vot))]) A) args s 0 0 A) (F0 m 50 ls []) := by
  obtain ⟨hx, hb, hml, hown, hts⟩ := id S
  have hK := hG.1
  intro x2 x3 x4 nm sc rs hv H locs hP hD hS ls hl
  unfold vX3_rankFirst_c50 at hv
  refine lv_iload_n hx hb dX3_rankFirst_50 rfl (lv_at hl 2 rfl) ?_
  refine lv_iconst (v := (1 : Int32)) hx hb dX3_rankFirst_51 (by decide) ?_
  refine lv_iadd hx hb dX3_rankFirst_52 ?_
  refine lv_iload_n hx hb dX3_rankFirst_53 rfl (lv_at hl 1 rfl) ?_
  refine va_mmin hx hb (by rw [hml]; exact hl.1.symm) hown (hts (.methodLink RX3 47 Lib.Math.min.name) (List.mem_of_getElem? (i := 6) rfl)) (hts (.static Lib.Math.min.name) (List.mem_of_getElem? (i := 7) rfl)) (hts (.initialized "java/lang/Math") (List.mem_of_getElem? (i := 8) rfl)) (hts (.code Lib.Math.min.name Lib.Math.min.code 2 (some .int)) (List.mem_of_getElem? (i := 9) rfl)) (Nat.le_of_ble_eq_true rfl) (Nat.le_of_ble_eq_true rfl) (Nat.zero_le _) (Nat.zero_le _) dX3_rankFirst_54 ?_
  refine lv_topi (fun y_57 ey_57 => ?_)
  have hv := hv y_57 ey_57
  refine lv_istore_n (lv' := [(2, .int y_57), (0, .ref qrk), (1, .int p1), (3, .int x3), (4, .int x4)]) hx hb dX3_rankFirst_57 rfl hl (by decide) rfl (fun ls hl => ?_)
  refine lv_aload_n hx hb dX3_rankFirst_58 rfl (lv_at hl 1 rfl) ?_
  refine lv_iload_n hx hb dX3_rankFirst_59 rfl (lv_at hl 3 rfl) ?_
  refine lv_iload hx hb dX3_rankFirst_60 (lv_at hl 4 rfl) ?_
  refine lv_iload_n hx hb dX3_rankFirst_62 rfl (lv_at hl 0 rfl) ?_
  refine lv_iconst (v := (1 : Int32)) hx hb dX3_rankFirst_63 (by decide) ?_
  refine lv_isub hx hb dX3_rankFirst_64 ?_
  obtain ⟨la_65, ho_1, hv⟩ := hv
  have hPc := hP.sub (ws' := [(qrk, .inr (3, [.ref qe, .ref qN, .ref qS, .ref qR])), (qN, .inl (g.2 0, 20, .inl nm)), (qS, .inl (g.2 0, 20, .inl sc))]) [0, 1, 2] rfl
  have hDc := hD.sub (ws' := [(qrk, .inr (3, [.ref qe, .ref qN, .ref qS, .ref qR])), (qN, .inl (g.2 0, 20, .inl nm)), (qS, .inl (g.2 0, 20, .inl sc))]) [0, 1, 2] (by decide) rfl
  have hFc := va_free (wc := [(qrk, .inr (3, [.ref qe, .ref qN, .ref qS, .ref qR])), (qN, .inl (g.2 0, 20, .inl nm)), (qS, .inl (g.2 0, 20, .inl sc))]) hD hS hA [0, 1, 2] rfl
  refine va_callv (va_runV (As := [.int x3, .int x4, .int (y_57 - (1 : Int32))]) (rest := []) S (wX3_putIn l g qrk qN qS qR qe H.size nm sc x3 x4 (y_57 - (1 : Int32)) (sX3_putIn la_65 nm sc x3 x4 (y_57 - (1 : Int32)) ho_1)) (cwV 3 hts gX3_rankFirst_X3_putIn rfl rfl rfl (by decide +kernel) ⟨Nat.le_of_ble_eq_true rfl, Nat.le_of_ble_eq_true rfl⟩) ⟨blindRW, va_recv hK hP (ci := 3) (q0 := 0) rfl rfl, fun U hU hW => ⟨rfl, by rw [hU], by rw [hU]; exact hPc, hG.warm hW, hDc.weaken (fun _ _ _ _ => trivial)⟩⟩ rfl rfl hl.1 rfl (lv_room (Nat.le_of_ble_eq_true rfl)) dX3_rankFirst_65 ⟨Nat.le_of_ble_eq_true rfl, Nat.le_of_ble_eq_true rfl⟩) hS (fun q _ h => hFc q h) hFc (fun u t H1 locs ht hvm hw hB hz1 hk1 hS => ?_)
  obtain ⟨nm_65, sc_65⟩ := u
  obtain ⟨hP1, hD1⟩ := hB
  rw [ht] at hP1
  have hv := hv nm_65 sc_65 hw
  obtain ⟨hP, hD⟩ := va_join (wr := [(qR, .inl (g.2 0, 5, .inl rs)), (qe, .inr (0, [.ref qt, .ref qh, .ref qm, .ref qb, .ref qx, .int (E 5), .int (E 6), .int (E 7), .int (E 8), .int (E 9), .int (E 10), .int (E 11)])), (qm, .inl (g.2 6, 5, .inr (.inr (.inr (.inr (rwM aM)))))), ((aM 0), .inl (g.2 0, 13, .inl (M 0))), ((aM 1), .inl (g.2 0, 13, .inl (M 1))), ((aM 2), .inl (g.2 0, 13, .inl (M 2))), ((aM 3), .inl (g.2 0, 13, .inl (M 3))), ((aM 4), .inl (g.2 0, 13, .inl (M 4))), (qt, .inr (7, [.ref ql, .ref qr, .ref qv, .ref qg, .int parts, .int limit])), (ql, .inl (g.2 0, 5, .inl len)), (qv, .inl (g.2 0, 5, .inl vot))]) (w1 := [(qrk, .inr (3, [.ref qe, .ref qN, .ref qS, .ref qR])), (qN, .inl (g.2 0, 20, .inl nm_65)), (qS, .inl (g.2 0, 20, .inl sc_65))]) hP hD [0, 1, 2] [3, 4, 5, 6, 7, 8, 9, 10, 11, 12, 13] rfl rfl (by decide) (by decide) hk1 hFc hP1 hD1
  clear hP1 hD1 hPc hDc hFc hk1
  generalize H1 = H at hP hS ⊢
  have hP : va_P g.1 vwCl [(qR, .inl (g.2 0, 5, .inl rs)), (qe, .inr (0, [.ref qt, .ref qh, .ref qm, .ref qb, .ref qx, .int (E 5), .int (E 6), .int (E 7), .int (E 8), .int (E 9), .int (E 10), .int (E 11)])), (qm, .inl (g.2 6, 5, .inr (.inr (.inr (.inr (rwM aM)))))), ((aM 0), .inl (g.2 0, 13, .inl (M 0))), ((aM 1), .inl (g.2 0, 13, .inl (M 1))), ((aM 2), .inl (g.2 0, 13, .inl (M 2))), ((aM 3), .inl (g.2 0, 13, .inl (M 3))), ((aM 4), .inl (g.2 0, 13, .inl (M 4))), (qt, .inr (7, [.ref ql, .ref qr, .ref qv, .ref qg, .int parts, .int limit])), (ql, .inl (g.2 0, 5, .inl len)), (qv, .inl (g.2 0, 5, .inl vot)), (qrk, .inr (3, [.ref qe, .ref qN, .ref qS, .ref qR])), (qN, .inl (g.2 0, 20, .inl nm_65)), (qS, .inl (g.2 0, 20, .inl sc_65))] H := hP
  have hD : va_D A [(qR, .inl (g.2 0, 5, .inl rs)), (qe, .inr (0, [.ref qt, .ref qh, .ref qm, .ref qb, .ref qx, .int (E 5), .int (E 6), .int (E 7), .int (E 8), .int (E 9), .int (E 10), .int (E 11)])), (qm, .inl (g.2 6, 5, .inr (.inr (.inr (.inr (rwM aM)))))), ((aM 0), .inl (g.2 0, 13, .inl (M 0))), ((aM 1), .inl (g.2 0, 13, .inl (M 1))), ((aM 2), .inl (g.2 0, 13, .inl (M 2))), ((aM 3), .inl (g.2 0, 13, .inl (M 3))), ((aM 4), .inl (g.2 0, 13, .inl (M 4))), (qt, .inr (7, [.ref ql, .ref qr, .ref qv, .ref qg, .int parts, .int limit])), (ql, .inl (g.2 0, 5, .inl len)), (qv, .inl (g.2 0, 5, .inl vot)), (qrk, .inr (3, [.ref qe, .ref qN, .ref qS, .ref qR])), (qN, .inl (g.2 0, 20, .inl nm_65)), (qS, .inl (g.2 0, 20, .inl sc_65))] := hD
  refine lv_iinc (v := (x3 + (1 : Int32))) (lv' := [(3, .int (x3 + (1 : Int32))), (2, .int y_57), (0, .ref qrk), (1, .int p1), (4, .int x4)]) hx hb dX3_rankFirst_68 hl (k := 3) rfl rfl (by decide) rfl (fun ls hl => ?_)
  refine lv_goto (tgt := 12) hx hb dX3_rankFirst_71 (by decide) ?_
  exact kk12 _ _ _ _ _ hv _ _ (hP.sub (ws' := [(qrk, .inr (3, [.ref qe, .ref qN, .ref qS, .ref qR])), (qN, .inl (g.2 0, 20, .inl nm_65)), (qS, .inl (g.2 0, 20, .inl sc_65)), (qR, .inl (g.2 0, 5, .inl rs)), (qe, .inr (0, [.ref qt, .ref qh, .ref qm, .ref qb, .ref qx, .int (E 5), .int (E 6), .int (E 7), .int (E 8), .int (E 9), .int (E 10), .int (E 11)])), (qm, .inl (g.2 6, 5, .inr (.inr (.inr (.inr (rwM aM)))))), ((aM 0), .inl (g.2 0, 13, .inl (M 0))), ((aM 1), .inl (g.2 0, 13, .inl (M 1))), ((aM 2), .inl (g.2 0, 13, .inl (M 2))), ((aM 3), .inl (g.2 0, 13, .inl (M 3))), ((aM 4), .inl (g.2 0, 13, .inl (M 4))), (qt, .inr (7, [.ref ql, .ref qr, .ref qv, .ref qg, .int parts, .int limit])), (ql, .inl (g.2 0, 5, .inl len)), (qv, .inl (g.2 0, 5, .inl vot))]) [11, 12, 13, 0, 1, 2, 3, 4, 5, 6, 7, 8, 9, 10] rfl) (hD.sub (ws' := [(qrk, .inr (3, [.ref qe, .ref qN, .ref qS, .ref qR])), (qN, .inl (g.2 0, 20, .inl nm_65)), (qS, .inl (g.2 0, 20, .inl sc_65)), (qR, .inl (g.2 0, 5, .inl rs)), (qe, .inr (0, [.ref qt, .ref qh, .ref qm, .ref qb, .ref qx, .int (E 5), .int (E 6), .int (E 7), .int (E 8), .int (E 9), .int (E 10), .int (E 11)])), (qm, .inl (g.2 6, 5, .inr (.inr (.inr (.inr (rwM aM)))))), ((aM 0), .inl (g.2 0, 13, .inl (M 0))), ((aM 1), .inl (g.2 0, 13, .inl (M 1))), ((aM 2), .inl (g.2 0, 13, .inl (M 2))), ((aM 3), .inl (g.2 0, 13, .inl (M 3))), ((aM 4), .inl (g.2 0, 13, .inl (M 4))), (qt, .inr (7, [.ref ql, .ref qr, .ref qv, .ref qg, .int parts, .int limit])), (ql, .inl (g.2 0, 5, .inl len)), (qv, .inl (g.2 0, 5, .inl vot))]) [11, 12, 13, 0, 1, 2, 3, 4, 5, 6, 7, 8, 9, 10] (by decide) rfl) hS ls (lv_sub hl [2, 3, 1, 0] rfl)
def vX3_rankFirst_c12 (E : Nat → Int32) (M : Nat → Nat → Int32) (parts : Int32) (limit : Int32) (len : Nat → Int32) (vot : Nat → Int32) (p1 : Int32) (Q : (Nat → Int32) → (Nat → Int32) → (Nat → Int32) → Prop) : Nat → Int32 → Int32 → (Nat → Int32) → (Nat → Int32) → (Nat → Int32) → Prop
  | 0, _, _, _, _, _ => False
  | n + 1, x2, x3, nm, sc, rs => ((limit ≤ x3 → (Q nm sc rs)) ∧ (¬ limit ≤ x3 → (∃ (T_27 : Cd) (m_27 : Nat → Nat → Int) (n_27 : Nat), preX3_nextScore T_27 m_27 n_27 rs E M parts limit len vot ∧ (∀ (r_27 : Int32) (rs_27 : Nat → Int32), postX3_nextScore T_27 m_27 n_27 rs E M parts limit len vot r_27 rs_27 → ((x2 < p1 → (vX3_rankFirst_c50 E M parts limit len vot p1 Q (vX3_rankFirst_c12 E M parts limit len vot p1 Q n) x2 x3 r_27 nm sc rs_27)) ∧ (¬ x2 < p1 → (vp_in (x2 - (1 : Int32)) 20 ∧ ((r_27 ≤ (sc (x2 - (1 : Int32)).toNatClampNeg) → (vX3_rankFirst_c12 E M parts limit len vot p1 Q n x2 (x3 + (1 : Int32)) nm sc rs_27)) ∧ (¬ r_27 ≤ (sc (x2 - (1 : Int32)).toNatClampNeg) → (vX3_rankFirst_c50 E M parts limit len vot p1 Q (vX3_rankFirst_c12 E M parts limit len vot p1 Q n) x2 x3 r_27 nm sc rs_27))))))))))
set_option maxHeartbeats 4000000 in
set_option maxRecDepth 100000 in
theorem kX3_rankFirst_c12 {p : Program} {l : Launch} {e : Env} {s : State} {m : MethodId} {args : Array Value} {below : List Frame} {meth : Method} {c : Code} {g : GP} {qrk : Nat} {qN : Nat} {qS : Nat} {qR : Nat} {qh : Nat} {qm : Nat} {qb : Nat} {qx : Nat} {aM : Nat → Nat} {ql : Nat} {qr : Nat} {qv : Nat} {qg : Nat} {qe : Nat} {qt : Nat} {E : Nat → Int32} {M : Nat → Nat → Int32} {parts : Int32} {limit : Int32} {len : Nat → Int32} {vot : Nat → Int32} {p1 : Int32} {Q : (Nat → Int32) → (Nat → Int32) → (Nat → Int32) → Prop} {A : Nat → Prop} (S : CallFix p m c cX3_rankFirst 5 s args wsX3_rankFirst RX3) (hr : meth.sig.returnType = none) (hlocks : meth.locks = false) (hG : GK g s) (hA : ∀ q : Nat, s.heap.size ≤ q → A q) : ∀ (n : Nat), ∀ (x2 : Int32) (x3 : Int32) (nm : Nat → Int32) (sc : Nat → Int32) (rs : Nat → Int32), vX3_rankFirst_c12 E M parts limit len vot p1 Q n x2 x3 nm sc rs → ∀ (H : Heap) (locs : List Loc), va_P g.1 vwCl [(qrk, .inr (3, [.ref qe, .ref qN, .ref qS, .ref qR])), (qN, .inl (g.2 0, 20, .inl nm)), (qS, .inl (g.2 0, 20, .inl sc)), (qR, .inl (g.2 0, 5, .inl rs)), (qe, .inr (0, [.ref qt, .ref qh, .ref qm, .ref qb, .ref qx, .int (E 5), .int (E 6), .int (E 7), .int (E 8), .int (E 9), .int (E 10), .int (E 11)])), (qm, .inl (g.2 6, 5, .inr (.inr (.inr (.inr (rwM aM)))))), ((aM 0), .inl (g.2 0, 13, .inl (M 0))), ((aM 1), .inl (g.2 0, 13, .inl (M 1))), ((aM 2), .inl (g.2 0, 13, .inl (M 2))), ((aM 3), .inl (g.2 0, 13, .inl (M 3))), ((aM 4), .inl (g.2 0, 13, .inl (M 4))), (qt, .inr (7, [.ref ql, .ref qr, .ref qv, .ref qg, .int parts, .int limit])), (ql, .inl (g.2 0, 5, .inl len)), (qv, .inl (g.2 0, 5, .inl vot))] H → va_D A [(qrk, .inr (3, [.ref qe, .ref qN, .ref qS, .ref qR])), (qN, .inl (g.2 0, 20, .inl nm)), (qS, .inl (g.2 0, 20, .inl sc)), (qR, .inl (g.2 0, 5, .inl rs)), (qe, .inr (0, [.ref qt, .ref qh, .ref qm, .ref qb, .ref qx, .int (E 5), .int (E 6), .int (E 7), .int (E 8), .int (E 9), .int (E 10), .int (E 11)])), (qm, .inl (g.2 6, 5, .inr (.inr (.inr (.inr (rwM aM)))))), ((aM 0), .inl (g.2 0, 13, .inl (M 0))), ((aM 1), .inl (g.2 0, 13, .inl (M 1))), ((aM 2), .inl (g.2 0, 13, .inl (M 2))), ((aM 3), .inl (g.2 0, 13, .inl (M 3))), ((aM 4), .inl (g.2 0, 13, .inl (M 4))), (qt, .inr (7, [.ref ql, .ref qr, .ref qv, .ref qg, .int parts, .int limit])), (ql, .inl (g.2 0, 5, .inl len)), (qv, .inl (g.2 0, 5, .inl vot))] → va_S A s.heap H locs → ∀ (ls : Array Slot), lv_has ls 5 [(0, .ref qrk), (1, .int p1), (2, .int x2), (3, .int x3)] → W p l e (headSpec wsX3_rankFirst rmX3_rankFirst).room s m args below meth c H locs 0 0 (MQ below (va_Qv (fun (u : (Nat → Int32) × (Nat → Int32) × (Nat → Int32)) => Q u.1 u.2.1 u.2.2) (fun (u : (Nat → Int32) × (Nat → Int32) × (Nat → Int32)) t => va_P g.1 vwCl [(qrk, .inr (3, [.ref qe, .ref qN, .ref qS, .ref qR])), (qN, .inl (g.2 0, 20, .inl u.1)), (qS, .inl (g.2 0, 20, .inl u.2.1)), (qR, .inl (g.2 0, 5, .inl u.2.2)), (qe, .inr (0, [.ref qt, .ref qh, .ref qm, .ref qb, .ref qx, .int (E 5), .int (E 6), .int (E 7), .int (E 8), .int (E 9), .int (E 10), .int (E 11)])), (qm, .inl (g.2 6, 5, .inr (.inr (.inr (.inr (rwM aM)))))), ((aM 0), .inl (g.2 0, 13, .inl (M 0))), ((aM 1), .inl (g.2 0, 13, .inl (M 1))), ((aM 2), .inl (g.2 0, 13, .inl (M 2))), ((aM 3), .inl (g.2 0, 13, .inl (M 3))), ((aM 4), .inl (g.2 0, 13, .inl (M 4))), (qt, .inr (7, [.ref ql, .ref qr, .ref qv, .ref qg, .int parts, .int limit])), (ql, .inl (g.2 0, 5, .inl len)), (qv, .inl (g.2 0, 5, .inl vot))] t.heap ∧ va_D A [(qrk, .inr (3, [.ref qe, .ref qN, .ref qS, .ref qR])), (qN, .inl (g.2 0, 20, .inl u.1)), (qS, .inl (g.2 0, 20, .inl u.2.1)), (qR, .inl (g.2 0, 5, .inl u.2.2)), (qe, .inr (0, [.ref qt, .ref qh, .ref qm, .ref qb, .ref qx, .int (E 5), .int (E 6), .int (E 7), .int (E 8), .int (E 9), .int (E 10), .int (E 11)])), (qm, .inl (g.2 6, 5, .inr (.inr (.inr (.inr (rwM aM)))))), ((aM 0), .inl (g.2 0, 13, .inl (M 0))), ((aM 1), .inl (g.2 0, 13, .inl (M 1))), ((aM 2), .inl (g.2 0, 13, .inl (M 2))), ((aM 3), .inl (g.2 0, 13, .inl (M 3))), ((aM 4), .inl (g.2 0, 13, .inl (M 4))), (qt, .inr (7, [.ref ql, .ref qr, .ref qv, .ref qg, .int parts, .int limit])), (ql, .inl (g.2 0, 5, .inl len)), (qv, .inl (g.2 0, 5, .inl vot))]) A) args s 0 0 A) (F0 m 12 ls []) := by
  obtain ⟨hx, hb, hml, hown, hts⟩ := id S
  have hK := hG.1
  intro n
  induction n with
  | zero => intro x2 x3 nm sc rs hv; exact hv.elim
  | succ n ih =>
    intro x2 x3 nm sc rs hv H locs hP hD hS ls hl
    refine lv_iload_n hx hb dX3_rankFirst_12 rfl (lv_at hl 3 rfl) ?_
    refine lv_aload_n hx hb dX3_rankFirst_13 rfl (lv_at hl 0 rfl) ?_
    refine va_get (D := g.1) (ci := 3) (v := .ref qe) (C := RX3) (T := TX3) (N := 4) hx hb hts inX3_rankFirst_3 hown hK hP 0 rfl rfl 0 (by decide) (hts (.fieldLink RX3 21 "RangeCodes$Ranking" "ear" "LRangeCodes$Ear;") (List.mem_of_getElem? (i := 2) rfl)) (fun _ h9 => h9) rfl dX3_rankFirst_14 ?_
    refine va_get (D := g.1) (ci := 0) (v := .ref qt) (C := RX0) (T := TX0) (N := 12) hx hb hts inX3_rankFirst_0 hown hK hP 4 rfl rfl 0 (by decide) (hts (.fieldLink RX3 31 "RangeCodes$Ear" "told" "LRangeCodes$Told;") (List.mem_of_getElem? (i := 3) rfl)) (fun _ h9 => h9) rfl dX3_rankFirst_17 ?_
    refine va_get (D := g.1) (ci := 7) (v := .int limit) (C := RX7) (T := TX7) (N := 6) hx hb hts inX3_rankFirst_7 hown hK hP 11 rfl rfl 5 (by decide) (hts (.fieldLink RX3 37 "RangeCodes$Told" "limit" "I") (List.mem_of_getElem? (i := 4) rfl)) (fun _ h9 => h9) rfl dX3_rankFirst_20 ?_
    obtain ⟨hvt, hvf⟩ := hv
    refine lv_icmp_ge (tgt := 74) hx hb dX3_rankFirst_23 (by decide) (fun hc => ?_) (fun hc => ?_)
    · have hv := hvt hc
      have hP9 := hP.sub (ws' := [(qrk, .inr (3, [.ref qe, .ref qN, .ref qS, .ref qR])), (qN, .inl (g.2 0, 20, .inl nm)), (qS, .inl (g.2 0, 20, .inl sc)), (qR, .inl (g.2 0, 5, .inl rs)), (qe, .inr (0, [.ref qt, .ref qh, .ref qm, .ref qb, .ref qx, .int (E 5), .int (E 6), .int (E 7), .int (E 8), .int (E 9), .int (E 10), .int (E 11)])), (qm, .inl (g.2 6, 5, .inr (.inr (.inr (.inr (rwM aM)))))), ((aM 0), .inl (g.2 0, 13, .inl (M 0))), ((aM 1), .inl (g.2 0, 13, .inl (M 1))), ((aM 2), .inl (g.2 0, 13, .inl (M 2))), ((aM 3), .inl (g.2 0, 13, .inl (M 3))), ((aM 4), .inl (g.2 0, 13, .inl (M 4))), (qt, .inr (7, [.ref ql, .ref qr, .ref qv, .ref qg, .int parts, .int limit])), (ql, .inl (g.2 0, 5, .inl len)), (qv, .inl (g.2 0, 5, .inl vot))]) [0, 1, 2, 3, 4, 5, 6, 7, 8, 9, 10, 11, 12, 13] rfl
      have hD9 := hD.sub (ws' := [(qrk, .inr (3, [.ref qe, .ref qN, .ref qS, .ref qR])), (qN, .inl (g.2 0, 20, .inl nm)), (qS, .inl (g.2 0, 20, .inl sc)), (qR, .inl (g.2 0, 5, .inl rs)), (qe, .inr (0, [.ref qt, .ref qh, .ref qm, .ref qb, .ref qx, .int (E 5), .int (E 6), .int (E 7), .int (E 8), .int (E 9), .int (E 10), .int (E 11)])), (qm, .inl (g.2 6, 5, .inr (.inr (.inr (.inr (rwM aM)))))), ((aM 0), .inl (g.2 0, 13, .inl (M 0))), ((aM 1), .inl (g.2 0, 13, .inl (M 1))), ((aM 2), .inl (g.2 0, 13, .inl (M 2))), ((aM 3), .inl (g.2 0, 13, .inl (M 3))), ((aM 4), .inl (g.2 0, 13, .inl (M 4))), (qt, .inr (7, [.ref ql, .ref qr, .ref qv, .ref qg, .int parts, .int limit])), (ql, .inl (g.2 0, 5, .inl len)), (qv, .inl (g.2 0, 5, .inl vot))]) [0, 1, 2, 3, 4, 5, 6, 7, 8, 9, 10, 11, 12, 13] (by decide) rfl
      exact W.vret hx hb hr (fun t ht hW => ⟨⟨(nm, sc, rs), rfl, hv, by rw [ht]; exact hP9, hD9⟩, hS.F ht⟩) hS.2.2 dX3_rankFirst_74
    · have hv := hvf hc
      refine lv_aload_n hx hb dX3_rankFirst_26 rfl (lv_at hl 0 rfl) ?_
      obtain ⟨T_27, m_27, n_27, ho_1, hv⟩ := hv
      have hPc := hP.sub (ws' := [(qrk, .inr (3, [.ref qe, .ref qN, .ref qS, .ref qR])), (qR, .inl (g.2 0, 5, .inl rs)), (qe, .inr (0, [.ref qt, .ref qh, .ref qm, .ref qb, .ref qx, .int (E 5), .int (E 6), .int (E 7), .int (E 8), .int (E 9), .int (E 10), .int (E 11)])), (qm, .inl (g.2 6, 5, .inr (.inr (.inr (.inr (rwM aM)))))), ((aM 0), .inl (g.2 0, 13, .inl (M 0))), ((aM 1), .inl (g.2 0, 13, .inl (M 1))), ((aM 2), .inl (g.2 0, 13, .inl (M 2))), ((aM 3), .inl (g.2 0, 13, .inl (M 3))), ((aM 4), .inl (g.2 0, 13, .inl (M 4))), (qt, .inr (7, [.ref ql, .ref qr, .ref qv, .ref qg, .int parts, .int limit])), (ql, .inl (g.2 0, 5, .inl len)), (qv, .inl (g.2 0, 5, .inl vot))]) [0, 3, 4, 5, 6, 7, 8, 9, 10, 11, 12, 13] rfl
      have hDc := hD.sub (ws' := [(qrk, .inr (3, [.ref qe, .ref qN, .ref qS, .ref qR])), (qR, .inl (g.2 0, 5, .inl rs)), (qe, .inr (0, [.ref qt, .ref qh, .ref qm, .ref qb, .ref qx, .int (E 5), .int (E 6), .int (E 7), .int (E 8), .int (E 9), .int (E 10), .int (E 11)])), (qm, .inl (g.2 6, 5, .inr (.inr (.inr (.inr (rwM aM)))))), ((aM 0), .inl (g.2 0, 13, .inl (M 0))), ((aM 1), .inl (g.2 0, 13, .inl (M 1))), ((aM 2), .inl (g.2 0, 13, .inl (M 2))), ((aM 3), .inl (g.2 0, 13, .inl (M 3))), ((aM 4), .inl (g.2 0, 13, .inl (M 4))), (qt, .inr (7, [.ref ql, .ref qr, .ref qv, .ref qg, .int parts, .int limit])), (ql, .inl (g.2 0, 5, .inl len)), (qv, .inl (g.2 0, 5, .inl vot))]) [0, 3, 4, 5, 6, 7, 8, 9, 10, 11, 12, 13] (by decide) rfl
      have hFc := va_free (wc := [(qrk, .inr (3, [.ref qe, .ref qN, .ref qS, .ref qR])), (qR, .inl (g.2 0, 5, .inl rs)), (qe, .inr (0, [.ref qt, .ref qh, .ref qm, .ref qb, .ref qx, .int (E 5), .int (E 6), .int (E 7), .int (E 8), .int (E 9), .int (E 10), .int (E 11)])), (qm, .inl (g.2 6, 5, .inr (.inr (.inr (.inr (rwM aM)))))), ((aM 0), .inl (g.2 0, 13, .inl (M 0))), ((aM 1), .inl (g.2 0, 13, .inl (M 1))), ((aM 2), .inl (g.2 0, 13, .inl (M 2))), ((aM 3), .inl (g.2 0, 13, .inl (M 3))), ((aM 4), .inl (g.2 0, 13, .inl (M 4))), (qt, .inr (7, [.ref ql, .ref qr, .ref qv, .ref qg, .int parts, .int limit])), (ql, .inl (g.2 0, 5, .inl len)), (qv, .inl (g.2 0, 5, .inl vot))]) hD hS hA [0, 3, 4, 5, 6, 7, 8, 9, 10, 11, 12, 13] rfl
      refine va_calli (va_runV (As := []) (rest := []) S (wX3_nextScore l g qrk qN qS qR qh qm qb qx aM ql qr qv qg qe qt H.size rs E M parts limit len vot (sX3_nextScore T_27 m_27 n_27 rs E M parts limit len vot ho_1)) (cwV 0 hts gX3_rankFirst_X3_nextScore rfl rfl rfl (by decide +kernel) ⟨Nat.le_of_ble_eq_true rfl, Nat.le_of_ble_eq_true rfl⟩) ⟨blindRW, va_recv hK hP (ci := 3) (q0 := 0) rfl rfl, fun U hU hW => ⟨rfl, by rw [hU], by rw [hU]; exact hPc, hG.warm hW, hDc.weaken (fun _ _ _ _ => trivial)⟩⟩ rfl rfl hl.1 rfl (lv_room (Nat.le_of_ble_eq_true rfl)) dX3_rankFirst_27 ⟨Nat.le_of_ble_eq_true rfl, Nat.le_of_ble_eq_true rfl⟩) hS (fun q _ h => hFc q h) hFc (fun r_27 u t H1 locs ht hvm hw hB hz1 hk1 hS => ?_)
      obtain ⟨rs_27, rfl⟩ : ∃ z, z = u := ⟨_, rfl⟩
      obtain ⟨hP1, hD1⟩ := hB
      rw [ht] at hP1
      have hv := hv r_27 rs_27 hw
      obtain ⟨hP, hD⟩ := va_join (wr := [(qN, .inl (g.2 0, 20, .inl nm)), (qS, .inl (g.2 0, 20, .inl sc))]) (w1 := [(qrk, .inr (3, [.ref qe, .ref qN, .ref qS, .ref qR])), (qR, .inl (g.2 0, 5, .inl rs_27)), (qe, .inr (0, [.ref qt, .ref qh, .ref qm, .ref qb, .ref qx, .int (E 5), .int (E 6), .int (E 7), .int (E 8), .int (E 9), .int (E 10), .int (E 11)])), (qm, .inl (g.2 6, 5, .inr (.inr (.inr (.inr (rwM aM)))))), ((aM 0), .inl (g.2 0, 13, .inl (M 0))), ((aM 1), .inl (g.2 0, 13, .inl (M 1))), ((aM 2), .inl (g.2 0, 13, .inl (M 2))), ((aM 3), .inl (g.2 0, 13, .inl (M 3))), ((aM 4), .inl (g.2 0, 13, .inl (M 4))), (qt, .inr (7, [.ref ql, .ref qr, .ref qv, .ref qg, .int parts, .int limit])), (ql, .inl (g.2 0, 5, .inl len)), (qv, .inl (g.2 0, 5, .inl vot))]) hP hD [0, 3, 4, 5, 6, 7, 8, 9, 10, 11, 12, 13] [1, 2] rfl rfl (by decide) (by decide) hk1 hFc hP1 hD1
      clear hP1 hD1 hPc hDc hFc hk1
      generalize H1 = H at hP hS ⊢
      have hP : va_P g.1 vwCl [(qN, .inl (g.2 0, 20, .inl nm)), (qS, .inl (g.2 0, 20, .inl sc)), (qrk, .inr (3, [.ref qe, .ref qN, .ref qS, .ref qR])), (qR, .inl (g.2 0, 5, .inl rs_27)), (qe, .inr (0, [.ref qt, .ref qh, .ref qm, .ref qb, .ref qx, .int (E 5), .int (E 6), .int (E 7), .int (E 8), .int (E 9), .int (E 10), .int (E 11)])), (qm, .inl (g.2 6, 5, .inr (.inr (.inr (.inr (rwM aM)))))), ((aM 0), .inl (g.2 0, 13, .inl (M 0))), ((aM 1), .inl (g.2 0, 13, .inl (M 1))), ((aM 2), .inl (g.2 0, 13, .inl (M 2))), ((aM 3), .inl (g.2 0, 13, .inl (M 3))), ((aM 4), .inl (g.2 0, 13, .inl (M 4))), (qt, .inr (7, [.ref ql, .ref qr, .ref qv, .ref qg, .int parts, .int limit])), (ql, .inl (g.2 0, 5, .inl len)), (qv, .inl (g.2 0, 5, .inl vot))] H := hP
      have hD : va_D A [(qN, .inl (g.2 0, 20, .inl nm)), (qS, .inl (g.2 0, 20, .inl sc)), (qrk, .inr (3, [.ref qe, .ref qN, .ref qS, .ref qR])), (qR, .inl (g.2 0, 5, .inl rs_27)), (qe, .inr (0, [.ref qt, .ref qh, .ref qm, .ref qb, .ref qx, .int (E 5), .int (E 6), .int (E 7), .int (E 8), .int (E 9), .int (E 10), .int (E 11)])), (qm, .inl (g.2 6, 5, .inr (.inr (.inr (.inr (rwM aM)))))), ((aM 0), .inl (g.2 0, 13, .inl (M 0))), ((aM 1), .inl (g.2 0, 13, .inl (M 1))), ((aM 2), .inl (g.2 0, 13, .inl (M 2))), ((aM 3), .inl (g.2 0, 13, .inl (M 3))), ((aM 4), .inl (g.2 0, 13, .inl (M 4))), (qt, .inr (7, [.ref ql, .ref qr, .ref qv, .ref qg, .int parts, .int limit])), (ql, .inl (g.2 0, 5, .inl len)), (qv, .inl (g.2 0, 5, .inl vot))] := hD
      refine lv_istore (lv' := [(4, .int r_27), (0, .ref qrk), (1, .int p1), (2, .int x2), (3, .int x3)]) hx hb dX3_rankFirst_30 hl (by decide) rfl (fun ls hl => ?_)
      refine lv_iload_n hx hb dX3_rankFirst_32 rfl (lv_at hl 3 rfl) ?_
      refine lv_iload_n hx hb dX3_rankFirst_33 rfl (lv_at hl 2 rfl) ?_
      obtain ⟨hvt, hvf⟩ := hv
      refine lv_icmp_lt (tgt := 50) hx hb dX3_rankFirst_34 (by decide) (fun hc => ?_) (fun hc => ?_)
      · have hv := hvt hc
        exact kX3_rankFirst_c50 S hr hlocks hG hA ih _ _ _ _ _ _ hv _ _ (hP.sub (ws' := [(qrk, .inr (3, [.ref qe, .ref qN, .ref qS, .ref qR])), (qN, .inl (g.2 0, 20, .inl nm)), (qS, .inl (g.2 0, 20, .inl sc)), (qR, .inl (g.2 0, 5, .inl rs_27)), (qe, .inr (0, [.ref qt, .ref qh, .ref qm, .ref qb, .ref qx, .int (E 5), .int (E 6), .int (E 7), .int (E 8), .int (E 9), .int (E 10), .int (E 11)])), (qm, .inl (g.2 6, 5, .inr (.inr (.inr (.inr (rwM aM)))))), ((aM 0), .inl (g.2 0, 13, .inl (M 0))), ((aM 1), .inl (g.2 0, 13, .inl (M 1))), ((aM 2), .inl (g.2 0, 13, .inl (M 2))), ((aM 3), .inl (g.2 0, 13, .inl (M 3))), ((aM 4), .inl (g.2 0, 13, .inl (M 4))), (qt, .inr (7, [.ref ql, .ref qr, .ref qv, .ref qg, .int parts, .int limit])), (ql, .inl (g.2 0, 5, .inl len)), (qv, .inl (g.2 0, 5, .inl vot))]) [2, 0, 1, 3, 4, 5, 6, 7, 8, 9, 10, 11, 12, 13] rfl) (hD.sub (ws' := [(qrk, .inr (3, [.ref qe, .ref qN, .ref qS, .ref qR])), (qN, .inl (g.2 0, 20, .inl nm)), (qS, .inl (g.2 0, 20, .inl sc)), (qR, .inl (g.2 0, 5, .inl rs_27)), (qe, .inr (0, [.ref qt, .ref qh, .ref qm, .ref qb, .ref qx, .int (E 5), .int (E 6), .int (E 7), .int (E 8), .int (E 9), .int (E 10), .int (E 11)])), (qm, .inl (g.2 6, 5, .inr (.inr (.inr (.inr (rwM aM)))))), ((aM 0), .inl (g.2 0, 13, .inl (M 0))), ((aM 1), .inl (g.2 0, 13, .inl (M 1))), ((aM 2), .inl (g.2 0, 13, .inl (M 2))), ((aM 3), .inl (g.2 0, 13, .inl (M 3))), ((aM 4), .inl (g.2 0, 13, .inl (M 4))), (qt, .inr (7, [.ref ql, .ref qr, .ref qv, .ref qg, .int parts, .int limit])), (ql, .inl (g.2 0, 5, .inl len)), (qv, .inl (g.2 0, 5, .inl vot))]) [2, 0, 1, 3, 4, 5, 6, 7, 8, 9, 10, 11, 12, 13] (by decide) rfl) hS ls (lv_sub hl [1, 2, 3, 4, 0] rfl)
      · have hv := hvf hc
        refine lv_iload hx hb dX3_rankFirst_37 (lv_at hl 0 rfl) ?_
        refine lv_aload_n hx hb dX3_rankFirst_39 rfl (lv_at hl 1 rfl) ?_
        refine va_get (D := g.1) (ci := 3) (v := .ref qS) (C := RX3) (T := TX3) (N := 4) hx hb hts inX3_rankFirst_3 hown hK hP 2 rfl rfl 2 (by decide) (hts (.fieldLink RX3 15 "RangeCodes$Ranking" "scores" "[I") (List.mem_of_getElem? (i := 5) rfl)) (fun _ h9 => h9) rfl dX3_rankFirst_40 ?_
        refine lv_iload_n hx hb dX3_rankFirst_43 rfl (lv_at hl 3 rfl) ?_
        refine lv_iconst (v := (1 : Int32)) hx hb dX3_rankFirst_44 (by decide) ?_
        refine lv_isub hx hb dX3_rankFirst_45 ?_
        obtain ⟨ho_2, hv⟩ := hv
        refine va_iald hx hb hK hP 1 0 rfl rfl ho_2 dX3_rankFirst_46 ?_
        obtain ⟨hvt, hvf⟩ := hv
        refine lv_icmp_le (tgt := 68) hx hb dX3_rankFirst_47 (by decide) (fun hc => ?_) (fun hc => ?_)
        · have hv := hvt hc
          refine lv_iinc (v := (x3 + (1 : Int32))) (lv' := [(3, .int (x3 + (1 : Int32))), (4, .int r_27), (0, .ref qrk), (1, .int p1), (2, .int x2)]) hx hb dX3_rankFirst_68 hl (k := 4) rfl rfl (by decide) rfl (fun ls hl => ?_)
          refine lv_goto (tgt := 12) hx hb dX3_rankFirst_71 (by decide) ?_
          exact ih _ _ _ _ _ hv _ _ (hP.sub (ws' := [(qrk, .inr (3, [.ref qe, .ref qN, .ref qS, .ref qR])), (qN, .inl (g.2 0, 20, .inl nm)), (qS, .inl (g.2 0, 20, .inl sc)), (qR, .inl (g.2 0, 5, .inl rs_27)), (qe, .inr (0, [.ref qt, .ref qh, .ref qm, .ref qb, .ref qx, .int (E 5), .int (E 6), .int (E 7), .int (E 8), .int (E 9), .int (E 10), .int (E 11)])), (qm, .inl (g.2 6, 5, .inr (.inr (.inr (.inr (rwM aM)))))), ((aM 0), .inl (g.2 0, 13, .inl (M 0))), ((aM 1), .inl (g.2 0, 13, .inl (M 1))), ((aM 2), .inl (g.2 0, 13, .inl (M 2))), ((aM 3), .inl (g.2 0, 13, .inl (M 3))), ((aM 4), .inl (g.2 0, 13, .inl (M 4))), (qt, .inr (7, [.ref ql, .ref qr, .ref qv, .ref qg, .int parts, .int limit])), (ql, .inl (g.2 0, 5, .inl len)), (qv, .inl (g.2 0, 5, .inl vot))]) [2, 0, 1, 3, 4, 5, 6, 7, 8, 9, 10, 11, 12, 13] rfl) (hD.sub (ws' := [(qrk, .inr (3, [.ref qe, .ref qN, .ref qS, .ref qR])), (qN, .inl (g.2 0, 20, .inl nm)), (qS, .inl (g.2 0, 20, .inl sc)), (qR, .inl (g.2 0, 5, .inl rs_27)), (qe, .inr (0, [.ref qt, .ref qh, .ref qm, .ref qb, .ref qx, .int (E 5), .int (E 6), .int (E 7), .int (E 8), .int (E 9), .int (E 10), .int (E 11)])), (qm, .inl (g.2 6, 5, .inr (.inr (.inr (.inr (rwM aM)))))), ((aM 0), .inl (g.2 0, 13, .inl (M 0))), ((aM 1), .inl (g.2 0, 13, .inl (M 1))), ((aM 2), .inl (g.2 0, 13, .inl (M 2))), ((aM 3), .inl (g.2 0, 13, .inl (M 3))), ((aM 4), .inl (g.2 0, 13, .inl (M 4))), (qt, .inr (7, [.ref ql, .ref qr, .ref qv, .ref qg, .int parts, .int limit])), (ql, .inl (g.2 0, 5, .inl len)), (qv, .inl (g.2 0, 5, .inl vot))]) [2, 0, 1, 3, 4, 5, 6, 7, 8, 9, 10, 11, 12, 13] (by decide) rfl) hS ls (lv_sub hl [2, 3, 4, 0] rfl)
        · have hv := hvf hc
          exact kX3_rankFirst_c50 S hr hlocks hG hA ih _ _ _ _ _ _ hv _ _ (hP.sub (ws' := [(qrk, .inr (3, [.ref qe, .ref qN, .ref qS, .ref qR])), (qN, .inl (g.2 0, 20, .inl nm)), (qS, .inl (g.2 0, 20, .inl sc)), (qR, .inl (g.2 0, 5, .inl rs_27)), (qe, .inr (0, [.ref qt, .ref qh, .ref qm, .ref qb, .ref qx, .int (E 5), .int (E 6), .int (E 7), .int (E 8), .int (E 9), .int (E 10), .int (E 11)])), (qm, .inl (g.2 6, 5, .inr (.inr (.inr (.inr (rwM aM)))))), ((aM 0), .inl (g.2 0, 13, .inl (M 0))), ((aM 1), .inl (g.2 0, 13, .inl (M 1))), ((aM 2), .inl (g.2 0, 13, .inl (M 2))), ((aM 3), .inl (g.2 0, 13, .inl (M 3))), ((aM 4), .inl (g.2 0, 13, .inl (M 4))), (qt, .inr (7, [.ref ql, .ref qr, .ref qv, .ref qg, .int parts, .int limit])), (ql, .inl (g.2 0, 5, .inl len)), (qv, .inl (g.2 0, 5, .inl vot))]) [2, 0, 1, 3, 4, 5, 6, 7, 8, 9, 10, 11, 12, 13] rfl) (hD.sub (ws' := [(qrk, .inr (3, [.ref qe, .ref qN, .ref qS, .ref qR])), (qN, .inl (g.2 0, 20, .inl nm)), (qS, .inl (g.2 0, 20, .inl sc)), (qR, .inl (g.2 0, 5, .inl rs_27)), (qe, .inr (0, [.ref qt, .ref qh, .ref qm, .ref qb, .ref qx, .int (E 5), .int (E 6), .int (E 7), .int (E 8), .int (E 9), .int (E 10), .int (E 11)])), (qm, .inl (g.2 6, 5, .inr (.inr (.inr (.inr (rwM aM)))))), ((aM 0), .inl (g.2 0, 13, .inl (M 0))), ((aM 1), .inl (g.2 0, 13, .inl (M 1))), ((aM 2), .inl (g.2 0, 13, .inl (M 2))), ((aM 3), .inl (g.2 0, 13, .inl (M 3))), ((aM 4), .inl (g.2 0, 13, .inl (M 4))), (qt, .inr (7, [.ref ql, .ref qr, .ref qv, .ref qg, .int parts, .int limit])), (ql, .inl (g.2 0, 5, .inl len)), (qv, .inl (g.2 0, 5, .inl vot))]) [2, 0, 1, 3, 4, 5, 6, 7, 8, 9, 10, 11, 12, 13] (by decide) rfl) hS ls (lv_sub hl [1, 2, 3, 4, 0] rfl)
def vX3_rankFirst (nm : Nat → Int32) (sc : Nat → Int32) (rs : Nat → Int32) (E : Nat → Int32) (M : Nat → Nat → Int32) (parts : Int32) (limit : Int32) (len : Nat → Int32) (vot : Nat → Int32) (p1 : Int32) (Q : (Nat → Int32) → (Nat → Int32) → (Nat → Int32) → Prop) : Prop := (preJ7_fill_53178 5 rs (0 : Int32) ∧ (∀ (fA_5 : Nat → Int32), postJ7_fill_53178 5 rs (0 : Int32) fA_5 → (∃ nn, vX3_rankFirst_c12 E M parts limit len vot p1 Q nn (0 : Int32) (0 : Int32) nm sc fA_5)))
set_option maxHeartbeats 4000000 in
set_option maxRecDepth 100000 in
theorem wX3_rankFirst (l : Launch) (g : GP) (qrk : Nat) (qN : Nat) (qS : Nat) (qR : Nat) (qh : Nat) (qm : Nat) (qb : Nat) (qx : Nat) (aM : Nat → Nat) (ql : Nat) (qr : Nat) (qv : Nat) (qg : Nat) (qe : Nat) (qt : Nat) (sz : Nat) (nm : Nat → Int32) (sc : Nat → Int32) (rs : Nat → Int32) (E : Nat → Int32) (M : Nat → Nat → Int32) (parts : Int32) (limit : Int32) (len : Nat → Int32) (vot : Nat → Int32) (p1 : Int32) {Q : (Nat → Int32) → (Nat → Int32) → (Nat → Int32) → Prop} (hv : vX3_rankFirst nm sc rs E M parts limit len vot p1 Q) : Met l yX3_rankFirst wsX3_rankFirst rmX3_rankFirst (va_Pc [.ref qrk, .int p1] (fun U => U.heap.size = sz ∧ va_P g.1 vwCl [(qrk, .inr (3, [.ref qe, .ref qN, .ref qS, .ref qR])), (qN, .inl (g.2 0, 20, .inl nm)), (qS, .inl (g.2 0, 20, .inl sc)), (qR, .inl (g.2 0, 5, .inl rs)), (qe, .inr (0, [.ref qt, .ref qh, .ref qm, .ref qb, .ref qx, .int (E 5), .int (E 6), .int (E 7), .int (E 8), .int (E 9), .int (E 10), .int (E 11)])), (qm, .inl (g.2 6, 5, .inr (.inr (.inr (.inr (rwM aM)))))), ((aM 0), .inl (g.2 0, 13, .inl (M 0))), ((aM 1), .inl (g.2 0, 13, .inl (M 1))), ((aM 2), .inl (g.2 0, 13, .inl (M 2))), ((aM 3), .inl (g.2 0, 13, .inl (M 3))), ((aM 4), .inl (g.2 0, 13, .inl (M 4))), (qt, .inr (7, [.ref ql, .ref qr, .ref qv, .ref qg, .int parts, .int limit])), (ql, .inl (g.2 0, 5, .inl len)), (qv, .inl (g.2 0, 5, .inl vot))] U.heap ∧ GK g U ∧ va_D (fun _ => True) [(qrk, .inr (3, [.ref qe, .ref qN, .ref qS, .ref qR])), (qN, .inl (g.2 0, 20, .inl nm)), (qS, .inl (g.2 0, 20, .inl sc)), (qR, .inl (g.2 0, 5, .inl rs)), (qe, .inr (0, [.ref qt, .ref qh, .ref qm, .ref qb, .ref qx, .int (E 5), .int (E 6), .int (E 7), .int (E 8), .int (E 9), .int (E 10), .int (E 11)])), (qm, .inl (g.2 6, 5, .inr (.inr (.inr (.inr (rwM aM)))))), ((aM 0), .inl (g.2 0, 13, .inl (M 0))), ((aM 1), .inl (g.2 0, 13, .inl (M 1))), ((aM 2), .inl (g.2 0, 13, .inl (M 2))), ((aM 3), .inl (g.2 0, 13, .inl (M 3))), ((aM 4), .inl (g.2 0, 13, .inl (M 4))), (qt, .inr (7, [.ref ql, .ref qr, .ref qv, .ref qg, .int parts, .int limit])), (ql, .inl (g.2 0, 5, .inl len)), (qv, .inl (g.2 0, 5, .inl vot))])) (va_Qv (fun (u : (Nat → Int32) × (Nat → Int32) × (Nat → Int32)) => Q u.1 u.2.1 u.2.2) (fun (u : (Nat → Int32) × (Nat → Int32) × (Nat → Int32)) t => va_P g.1 vwCl [(qrk, .inr (3, [.ref qe, .ref qN, .ref qS, .ref qR])), (qN, .inl (g.2 0, 20, .inl u.1)), (qS, .inl (g.2 0, 20, .inl u.2.1)), (qR, .inl (g.2 0, 5, .inl u.2.2)), (qe, .inr (0, [.ref qt, .ref qh, .ref qm, .ref qb, .ref qx, .int (E 5), .int (E 6), .int (E 7), .int (E 8), .int (E 9), .int (E 10), .int (E 11)])), (qm, .inl (g.2 6, 5, .inr (.inr (.inr (.inr (rwM aM)))))), ((aM 0), .inl (g.2 0, 13, .inl (M 0))), ((aM 1), .inl (g.2 0, 13, .inl (M 1))), ((aM 2), .inl (g.2 0, 13, .inl (M 2))), ((aM 3), .inl (g.2 0, 13, .inl (M 3))), ((aM 4), .inl (g.2 0, 13, .inl (M 4))), (qt, .inr (7, [.ref ql, .ref qr, .ref qv, .ref qg, .int parts, .int limit])), (ql, .inl (g.2 0, 5, .inl len)), (qv, .inl (g.2 0, 5, .inl vot))] t.heap ∧ va_D (va_A [(qrk, .inr (3, [.ref qe, .ref qN, .ref qS, .ref qR])), (qN, .inl (g.2 0, 20, .inl nm)), (qS, .inl (g.2 0, 20, .inl sc)), (qR, .inl (g.2 0, 5, .inl rs)), (qe, .inr (0, [.ref qt, .ref qh, .ref qm, .ref qb, .ref qx, .int (E 5), .int (E 6), .int (E 7), .int (E 8), .int (E 9), .int (E 10), .int (E 11)])), (qm, .inl (g.2 6, 5, .inr (.inr (.inr (.inr (rwM aM)))))), ((aM 0), .inl (g.2 0, 13, .inl (M 0))), ((aM 1), .inl (g.2 0, 13, .inl (M 1))), ((aM 2), .inl (g.2 0, 13, .inl (M 2))), ((aM 3), .inl (g.2 0, 13, .inl (M 3))), ((aM 4), .inl (g.2 0, 13, .inl (M 4))), (qt, .inr (7, [.ref ql, .ref qr, .ref qv, .ref qg, .int parts, .int limit])), (ql, .inl (g.2 0, 5, .inl len)), (qv, .inl (g.2 0, 5, .inl vot))] sz) [(qrk, .inr (3, [.ref qe, .ref qN, .ref qS, .ref qR])), (qN, .inl (g.2 0, 20, .inl u.1)), (qS, .inl (g.2 0, 20, .inl u.2.1)), (qR, .inl (g.2 0, 5, .inl u.2.2)), (qe, .inr (0, [.ref qt, .ref qh, .ref qm, .ref qb, .ref qx, .int (E 5), .int (E 6), .int (E 7), .int (E 8), .int (E 9), .int (E 10), .int (E 11)])), (qm, .inl (g.2 6, 5, .inr (.inr (.inr (.inr (rwM aM)))))), ((aM 0), .inl (g.2 0, 13, .inl (M 0))), ((aM 1), .inl (g.2 0, 13, .inl (M 1))), ((aM 2), .inl (g.2 0, 13, .inl (M 2))), ((aM 3), .inl (g.2 0, 13, .inl (M 3))), ((aM 4), .inl (g.2 0, 13, .inl (M 4))), (qt, .inr (7, [.ref ql, .ref qr, .ref qv, .ref qg, .int parts, .int limit])), (ql, .inl (g.2 0, 5, .inl len)), (qv, .inl (g.2 0, 5, .inl vot))]) (va_A [(qrk, .inr (3, [.ref qe, .ref qN, .ref qS, .ref qR])), (qN, .inl (g.2 0, 20, .inl nm)), (qS, .inl (g.2 0, 20, .inl sc)), (qR, .inl (g.2 0, 5, .inl rs)), (qe, .inr (0, [.ref qt, .ref qh, .ref qm, .ref qb, .ref qx, .int (E 5), .int (E 6), .int (E 7), .int (E 8), .int (E 9), .int (E 10), .int (E 11)])), (qm, .inl (g.2 6, 5, .inr (.inr (.inr (.inr (rwM aM)))))), ((aM 0), .inl (g.2 0, 13, .inl (M 0))), ((aM 1), .inl (g.2 0, 13, .inl (M 1))), ((aM 2), .inl (g.2 0, 13, .inl (M 2))), ((aM 3), .inl (g.2 0, 13, .inl (M 3))), ((aM 4), .inl (g.2 0, 13, .inl (M 4))), (qt, .inr (7, [.ref ql, .ref qr, .ref qv, .ref qg, .int parts, .int limit])), (ql, .inl (g.2 0, 5, .inl len)), (qv, .inl (g.2 0, 5, .inl vot))] sz)) 0 0 (va_A [(qrk, .inr (3, [.ref qe, .ref qN, .ref qS, .ref qR])), (qN, .inl (g.2 0, 20, .inl nm)), (qS, .inl (g.2 0, 20, .inl sc)), (qR, .inl (g.2 0, 5, .inl rs)), (qe, .inr (0, [.ref qt, .ref qh, .ref qm, .ref qb, .ref qx, .int (E 5), .int (E 6), .int (E 7), .int (E 8), .int (E 9), .int (E 10), .int (E 11)])), (qm, .inl (g.2 6, 5, .inr (.inr (.inr (.inr (rwM aM)))))), ((aM 0), .inl (g.2 0, 13, .inl (M 0))), ((aM 1), .inl (g.2 0, 13, .inl (M 1))), ((aM 2), .inl (g.2 0, 13, .inl (M 2))), ((aM 3), .inl (g.2 0, 13, .inl (M 3))), ((aM 4), .inl (g.2 0, 13, .inl (M 4))), (qt, .inr (7, [.ref ql, .ref qr, .ref qv, .ref qg, .int parts, .int limit])), (ql, .inl (g.2 0, 5, .inl len)), (qv, .inl (g.2 0, 5, .inl vot))] sz) := by
  refine Met.ofW (cc := cX3_rankFirst) (maxL := 5) (ret := none) (by decide) rfl ?_
  intro p e s m args below meth c s₁ B hml hv'
  obtain ⟨rfl, hsz, hP, hG, hD0⟩ := hv'
  have S : CallFix p m c cX3_rankFirst 5 s _ wsX3_rankFirst RX3 := ⟨B.exec, B.bytes, hml, findClass_of_methodNamed B.named, atoms_spec (ws := wsX3_rankFirst) B.pre⟩
  obtain ⟨hx, hb, hml, hown, hts⟩ := id S
  have hK := hG.1
  have hr := B.returns
  have hlocks := B.notSynchronized
  subst hsz
  have hD := hD0.self (sz := s.heap.size)
  generalize hAe : va_A [(qrk, .inr (3, [.ref qe, .ref qN, .ref qS, .ref qR])), (qN, .inl (g.2 0, 20, .inl nm)), (qS, .inl (g.2 0, 20, .inl sc)), (qR, .inl (g.2 0, 5, .inl rs)), (qe, .inr (0, [.ref qt, .ref qh, .ref qm, .ref qb, .ref qx, .int (E 5), .int (E 6), .int (E 7), .int (E 8), .int (E 9), .int (E 10), .int (E 11)])), (qm, .inl (g.2 6, 5, .inr (.inr (.inr (.inr (rwM aM)))))), ((aM 0), .inl (g.2 0, 13, .inl (M 0))), ((aM 1), .inl (g.2 0, 13, .inl (M 1))), ((aM 2), .inl (g.2 0, 13, .inl (M 2))), ((aM 3), .inl (g.2 0, 13, .inl (M 3))), ((aM 4), .inl (g.2 0, 13, .inl (M 4))), (qt, .inr (7, [.ref ql, .ref qr, .ref qv, .ref qg, .int parts, .int limit])), (ql, .inl (g.2 0, 5, .inl len)), (qv, .inl (g.2 0, 5, .inl vot))] s.heap.size = A at hD ⊢
  have hA : ∀ q : Nat, s.heap.size ≤ q → A q := fun q h => by rw [← hAe]; exact Or.inr h
  have hS : va_S A s.heap s.heap [] := va_S.rf
  clear hD0 hAe
  have hl := lv_entry ([.ref qrk, .int p1]) (n := 5) (Nat.le_of_ble_eq_true rfl)
  rw [lg_entry_eq]
  generalize (lg_sl ([.ref qrk, .int p1]) ++ List.replicate (5 - (lg_sl ([.ref qrk, .int p1])).length) Slot.unset).toArray = ls at hl ⊢
  have hl : lv_has ls 5 [(0, .ref qrk), (1, .int p1)] := hl
  unfold vX3_rankFirst at hv
  refine lv_aload_n hx hb dX3_rankFirst_0 rfl (lv_at hl 0 rfl) ?_
  refine va_get (D := g.1) (ci := 3) (v := .ref qR) (C := RX3) (T := TX3) (N := 4) hx hb hts inX3_rankFirst_3 hown hK hP 0 rfl rfl 3 (by decide) (hts (.fieldLink RX3 18 "RangeCodes$Ranking" "rests" "[I") (List.mem_of_getElem? (i := 1) rfl)) (fun _ h9 => h9) rfl dX3_rankFirst_1 ?_
  refine lv_iconst (v := (0 : Int32)) hx hb dX3_rankFirst_4 (by decide) ?_
  obtain ⟨ho_1, hv⟩ := hv
  have hPc := hP.sub (ws' := [(qR, .inl (g.2 0, 5, .inl rs))]) [3] rfl
  have hDc := hD.sub (ws' := [(qR, .inl (g.2 0, 5, .inl rs))]) [3] (by decide) rfl
  have hFc := va_free (wc := [(qR, .inl (g.2 0, 5, .inl rs))]) hD hS hA [3] rfl
  refine va_callv (va_runS (As := [.ref qR, .int (0 : Int32)]) (rest := []) S (wJ7_fill_53178 l g qR s.heap.size 5 rs (0 : Int32) (sJ7_fill_53178 5 rs (0 : Int32) ho_1)) (va_cwS 2 hts gX3_rankFirst_J7_fill_53178 rfl rfl rfl (by decide +kernel) ⟨Nat.le_of_ble_eq_true rfl, Nat.le_of_ble_eq_true rfl⟩) ⟨blindRW, fun U hU hW => ⟨rfl, by rw [hU], by rw [hU]; exact hPc, hG.warm hW, hDc.weaken (fun _ _ _ _ => trivial)⟩⟩ rfl rfl hl.1 rfl (lv_room (Nat.le_of_ble_eq_true rfl)) dX3_rankFirst_5 ⟨Nat.le_of_ble_eq_true rfl, Nat.le_of_ble_eq_true rfl⟩) hS (fun q _ h => hFc q h) hFc (fun u t H1 locs ht hvm hw hB hz1 hk1 hS => ?_)
  obtain ⟨fA_5, rfl⟩ : ∃ z, z = u := ⟨_, rfl⟩
  obtain ⟨hP1, hD1⟩ := hB
  rw [ht] at hP1
  have hv := hv fA_5 hw
  obtain ⟨hP, hD⟩ := va_join (wr := [(qrk, .inr (3, [.ref qe, .ref qN, .ref qS, .ref qR])), (qN, .inl (g.2 0, 20, .inl nm)), (qS, .inl (g.2 0, 20, .inl sc)), (qe, .inr (0, [.ref qt, .ref qh, .ref qm, .ref qb, .ref qx, .int (E 5), .int (E 6), .int (E 7), .int (E 8), .int (E 9), .int (E 10), .int (E 11)])), (qm, .inl (g.2 6, 5, .inr (.inr (.inr (.inr (rwM aM)))))), ((aM 0), .inl (g.2 0, 13, .inl (M 0))), ((aM 1), .inl (g.2 0, 13, .inl (M 1))), ((aM 2), .inl (g.2 0, 13, .inl (M 2))), ((aM 3), .inl (g.2 0, 13, .inl (M 3))), ((aM 4), .inl (g.2 0, 13, .inl (M 4))), (qt, .inr (7, [.ref ql, .ref qr, .ref qv, .ref qg, .int parts, .int limit])), (ql, .inl (g.2 0, 5, .inl len)), (qv, .inl (g.2 0, 5, .inl vot))]) (w1 := [(qR, .inl (g.2 0, 5, .inl fA_5))]) hP hD [3] [0, 1, 2, 4, 5, 6, 7, 8, 9, 10, 11, 12, 13] rfl rfl (by decide) (by decide) hk1 hFc hP1 hD1
  clear hP1 hD1 hPc hDc hFc hk1
  generalize H1 = H at hP hS ⊢
  have hP : va_P g.1 vwCl [(qrk, .inr (3, [.ref qe, .ref qN, .ref qS, .ref qR])), (qN, .inl (g.2 0, 20, .inl nm)), (qS, .inl (g.2 0, 20, .inl sc)), (qe, .inr (0, [.ref qt, .ref qh, .ref qm, .ref qb, .ref qx, .int (E 5), .int (E 6), .int (E 7), .int (E 8), .int (E 9), .int (E 10), .int (E 11)])), (qm, .inl (g.2 6, 5, .inr (.inr (.inr (.inr (rwM aM)))))), ((aM 0), .inl (g.2 0, 13, .inl (M 0))), ((aM 1), .inl (g.2 0, 13, .inl (M 1))), ((aM 2), .inl (g.2 0, 13, .inl (M 2))), ((aM 3), .inl (g.2 0, 13, .inl (M 3))), ((aM 4), .inl (g.2 0, 13, .inl (M 4))), (qt, .inr (7, [.ref ql, .ref qr, .ref qv, .ref qg, .int parts, .int limit])), (ql, .inl (g.2 0, 5, .inl len)), (qv, .inl (g.2 0, 5, .inl vot)), (qR, .inl (g.2 0, 5, .inl fA_5))] H := hP
  have hD : va_D A [(qrk, .inr (3, [.ref qe, .ref qN, .ref qS, .ref qR])), (qN, .inl (g.2 0, 20, .inl nm)), (qS, .inl (g.2 0, 20, .inl sc)), (qe, .inr (0, [.ref qt, .ref qh, .ref qm, .ref qb, .ref qx, .int (E 5), .int (E 6), .int (E 7), .int (E 8), .int (E 9), .int (E 10), .int (E 11)])), (qm, .inl (g.2 6, 5, .inr (.inr (.inr (.inr (rwM aM)))))), ((aM 0), .inl (g.2 0, 13, .inl (M 0))), ((aM 1), .inl (g.2 0, 13, .inl (M 1))), ((aM 2), .inl (g.2 0, 13, .inl (M 2))), ((aM 3), .inl (g.2 0, 13, .inl (M 3))), ((aM 4), .inl (g.2 0, 13, .inl (M 4))), (qt, .inr (7, [.ref ql, .ref qr, .ref qv, .ref qg, .int parts, .int limit])), (ql, .inl (g.2 0, 5, .inl len)), (qv, .inl (g.2 0, 5, .inl vot)), (qR, .inl (g.2 0, 5, .inl fA_5))] := hD
  refine lv_iconst (v := (0 : Int32)) hx hb dX3_rankFirst_8 (by decide) ?_
  refine lv_istore_n (lv' := [(2, .int (0 : Int32)), (0, .ref qrk), (1, .int p1)]) hx hb dX3_rankFirst_9 rfl hl (by decide) rfl (fun ls hl => ?_)
  refine lv_iconst (v := (0 : Int32)) hx hb dX3_rankFirst_10 (by decide) ?_
  refine lv_istore_n (lv' := [(3, .int (0 : Int32)), (2, .int (0 : Int32)), (0, .ref qrk), (1, .int p1)]) hx hb dX3_rankFirst_11 rfl hl (by decide) rfl (fun ls hl => ?_)
  obtain ⟨nn, hv⟩ := hv
  exact kX3_rankFirst_c12 S hr hlocks hG hA nn _ _ _ _ _ hv _ _ (hP.sub (ws' := [(qrk, .inr (3, [.ref qe, .ref qN, .ref qS, .ref qR])), (qN, .inl (g.2 0, 20, .inl nm)), (qS, .inl (g.2 0, 20, .inl sc)), (qR, .inl (g.2 0, 5, .inl fA_5)), (qe, .inr (0, [.ref qt, .ref qh, .ref qm, .ref qb, .ref qx, .int (E 5), .int (E 6), .int (E 7), .int (E 8), .int (E 9), .int (E 10), .int (E 11)])), (qm, .inl (g.2 6, 5, .inr (.inr (.inr (.inr (rwM aM)))))), ((aM 0), .inl (g.2 0, 13, .inl (M 0))), ((aM 1), .inl (g.2 0, 13, .inl (M 1))), ((aM 2), .inl (g.2 0, 13, .inl (M 2))), ((aM 3), .inl (g.2 0, 13, .inl (M 3))), ((aM 4), .inl (g.2 0, 13, .inl (M 4))), (qt, .inr (7, [.ref ql, .ref qr, .ref qv, .ref qg, .int parts, .int limit])), (ql, .inl (g.2 0, 5, .inl len)), (qv, .inl (g.2 0, 5, .inl vot))]) [0, 1, 2, 13, 3, 4, 5, 6, 7, 8, 9, 10, 11, 12] rfl) (hD.sub (ws' := [(qrk, .inr (3, [.ref qe, .ref qN, .ref qS, .ref qR])), (qN, .inl (g.2 0, 20, .inl nm)), (qS, .inl (g.2 0, 20, .inl sc)), (qR, .inl (g.2 0, 5, .inl fA_5)), (qe, .inr (0, [.ref qt, .ref qh, .ref qm, .ref qb, .ref qx, .int (E 5), .int (E 6), .int (E 7), .int (E 8), .int (E 9), .int (E 10), .int (E 11)])), (qm, .inl (g.2 6, 5, .inr (.inr (.inr (.inr (rwM aM)))))), ((aM 0), .inl (g.2 0, 13, .inl (M 0))), ((aM 1), .inl (g.2 0, 13, .inl (M 1))), ((aM 2), .inl (g.2 0, 13, .inl (M 2))), ((aM 3), .inl (g.2 0, 13, .inl (M 3))), ((aM 4), .inl (g.2 0, 13, .inl (M 4))), (qt, .inr (7, [.ref ql, .ref qr, .ref qv, .ref qg, .int parts, .int limit])), (ql, .inl (g.2 0, 5, .inl len)), (qv, .inl (g.2 0, 5, .inl vot))]) [0, 1, 2, 13, 3, 4, 5, 6, 7, 8, 9, 10, 11, 12] (by decide) rfl) hS ls (lv_sub hl [2, 3, 1, 0] rfl)
abbrev preX3_rankFirst (T : Cd) (m : Nat → Nat → Int) (lim : Nat) (few : Nat) (nm : Nat → Int32) (sc : Nat → Int32) (rs : Nat → Int32) (E : Nat → Int32) (M : Nat → Nat → Int32) (parts : Int32) (limit : Int32) (len : Nat → Int32) (vot : Nat → Int32) (p1 : Int32) : Prop := rkC T m M parts len vot ∧ limit.toInt = (lim : Int) ∧ lim ≤ 9999 ∧ p1.toInt = (few : Int) ∧ 1 ≤ few ∧ few ≤ 20 ∧ few ≤ lim
abbrev postX3_rankFirst (T : Cd) (m : Nat → Nat → Int) (lim : Nat) (few : Nat) (nm : Nat → Int32) (sc : Nat → Int32) (rs : Nat → Int32) (E : Nat → Int32) (M : Nat → Nat → Int32) (parts : Int32) (limit : Int32) (len : Nat → Int32) (vot : Nat → Int32) (p1 : Int32) (nm' : Nat → Int32) (sc' : Nat → Int32) (rs' : Nat → Int32) : Prop := (nm' (few - 1)).toInt = (kth (scr T m) lim (few - 1) : Int) ∧ (sc' (few - 1)).toInt = scr T m (kth (scr T m) lim (few - 1))
/-- the first so many of the numbers below i, as they stand in the rows -/
def rfI (s : Nat → Int) (few i ra : Nat) (nm sc : Nat → Int32) (num : Nat → Nat) : Prop := ra ≤ few ∧ (ra < few → ra = i) ∧ (∀ j, j < ra → (nm j).toInt = (num j : Int) ∧ (sc j).toInt = s (num j) ∧ num j < i) ∧ (∀ a b, a < b → b < ra → bfB s (num a) (num b) = true) ∧ (∀ x, x < i → (∃ j, j < ra ∧ num j = x) ∨ (ra = few ∧ bfB s (num (few - 1)) x = true))
theorem rf_keep {s : Nat → Int} {few i : Nat} {nm sc : Nat → Int32} {num : Nat → Nat} (hf : 1 ≤ few) (h : rfI s few i few nm sc num) (hq : s i ≤ s (num (few - 1))) : rfI s few (i + 1) few nm sc num := by
  obtain ⟨h1, h2, h3, h4, h5⟩ := h
  refine ⟨h1, fun q => absurd q (by omega), fun j hj => ?_, h4, fun x hx => ?_⟩
  · have := h3 j hj
    exact ⟨this.1, this.2.1, by omega⟩
  · by_cases e : x = i
    · subst e
      have hn := (h3 (few - 1) (by omega)).2.2
      refine Or.inr ⟨rfl, bf_iff.mpr ?_⟩
      omega
    · exact h5 x (by omega)
def shN (f : Nat → Nat) (k la v j : Nat) : Nat := if j = k then v else if k < j ∧ j ≤ la then f (j - 1) else f j
theorem rf_put {s : Nat → Int} {few i ra la : Nat} {nm sc : Nat → Int32} {num : Nat → Nat} (hf : 1 ≤ few) (h : rfI s few i ra nm sc num) (hla : (ra < few ∧ la = ra) ∨ (ra = few ∧ la = few - 1 ∧ s (num (few - 1)) < s i)) {x y : Int32} (hx : x.toInt = (i : Int)) (hy : y.toInt = s i) {k : Nat} (hk : k ≤ la) (hk1 : k = 0 ∨ y.toInt ≤ (sc (k - 1)).toInt) (hk2 : ∀ j, k ≤ j → j < la → (sc j).toInt < y.toInt) : rfI s few (i + 1) (la + 1) (upd (shf nm k la) k x) (upd (shf sc k la) k y) (shN num k la i) := by
  obtain ⟨h1, h2, h3, h4, h5⟩ := h
  have hlr : la ≤ ra := by omega
  have nk : shN num k la i k = i := by unfold shN; rw [if_pos rfl]
  have nl : ∀ j, j < k → shN num k la i j = num j := fun j hj => by unfold shN; rw [if_neg (by omega), if_neg (by omega)]
  have ng : ∀ j, k < j → j ≤ la → shN num k la i j = num (j - 1) := fun j hj hj2 => by unfold shN; rw [if_neg (by omega), if_pos (by omega)]
  have lo : ∀ a, a < k → bfB s (num a) i = true := fun a ha => by
    have hn := h3 a (by omega)
    have hn1 := h3 (k - 1) (by omega)
    have hs : s i ≤ s (num (k - 1)) := by
      rcases hk1 with q | q
      · omega
      · rw [hy, hn1.2.1] at q; exact q
    rw [bf_iff]
    by_cases e : a = k - 1
    · subst e; omega
    · have := bf_iff.mp (h4 a (k - 1) (by omega) (by omega))
      omega
  have hi : ∀ j, k ≤ j → j < la → s (num j) < s i := fun j hj hj2 => by
    have := hk2 j hj hj2
    rw [hy, (h3 j (by omega)).2.1] at this; exact this
  have lst : ra = few → bfB s (shN num k la i la) (num (few - 1)) = true := fun e => by
    rcases hla with q | ⟨_, q1, q2⟩
    · omega
    · by_cases z : k = la
      · subst z; rw [nk]; exact bf_iff.mpr (Or.inl q2)
      · rw [ng la (by omega) (Nat.le_refl _), ← q1]; exact h4 (la - 1) la (by omega) (by omega)
  refine ⟨by omega, fun q => by omega, fun j hj => ?_, fun a b hab hb => ?_, fun x2 hx2 => ?_⟩
  · rcases Nat.lt_trichotomy j k with z | z | z
    · have := h3 j (by omega)
      rw [nl j z, upd_ne (by omega), upd_ne (by omega), shf_at nm (by omega), shf_at sc (by omega)]
      exact ⟨this.1, this.2.1, by omega⟩
    · subst z; rw [nk, upd_eq, upd_eq]; exact ⟨hx, hy, by omega⟩
    · have := h3 (j - 1) (by omega)
      rw [ng j z (by omega), upd_ne (by omega), upd_ne (by omega)]
      unfold shf
      rw [if_pos (by omega), if_pos (by omega)]
      exact ⟨this.1, this.2.1, by omega⟩
  · rcases Nat.lt_trichotomy b k with z | z | z
    · rw [nl a (by omega), nl b z]; exact h4 a b hab (by omega)
    · subst z; rw [nk, nl a hab]; exact lo a hab
    · rw [ng b z (by omega)]
      rcases Nat.lt_trichotomy a k with y2 | y2 | y2
      · rw [nl a y2]; exact h4 a (b - 1) (by omega) (by omega)
      · subst y2; rw [nk]; exact bf_iff.mpr (Or.inl (hi (b - 1) (by omega) (by omega)))
      · rw [ng a y2 (by omega)]; exact h4 (a - 1) (b - 1) (by omega) (by omega)
  · by_cases e : x2 = i
    · subst e; exact Or.inl ⟨k, by omega, nk⟩
    · rcases h5 x2 (by omega) with ⟨j, hj, ej⟩ | ⟨q1, q2⟩
      · by_cases z : j < k
        · exact Or.inl ⟨j, by omega, by rw [nl j z]; exact ej⟩
        · by_cases z2 : j + 1 ≤ la
          · exact Or.inl ⟨j + 1, by omega, by rw [ng (j + 1) (by omega) z2]; exact ej⟩
          · have hrf : ra = few ∧ la = few - 1 := by omega
            have hjl : j = few - 1 := by omega
            refine Or.inr ⟨by omega, ?_⟩
            rw [← ej, hjl, ← hrf.2]
            have := lst hrf.1
            rw [← hrf.2] at this; exact this
      · have hla2 : la = few - 1 := by omega
        refine Or.inr ⟨by omega, ?_⟩
        have := lst q1
        rw [← hla2] at this q2 ⊢
        exact bf_tr this q2
theorem sX3_rankFirst_12 (T : Cd) (m : Nat → Nat → Int) (lim few : Nat) (E : Nat → Int32) (M : Nat → Nat → Int32) (parts limit : Int32) (len vot : Nat → Int32) (p1 : Int32) (H : rkC T m M parts len vot ∧ limit.toInt = (lim : Int) ∧ lim ≤ 9999 ∧ p1.toInt = (few : Int) ∧ 1 ≤ few ∧ few ≤ 20 ∧ few ≤ lim) (Q : (Nat → Int32) → (Nat → Int32) → (Nat → Int32) → Prop) (hQ : ∀ nm' sc' rs' : Nat → Int32, (nm' (few - 1)).toInt = (kth (scr T m) lim (few - 1) : Int) → (sc' (few - 1)).toInt = scr T m (kth (scr T m) lim (few - 1)) → Q nm' sc' rs') : ∀ (n i ra : Nat) (x2 x3 : Int32) (nm sc rs : Nat → Int32) (num : Nat → Nat), x2.toInt = (ra : Int) → x3.toInt = (i : Int) → rfI (scr T m) few i ra nm sc num → (∀ p, p < cn T → (rs p).toInt = ((i % cL T p : Nat) : Int)) → i ≤ lim → lim + 1 ≤ i + n → vX3_rankFirst_c12 E M parts limit len vot p1 Q n x2 x3 nm sc rs
  | 0, i, ra, x2, x3, nm, sc, rs, num, _, _, _, _, hi, hn => absurd hn (by omega)
  | n + 1, i, ra, x2, x3, nm, sc, rs, num, h2, h3, hI, hrs, hi, hn => by
    obtain ⟨hC, hlim, hl9, h1, hf1, hf20, hfl⟩ := id H
    have h3s := q_1 h3 (by omega)
    have hra := hI.1
    rw [vX3_rankFirst_c12, q_le hlim h3]
    refine ⟨fun hc => ?_, fun hc => ⟨T, m, i, ⟨hC, hrs⟩, fun r rs2 hr => ?_⟩⟩
    · have : i = lim := by omega
      subst this
      obtain ⟨g1, g2, g3, g4, g5⟩ := hI
      have hrf : ra = few := by
        rcases Nat.lt_or_ge ra few with z | z
        · have := g2 z; omega
        · omega
      subst hrf
      have ha := g3 (ra - 1) (by omega)
      have hinj : ∀ a b, a < b → b < ra → num a ≠ num b := fun a b hab hb e => by
        have := g4 a b hab hb
        rw [e, bf_irr] at this; cases this
      have hrk : rkN (scr T m) i (num (ra - 1)) = ra - 1 := by
        have e := inL_cnt num i (ra - 1) (fun j hj => (g3 j (by omega)).2.2) (fun a b hab hb => hinj a b hab (by omega))
        refine Eq.trans (fa_cnt_cong (q := inL num (ra - 1)) (fun k hk => ?_)) e
        show bfB (scr T m) k (num (ra - 1)) = inL num (ra - 1) k
        cases hb : inL num (ra - 1) k
        · cases hq : bfB (scr T m) k (num (ra - 1))
          · rfl
          · exfalso
            rcases g5 k hk with ⟨j, hj, ej⟩ | ⟨_, q⟩
            · by_cases z : j < ra - 1
              · have := (inL_iff num (ra - 1) k).mpr ⟨j, z, ej⟩
                rw [hb] at this; cases this
              · have : j = ra - 1 := by omega
                subst this
                rw [ej, bf_irr] at hq; cases hq
            · exact bf_as hq q
        · obtain ⟨j, hj, ej⟩ := (inL_iff num (ra - 1) k).mp hb
          rw [← ej]
          exact g4 j (ra - 1) hj (by omega)
      have hk := kth_eq ha.2.2 hrk
      exact hQ _ _ _ (by rw [hk]; exact ha.1) (by rw [hk]; exact ha.2.1)
    · obtain ⟨hr, hrs2⟩ := hr
      have put : ∀ la : Nat, ((ra < few ∧ la = ra) ∨ (ra = few ∧ la = few - 1 ∧ scr T m (num (few - 1)) < scr T m i)) → vX3_rankFirst_c50 E M parts limit len vot p1 Q (vX3_rankFirst_c12 E M parts limit len vot p1 Q n) x2 x3 r nm sc rs2 := by
        intro la hla y hy
        have h2s := q_1 h2 (by omega)
        have hyv : y.toInt = ((la + 1 : Nat) : Int) := by
          rw [hy]
          by_cases q : ra + 1 < few
          · rw [if_neg (by rw [q_lt h1 h2s]; omega), h2s]
            omega
          · by_cases q3 : (few : Int) < ((ra + 1 : Nat) : Int)
            · rw [if_pos (by rw [q_lt h1 h2s]; exact q3), h1]; omega
            · rw [if_neg (by rw [q_lt h1 h2s]; exact q3), h2s]; omega
        have hy1 : (y - (1 : Int32)).toInt = (la : Int) := by rw [q_sub hyv z1 (by omega) (by omega)]; omega
        refine ⟨la, ⟨hy1, by omega⟩, fun nm2 sc2 hq => ?_⟩
        obtain ⟨k, hk, hk1, hk2, e1, e2⟩ := hq
        subst e1 e2
        exact sX3_rankFirst_12 T m lim few E M parts limit len vot p1 H Q hQ n (i + 1) (la + 1) _ _ _ _ rs2 _ hyv h3s (rf_put hf1 hI hla h3 hr hk hk1 hk2) hrs2 (by omega) (by omega)
      rw [q_lt h2 h1]
      refine ⟨fun hq => put ra (Or.inl ⟨by omega, rfl⟩), fun hq => ?_⟩
      have hrf : ra = few := by omega
      subst hrf
      have h21 : (x2 - (1 : Int32)).toInt = ((ra - 1 : Nat) : Int) := q_subN (b := 1) h2 rfl (by omega) (by omega)
      have hsc := (hI.2.2.1 (ra - 1) (by omega)).2.1
      rw [q_cl h21, q_le hr hsc]
      refine ⟨q_in h21 (by omega), fun hz => ?_, fun hz => put (ra - 1) (Or.inr ⟨rfl, rfl, by omega⟩)⟩
      exact sX3_rankFirst_12 T m lim ra E M parts limit len vot p1 H Q hQ n (i + 1) ra _ _ nm sc rs2 num h2 h3s (rf_keep hf1 hI hz) hrs2 (by omega) (by omega)
theorem sX3_rankFirst (T : Cd) (m : Nat → Nat → Int) (lim : Nat) (few : Nat) (nm : Nat → Int32) (sc : Nat → Int32) (rs : Nat → Int32) (E : Nat → Int32) (M : Nat → Nat → Int32) (parts : Int32) (limit : Int32) (len : Nat → Int32) (vot : Nat → Int32) (p1 : Int32) (H : preX3_rankFirst T m lim few nm sc rs E M parts limit len vot p1) : vX3_rankFirst nm sc rs E M parts limit len vot p1 (postX3_rankFirst T m lim few nm sc rs E M parts limit len vot p1) := by
  have hn5 := H.1.1.2
  refine ⟨by show 5 < 2147483647; omega, fun f hf => ⟨lim + 1, sX3_rankFirst_12 T m lim few E M parts limit len vot p1 H _ (fun nm' sc' rs' a b => ⟨a, b⟩) (lim + 1) 0 0 0 0 nm sc f (fun _ => 0) rfl rfl ⟨by omega, fun _ => rfl, fun j hj => absurd hj (by omega), fun a b _ hb => absurd hb (by omega), fun x hx => absurd hx (by omega)⟩ (fun p hp => ?_) (by omega) (by omega)⟩⟩
  rw [hf p, if_pos (by omega), Nat.zero_mod]; rfl
