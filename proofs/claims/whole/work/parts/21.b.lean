-- the reference's reading: signs, words as numbers
def uZ (x : Int32) : Int := if x.toInt < 0 then x.toInt + 256 else x.toInt
theorem a255 : ∀ k : Nat, k < 256 → ((Int32.ofInt ((k : Int) - 128)) &&& 255).toInt = if (k : Int) - 128 < 0 then (k : Int) - 128 + 256 else (k : Int) - 128 := by decide +kernel
theorem q_255 {x : Int32} (h1 : -128 ≤ x.toInt) (h2 : x.toInt ≤ 127) : (x &&& (255 : Int32)).toInt = uZ x := by
  have h := a255 (x.toInt + 128).toNat (by omega)
  rw [show (((x.toInt + 128).toNat : Nat) : Int) - 128 = x.toInt by omega, Int32.ofInt_toInt] at h
  exact h
theorem uZ_bl {x : Int32} (h1 : -128 ≤ x.toInt) (h2 : x.toInt ≤ 127) : blB x = true ↔ (uZ x = 32 ∨ uZ x = 10) := by
  unfold blB uZ
  rw [decide_eq_true_iff]
  split <;> omega
theorem uZ_le {x : Int32} (h1 : -128 ≤ x.toInt) (h2 : x.toInt ≤ 127) : leB x = true ↔ (97 ≤ uZ x ∧ uZ x ≤ 122) := by
  unfold leB uZ
  rw [decide_eq_true_iff]
  split <;> omega
theorem uZ_di {x : Int32} (h1 : -128 ≤ x.toInt) (h2 : x.toInt ≤ 127) : diB x = true ↔ (48 ≤ uZ x ∧ uZ x ≤ 57) := by
  unfold diB uZ
  rw [decide_eq_true_iff]
  split <;> omega
theorem lN_or {a c k : Nat} (h : c < 2 ^ k) : lN (2 ^ k * a) ||| lN c = lN (2 ^ k * a + c) := by
  apply Int64.toBitVec_inj.mp
  rw [Int64.toBitVec_or]
  show BitVec.ofNat 64 (2 ^ k * a) ||| BitVec.ofNat 64 c = BitVec.ofNat 64 (2 ^ k * a + c)
  rw [Nat.two_pow_add_eq_or_of_lt h]
  apply BitVec.eq_of_getLsbD_eq
  intro i hi
  rw [BitVec.getLsbD_or, BitVec.getLsbD_ofNat, BitVec.getLsbD_ofNat, BitVec.getLsbD_ofNat, Nat.testBit_or]
  simp [hi]
theorem lN_sh8 (e : Nat) : lN e <<< ((8 : Int32).toInt64 &&& 63) = lN (2 ^ 8 * e) := by
  have e8 : ((8 : Int32).toInt64 &&& 63) = lN 8 := by decide
  rw [e8]
  apply Int64.toBitVec_inj.mp
  rw [Int64.toBitVec_shiftLeft, wb_tb e, wb_tb 8, wb_sm 8 (by omega)]
  show BitVec.ofNat 64 e <<< (BitVec.ofNat 64 8).toNat = BitVec.ofNat 64 (2 ^ 8 * e)
  apply BitVec.eq_of_toNat_eq
  rw [BitVec.toNat_ofNat, Nat.mod_eq_of_lt (by omega), BitVec.toNat_shiftLeft, BitVec.toNat_ofNat, BitVec.toNat_ofNat, Nat.shiftLeft_eq, Nat.mul_comm, Nat.mul_mod_mod]
theorem q_lNj {x : Int32} {a : Nat} (h : x.toInt = (a : Int)) : x.toInt64 = lN a := q_lc (q_i2l h)
def encF (f : Nat → Int32) : Nat → Nat
  | 0 => 0
  | n + 1 => 2 ^ 8 * encF f n + (f n).toInt.toNat
def dgF (f : Nat → Int32) (n : Nat) : Prop := ∀ j, j < n → 1 ≤ (f j).toInt ∧ (f j).toInt ≤ 127
theorem encF_lt {f : Nat → Int32} : ∀ n, dgF f (n + 1) → encF f (n + 1) < 128 * 256 ^ n
  | 0, h => by have := h 0 (by omega); show 2 ^ 8 * 0 + (f 0).toInt.toNat < _; omega
  | n + 1, h => by
    have ih := encF_lt n (fun j hj => h j (by omega))
    have := h (n + 1) (by omega)
    rw [encF, Nat.pow_succ]; omega
theorem encF_inj {f g : Nat → Int32} : ∀ n m, dgF f n → dgF g m → encF f n = encF g m → n = m ∧ ∀ j, j < n → f j = g j
  | 0, 0, _, _, _ => ⟨rfl, fun j hj => absurd hj (by omega)⟩
  | 0, m + 1, _, hg, h => by
    have := hg m (by omega)
    rw [encF, encF] at h; omega
  | n + 1, 0, hf, _, h => by
    have := hf n (by omega)
    rw [encF, encF] at h; omega
  | n + 1, m + 1, hf, hg, h => by
    have h1 := hf n (by omega)
    have h2 := hg m (by omega)
    rw [encF, encF] at h
    have ih := encF_inj n m (fun j hj => hf j (by omega)) (fun j hj => hg j (by omega)) (by omega)
    obtain ⟨e, hj⟩ := ih
    subst e
    refine ⟨rfl, fun j hjn => ?_⟩
    by_cases c : j = n
    · subst c; exact q_inj (by omega)
    · exact hj j (by omega)
def cWl : List Nat := [1885434484, 465625246068, 7304564, 1650549611, 431198331257, 431416239732, 126892433305195, 1718775661, 1835101817, 474315584357, 1936024932, 1718380912, 1936484720, 1936419184, 1819243365]
theorem cWl_ok : ∀ k, k < 15 → encF (fun j => chW k j) (lenW.getD k 0) = cWl.getD k 0 ∧ 0 < cWl.getD k 0 ∧ cWl.getD k 0 < 9223372036854775808 ∧ 0 < lenW.getD k 0 ∧ ∀ j, j < lenW.getD k 0 → 1 ≤ ((fun j => chW k j) j).toInt ∧ ((fun j => chW k j) j).toInt ≤ 127 := by decide +kernel
/-- the word at i as the reference has it -/
def wdL (b : Nat → Int32) (nb i : Nat) : Int64 := if tK b nb i = 1 ∧ tE b nb i - tS b nb i ≤ 8 then lN (encF (fun j => b (tS b nb i + j)) (tE b nb i - tS b nb i)) else 0
theorem wd_le {b : Nat → Int32} {nb i : Nat} (h : tK b nb i = 1) : dgF (fun j => b (tS b nb i + j)) (tE b nb i - tS b nb i) := by
  intro j hj
  have h1 := tK_1 h
  have := of_decide_eq_true (enS_in (p := leB) (b := b) (nb := nb) (s := tS b nb i) (j := tS b nb i + j) (by omega) (by rw [h1.2.1] at hj; omega))
  show 1 ≤ (b (tS b nb i + j)).toInt ∧ (b (tS b nb i + j)).toInt ≤ 127
  omega
theorem wd_iff {b : Nat → Int32} {nb i k : Nat} (hk : k < 15) : wdL b nb i = lN (cWl.getD k 0) ↔ wI b nb i = k := by
  rw [← wI_iff hk]
  obtain ⟨c1, c2, c3, c4, c5⟩ := cWl_ok k hk
  have hl := lenW_lt k hk
  have nz : ¬ (0 : Int64) = lN (cWl.getD k 0) := fun q => by
    have q := congrArg Int64.toInt q
    rw [pk_lT (by omega)] at q
    have z : (0 : Int64).toInt = 0 := rfl
    rw [z] at q; omega
  unfold wdL
  by_cases h : tK b nb i = 1 ∧ tE b nb i - tS b nb i ≤ 8
  · rw [if_pos h]
    have hd := wd_le h.1
    have hlt : encF (fun j => b (tS b nb i + j)) (tE b nb i - tS b nb i) < 9223372036854775808 := by
      rcases Nat.eq_zero_or_pos (tE b nb i - tS b nb i) with z | z
      · rw [z]; exact (by decide : (0 : Nat) < 9223372036854775808)
      · obtain ⟨n, hn⟩ : ∃ n, tE b nb i - tS b nb i = n + 1 := ⟨tE b nb i - tS b nb i - 1, by omega⟩
        rw [hn] at hd ⊢
        have h1 := encF_lt n hd
        have h2 : 256 ^ n ≤ 256 ^ 7 := Nat.pow_le_pow_right (by decide) (by omega)
        omega
    constructor
    · intro q
      have q := congrArg Int64.toInt q
      rw [pk_lT hlt, pk_lT c3] at q
      have q : encF (fun j => b (tS b nb i + j)) (tE b nb i - tS b nb i) = encF (fun j => chW k j) (lenW.getD k 0) := by rw [c1]; omega
      have e := encF_inj _ _ hd c5 q
      exact decide_eq_true ⟨h.1, e.1, fun j hj => e.2 j (by omega)⟩
    · intro q
      obtain ⟨q1, q2, q3⟩ := of_decide_eq_true q
      have e : ∀ n, n ≤ lenW.getD k 0 → encF (fun j => b (tS b nb i + j)) n = encF (fun j => chW k j) n := by
        intro n
        induction n with
        | zero => intro _; rfl
        | succ n ih => intro hn; rw [encF, encF, ih (by omega), q3 n (by omega)]
      rw [q2, e _ (Nat.le_refl _), c1]
  · rw [if_neg h]
    refine ⟨fun q => absurd q nz, fun q => ?_⟩
    obtain ⟨q1, q2, q3⟩ := of_decide_eq_true q
    exact absurd ⟨q1, by omega⟩ h
theorem wd_0 {b : Nat → Int32} {nb i : Nat} (h : ¬ tK b nb i = 1) : wdL b nb i = 0 := by unfold wdL; rw [if_neg (fun q => h q.1)]
/-- a branch on a word -/
theorem br_d {b : Nat → Int32} {nb i k : Nat} (x : Int64) (hk : k < 15) (hx : x = wdL b nb i) (c : Int64) (hc : c = lN (cWl.getD k 0)) : (lg_cmp x c = 0) = (wI b nb i = k) := by
  rw [lg_cmp_eq, hx, hc]; exact propext (wd_iff hk)
theorem dX9_see_0 : decode cX9_see 0 = .ok (.aload_n 0, 1) := by decide +kernel
theorem dX9_see_1 : decode cX9_see 1 = .ok (.getfield 69, 3) := by decide +kernel
theorem dX9_see_4 : decode cX9_see 4 = .ok (.aload_n 0, 1) := by decide +kernel
theorem dX9_see_5 : decode cX9_see 5 = .ok (.getfield 72, 3) := by decide +kernel
theorem dX9_see_8 : decode cX9_see 8 = .ok (.if_icmp .ge 19, 3) := by decide +kernel
theorem dX9_see_11 : decode cX9_see 11 = .ok (.aload_n 0, 1) := by decide +kernel
theorem dX9_see_12 : decode cX9_see 12 = .ok (.getfield 13, 3) := by decide +kernel
theorem dX9_see_15 : decode cX9_see 15 = .ok (.aload_n 0, 1) := by decide +kernel
theorem dX9_see_16 : decode cX9_see 16 = .ok (.getfield 69, 3) := by decide +kernel
theorem dX9_see_19 : decode cX9_see 19 = .ok (.baload, 1) := by decide +kernel
theorem dX9_see_20 : decode cX9_see 20 = .ok (.sipush 255, 3) := by decide +kernel
theorem dX9_see_23 : decode cX9_see 23 = .ok (.iand, 1) := by decide +kernel
theorem dX9_see_24 : decode cX9_see 24 = .ok (.goto 4, 3) := by decide +kernel
theorem dX9_see_27 : decode cX9_see 27 = .ok (.iconst (-1), 1) := by decide +kernel
theorem dX9_see_28 : decode cX9_see 28 = .ok (.ireturn, 1) := by decide +kernel
abbrev rmX9_see : Room := { frames := 0, cells := 0, slots := 0, locals := 0 }
theorem inX9_see_9 : ∀ w ∈ wsX90, w ∈ wsX9_see := by decide +kernel
def vX9_see (F : Nat → Int32) (J : Nat → Int64) (tx : Nat → Int32) (Q : Int32 → Prop) : Prop := (((F 5) ≤ (F 4) → (Q (-1 : Int32))) ∧ (¬ (F 5) ≤ (F 4) → (vp_in (F 4) 2000 ∧ (Q ((tx (F 4).toNatClampNeg) &&& (255 : Int32))))))
set_option maxHeartbeats 4000000 in
set_option maxRecDepth 100000 in
theorem wX9_see (l : Launch) (g : GP) (qM : Nat) (q1 : Nat) (q2 : Nat) (q3 : Nat) (q4 : Nat) (q5 : Nat) (q6 : Nat) (q7 : Nat) (q8 : Nat) (q9 : Nat) (q10 : Nat) (q11 : Nat) (F : Nat → Int32) (J : Nat → Int64) (tx : Nat → Int32) {Q : Int32 → Prop} (hv : vX9_see F J tx Q) : Met l yX9_see wsX9_see rmX9_see (va_Pc [.ref qM] (fun U => va_P g.1 vwCl [(qM, .inr (9, [.int (F 0), .ref q1, .ref q2, .ref q3, .int (F 4), .int (F 5), .int (F 6), .int (F 7), .int (F 8), .int (F 9), .long (J 10), .int (F 11), .int (F 12), .int (F 13), .ref q4, .int (F 15), .ref q5, .ref q6, .ref q7, .int (F 19), .ref q8, .int (F 21), .int (F 22), .int (F 23), .int (F 24), .ref q9, .ref q10, .ref q11, .long (J 28)])), (q2, .inl (g.2 1, 2000, .inl tx))] U.heap ∧ GK g U)) (vp_Si Q) 0 0 (fun _ => False) := by
  refine Met.ofW (cc := cX9_see) (maxL := 1) (ret := (some .int)) (by decide) rfl ?_
  intro p e s m args below meth c s₁ B hml hv'
  obtain ⟨rfl, hP, hG⟩ := hv'
  have S : CallFix p m c cX9_see 1 s _ wsX9_see RX9 := ⟨B.exec, B.bytes, hml, findClass_of_methodNamed B.named, atoms_spec (ws := wsX9_see) B.pre⟩
  obtain ⟨hx, hb, hml, hown, hts⟩ := id S
  have hK := hG.1
  have hr := B.returns
  have hlocks := B.notSynchronized
  have hl := lv_entry ([.ref qM]) (n := 1) (Nat.le_of_ble_eq_true rfl)
  rw [lg_entry_eq]
  generalize (lg_sl ([.ref qM]) ++ List.replicate (1 - (lg_sl ([.ref qM])).length) Slot.unset).toArray = ls at hl ⊢
  have hl : lv_has ls 1 [(0, .ref qM)] := hl
  unfold vX9_see at hv
  refine lv_aload_n hx hb dX9_see_0 rfl (lv_at hl 0 rfl) ?_
  refine va_get (D := g.1) (ci := 9) (v := .int (F 4)) (C := RX9) (T := TX9) (N := 29) hx hb hts inX9_see_9 hown hK hP 0 rfl rfl 4 (by decide) (hts (.fieldLink RX9 69 "RangeCodesModel" "reached" "I") (List.mem_of_getElem? (i := 1) rfl)) (fun _ h9 => h9) rfl dX9_see_1 ?_
  refine lv_aload_n hx hb dX9_see_4 rfl (lv_at hl 0 rfl) ?_
  refine va_get (D := g.1) (ci := 9) (v := .int (F 5)) (C := RX9) (T := TX9) (N := 29) hx hb hts inX9_see_9 hown hK hP 0 rfl rfl 5 (by decide) (hts (.fieldLink RX9 72 "RangeCodesModel" "length" "I") (List.mem_of_getElem? (i := 2) rfl)) (fun _ h9 => h9) rfl dX9_see_5 ?_
  obtain ⟨hvt, hvf⟩ := hv
  refine lv_icmp_ge (tgt := 27) hx hb dX9_see_8 (by decide) (fun hc => ?_) (fun hc => ?_)
  · have hv := hvt hc
    refine lv_iconst (v := (-1 : Int32)) hx hb dX9_see_27 (by decide) ?_
    exact W.iret (v := (-1 : Int32)) hx hb hr (fun t ht hW => ⟨_, rfl, hv, ht⟩) (fun _ h => by cases h) dX9_see_28
  · have hv := hvf hc
    refine lv_aload_n hx hb dX9_see_11 rfl (lv_at hl 0 rfl) ?_
    refine va_get (D := g.1) (ci := 9) (v := .ref q2) (C := RX9) (T := TX9) (N := 29) hx hb hts inX9_see_9 hown hK hP 0 rfl rfl 2 (by decide) (hts (.fieldLink RX9 13 "RangeCodesModel" "text" "[B") (List.mem_of_getElem? (i := 3) rfl)) (fun _ h9 => h9) rfl dX9_see_12 ?_
    refine lv_aload_n hx hb dX9_see_15 rfl (lv_at hl 0 rfl) ?_
    refine va_get (D := g.1) (ci := 9) (v := .int (F 4)) (C := RX9) (T := TX9) (N := 29) hx hb hts inX9_see_9 hown hK hP 0 rfl rfl 4 (by decide) (hts (.fieldLink RX9 69 "RangeCodesModel" "reached" "I") (List.mem_of_getElem? (i := 1) rfl)) (fun _ h9 => h9) rfl dX9_see_16 ?_
    obtain ⟨ho_1, hv⟩ := hv
    refine va_bald hx hb hK hP 1 1 rfl rfl ho_1 dX9_see_19 ?_
    refine lv_sipush (v := (255 : Int32)) hx hb dX9_see_20 (by decide) ?_
    refine lv_iand hx hb dX9_see_23 ?_
    refine lv_goto (tgt := 28) hx hb dX9_see_24 (by decide) ?_
    exact W.iret (v := ((tx (F 4).toNatClampNeg) &&& (255 : Int32))) hx hb hr (fun t ht hW => ⟨_, rfl, hv, ht⟩) (fun _ h => by cases h) dX9_see_28
/-- where the reference stands in the text -/
def atM (b : Nat → Int32) (nb i : Nat) (F tx : Nat → Int32) : Prop := (F 5).toInt = (nb : Int) ∧ nb ≤ 500 ∧ (F 4).toInt = (i : Int) ∧ i ≤ nb ∧ isTx b nb tx
abbrev preX9_see (b : Nat → Int32) (nb : Nat) (i : Nat) (F : Nat → Int32) (J : Nat → Int64) (tx : Nat → Int32) : Prop := atM b nb i F tx
abbrev postX9_see (b : Nat → Int32) (nb : Nat) (i : Nat) (F : Nat → Int32) (J : Nat → Int64) (tx : Nat → Int32) (r : Int32) : Prop := r.toInt = if i < nb then uZ (b i) else -1
theorem sX9_see (b : Nat → Int32) (nb : Nat) (i : Nat) (F : Nat → Int32) (J : Nat → Int64) (tx : Nat → Int32) (H : preX9_see b nb i F J tx) : vX9_see F J tx (postX9_see b nb i F J tx) := by
  obtain ⟨h5, hnb, h4, hi, htx⟩ := H
  unfold vX9_see postX9_see
  rw [q_le h5 h4]
  refine ⟨fun c => ?_, fun c => ⟨q_in h4 (by omega), ?_⟩⟩
  · rw [if_neg (by omega)]; rfl
  · have ht := htx i (by omega)
    rw [if_pos (by omega), q_cl h4, ht.1]
    exact q_255 ht.2.1 ht.2.2
set_option maxRecDepth 20000 in
theorem ggX9_token_X9_see : GoodIn wsX9_token wsX9_see := goodIn_r _ [11, 1, 12, 13, 17, 18, 19, 20, 21, 22, 23, 24, 25, 26, 27, 28, 29, 30, 31, 32, 33, 34, 35, 36, 37, 38, 39, 40, 41, 42, 43, 44, 45] (by decide +kernel) (by decide +kernel)
set_option maxRecDepth 20000 in
theorem gX9_token_X9_see : GoodIn wsX9_token (wsV RX9 75 RX9 yX9_see wsX9_see) := goodIn_app (goodIn_of _ (by decide +kernel)) ggX9_token_X9_see
set_option maxRecDepth 20000 in
theorem ggX9_token_X9_in : GoodIn wsX9_token wsX9_in := goodIn_r _ [16] (by decide +kernel) (by decide +kernel)
set_option maxRecDepth 20000 in
theorem gX9_token_X9_in : GoodIn wsX9_token (va_wsS RX9 63 yX9_in wsX9_in) := goodIn_app (goodIn_of _ (by decide +kernel)) ggX9_token_X9_in
theorem dX9_token_0 : decode cX9_token 0 = .ok (.aload_n 0, 1) := by decide +kernel
theorem dX9_token_1 : decode cX9_token 1 = .ok (.invokevirtual 75, 3) := by decide +kernel
theorem dX9_token_4 : decode cX9_token 4 = .ok (.bipush 10, 2) := by decide +kernel
theorem dX9_token_6 : decode cX9_token 6 = .ok (.if_icmp .eq 12, 3) := by decide +kernel
theorem dX9_token_9 : decode cX9_token 9 = .ok (.aload_n 0, 1) := by decide +kernel
theorem dX9_token_10 : decode cX9_token 10 = .ok (.invokevirtual 75, 3) := by decide +kernel
theorem dX9_token_13 : decode cX9_token 13 = .ok (.bipush 32, 2) := by decide +kernel
theorem dX9_token_15 : decode cX9_token 15 = .ok (.if_icmp .ne 16, 3) := by decide +kernel
theorem dX9_token_18 : decode cX9_token 18 = .ok (.aload_n 0, 1) := by decide +kernel
theorem dX9_token_19 : decode cX9_token 19 = .ok (.dup, 1) := by decide +kernel
theorem dX9_token_20 : decode cX9_token 20 = .ok (.getfield 69, 3) := by decide +kernel
theorem dX9_token_23 : decode cX9_token 23 = .ok (.iconst 1, 1) := by decide +kernel
theorem dX9_token_24 : decode cX9_token 24 = .ok (.iadd, 1) := by decide +kernel
theorem dX9_token_25 : decode cX9_token 25 = .ok (.putfield 69, 3) := by decide +kernel
theorem dX9_token_28 : decode cX9_token 28 = .ok (.goto (-28), 3) := by decide +kernel
theorem dX9_token_31 : decode cX9_token 31 = .ok (.aload_n 0, 1) := by decide +kernel
theorem dX9_token_32 : decode cX9_token 32 = .ok (.aload_n 0, 1) := by decide +kernel
theorem dX9_token_33 : decode cX9_token 33 = .ok (.getfield 69, 3) := by decide +kernel
theorem dX9_token_36 : decode cX9_token 36 = .ok (.putfield 79, 3) := by decide +kernel
theorem dX9_token_39 : decode cX9_token 39 = .ok (.aload_n 0, 1) := by decide +kernel
theorem dX9_token_40 : decode cX9_token 40 = .ok (.invokevirtual 75, 3) := by decide +kernel
theorem dX9_token_43 : decode cX9_token 43 = .ok (.istore_n 1, 1) := by decide +kernel
theorem dX9_token_44 : decode cX9_token 44 = .ok (.aload_n 0, 1) := by decide +kernel
theorem dX9_token_45 : decode cX9_token 45 = .ok (.lconst 0, 1) := by decide +kernel
theorem dX9_token_46 : decode cX9_token 46 = .ok (.putfield 82, 3) := by decide +kernel
theorem dX9_token_49 : decode cX9_token 49 = .ok (.iconst 0, 1) := by decide +kernel
theorem dX9_token_50 : decode cX9_token 50 = .ok (.istore_n 2, 1) := by decide +kernel
theorem dX9_token_51 : decode cX9_token 51 = .ok (.iload_n 1, 1) := by decide +kernel
theorem dX9_token_52 : decode cX9_token 52 = .ok (.ifCond .ge 11, 3) := by decide +kernel
theorem dX9_token_55 : decode cX9_token 55 = .ok (.aload_n 0, 1) := by decide +kernel
theorem dX9_token_56 : decode cX9_token 56 = .ok (.iconst 0, 1) := by decide +kernel
theorem dX9_token_57 : decode cX9_token 57 = .ok (.putfield 86, 3) := by decide +kernel
theorem dX9_token_60 : decode cX9_token 60 = .ok (.goto 221, 3) := by decide +kernel
theorem dX9_token_63 : decode cX9_token 63 = .ok (.iload_n 1, 1) := by decide +kernel
theorem dX9_token_64 : decode cX9_token 64 = .ok (.bipush 97, 2) := by decide +kernel
theorem dX9_token_66 : decode cX9_token 66 = .ok (.bipush 122, 2) := by decide +kernel
theorem dX9_token_68 : decode cX9_token 68 = .ok (.invokestatic 63, 3) := by decide +kernel
theorem dX9_token_71 : decode cX9_token 71 = .ok (.ifCond .eq 91, 3) := by decide +kernel
theorem dX9_token_74 : decode cX9_token 74 = .ok (.aload_n 0, 1) := by decide +kernel
theorem dX9_token_75 : decode cX9_token 75 = .ok (.invokevirtual 75, 3) := by decide +kernel
theorem dX9_token_78 : decode cX9_token 78 = .ok (.bipush 97, 2) := by decide +kernel
theorem dX9_token_80 : decode cX9_token 80 = .ok (.bipush 122, 2) := by decide +kernel
theorem dX9_token_82 : decode cX9_token 82 = .ok (.invokestatic 63, 3) := by decide +kernel
theorem dX9_token_85 : decode cX9_token 85 = .ok (.ifCond .eq 36, 3) := by decide +kernel
theorem dX9_token_88 : decode cX9_token 88 = .ok (.aload_n 0, 1) := by decide +kernel
theorem dX9_token_89 : decode cX9_token 89 = .ok (.aload_n 0, 1) := by decide +kernel
theorem dX9_token_90 : decode cX9_token 90 = .ok (.getfield 82, 3) := by decide +kernel
theorem dX9_token_93 : decode cX9_token 93 = .ok (.bipush 8, 2) := by decide +kernel
theorem dX9_token_95 : decode cX9_token 95 = .ok (.lshl, 1) := by decide +kernel
theorem dX9_token_96 : decode cX9_token 96 = .ok (.aload_n 0, 1) := by decide +kernel
theorem dX9_token_97 : decode cX9_token 97 = .ok (.invokevirtual 75, 3) := by decide +kernel
theorem dX9_token_100 : decode cX9_token 100 = .ok (.i2l, 1) := by decide +kernel
theorem dX9_token_101 : decode cX9_token 101 = .ok (.lor, 1) := by decide +kernel
theorem dX9_token_102 : decode cX9_token 102 = .ok (.putfield 82, 3) := by decide +kernel
theorem dX9_token_105 : decode cX9_token 105 = .ok (.aload_n 0, 1) := by decide +kernel
theorem dX9_token_106 : decode cX9_token 106 = .ok (.dup, 1) := by decide +kernel
theorem dX9_token_107 : decode cX9_token 107 = .ok (.getfield 69, 3) := by decide +kernel
theorem dX9_token_110 : decode cX9_token 110 = .ok (.iconst 1, 1) := by decide +kernel
theorem dX9_token_111 : decode cX9_token 111 = .ok (.iadd, 1) := by decide +kernel
theorem dX9_token_112 : decode cX9_token 112 = .ok (.putfield 69, 3) := by decide +kernel
theorem dX9_token_115 : decode cX9_token 115 = .ok (.iinc 2 1, 3) := by decide +kernel
theorem dX9_token_118 : decode cX9_token 118 = .ok (.goto (-44), 3) := by decide +kernel
theorem dX9_token_121 : decode cX9_token 121 = .ok (.aload_n 0, 1) := by decide +kernel
theorem dX9_token_122 : decode cX9_token 122 = .ok (.iload_n 2, 1) := by decide +kernel
theorem dX9_token_123 : decode cX9_token 123 = .ok (.putfield 89, 3) := by decide +kernel
theorem dX9_token_126 : decode cX9_token 126 = .ok (.aload_n 0, 1) := by decide +kernel
theorem dX9_token_127 : decode cX9_token 127 = .ok (.iload_n 2, 1) := by decide +kernel
theorem dX9_token_128 : decode cX9_token 128 = .ok (.bipush 8, 2) := by decide +kernel
theorem dX9_token_130 : decode cX9_token 130 = .ok (.if_icmp .le 7, 3) := by decide +kernel
theorem dX9_token_133 : decode cX9_token 133 = .ok (.lconst 0, 1) := by decide +kernel
theorem dX9_token_134 : decode cX9_token 134 = .ok (.goto 7, 3) := by decide +kernel
theorem dX9_token_137 : decode cX9_token 137 = .ok (.aload_n 0, 1) := by decide +kernel
theorem dX9_token_138 : decode cX9_token 138 = .ok (.getfield 82, 3) := by decide +kernel
theorem dX9_token_141 : decode cX9_token 141 = .ok (.putfield 82, 3) := by decide +kernel
theorem dX9_token_144 : decode cX9_token 144 = .ok (.aload_n 0, 1) := by decide +kernel
theorem dX9_token_145 : decode cX9_token 145 = .ok (.iload_n 2, 1) := by decide +kernel
theorem dX9_token_146 : decode cX9_token 146 = .ok (.bipush 13, 2) := by decide +kernel
theorem dX9_token_148 : decode cX9_token 148 = .ok (.if_icmp .le 7, 3) := by decide +kernel
theorem dX9_token_151 : decode cX9_token 151 = .ok (.iconst 1, 1) := by decide +kernel
theorem dX9_token_152 : decode cX9_token 152 = .ok (.goto 4, 3) := by decide +kernel
theorem dX9_token_155 : decode cX9_token 155 = .ok (.iconst 2, 1) := by decide +kernel
theorem dX9_token_156 : decode cX9_token 156 = .ok (.putfield 86, 3) := by decide +kernel
theorem dX9_token_159 : decode cX9_token 159 = .ok (.goto 122, 3) := by decide +kernel
theorem dX9_token_162 : decode cX9_token 162 = .ok (.iload_n 1, 1) := by decide +kernel
theorem dX9_token_163 : decode cX9_token 163 = .ok (.bipush 48, 2) := by decide +kernel
theorem dX9_token_165 : decode cX9_token 165 = .ok (.bipush 57, 2) := by decide +kernel
theorem dX9_token_167 : decode cX9_token 167 = .ok (.invokestatic 63, 3) := by decide +kernel
theorem dX9_token_170 : decode cX9_token 170 = .ok (.ifCond .eq 86, 3) := by decide +kernel
theorem dX9_token_173 : decode cX9_token 173 = .ok (.aload_n 0, 1) := by decide +kernel
theorem dX9_token_174 : decode cX9_token 174 = .ok (.iconst 0, 1) := by decide +kernel
theorem dX9_token_175 : decode cX9_token 175 = .ok (.putfield 92, 3) := by decide +kernel
theorem dX9_token_178 : decode cX9_token 178 = .ok (.aload_n 0, 1) := by decide +kernel
theorem dX9_token_179 : decode cX9_token 179 = .ok (.invokevirtual 75, 3) := by decide +kernel
theorem dX9_token_182 : decode cX9_token 182 = .ok (.bipush 48, 2) := by decide +kernel
theorem dX9_token_184 : decode cX9_token 184 = .ok (.bipush 57, 2) := by decide +kernel
theorem dX9_token_186 : decode cX9_token 186 = .ok (.invokestatic 63, 3) := by decide +kernel
theorem dX9_token_189 : decode cX9_token 189 = .ok (.ifCond .eq 50, 3) := by decide +kernel
theorem dX9_token_192 : decode cX9_token 192 = .ok (.aload_n 0, 1) := by decide +kernel
theorem dX9_token_193 : decode cX9_token 193 = .ok (.iload_n 2, 1) := by decide +kernel
theorem dX9_token_194 : decode cX9_token 194 = .ok (.iconst 4, 1) := by decide +kernel
theorem dX9_token_195 : decode cX9_token 195 = .ok (.if_icmp .ge 21, 3) := by decide +kernel
theorem dX9_token_198 : decode cX9_token 198 = .ok (.bipush 10, 2) := by decide +kernel
theorem dX9_token_200 : decode cX9_token 200 = .ok (.aload_n 0, 1) := by decide +kernel
theorem dX9_token_201 : decode cX9_token 201 = .ok (.getfield 92, 3) := by decide +kernel
theorem dX9_token_204 : decode cX9_token 204 = .ok (.imul, 1) := by decide +kernel
theorem dX9_token_205 : decode cX9_token 205 = .ok (.aload_n 0, 1) := by decide +kernel
theorem dX9_token_206 : decode cX9_token 206 = .ok (.invokevirtual 75, 3) := by decide +kernel
theorem dX9_token_209 : decode cX9_token 209 = .ok (.iadd, 1) := by decide +kernel
theorem dX9_token_210 : decode cX9_token 210 = .ok (.bipush 48, 2) := by decide +kernel
theorem dX9_token_212 : decode cX9_token 212 = .ok (.isub, 1) := by decide +kernel
theorem dX9_token_213 : decode cX9_token 213 = .ok (.goto 7, 3) := by decide +kernel
theorem dX9_token_216 : decode cX9_token 216 = .ok (.aload_n 0, 1) := by decide +kernel
theorem dX9_token_217 : decode cX9_token 217 = .ok (.getfield 92, 3) := by decide +kernel
theorem dX9_token_220 : decode cX9_token 220 = .ok (.putfield 92, 3) := by decide +kernel
theorem dX9_token_223 : decode cX9_token 223 = .ok (.aload_n 0, 1) := by decide +kernel
theorem dX9_token_224 : decode cX9_token 224 = .ok (.dup, 1) := by decide +kernel
theorem dX9_token_225 : decode cX9_token 225 = .ok (.getfield 69, 3) := by decide +kernel
theorem dX9_token_228 : decode cX9_token 228 = .ok (.iconst 1, 1) := by decide +kernel
theorem dX9_token_229 : decode cX9_token 229 = .ok (.iadd, 1) := by decide +kernel
theorem dX9_token_230 : decode cX9_token 230 = .ok (.putfield 69, 3) := by decide +kernel
theorem dX9_token_233 : decode cX9_token 233 = .ok (.iinc 2 1, 3) := by decide +kernel
theorem dX9_token_236 : decode cX9_token 236 = .ok (.goto (-58), 3) := by decide +kernel
theorem dX9_token_239 : decode cX9_token 239 = .ok (.aload_n 0, 1) := by decide +kernel
theorem dX9_token_240 : decode cX9_token 240 = .ok (.iload_n 2, 1) := by decide +kernel
theorem dX9_token_241 : decode cX9_token 241 = .ok (.iconst 4, 1) := by decide +kernel
theorem dX9_token_242 : decode cX9_token 242 = .ok (.if_icmp .le 7, 3) := by decide +kernel
theorem dX9_token_245 : decode cX9_token 245 = .ok (.iconst 1, 1) := by decide +kernel
theorem dX9_token_246 : decode cX9_token 246 = .ok (.goto 4, 3) := by decide +kernel
theorem dX9_token_249 : decode cX9_token 249 = .ok (.iconst 3, 1) := by decide +kernel
theorem dX9_token_250 : decode cX9_token 250 = .ok (.putfield 86, 3) := by decide +kernel
theorem dX9_token_253 : decode cX9_token 253 = .ok (.goto 28, 3) := by decide +kernel
theorem dX9_token_256 : decode cX9_token 256 = .ok (.aload_n 0, 1) := by decide +kernel
theorem dX9_token_257 : decode cX9_token 257 = .ok (.dup, 1) := by decide +kernel
theorem dX9_token_258 : decode cX9_token 258 = .ok (.getfield 69, 3) := by decide +kernel
theorem dX9_token_261 : decode cX9_token 261 = .ok (.iconst 1, 1) := by decide +kernel
theorem dX9_token_262 : decode cX9_token 262 = .ok (.iadd, 1) := by decide +kernel
theorem dX9_token_263 : decode cX9_token 263 = .ok (.putfield 69, 3) := by decide +kernel
theorem dX9_token_266 : decode cX9_token 266 = .ok (.aload_n 0, 1) := by decide +kernel
theorem dX9_token_267 : decode cX9_token 267 = .ok (.iload_n 1, 1) := by decide +kernel
theorem dX9_token_268 : decode cX9_token 268 = .ok (.bipush 59, 2) := by decide +kernel
theorem dX9_token_270 : decode cX9_token 270 = .ok (.if_icmp .ne 7, 3) := by decide +kernel
theorem dX9_token_273 : decode cX9_token 273 = .ok (.iconst 4, 1) := by decide +kernel
theorem dX9_token_274 : decode cX9_token 274 = .ok (.goto 4, 3) := by decide +kernel
theorem dX9_token_277 : decode cX9_token 277 = .ok (.iconst 1, 1) := by decide +kernel
theorem dX9_token_278 : decode cX9_token 278 = .ok (.putfield 86, 3) := by decide +kernel
theorem dX9_token_281 : decode cX9_token 281 = .ok (.return_, 1) := by decide +kernel
abbrev rmX9_token : Room := { frames := 1, cells := 0, slots := 0, locals := 22 }
theorem inX9_token_9 : ∀ w ∈ wsX90, w ∈ wsX9_token := by decide +kernel
def vX9_token_c220 (tx : Nat → Int32) (Q : (Nat → Int32) → (Nat → Int64) → Prop) (K178 : Int32 → (Nat → Int32) → (Nat → Int64) → Prop) (x2 : Int32) (s0 : Int32) (F : Nat → Int32) (J : Nat → Int64) : Prop := (K178 (x2 + (1 : Int32)) (upd (upd F 4 ((F 4) + (1 : Int32))) 8 s0) J)
set_option maxHeartbeats 4000000 in
set_option maxRecDepth 100000 in
theorem kX9_token_c220 {p : Program} {l : Launch} {e : Env} {s : State} {m : MethodId} {args : Array Value} {below : List Frame} {meth : Method} {c : Code} {g : GP} {qM : Nat} {q1 : Nat} {q2 : Nat} {q3 : Nat} {q4 : Nat} {q5 : Nat} {q6 : Nat} {q7 : Nat} {q8 : Nat} {q9 : Nat} {q10 : Nat} {q11 : Nat} {tx : Nat → Int32}  {Q : (Nat → Int32) → (Nat → Int64) → Prop} {A : Nat → Prop} {K178 : Int32 → (Nat → Int32) → (Nat → Int64) → Prop} (S : CallFix p m c cX9_token 3 s args wsX9_token RX9) (hr : meth.sig.returnType = none) (hlocks : meth.locks = false) (hG : GK g s) (hA : ∀ q : Nat, s.heap.size ≤ q → A q) (kk178 : ∀ (x2 : Int32) (F : Nat → Int32) (J : Nat → Int64), K178 x2 F J → ∀ (H : Heap) (locs : List Loc), va_P g.1 vwCl [(qM, .inr (9, [.int (F 0), .ref q1, .ref q2, .ref q3, .int (F 4), .int (F 5), .int (F 6), .int (F 7), .int (F 8), .int (F 9), .long (J 10), .int (F 11), .int (F 12), .int (F 13), .ref q4, .int (F 15), .ref q5, .ref q6, .ref q7, .int (F 19), .ref q8, .int (F 21), .int (F 22), .int (F 23), .int (F 24), .ref q9, .ref q10, .ref q11, .long (J 28)])), (q2, .inl (g.2 1, 2000, .inl tx))] H → va_D A [(qM, .inr (9, [.int (F 0), .ref q1, .ref q2, .ref q3, .int (F 4), .int (F 5), .int (F 6), .int (F 7), .int (F 8), .int (F 9), .long (J 10), .int (F 11), .int (F 12), .int (F 13), .ref q4, .int (F 15), .ref q5, .ref q6, .ref q7, .int (F 19), .ref q8, .int (F 21), .int (F 22), .int (F 23), .int (F 24), .ref q9, .ref q10, .ref q11, .long (J 28)])), (q2, .inl (g.2 1, 2000, .inl tx))] → va_S A s.heap H locs → ∀ (ls : Array Slot), lv_has ls 3 [(0, .ref qM), (2, .int x2)] → W p l e (headSpec wsX9_token rmX9_token).room s m args below meth c H locs 0 0 (MQ below (va_Qv (fun (u : (Nat → Int32) × (Nat → Int64)) => Q u.1 u.2) (fun (u : (Nat → Int32) × (Nat → Int64)) t => va_P g.1 vwCl [(qM, .inr (9, [.int (u.1 0), .ref q1, .ref q2, .ref q3, .int (u.1 4), .int (u.1 5), .int (u.1 6), .int (u.1 7), .int (u.1 8), .int (u.1 9), .long (u.2 10), .int (u.1 11), .int (u.1 12), .int (u.1 13), .ref q4, .int (u.1 15), .ref q5, .ref q6, .ref q7, .int (u.1 19), .ref q8, .int (u.1 21), .int (u.1 22), .int (u.1 23), .int (u.1 24), .ref q9, .ref q10, .ref q11, .long (u.2 28)])), (q2, .inl (g.2 1, 2000, .inl tx))] t.heap ∧ va_D A [(qM, .inr (9, [.int (u.1 0), .ref q1, .ref q2, .ref q3, .int (u.1 4), .int (u.1 5), .int (u.1 6), .int (u.1 7), .int (u.1 8), .int (u.1 9), .long (u.2 10), .int (u.1 11), .int (u.1 12), .int (u.1 13), .ref q4, .int (u.1 15), .ref q5, .ref q6, .ref q7, .int (u.1 19), .ref q8, .int (u.1 21), .int (u.1 22), .int (u.1 23), .int (u.1 24), .ref q9, .ref q10, .ref q11, .long (u.2 28)])), (q2, .inl (g.2 1, 2000, .inl tx))]) A) args s 0 0 A) (F0 m 178 ls [])) : ∀ (x2 : Int32) (s0 : Int32) (F : Nat → Int32) (J : Nat → Int64), vX9_token_c220 tx Q K178 x2 s0 F J → ∀ (H : Heap) (locs : List Loc), va_P g.1 vwCl [(qM, .inr (9, [.int (F 0), .ref q1, .ref q2, .ref q3, .int (F 4), .int (F 5), .int (F 6), .int (F 7), .int (F 8), .int (F 9), .long (J 10), .int (F 11), .int (F 12), .int (F 13), .ref q4, .int (F 15), .ref q5, .ref q6, .ref q7, .int (F 19), .ref q8, .int (F 21), .int (F 22), .int (F 23), .int (F 24), .ref q9, .ref q10, .ref q11, .long (J 28)])), (q2, .inl (g.2 1, 2000, .inl tx))] H → va_D A [(qM, .inr (9, [.int (F 0), .ref q1, .ref q2, .ref q3, .int (F 4), .int (F 5), .int (F 6), .int (F 7), .int (F 8), .int (F 9), .long (J 10), .int (F 11), .int (F 12), .int (F 13), .ref q4, .int (F 15), .ref q5, .ref q6, .ref q7, .int (F 19), .ref q8, .int (F 21), .int (F 22), .int (F 23), .int (F 24), .ref q9, .ref q10, .ref q11, .long (J 28)])), (q2, .inl (g.2 1, 2000, .inl tx))] → va_S A s.heap H locs → ∀ (ls : Array Slot), lv_has ls 3 [(0, .ref qM), (2, .int x2)] → W p l e (headSpec wsX9_token rmX9_token).room s m args below meth c H locs 0 0 (MQ below (va_Qv (fun (u : (Nat → Int32) × (Nat → Int64)) => Q u.1 u.2) (fun (u : (Nat → Int32) × (Nat → Int64)) t => va_P g.1 vwCl [(qM, .inr (9, [.int (u.1 0), .ref q1, .ref q2, .ref q3, .int (u.1 4), .int (u.1 5), .int (u.1 6), .int (u.1 7), .int (u.1 8), .int (u.1 9), .long (u.2 10), .int (u.1 11), .int (u.1 12), .int (u.1 13), .ref q4, .int (u.1 15), .ref q5, .ref q6, .ref q7, .int (u.1 19), .ref q8, .int (u.1 21), .int (u.1 22), .int (u.1 23), .int (u.1 24), .ref q9, .ref q10, .ref q11, .long (u.2 28)])), (q2, .inl (g.2 1, 2000, .inl tx))] t.heap ∧ va_D A [(qM, .inr (9, [.int (u.1 0), .ref q1, .ref q2, .ref q3, .int (u.1 4), .int (u.1 5), .int (u.1 6), .int (u.1 7), .int (u.1 8), .int (u.1 9), .long (u.2 10), .int (u.1 11), .int (u.1 12), .int (u.1 13), .ref q4, .int (u.1 15), .ref q5, .ref q6, .ref q7, .int (u.1 19), .ref q8, .int (u.1 21), .int (u.1 22), .int (u.1 23), .int (u.1 24), .ref q9, .ref q10, .ref q11, .long (u.2 28)])), (q2, .inl (g.2 1, 2000, .inl tx))]) A) args s 0 0 A) (F0 m 220 ls [.int s0, .ref qM]) := by
  obtain ⟨hx, hb, hml, hown, hts⟩ := id S
  have hK := hG.1
  intro x2 s0 F J hv H locs hP hD hS ls hl
  unfold vX9_token_c220 at hv
  refine va_put (D := g.1) (ci := 9) (v := .int s0) (ty := .int) (C := RX9) (T := TX9) (N := 29) hx hb hts inX9_token_9 tyX9 tyX9_ok nmX9 hown hK hP hD hS 0 rfl rfl 8 (by decide) (hts (.fieldLink RX9 92 "RangeCodesModel" "value" "I") (List.mem_of_getElem? (i := 6) rfl)) (fun _ h9 => h9) rfl (by decide +kernel) rfl rfl (Nat.le_of_ble_eq_true rfl) dX9_token_220 (fun H locs hP hD hS => ?_)
  have hP : va_P g.1 vwCl [(qM, .inr (9, [.int (F 0), .ref q1, .ref q2, .ref q3, .int (F 4), .int (F 5), .int (F 6), .int (F 7), .int s0, .int (F 9), .long (J 10), .int (F 11), .int (F 12), .int (F 13), .ref q4, .int (F 15), .ref q5, .ref q6, .ref q7, .int (F 19), .ref q8, .int (F 21), .int (F 22), .int (F 23), .int (F 24), .ref q9, .ref q10, .ref q11, .long (J 28)])), (q2, .inl (g.2 1, 2000, .inl tx))] H := hP
  have hD : va_D A [(qM, .inr (9, [.int (F 0), .ref q1, .ref q2, .ref q3, .int (F 4), .int (F 5), .int (F 6), .int (F 7), .int s0, .int (F 9), .long (J 10), .int (F 11), .int (F 12), .int (F 13), .ref q4, .int (F 15), .ref q5, .ref q6, .ref q7, .int (F 19), .ref q8, .int (F 21), .int (F 22), .int (F 23), .int (F 24), .ref q9, .ref q10, .ref q11, .long (J 28)])), (q2, .inl (g.2 1, 2000, .inl tx))] := hD
  refine lv_aload_n hx hb dX9_token_223 rfl (lv_at hl 0 rfl) ?_
  refine lv_dup hx hb dX9_token_224 rfl ?_
  refine va_get (D := g.1) (ci := 9) (v := .int (F 4)) (C := RX9) (T := TX9) (N := 29) hx hb hts inX9_token_9 hown hK hP 0 rfl rfl 4 (by decide) (hts (.fieldLink RX9 69 "RangeCodesModel" "reached" "I") (List.mem_of_getElem? (i := 1) rfl)) (fun _ h9 => h9) rfl dX9_token_225 ?_
  refine lv_iconst (v := (1 : Int32)) hx hb dX9_token_228 (by decide) ?_
  refine lv_iadd hx hb dX9_token_229 ?_
  refine va_put (D := g.1) (ci := 9) (v := .int ((F 4) + (1 : Int32))) (ty := .int) (C := RX9) (T := TX9) (N := 29) hx hb hts inX9_token_9 tyX9 tyX9_ok nmX9 hown hK hP hD hS 0 rfl rfl 4 (by decide) (hts (.fieldLink RX9 69 "RangeCodesModel" "reached" "I") (List.mem_of_getElem? (i := 1) rfl)) (fun _ h9 => h9) rfl (by decide +kernel) rfl rfl (Nat.le_of_ble_eq_true rfl) dX9_token_230 (fun H locs hP hD hS => ?_)
  have hP : va_P g.1 vwCl [(qM, .inr (9, [.int (F 0), .ref q1, .ref q2, .ref q3, .int ((F 4) + (1 : Int32)), .int (F 5), .int (F 6), .int (F 7), .int s0, .int (F 9), .long (J 10), .int (F 11), .int (F 12), .int (F 13), .ref q4, .int (F 15), .ref q5, .ref q6, .ref q7, .int (F 19), .ref q8, .int (F 21), .int (F 22), .int (F 23), .int (F 24), .ref q9, .ref q10, .ref q11, .long (J 28)])), (q2, .inl (g.2 1, 2000, .inl tx))] H := hP
  have hD : va_D A [(qM, .inr (9, [.int (F 0), .ref q1, .ref q2, .ref q3, .int ((F 4) + (1 : Int32)), .int (F 5), .int (F 6), .int (F 7), .int s0, .int (F 9), .long (J 10), .int (F 11), .int (F 12), .int (F 13), .ref q4, .int (F 15), .ref q5, .ref q6, .ref q7, .int (F 19), .ref q8, .int (F 21), .int (F 22), .int (F 23), .int (F 24), .ref q9, .ref q10, .ref q11, .long (J 28)])), (q2, .inl (g.2 1, 2000, .inl tx))] := hD
  refine lv_iinc (v := (x2 + (1 : Int32))) (lv' := [(2, .int (x2 + (1 : Int32))), (0, .ref qM)]) hx hb dX9_token_233 hl (k := 1) rfl rfl (by decide) rfl (fun ls hl => ?_)
  refine lv_goto (tgt := 178) hx hb dX9_token_236 (by decide) ?_
  exact kk178 _ _ _ hv _ _ (hP.sub (ws' := [(qM, .inr (9, [.int ((upd (upd F 4 ((F 4) + (1 : Int32))) 8 s0) 0), .ref q1, .ref q2, .ref q3, .int ((upd (upd F 4 ((F 4) + (1 : Int32))) 8 s0) 4), .int ((upd (upd F 4 ((F 4) + (1 : Int32))) 8 s0) 5), .int ((upd (upd F 4 ((F 4) + (1 : Int32))) 8 s0) 6), .int ((upd (upd F 4 ((F 4) + (1 : Int32))) 8 s0) 7), .int ((upd (upd F 4 ((F 4) + (1 : Int32))) 8 s0) 8), .int ((upd (upd F 4 ((F 4) + (1 : Int32))) 8 s0) 9), .long (J 10), .int ((upd (upd F 4 ((F 4) + (1 : Int32))) 8 s0) 11), .int ((upd (upd F 4 ((F 4) + (1 : Int32))) 8 s0) 12), .int ((upd (upd F 4 ((F 4) + (1 : Int32))) 8 s0) 13), .ref q4, .int ((upd (upd F 4 ((F 4) + (1 : Int32))) 8 s0) 15), .ref q5, .ref q6, .ref q7, .int ((upd (upd F 4 ((F 4) + (1 : Int32))) 8 s0) 19), .ref q8, .int ((upd (upd F 4 ((F 4) + (1 : Int32))) 8 s0) 21), .int ((upd (upd F 4 ((F 4) + (1 : Int32))) 8 s0) 22), .int ((upd (upd F 4 ((F 4) + (1 : Int32))) 8 s0) 23), .int ((upd (upd F 4 ((F 4) + (1 : Int32))) 8 s0) 24), .ref q9, .ref q10, .ref q11, .long (J 28)])), (q2, .inl (g.2 1, 2000, .inl tx))]) [0, 1] rfl) (hD.sub (ws' := [(qM, .inr (9, [.int ((upd (upd F 4 ((F 4) + (1 : Int32))) 8 s0) 0), .ref q1, .ref q2, .ref q3, .int ((upd (upd F 4 ((F 4) + (1 : Int32))) 8 s0) 4), .int ((upd (upd F 4 ((F 4) + (1 : Int32))) 8 s0) 5), .int ((upd (upd F 4 ((F 4) + (1 : Int32))) 8 s0) 6), .int ((upd (upd F 4 ((F 4) + (1 : Int32))) 8 s0) 7), .int ((upd (upd F 4 ((F 4) + (1 : Int32))) 8 s0) 8), .int ((upd (upd F 4 ((F 4) + (1 : Int32))) 8 s0) 9), .long (J 10), .int ((upd (upd F 4 ((F 4) + (1 : Int32))) 8 s0) 11), .int ((upd (upd F 4 ((F 4) + (1 : Int32))) 8 s0) 12), .int ((upd (upd F 4 ((F 4) + (1 : Int32))) 8 s0) 13), .ref q4, .int ((upd (upd F 4 ((F 4) + (1 : Int32))) 8 s0) 15), .ref q5, .ref q6, .ref q7, .int ((upd (upd F 4 ((F 4) + (1 : Int32))) 8 s0) 19), .ref q8, .int ((upd (upd F 4 ((F 4) + (1 : Int32))) 8 s0) 21), .int ((upd (upd F 4 ((F 4) + (1 : Int32))) 8 s0) 22), .int ((upd (upd F 4 ((F 4) + (1 : Int32))) 8 s0) 23), .int ((upd (upd F 4 ((F 4) + (1 : Int32))) 8 s0) 24), .ref q9, .ref q10, .ref q11, .long (J 28)])), (q2, .inl (g.2 1, 2000, .inl tx))]) [0, 1] (by decide) rfl) hS ls (lv_sub hl [1, 0] rfl)
def vX9_token_c178 (tx : Nat → Int32) (Q : (Nat → Int32) → (Nat → Int64) → Prop) : Nat → Int32 → (Nat → Int32) → (Nat → Int64) → Prop
  | 0, _, _, _ => False
  | n + 1, x2, F, J => (∃ (b_179 : Nat → Int32) (nb_179 : Nat) (i_179 : Nat), preX9_see b_179 nb_179 i_179 F J tx ∧ (∀ r_179 : Int32, postX9_see b_179 nb_179 i_179 F J tx r_179 → (preX9_in r_179 (48 : Int32) (57 : Int32) ∧ (∀ r_186 : Int32, postX9_in r_179 (48 : Int32) (57 : Int32) r_186 → ((r_186 = 0 → ((x2 ≤ (4 : Int32) → (Q (upd F 7 (3 : Int32)) J)) ∧ (¬ x2 ≤ (4 : Int32) → (Q (upd F 7 (1 : Int32)) J)))) ∧ (¬ r_186 = 0 → (((4 : Int32) ≤ x2 → (vX9_token_c220 tx Q (vX9_token_c178 tx Q n) x2 (F 8) F J)) ∧ (¬ (4 : Int32) ≤ x2 → (∃ (b_206 : Nat → Int32) (nb_206 : Nat) (i_206 : Nat), preX9_see b_206 nb_206 i_206 F J tx ∧ (∀ r_206 : Int32, postX9_see b_206 nb_206 i_206 F J tx r_206 → (vX9_token_c220 tx Q (vX9_token_c178 tx Q n) x2 ((((10 : Int32) * (F 8)) + r_206) - (48 : Int32)) F J)))))))))))
set_option maxHeartbeats 4000000 in
set_option maxRecDepth 100000 in
theorem kX9_token_c178 {p : Program} {l : Launch} {e : Env} {s : State} {m : MethodId} {args : Array Value} {below : List Frame} {meth : Method} {c : Code} {g : GP} {qM : Nat} {q1 : Nat} {q2 : Nat} {q3 : Nat} {q4 : Nat} {q5 : Nat} {q6 : Nat} {q7 : Nat} {q8 : Nat} {q9 : Nat} {q10 : Nat} {q11 : Nat} {tx : Nat → Int32}  {Q : (Nat → Int32) → (Nat → Int64) → Prop} {A : Nat → Prop} (S : CallFix p m c cX9_token 3 s args wsX9_token RX9) (hr : meth.sig.returnType = none) (hlocks : meth.locks = false) (hG : GK g s) (hA : ∀ q : Nat, s.heap.size ≤ q → A q) : ∀ (n : Nat), ∀ (x2 : Int32) (F : Nat → Int32) (J : Nat → Int64), vX9_token_c178 tx Q n x2 F J → ∀ (H : Heap) (locs : List Loc), va_P g.1 vwCl [(qM, .inr (9, [.int (F 0), .ref q1, .ref q2, .ref q3, .int (F 4), .int (F 5), .int (F 6), .int (F 7), .int (F 8), .int (F 9), .long (J 10), .int (F 11), .int (F 12), .int (F 13), .ref q4, .int (F 15), .ref q5, .ref q6, .ref q7, .int (F 19), .ref q8, .int (F 21), .int (F 22), .int (F 23), .int (F 24), .ref q9, .ref q10, .ref q11, .long (J 28)])), (q2, .inl (g.2 1, 2000, .inl tx))] H → va_D A [(qM, .inr (9, [.int (F 0), .ref q1, .ref q2, .ref q3, .int (F 4), .int (F 5), .int (F 6), .int (F 7), .int (F 8), .int (F 9), .long (J 10), .int (F 11), .int (F 12), .int (F 13), .ref q4, .int (F 15), .ref q5, .ref q6, .ref q7, .int (F 19), .ref q8, .int (F 21), .int (F 22), .int (F 23), .int (F 24), .ref q9, .ref q10, .ref q11, .long (J 28)])), (q2, .inl (g.2 1, 2000, .inl tx))] → va_S A s.heap H locs → ∀ (ls : Array Slot), lv_has ls 3 [(0, .ref qM), (2, .int x2)] → W p l e (headSpec wsX9_token rmX9_token).room s m args below meth c H locs 0 0 (MQ below (va_Qv (fun (u : (Nat → Int32) × (Nat → Int64)) => Q u.1 u.2) (fun (u : (Nat → Int32) × (Nat → Int64)) t => va_P g.1 vwCl [(qM, .inr (9, [.int (u.1 0), .ref q1, .ref q2, .ref q3, .int (u.1 4), .int (u.1 5), .int (u.1 6), .int (u.1 7), .int (u.1 8), .int (u.1 9), .long (u.2 10), .int (u.1 11), .int (u.1 12), .int (u.1 13), .ref q4, .int (u.1 15), .ref q5, .ref q6, .ref q7, .int (u.1 19), .ref q8, .int (u.1 21), .int (u.1 22), .int (u.1 23), .int (u.1 24), .ref q9, .ref q10, .ref q11, .long (u.2 28)])), (q2, .inl (g.2 1, 2000, .inl tx))] t.heap ∧ va_D A [(qM, .inr (9, [.int (u.1 0), .ref q1, .ref q2, .ref q3, .int (u.1 4), .int (u.1 5), .int (u.1 6), .int (u.1 7), .int (u.1 8), .int (u.1 9), .long (u.2 10), .int (u.1 11), .int (u.1 12), .int (u.1 13), .ref q4, .int (u.1 15), .ref q5, .ref q6, .ref q7, .int (u.1 19), .ref q8, .int (u.1 21), .int (u.1 22), .int (u.1 23), .int (u.1 24), .ref q9, .ref q10, .ref q11, .long (u.2 28)])), (q2, .inl (g.2 1, 2000, .inl tx))]) A) args s 0 0 A) (F0 m 178 ls []) := by
  obtain ⟨hx, hb, hml, hown, hts⟩ := id S
  have hK := hG.1
  intro n
  induction n with
  | zero => intro x2 F J hv; exact hv.elim
  | succ n ih =>
    intro x2 F J hv H locs hP hD hS ls hl
    refine lv_aload_n hx hb dX9_token_178 rfl (lv_at hl 0 rfl) ?_
    obtain ⟨b_179, nb_179, i_179, ho_1, hv⟩ := hv
    refine vp_callSi (W.runV (As := []) (rest := []) S (wX9_see l g qM q1 q2 q3 q4 q5 q6 q7 q8 q9 q10 q11 F J tx (sX9_see b_179 nb_179 i_179 F J tx ho_1)) (cwV 0 hts gX9_token_X9_see rfl rfl rfl (by decide +kernel) ⟨Nat.le_of_ble_eq_true rfl, Nat.le_of_ble_eq_true rfl⟩) ⟨blindRO, va_recv hK hP (ci := 9) (q0 := 0) rfl rfl, fun U hU hW => ⟨rfl, by rw [hU]; exact hP.sub (ws' := [(qM, .inr (9, [.int (F 0), .ref q1, .ref q2, .ref q3, .int (F 4), .int (F 5), .int (F 6), .int (F 7), .int (F 8), .int (F 9), .long (J 10), .int (F 11), .int (F 12), .int (F 13), .ref q4, .int (F 15), .ref q5, .ref q6, .ref q7, .int (F 19), .ref q8, .int (F 21), .int (F 22), .int (F 23), .int (F 24), .ref q9, .ref q10, .ref q11, .long (J 28)])), (q2, .inl (g.2 1, 2000, .inl tx))]) [0, 1] rfl, hG.warm hW⟩⟩ rfl rfl hl.1 rfl (lv_room (Nat.le_of_ble_eq_true rfl)) dX9_token_179 ⟨Nat.le_of_ble_eq_true rfl, Nat.le_of_ble_eq_true rfl⟩) (fun r_179 hr_179 => ?_)
    have hv := hv r_179 hr_179
    refine lv_bipush (v := (48 : Int32)) hx hb dX9_token_182 (by decide) ?_
    refine lv_bipush (v := (57 : Int32)) hx hb dX9_token_184 (by decide) ?_
    obtain ⟨ho_2, hv⟩ := hv
    refine vp_callSi (W.runS (As := [.int r_179, .int (48 : Int32), .int (57 : Int32)]) (rest := []) S (wX9_in l g r_179 (48 : Int32) (57 : Int32) (sX9_in r_179 (48 : Int32) (57 : Int32) ho_2)) (va_cwS 3 hts gX9_token_X9_in rfl rfl rfl (by decide +kernel) ⟨Nat.le_of_ble_eq_true rfl, Nat.le_of_ble_eq_true rfl⟩) ⟨blindRO, fun U hU hW => ⟨rfl, by rw [hU]; exact hP.sub (ws' := []) [] rfl, hG.warm hW⟩⟩ rfl rfl hl.1 rfl (lv_room (Nat.le_of_ble_eq_true rfl)) dX9_token_186 ⟨Nat.le_of_ble_eq_true rfl, Nat.le_of_ble_eq_true rfl⟩) (fun r_186 hr_186 => ?_)
    have hv := hv r_186 hr_186
    obtain ⟨hvt, hvf⟩ := hv
    refine lv_if_eq (tgt := 239) hx hb dX9_token_189 (by decide) (fun hc => ?_) (fun hc => ?_)
    · have hv := hvt hc
      refine lv_aload_n hx hb dX9_token_239 rfl (lv_at hl 0 rfl) ?_
      refine lv_iload_n hx hb dX9_token_240 rfl (lv_at hl 1 rfl) ?_
      refine lv_iconst (v := (4 : Int32)) hx hb dX9_token_241 (by decide) ?_
      obtain ⟨hvt, hvf⟩ := hv
      refine lv_icmp_le (tgt := 249) hx hb dX9_token_242 (by decide) (fun hc => ?_) (fun hc => ?_)
      · have hv := hvt hc
        refine lv_iconst (v := (3 : Int32)) hx hb dX9_token_249 (by decide) ?_
        refine va_put (D := g.1) (ci := 9) (v := .int (3 : Int32)) (ty := .int) (C := RX9) (T := TX9) (N := 29) hx hb hts inX9_token_9 tyX9 tyX9_ok nmX9 hown hK hP hD hS 0 rfl rfl 7 (by decide) (hts (.fieldLink RX9 86 "RangeCodesModel" "sort" "I") (List.mem_of_getElem? (i := 4) rfl)) (fun _ h9 => h9) rfl (by decide +kernel) rfl rfl (Nat.le_of_ble_eq_true rfl) dX9_token_250 (fun H locs hP hD hS => ?_)
        have hP : va_P g.1 vwCl [(qM, .inr (9, [.int (F 0), .ref q1, .ref q2, .ref q3, .int (F 4), .int (F 5), .int (F 6), .int (3 : Int32), .int (F 8), .int (F 9), .long (J 10), .int (F 11), .int (F 12), .int (F 13), .ref q4, .int (F 15), .ref q5, .ref q6, .ref q7, .int (F 19), .ref q8, .int (F 21), .int (F 22), .int (F 23), .int (F 24), .ref q9, .ref q10, .ref q11, .long (J 28)])), (q2, .inl (g.2 1, 2000, .inl tx))] H := hP
        have hD : va_D A [(qM, .inr (9, [.int (F 0), .ref q1, .ref q2, .ref q3, .int (F 4), .int (F 5), .int (F 6), .int (3 : Int32), .int (F 8), .int (F 9), .long (J 10), .int (F 11), .int (F 12), .int (F 13), .ref q4, .int (F 15), .ref q5, .ref q6, .ref q7, .int (F 19), .ref q8, .int (F 21), .int (F 22), .int (F 23), .int (F 24), .ref q9, .ref q10, .ref q11, .long (J 28)])), (q2, .inl (g.2 1, 2000, .inl tx))] := hD
        refine lv_goto (tgt := 281) hx hb dX9_token_253 (by decide) ?_
        have hP9 := hP.sub (ws' := [(qM, .inr (9, [.int ((upd F 7 (3 : Int32)) 0), .ref q1, .ref q2, .ref q3, .int ((upd F 7 (3 : Int32)) 4), .int ((upd F 7 (3 : Int32)) 5), .int ((upd F 7 (3 : Int32)) 6), .int ((upd F 7 (3 : Int32)) 7), .int ((upd F 7 (3 : Int32)) 8), .int ((upd F 7 (3 : Int32)) 9), .long (J 10), .int ((upd F 7 (3 : Int32)) 11), .int ((upd F 7 (3 : Int32)) 12), .int ((upd F 7 (3 : Int32)) 13), .ref q4, .int ((upd F 7 (3 : Int32)) 15), .ref q5, .ref q6, .ref q7, .int ((upd F 7 (3 : Int32)) 19), .ref q8, .int ((upd F 7 (3 : Int32)) 21), .int ((upd F 7 (3 : Int32)) 22), .int ((upd F 7 (3 : Int32)) 23), .int ((upd F 7 (3 : Int32)) 24), .ref q9, .ref q10, .ref q11, .long (J 28)])), (q2, .inl (g.2 1, 2000, .inl tx))]) [0, 1] rfl
        have hD9 := hD.sub (ws' := [(qM, .inr (9, [.int ((upd F 7 (3 : Int32)) 0), .ref q1, .ref q2, .ref q3, .int ((upd F 7 (3 : Int32)) 4), .int ((upd F 7 (3 : Int32)) 5), .int ((upd F 7 (3 : Int32)) 6), .int ((upd F 7 (3 : Int32)) 7), .int ((upd F 7 (3 : Int32)) 8), .int ((upd F 7 (3 : Int32)) 9), .long (J 10), .int ((upd F 7 (3 : Int32)) 11), .int ((upd F 7 (3 : Int32)) 12), .int ((upd F 7 (3 : Int32)) 13), .ref q4, .int ((upd F 7 (3 : Int32)) 15), .ref q5, .ref q6, .ref q7, .int ((upd F 7 (3 : Int32)) 19), .ref q8, .int ((upd F 7 (3 : Int32)) 21), .int ((upd F 7 (3 : Int32)) 22), .int ((upd F 7 (3 : Int32)) 23), .int ((upd F 7 (3 : Int32)) 24), .ref q9, .ref q10, .ref q11, .long (J 28)])), (q2, .inl (g.2 1, 2000, .inl tx))]) [0, 1] (by decide) rfl
        exact W.vret hx hb hr (fun t ht hW => ⟨⟨((upd F 7 (3 : Int32)), J), rfl, hv, by rw [ht]; exact hP9, hD9⟩, hS.F ht⟩) hS.2.2 dX9_token_281
      · have hv := hvf hc
        refine lv_iconst (v := (1 : Int32)) hx hb dX9_token_245 (by decide) ?_
        refine lv_goto (tgt := 250) hx hb dX9_token_246 (by decide) ?_
        refine va_put (D := g.1) (ci := 9) (v := .int (1 : Int32)) (ty := .int) (C := RX9) (T := TX9) (N := 29) hx hb hts inX9_token_9 tyX9 tyX9_ok nmX9 hown hK hP hD hS 0 rfl rfl 7 (by decide) (hts (.fieldLink RX9 86 "RangeCodesModel" "sort" "I") (List.mem_of_getElem? (i := 4) rfl)) (fun _ h9 => h9) rfl (by decide +kernel) rfl rfl (Nat.le_of_ble_eq_true rfl) dX9_token_250 (fun H locs hP hD hS => ?_)
        have hP : va_P g.1 vwCl [(qM, .inr (9, [.int (F 0), .ref q1, .ref q2, .ref q3, .int (F 4), .int (F 5), .int (F 6), .int (1 : Int32), .int (F 8), .int (F 9), .long (J 10), .int (F 11), .int (F 12), .int (F 13), .ref q4, .int (F 15), .ref q5, .ref q6, .ref q7, .int (F 19), .ref q8, .int (F 21), .int (F 22), .int (F 23), .int (F 24), .ref q9, .ref q10, .ref q11, .long (J 28)])), (q2, .inl (g.2 1, 2000, .inl tx))] H := hP
        have hD : va_D A [(qM, .inr (9, [.int (F 0), .ref q1, .ref q2, .ref q3, .int (F 4), .int (F 5), .int (F 6), .int (1 : Int32), .int (F 8), .int (F 9), .long (J 10), .int (F 11), .int (F 12), .int (F 13), .ref q4, .int (F 15), .ref q5, .ref q6, .ref q7, .int (F 19), .ref q8, .int (F 21), .int (F 22), .int (F 23), .int (F 24), .ref q9, .ref q10, .ref q11, .long (J 28)])), (q2, .inl (g.2 1, 2000, .inl tx))] := hD
        refine lv_goto (tgt := 281) hx hb dX9_token_253 (by decide) ?_
        have hP9 := hP.sub (ws' := [(qM, .inr (9, [.int ((upd F 7 (1 : Int32)) 0), .ref q1, .ref q2, .ref q3, .int ((upd F 7 (1 : Int32)) 4), .int ((upd F 7 (1 : Int32)) 5), .int ((upd F 7 (1 : Int32)) 6), .int ((upd F 7 (1 : Int32)) 7), .int ((upd F 7 (1 : Int32)) 8), .int ((upd F 7 (1 : Int32)) 9), .long (J 10), .int ((upd F 7 (1 : Int32)) 11), .int ((upd F 7 (1 : Int32)) 12), .int ((upd F 7 (1 : Int32)) 13), .ref q4, .int ((upd F 7 (1 : Int32)) 15), .ref q5, .ref q6, .ref q7, .int ((upd F 7 (1 : Int32)) 19), .ref q8, .int ((upd F 7 (1 : Int32)) 21), .int ((upd F 7 (1 : Int32)) 22), .int ((upd F 7 (1 : Int32)) 23), .int ((upd F 7 (1 : Int32)) 24), .ref q9, .ref q10, .ref q11, .long (J 28)])), (q2, .inl (g.2 1, 2000, .inl tx))]) [0, 1] rfl
        have hD9 := hD.sub (ws' := [(qM, .inr (9, [.int ((upd F 7 (1 : Int32)) 0), .ref q1, .ref q2, .ref q3, .int ((upd F 7 (1 : Int32)) 4), .int ((upd F 7 (1 : Int32)) 5), .int ((upd F 7 (1 : Int32)) 6), .int ((upd F 7 (1 : Int32)) 7), .int ((upd F 7 (1 : Int32)) 8), .int ((upd F 7 (1 : Int32)) 9), .long (J 10), .int ((upd F 7 (1 : Int32)) 11), .int ((upd F 7 (1 : Int32)) 12), .int ((upd F 7 (1 : Int32)) 13), .ref q4, .int ((upd F 7 (1 : Int32)) 15), .ref q5, .ref q6, .ref q7, .int ((upd F 7 (1 : Int32)) 19), .ref q8, .int ((upd F 7 (1 : Int32)) 21), .int ((upd F 7 (1 : Int32)) 22), .int ((upd F 7 (1 : Int32)) 23), .int ((upd F 7 (1 : Int32)) 24), .ref q9, .ref q10, .ref q11, .long (J 28)])), (q2, .inl (g.2 1, 2000, .inl tx))]) [0, 1] (by decide) rfl
        exact W.vret hx hb hr (fun t ht hW => ⟨⟨((upd F 7 (1 : Int32)), J), rfl, hv, by rw [ht]; exact hP9, hD9⟩, hS.F ht⟩) hS.2.2 dX9_token_281
    · have hv := hvf hc
      refine lv_aload_n hx hb dX9_token_192 rfl (lv_at hl 0 rfl) ?_
      refine lv_iload_n hx hb dX9_token_193 rfl (lv_at hl 1 rfl) ?_
      refine lv_iconst (v := (4 : Int32)) hx hb dX9_token_194 (by decide) ?_
      obtain ⟨hvt, hvf⟩ := hv
      refine lv_icmp_ge (tgt := 216) hx hb dX9_token_195 (by decide) (fun hc => ?_) (fun hc => ?_)
      · have hv := hvt hc
        refine lv_aload_n hx hb dX9_token_216 rfl (lv_at hl 0 rfl) ?_
        refine va_get (D := g.1) (ci := 9) (v := .int (F 8)) (C := RX9) (T := TX9) (N := 29) hx hb hts inX9_token_9 hown hK hP 0 rfl rfl 8 (by decide) (hts (.fieldLink RX9 92 "RangeCodesModel" "value" "I") (List.mem_of_getElem? (i := 6) rfl)) (fun _ h9 => h9) rfl dX9_token_217 ?_
        exact kX9_token_c220 S hr hlocks hG hA ih _ _ _ _ hv _ _ (hP.sub (ws' := [(qM, .inr (9, [.int (F 0), .ref q1, .ref q2, .ref q3, .int (F 4), .int (F 5), .int (F 6), .int (F 7), .int (F 8), .int (F 9), .long (J 10), .int (F 11), .int (F 12), .int (F 13), .ref q4, .int (F 15), .ref q5, .ref q6, .ref q7, .int (F 19), .ref q8, .int (F 21), .int (F 22), .int (F 23), .int (F 24), .ref q9, .ref q10, .ref q11, .long (J 28)])), (q2, .inl (g.2 1, 2000, .inl tx))]) [0, 1] rfl) (hD.sub (ws' := [(qM, .inr (9, [.int (F 0), .ref q1, .ref q2, .ref q3, .int (F 4), .int (F 5), .int (F 6), .int (F 7), .int (F 8), .int (F 9), .long (J 10), .int (F 11), .int (F 12), .int (F 13), .ref q4, .int (F 15), .ref q5, .ref q6, .ref q7, .int (F 19), .ref q8, .int (F 21), .int (F 22), .int (F 23), .int (F 24), .ref q9, .ref q10, .ref q11, .long (J 28)])), (q2, .inl (g.2 1, 2000, .inl tx))]) [0, 1] (by decide) rfl) hS ls (lv_sub hl [0, 1] rfl)
      · have hv := hvf hc
        refine lv_bipush (v := (10 : Int32)) hx hb dX9_token_198 (by decide) ?_
        refine lv_aload_n hx hb dX9_token_200 rfl (lv_at hl 0 rfl) ?_
        refine va_get (D := g.1) (ci := 9) (v := .int (F 8)) (C := RX9) (T := TX9) (N := 29) hx hb hts inX9_token_9 hown hK hP 0 rfl rfl 8 (by decide) (hts (.fieldLink RX9 92 "RangeCodesModel" "value" "I") (List.mem_of_getElem? (i := 6) rfl)) (fun _ h9 => h9) rfl dX9_token_201 ?_
        refine lv_imul hx hb dX9_token_204 ?_
        refine lv_aload_n hx hb dX9_token_205 rfl (lv_at hl 0 rfl) ?_
        obtain ⟨b_206, nb_206, i_206, ho_3, hv⟩ := hv
        refine vp_callSi (W.runV (As := []) (rest := [.int ((10 : Int32) * (F 8)), .ref qM]) S (wX9_see l g qM q1 q2 q3 q4 q5 q6 q7 q8 q9 q10 q11 F J tx (sX9_see b_206 nb_206 i_206 F J tx ho_3)) (cwV 0 hts gX9_token_X9_see rfl rfl rfl (by decide +kernel) ⟨Nat.le_of_ble_eq_true rfl, Nat.le_of_ble_eq_true rfl⟩) ⟨blindRO, va_recv hK hP (ci := 9) (q0 := 0) rfl rfl, fun U hU hW => ⟨rfl, by rw [hU]; exact hP.sub (ws' := [(qM, .inr (9, [.int (F 0), .ref q1, .ref q2, .ref q3, .int (F 4), .int (F 5), .int (F 6), .int (F 7), .int (F 8), .int (F 9), .long (J 10), .int (F 11), .int (F 12), .int (F 13), .ref q4, .int (F 15), .ref q5, .ref q6, .ref q7, .int (F 19), .ref q8, .int (F 21), .int (F 22), .int (F 23), .int (F 24), .ref q9, .ref q10, .ref q11, .long (J 28)])), (q2, .inl (g.2 1, 2000, .inl tx))]) [0, 1] rfl, hG.warm hW⟩⟩ rfl rfl hl.1 rfl (lv_room (Nat.le_of_ble_eq_true rfl)) dX9_token_206 ⟨Nat.le_of_ble_eq_true rfl, Nat.le_of_ble_eq_true rfl⟩) (fun r_206 hr_206 => ?_)
        have hv := hv r_206 hr_206
        refine lv_iadd hx hb dX9_token_209 ?_
        refine lv_bipush (v := (48 : Int32)) hx hb dX9_token_210 (by decide) ?_
        refine lv_isub hx hb dX9_token_212 ?_
        refine lv_goto (tgt := 220) hx hb dX9_token_213 (by decide) ?_
        exact kX9_token_c220 S hr hlocks hG hA ih _ _ _ _ hv _ _ (hP.sub (ws' := [(qM, .inr (9, [.int (F 0), .ref q1, .ref q2, .ref q3, .int (F 4), .int (F 5), .int (F 6), .int (F 7), .int (F 8), .int (F 9), .long (J 10), .int (F 11), .int (F 12), .int (F 13), .ref q4, .int (F 15), .ref q5, .ref q6, .ref q7, .int (F 19), .ref q8, .int (F 21), .int (F 22), .int (F 23), .int (F 24), .ref q9, .ref q10, .ref q11, .long (J 28)])), (q2, .inl (g.2 1, 2000, .inl tx))]) [0, 1] rfl) (hD.sub (ws' := [(qM, .inr (9, [.int (F 0), .ref q1, .ref q2, .ref q3, .int (F 4), .int (F 5), .int (F 6), .int (F 7), .int (F 8), .int (F 9), .long (J 10), .int (F 11), .int (F 12), .int (F 13), .ref q4, .int (F 15), .ref q5, .ref q6, .ref q7, .int (F 19), .ref q8, .int (F 21), .int (F 22), .int (F 23), .int (F 24), .ref q9, .ref q10, .ref q11, .long (J 28)])), (q2, .inl (g.2 1, 2000, .inl tx))]) [0, 1] (by decide) rfl) hS ls (lv_sub hl [0, 1] rfl)
def vX9_token_c141 (tx : Nat → Int32) (Q : (Nat → Int32) → (Nat → Int64) → Prop) (x2 : Int32) (s0 : Int64) (F : Nat → Int32) (J : Nat → Int64) : Prop := ((x2 ≤ (13 : Int32) → (Q (upd F 7 (2 : Int32)) (vp_updL J 10 s0))) ∧ (¬ x2 ≤ (13 : Int32) → (Q (upd F 7 (1 : Int32)) (vp_updL J 10 s0))))
set_option maxHeartbeats 4000000 in
set_option maxRecDepth 100000 in
theorem kX9_token_c141 {p : Program} {l : Launch} {e : Env} {s : State} {m : MethodId} {args : Array Value} {below : List Frame} {meth : Method} {c : Code} {g : GP} {qM : Nat} {q1 : Nat} {q2 : Nat} {q3 : Nat} {q4 : Nat} {q5 : Nat} {q6 : Nat} {q7 : Nat} {q8 : Nat} {q9 : Nat} {q10 : Nat} {q11 : Nat} {tx : Nat → Int32}  {Q : (Nat → Int32) → (Nat → Int64) → Prop} {A : Nat → Prop} (S : CallFix p m c cX9_token 3 s args wsX9_token RX9) (hr : meth.sig.returnType = none) (hlocks : meth.locks = false) (hG : GK g s) (hA : ∀ q : Nat, s.heap.size ≤ q → A q) : ∀ (x2 : Int32) (s0 : Int64) (F : Nat → Int32) (J : Nat → Int64), vX9_token_c141 tx Q x2 s0 F J → ∀ (H : Heap) (locs : List Loc), va_P g.1 vwCl [(qM, .inr (9, [.int (F 0), .ref q1, .ref q2, .ref q3, .int (F 4), .int (F 5), .int (F 6), .int (F 7), .int (F 8), .int (F 9), .long (J 10), .int (F 11), .int (F 12), .int (F 13), .ref q4, .int (F 15), .ref q5, .ref q6, .ref q7, .int (F 19), .ref q8, .int (F 21), .int (F 22), .int (F 23), .int (F 24), .ref q9, .ref q10, .ref q11, .long (J 28)])), (q2, .inl (g.2 1, 2000, .inl tx))] H → va_D A [(qM, .inr (9, [.int (F 0), .ref q1, .ref q2, .ref q3, .int (F 4), .int (F 5), .int (F 6), .int (F 7), .int (F 8), .int (F 9), .long (J 10), .int (F 11), .int (F 12), .int (F 13), .ref q4, .int (F 15), .ref q5, .ref q6, .ref q7, .int (F 19), .ref q8, .int (F 21), .int (F 22), .int (F 23), .int (F 24), .ref q9, .ref q10, .ref q11, .long (J 28)])), (q2, .inl (g.2 1, 2000, .inl tx))] → va_S A s.heap H locs → ∀ (ls : Array Slot), lv_has ls 3 [(0, .ref qM), (2, .int x2)] → W p l e (headSpec wsX9_token rmX9_token).room s m args below meth c H locs 0 0 (MQ below (va_Qv (fun (u : (Nat → Int32) × (Nat → Int64)) => Q u.1 u.2) (fun (u : (Nat → Int32) × (Nat → Int64)) t => va_P g.1 vwCl [(qM, .inr (9, [.int (u.1 0), .ref q1, .ref q2, .ref q3, .int (u.1 4), .int (u.1 5), .int (u.1 6), .int (u.1 7), .int (u.1 8), .int (u.1 9), .long (u.2 10), .int (u.1 11), .int (u.1 12), .int (u.1 13), .ref q4, .int (u.1 15), .ref q5, .ref q6, .ref q7, .int (u.1 19), .ref q8, .int (u.1 21), .int (u.1 22), .int (u.1 23), .int (u.1 24), .ref q9, .ref q10, .ref q11, .long (u.2 28)])), (q2, .inl (g.2 1, 2000, .inl tx))] t.heap ∧ va_D A [(qM, .inr (9, [.int (u.1 0), .ref q1, .ref q2, .ref q3, .int (u.1 4), .int (u.1 5), .int (u.1 6), .int (u.1 7), .int (u.1 8), .int (u.1 9), .long (u.2 10), .int (u.1 11), .int (u.1 12), .int (u.1 13), .ref q4, .int (u.1 15), .ref q5, .ref q6, .ref q7, .int (u.1 19), .ref q8, .int (u.1 21), .int (u.1 22), .int (u.1 23), .int (u.1 24), .ref q9, .ref q10, .ref q11, .long (u.2 28)])), (q2, .inl (g.2 1, 2000, .inl tx))]) A) args s 0 0 A) (F0 m 141 ls [.long s0, .ref qM]) := by
  obtain ⟨hx, hb, hml, hown, hts⟩ := id S
  have hK := hG.1
  intro x2 s0 F J hv H locs hP hD hS ls hl
  unfold vX9_token_c141 at hv
  refine va_put (D := g.1) (ci := 9) (v := .long s0) (ty := .long) (C := RX9) (T := TX9) (N := 29) hx hb hts inX9_token_9 tyX9 tyX9_ok nmX9 hown hK hP hD hS 0 rfl rfl 10 (by decide) (hts (.fieldLink RX9 82 "RangeCodesModel" "word" "J") (List.mem_of_getElem? (i := 3) rfl)) (fun _ h9 => h9) rfl (by decide +kernel) rfl rfl (Nat.le_of_ble_eq_true rfl) dX9_token_141 (fun H locs hP hD hS => ?_)
  have hP : va_P g.1 vwCl [(qM, .inr (9, [.int (F 0), .ref q1, .ref q2, .ref q3, .int (F 4), .int (F 5), .int (F 6), .int (F 7), .int (F 8), .int (F 9), .long s0, .int (F 11), .int (F 12), .int (F 13), .ref q4, .int (F 15), .ref q5, .ref q6, .ref q7, .int (F 19), .ref q8, .int (F 21), .int (F 22), .int (F 23), .int (F 24), .ref q9, .ref q10, .ref q11, .long (J 28)])), (q2, .inl (g.2 1, 2000, .inl tx))] H := hP
  have hD : va_D A [(qM, .inr (9, [.int (F 0), .ref q1, .ref q2, .ref q3, .int (F 4), .int (F 5), .int (F 6), .int (F 7), .int (F 8), .int (F 9), .long s0, .int (F 11), .int (F 12), .int (F 13), .ref q4, .int (F 15), .ref q5, .ref q6, .ref q7, .int (F 19), .ref q8, .int (F 21), .int (F 22), .int (F 23), .int (F 24), .ref q9, .ref q10, .ref q11, .long (J 28)])), (q2, .inl (g.2 1, 2000, .inl tx))] := hD
  refine lv_aload_n hx hb dX9_token_144 rfl (lv_at hl 0 rfl) ?_
  refine lv_iload_n hx hb dX9_token_145 rfl (lv_at hl 1 rfl) ?_
  refine lv_bipush (v := (13 : Int32)) hx hb dX9_token_146 (by decide) ?_
  obtain ⟨hvt, hvf⟩ := hv
  refine lv_icmp_le (tgt := 155) hx hb dX9_token_148 (by decide) (fun hc => ?_) (fun hc => ?_)
  · have hv := hvt hc
    refine lv_iconst (v := (2 : Int32)) hx hb dX9_token_155 (by decide) ?_
    refine va_put (D := g.1) (ci := 9) (v := .int (2 : Int32)) (ty := .int) (C := RX9) (T := TX9) (N := 29) hx hb hts inX9_token_9 tyX9 tyX9_ok nmX9 hown hK hP hD hS 0 rfl rfl 7 (by decide) (hts (.fieldLink RX9 86 "RangeCodesModel" "sort" "I") (List.mem_of_getElem? (i := 4) rfl)) (fun _ h9 => h9) rfl (by decide +kernel) rfl rfl (Nat.le_of_ble_eq_true rfl) dX9_token_156 (fun H locs hP hD hS => ?_)
    have hP : va_P g.1 vwCl [(qM, .inr (9, [.int (F 0), .ref q1, .ref q2, .ref q3, .int (F 4), .int (F 5), .int (F 6), .int (2 : Int32), .int (F 8), .int (F 9), .long s0, .int (F 11), .int (F 12), .int (F 13), .ref q4, .int (F 15), .ref q5, .ref q6, .ref q7, .int (F 19), .ref q8, .int (F 21), .int (F 22), .int (F 23), .int (F 24), .ref q9, .ref q10, .ref q11, .long (J 28)])), (q2, .inl (g.2 1, 2000, .inl tx))] H := hP
    have hD : va_D A [(qM, .inr (9, [.int (F 0), .ref q1, .ref q2, .ref q3, .int (F 4), .int (F 5), .int (F 6), .int (2 : Int32), .int (F 8), .int (F 9), .long s0, .int (F 11), .int (F 12), .int (F 13), .ref q4, .int (F 15), .ref q5, .ref q6, .ref q7, .int (F 19), .ref q8, .int (F 21), .int (F 22), .int (F 23), .int (F 24), .ref q9, .ref q10, .ref q11, .long (J 28)])), (q2, .inl (g.2 1, 2000, .inl tx))] := hD
    refine lv_goto (tgt := 281) hx hb dX9_token_159 (by decide) ?_
    have hP9 := hP.sub (ws' := [(qM, .inr (9, [.int ((upd F 7 (2 : Int32)) 0), .ref q1, .ref q2, .ref q3, .int ((upd F 7 (2 : Int32)) 4), .int ((upd F 7 (2 : Int32)) 5), .int ((upd F 7 (2 : Int32)) 6), .int ((upd F 7 (2 : Int32)) 7), .int ((upd F 7 (2 : Int32)) 8), .int ((upd F 7 (2 : Int32)) 9), .long ((vp_updL J 10 s0) 10), .int ((upd F 7 (2 : Int32)) 11), .int ((upd F 7 (2 : Int32)) 12), .int ((upd F 7 (2 : Int32)) 13), .ref q4, .int ((upd F 7 (2 : Int32)) 15), .ref q5, .ref q6, .ref q7, .int ((upd F 7 (2 : Int32)) 19), .ref q8, .int ((upd F 7 (2 : Int32)) 21), .int ((upd F 7 (2 : Int32)) 22), .int ((upd F 7 (2 : Int32)) 23), .int ((upd F 7 (2 : Int32)) 24), .ref q9, .ref q10, .ref q11, .long ((vp_updL J 10 s0) 28)])), (q2, .inl (g.2 1, 2000, .inl tx))]) [0, 1] rfl
    have hD9 := hD.sub (ws' := [(qM, .inr (9, [.int ((upd F 7 (2 : Int32)) 0), .ref q1, .ref q2, .ref q3, .int ((upd F 7 (2 : Int32)) 4), .int ((upd F 7 (2 : Int32)) 5), .int ((upd F 7 (2 : Int32)) 6), .int ((upd F 7 (2 : Int32)) 7), .int ((upd F 7 (2 : Int32)) 8), .int ((upd F 7 (2 : Int32)) 9), .long ((vp_updL J 10 s0) 10), .int ((upd F 7 (2 : Int32)) 11), .int ((upd F 7 (2 : Int32)) 12), .int ((upd F 7 (2 : Int32)) 13), .ref q4, .int ((upd F 7 (2 : Int32)) 15), .ref q5, .ref q6, .ref q7, .int ((upd F 7 (2 : Int32)) 19), .ref q8, .int ((upd F 7 (2 : Int32)) 21), .int ((upd F 7 (2 : Int32)) 22), .int ((upd F 7 (2 : Int32)) 23), .int ((upd F 7 (2 : Int32)) 24), .ref q9, .ref q10, .ref q11, .long ((vp_updL J 10 s0) 28)])), (q2, .inl (g.2 1, 2000, .inl tx))]) [0, 1] (by decide) rfl
    exact W.vret hx hb hr (fun t ht hW => ⟨⟨((upd F 7 (2 : Int32)), (vp_updL J 10 s0)), rfl, hv, by rw [ht]; exact hP9, hD9⟩, hS.F ht⟩) hS.2.2 dX9_token_281
  · have hv := hvf hc
    refine lv_iconst (v := (1 : Int32)) hx hb dX9_token_151 (by decide) ?_
    refine lv_goto (tgt := 156) hx hb dX9_token_152 (by decide) ?_
    refine va_put (D := g.1) (ci := 9) (v := .int (1 : Int32)) (ty := .int) (C := RX9) (T := TX9) (N := 29) hx hb hts inX9_token_9 tyX9 tyX9_ok nmX9 hown hK hP hD hS 0 rfl rfl 7 (by decide) (hts (.fieldLink RX9 86 "RangeCodesModel" "sort" "I") (List.mem_of_getElem? (i := 4) rfl)) (fun _ h9 => h9) rfl (by decide +kernel) rfl rfl (Nat.le_of_ble_eq_true rfl) dX9_token_156 (fun H locs hP hD hS => ?_)
    have hP : va_P g.1 vwCl [(qM, .inr (9, [.int (F 0), .ref q1, .ref q2, .ref q3, .int (F 4), .int (F 5), .int (F 6), .int (1 : Int32), .int (F 8), .int (F 9), .long s0, .int (F 11), .int (F 12), .int (F 13), .ref q4, .int (F 15), .ref q5, .ref q6, .ref q7, .int (F 19), .ref q8, .int (F 21), .int (F 22), .int (F 23), .int (F 24), .ref q9, .ref q10, .ref q11, .long (J 28)])), (q2, .inl (g.2 1, 2000, .inl tx))] H := hP
    have hD : va_D A [(qM, .inr (9, [.int (F 0), .ref q1, .ref q2, .ref q3, .int (F 4), .int (F 5), .int (F 6), .int (1 : Int32), .int (F 8), .int (F 9), .long s0, .int (F 11), .int (F 12), .int (F 13), .ref q4, .int (F 15), .ref q5, .ref q6, .ref q7, .int (F 19), .ref q8, .int (F 21), .int (F 22), .int (F 23), .int (F 24), .ref q9, .ref q10, .ref q11, .long (J 28)])), (q2, .inl (g.2 1, 2000, .inl tx))] := hD
    refine lv_goto (tgt := 281) hx hb dX9_token_159 (by decide) ?_
    have hP9 := hP.sub (ws' := [(qM, .inr (9, [.int ((upd F 7 (1 : Int32)) 0), .ref q1, .ref q2, .ref q3, .int ((upd F 7 (1 : Int32)) 4), .int ((upd F 7 (1 : Int32)) 5), .int ((upd F 7 (1 : Int32)) 6), .int ((upd F 7 (1 : Int32)) 7), .int ((upd F 7 (1 : Int32)) 8), .int ((upd F 7 (1 : Int32)) 9), .long ((vp_updL J 10 s0) 10), .int ((upd F 7 (1 : Int32)) 11), .int ((upd F 7 (1 : Int32)) 12), .int ((upd F 7 (1 : Int32)) 13), .ref q4, .int ((upd F 7 (1 : Int32)) 15), .ref q5, .ref q6, .ref q7, .int ((upd F 7 (1 : Int32)) 19), .ref q8, .int ((upd F 7 (1 : Int32)) 21), .int ((upd F 7 (1 : Int32)) 22), .int ((upd F 7 (1 : Int32)) 23), .int ((upd F 7 (1 : Int32)) 24), .ref q9, .ref q10, .ref q11, .long ((vp_updL J 10 s0) 28)])), (q2, .inl (g.2 1, 2000, .inl tx))]) [0, 1] rfl
    have hD9 := hD.sub (ws' := [(qM, .inr (9, [.int ((upd F 7 (1 : Int32)) 0), .ref q1, .ref q2, .ref q3, .int ((upd F 7 (1 : Int32)) 4), .int ((upd F 7 (1 : Int32)) 5), .int ((upd F 7 (1 : Int32)) 6), .int ((upd F 7 (1 : Int32)) 7), .int ((upd F 7 (1 : Int32)) 8), .int ((upd F 7 (1 : Int32)) 9), .long ((vp_updL J 10 s0) 10), .int ((upd F 7 (1 : Int32)) 11), .int ((upd F 7 (1 : Int32)) 12), .int ((upd F 7 (1 : Int32)) 13), .ref q4, .int ((upd F 7 (1 : Int32)) 15), .ref q5, .ref q6, .ref q7, .int ((upd F 7 (1 : Int32)) 19), .ref q8, .int ((upd F 7 (1 : Int32)) 21), .int ((upd F 7 (1 : Int32)) 22), .int ((upd F 7 (1 : Int32)) 23), .int ((upd F 7 (1 : Int32)) 24), .ref q9, .ref q10, .ref q11, .long ((vp_updL J 10 s0) 28)])), (q2, .inl (g.2 1, 2000, .inl tx))]) [0, 1] (by decide) rfl
    exact W.vret hx hb hr (fun t ht hW => ⟨⟨((upd F 7 (1 : Int32)), (vp_updL J 10 s0)), rfl, hv, by rw [ht]; exact hP9, hD9⟩, hS.F ht⟩) hS.2.2 dX9_token_281
def vX9_token_c74 (tx : Nat → Int32) (Q : (Nat → Int32) → (Nat → Int64) → Prop) : Nat → Int32 → (Nat → Int32) → (Nat → Int64) → Prop
  | 0, _, _, _ => False
  | n + 1, x2, F, J => (∃ (b_75 : Nat → Int32) (nb_75 : Nat) (i_75 : Nat), preX9_see b_75 nb_75 i_75 F J tx ∧ (∀ r_75 : Int32, postX9_see b_75 nb_75 i_75 F J tx r_75 → (preX9_in r_75 (97 : Int32) (122 : Int32) ∧ (∀ r_82 : Int32, postX9_in r_75 (97 : Int32) (122 : Int32) r_82 → ((r_82 = 0 → ((x2 ≤ (8 : Int32) → (vX9_token_c141 tx Q x2 (J 10) (upd F 9 x2) J)) ∧ (¬ x2 ≤ (8 : Int32) → (vX9_token_c141 tx Q x2 (0 : Int64) (upd F 9 x2) J)))) ∧ (¬ r_82 = 0 → (∃ (b_97 : Nat → Int32) (nb_97 : Nat) (i_97 : Nat), preX9_see b_97 nb_97 i_97 F J tx ∧ (∀ r_97 : Int32, postX9_see b_97 nb_97 i_97 F J tx r_97 → (∀ f_102 : Int64, f_102 = (((J 10) <<< ((8 : Int32).toInt64 &&& 63)) ||| (r_97.toInt64)) → (vX9_token_c74 tx Q n (x2 + (1 : Int32)) (upd F 4 ((F 4) + (1 : Int32))) (vp_updL J 10 f_102)))))))))))
set_option maxHeartbeats 4000000 in
set_option maxRecDepth 100000 in
theorem kX9_token_c74 {p : Program} {l : Launch} {e : Env} {s : State} {m : MethodId} {args : Array Value} {below : List Frame} {meth : Method} {c : Code} {g : GP} {qM : Nat} {q1 : Nat} {q2 : Nat} {q3 : Nat} {q4 : Nat} {q5 : Nat} {q6 : Nat} {q7 : Nat} {q8 : Nat} {q9 : Nat} {q10 : Nat} {q11 : Nat} {tx : Nat → Int32}  {Q : (Nat → Int32) → (Nat → Int64) → Prop} {A : Nat → Prop} (S : CallFix p m c cX9_token 3 s args wsX9_token RX9) (hr : meth.sig.returnType = none) (hlocks : meth.locks = false) (hG : GK g s) (hA : ∀ q : Nat, s.heap.size ≤ q → A q) : ∀ (n : Nat), ∀ (x2 : Int32) (F : Nat → Int32) (J : Nat → Int64), vX9_token_c74 tx Q n x2 F J → ∀ (H : Heap) (locs : List Loc), va_P g.1 vwCl [(qM, .inr (9, [.int (F 0), .ref q1, .ref q2, .ref q3, .int (F 4), .int (F 5), .int (F 6), .int (F 7), .int (F 8), .int (F 9), .long (J 10), .int (F 11), .int (F 12), .int (F 13), .ref q4, .int (F 15), .ref q5, .ref q6, .ref q7, .int (F 19), .ref q8, .int (F 21), .int (F 22), .int (F 23), .int (F 24), .ref q9, .ref q10, .ref q11, .long (J 28)])), (q2, .inl (g.2 1, 2000, .inl tx))] H → va_D A [(qM, .inr (9, [.int (F 0), .ref q1, .ref q2, .ref q3, .int (F 4), .int (F 5), .int (F 6), .int (F 7), .int (F 8), .int (F 9), .long (J 10), .int (F 11), .int (F 12), .int (F 13), .ref q4, .int (F 15), .ref q5, .ref q6, .ref q7, .int (F 19), .ref q8, .int (F 21), .int (F 22), .int (F 23), .int (F 24), .ref q9, .ref q10, .ref q11, .long (J 28)])), (q2, .inl (g.2 1, 2000, .inl tx))] → va_S A s.heap H locs → ∀ (ls : Array Slot), lv_has ls 3 [(0, .ref qM), (2, .int x2)] → W p l e (headSpec wsX9_token rmX9_token).room s m args below meth c H locs 0 0 (MQ below (va_Qv (fun (u : (Nat → Int32) × (Nat → Int64)) => Q u.1 u.2) (fun (u : (Nat → Int32) × (Nat → Int64)) t => va_P g.1 vwCl [(qM, .inr (9, [.int (u.1 0), .ref q1, .ref q2, .ref q3, .int (u.1 4), .int (u.1 5), .int (u.1 6), .int (u.1 7), .int (u.1 8), .int (u.1 9), .long (u.2 10), .int (u.1 11), .int (u.1 12), .int (u.1 13), .ref q4, .int (u.1 15), .ref q5, .ref q6, .ref q7, .int (u.1 19), .ref q8, .int (u.1 21), .int (u.1 22), .int (u.1 23), .int (u.1 24), .ref q9, .ref q10, .ref q11, .long (u.2 28)])), (q2, .inl (g.2 1, 2000, .inl tx))] t.heap ∧ va_D A [(qM, .inr (9, [.int (u.1 0), .ref q1, .ref q2, .ref q3, .int (u.1 4), .int (u.1 5), .int (u.1 6), .int (u.1 7), .int (u.1 8), .int (u.1 9), .long (u.2 10), .int (u.1 11), .int (u.1 12), .int (u.1 13), .ref q4, .int (u.1 15), .ref q5, .ref q6, .ref q7, .int (u.1 19), .ref q8, .int (u.1 21), .int (u.1 22), .int (u.1 23), .int (u.1 24), .ref q9, .ref q10, .ref q11, .long (u.2 28)])), (q2, .inl (g.2 1, 2000, .inl tx))]) A) args s 0 0 A) (F0 m 74 ls []) := by
  obtain ⟨hx, hb, hml, hown, hts⟩ := id S
  have hK := hG.1
  intro n
  induction n with
  | zero => intro x2 F J hv; exact hv.elim
  | succ n ih =>
    intro x2 F J hv H locs hP hD hS ls hl
    refine lv_aload_n hx hb dX9_token_74 rfl (lv_at hl 0 rfl) ?_
    obtain ⟨b_75, nb_75, i_75, ho_1, hv⟩ := hv
    refine vp_callSi (W.runV (As := []) (rest := []) S (wX9_see l g qM q1 q2 q3 q4 q5 q6 q7 q8 q9 q10 q11 F J tx (sX9_see b_75 nb_75 i_75 F J tx ho_1)) (cwV 0 hts gX9_token_X9_see rfl rfl rfl (by decide +kernel) ⟨Nat.le_of_ble_eq_true rfl, Nat.le_of_ble_eq_true rfl⟩) ⟨blindRO, va_recv hK hP (ci := 9) (q0 := 0) rfl rfl, fun U hU hW => ⟨rfl, by rw [hU]; exact hP.sub (ws' := [(qM, .inr (9, [.int (F 0), .ref q1, .ref q2, .ref q3, .int (F 4), .int (F 5), .int (F 6), .int (F 7), .int (F 8), .int (F 9), .long (J 10), .int (F 11), .int (F 12), .int (F 13), .ref q4, .int (F 15), .ref q5, .ref q6, .ref q7, .int (F 19), .ref q8, .int (F 21), .int (F 22), .int (F 23), .int (F 24), .ref q9, .ref q10, .ref q11, .long (J 28)])), (q2, .inl (g.2 1, 2000, .inl tx))]) [0, 1] rfl, hG.warm hW⟩⟩ rfl rfl hl.1 rfl (lv_room (Nat.le_of_ble_eq_true rfl)) dX9_token_75 ⟨Nat.le_of_ble_eq_true rfl, Nat.le_of_ble_eq_true rfl⟩) (fun r_75 hr_75 => ?_)
    have hv := hv r_75 hr_75
    refine lv_bipush (v := (97 : Int32)) hx hb dX9_token_78 (by decide) ?_
    refine lv_bipush (v := (122 : Int32)) hx hb dX9_token_80 (by decide) ?_
    obtain ⟨ho_2, hv⟩ := hv
    refine vp_callSi (W.runS (As := [.int r_75, .int (97 : Int32), .int (122 : Int32)]) (rest := []) S (wX9_in l g r_75 (97 : Int32) (122 : Int32) (sX9_in r_75 (97 : Int32) (122 : Int32) ho_2)) (va_cwS 3 hts gX9_token_X9_in rfl rfl rfl (by decide +kernel) ⟨Nat.le_of_ble_eq_true rfl, Nat.le_of_ble_eq_true rfl⟩) ⟨blindRO, fun U hU hW => ⟨rfl, by rw [hU]; exact hP.sub (ws' := []) [] rfl, hG.warm hW⟩⟩ rfl rfl hl.1 rfl (lv_room (Nat.le_of_ble_eq_true rfl)) dX9_token_82 ⟨Nat.le_of_ble_eq_true rfl, Nat.le_of_ble_eq_true rfl⟩) (fun r_82 hr_82 => ?_)
    have hv := hv r_82 hr_82
    obtain ⟨hvt, hvf⟩ := hv
    refine lv_if_eq (tgt := 121) hx hb dX9_token_85 (by decide) (fun hc => ?_) (fun hc => ?_)
    · have hv := hvt hc
      refine lv_aload_n hx hb dX9_token_121 rfl (lv_at hl 0 rfl) ?_
      refine lv_iload_n hx hb dX9_token_122 rfl (lv_at hl 1 rfl) ?_
      refine va_put (D := g.1) (ci := 9) (v := .int x2) (ty := .int) (C := RX9) (T := TX9) (N := 29) hx hb hts inX9_token_9 tyX9 tyX9_ok nmX9 hown hK hP hD hS 0 rfl rfl 9 (by decide) (hts (.fieldLink RX9 89 "RangeCodesModel" "letters" "I") (List.mem_of_getElem? (i := 5) rfl)) (fun _ h9 => h9) rfl (by decide +kernel) rfl rfl (Nat.le_of_ble_eq_true rfl) dX9_token_123 (fun H locs hP hD hS => ?_)
      have hP : va_P g.1 vwCl [(qM, .inr (9, [.int (F 0), .ref q1, .ref q2, .ref q3, .int (F 4), .int (F 5), .int (F 6), .int (F 7), .int (F 8), .int x2, .long (J 10), .int (F 11), .int (F 12), .int (F 13), .ref q4, .int (F 15), .ref q5, .ref q6, .ref q7, .int (F 19), .ref q8, .int (F 21), .int (F 22), .int (F 23), .int (F 24), .ref q9, .ref q10, .ref q11, .long (J 28)])), (q2, .inl (g.2 1, 2000, .inl tx))] H := hP
      have hD : va_D A [(qM, .inr (9, [.int (F 0), .ref q1, .ref q2, .ref q3, .int (F 4), .int (F 5), .int (F 6), .int (F 7), .int (F 8), .int x2, .long (J 10), .int (F 11), .int (F 12), .int (F 13), .ref q4, .int (F 15), .ref q5, .ref q6, .ref q7, .int (F 19), .ref q8, .int (F 21), .int (F 22), .int (F 23), .int (F 24), .ref q9, .ref q10, .ref q11, .long (J 28)])), (q2, .inl (g.2 1, 2000, .inl tx))] := hD
      refine lv_aload_n hx hb dX9_token_126 rfl (lv_at hl 0 rfl) ?_
      refine lv_iload_n hx hb dX9_token_127 rfl (lv_at hl 1 rfl) ?_
      refine lv_bipush (v := (8 : Int32)) hx hb dX9_token_128 (by decide) ?_
      obtain ⟨hvt, hvf⟩ := hv
      refine lv_icmp_le (tgt := 137) hx hb dX9_token_130 (by decide) (fun hc => ?_) (fun hc => ?_)
      · have hv := hvt hc
        refine lv_aload_n hx hb dX9_token_137 rfl (lv_at hl 0 rfl) ?_
        refine va_get (D := g.1) (ci := 9) (v := .long (J 10)) (C := RX9) (T := TX9) (N := 29) hx hb hts inX9_token_9 hown hK hP 0 rfl rfl 10 (by decide) (hts (.fieldLink RX9 82 "RangeCodesModel" "word" "J") (List.mem_of_getElem? (i := 3) rfl)) (fun _ h9 => h9) rfl dX9_token_138 ?_
        exact kX9_token_c141 S hr hlocks hG hA _ _ _ _ hv _ _ (hP.sub (ws' := [(qM, .inr (9, [.int ((upd F 9 x2) 0), .ref q1, .ref q2, .ref q3, .int ((upd F 9 x2) 4), .int ((upd F 9 x2) 5), .int ((upd F 9 x2) 6), .int ((upd F 9 x2) 7), .int ((upd F 9 x2) 8), .int ((upd F 9 x2) 9), .long (J 10), .int ((upd F 9 x2) 11), .int ((upd F 9 x2) 12), .int ((upd F 9 x2) 13), .ref q4, .int ((upd F 9 x2) 15), .ref q5, .ref q6, .ref q7, .int ((upd F 9 x2) 19), .ref q8, .int ((upd F 9 x2) 21), .int ((upd F 9 x2) 22), .int ((upd F 9 x2) 23), .int ((upd F 9 x2) 24), .ref q9, .ref q10, .ref q11, .long (J 28)])), (q2, .inl (g.2 1, 2000, .inl tx))]) [0, 1] rfl) (hD.sub (ws' := [(qM, .inr (9, [.int ((upd F 9 x2) 0), .ref q1, .ref q2, .ref q3, .int ((upd F 9 x2) 4), .int ((upd F 9 x2) 5), .int ((upd F 9 x2) 6), .int ((upd F 9 x2) 7), .int ((upd F 9 x2) 8), .int ((upd F 9 x2) 9), .long (J 10), .int ((upd F 9 x2) 11), .int ((upd F 9 x2) 12), .int ((upd F 9 x2) 13), .ref q4, .int ((upd F 9 x2) 15), .ref q5, .ref q6, .ref q7, .int ((upd F 9 x2) 19), .ref q8, .int ((upd F 9 x2) 21), .int ((upd F 9 x2) 22), .int ((upd F 9 x2) 23), .int ((upd F 9 x2) 24), .ref q9, .ref q10, .ref q11, .long (J 28)])), (q2, .inl (g.2 1, 2000, .inl tx))]) [0, 1] (by decide) rfl) hS ls (lv_sub hl [0, 1] rfl)
      · have hv := hvf hc
        refine lv_lconst (v := (0 : Int64)) hx hb dX9_token_133 (by decide) ?_
        refine lv_goto (tgt := 141) hx hb dX9_token_134 (by decide) ?_
        exact kX9_token_c141 S hr hlocks hG hA _ _ _ _ hv _ _ (hP.sub (ws' := [(qM, .inr (9, [.int ((upd F 9 x2) 0), .ref q1, .ref q2, .ref q3, .int ((upd F 9 x2) 4), .int ((upd F 9 x2) 5), .int ((upd F 9 x2) 6), .int ((upd F 9 x2) 7), .int ((upd F 9 x2) 8), .int ((upd F 9 x2) 9), .long (J 10), .int ((upd F 9 x2) 11), .int ((upd F 9 x2) 12), .int ((upd F 9 x2) 13), .ref q4, .int ((upd F 9 x2) 15), .ref q5, .ref q6, .ref q7, .int ((upd F 9 x2) 19), .ref q8, .int ((upd F 9 x2) 21), .int ((upd F 9 x2) 22), .int ((upd F 9 x2) 23), .int ((upd F 9 x2) 24), .ref q9, .ref q10, .ref q11, .long (J 28)])), (q2, .inl (g.2 1, 2000, .inl tx))]) [0, 1] rfl) (hD.sub (ws' := [(qM, .inr (9, [.int ((upd F 9 x2) 0), .ref q1, .ref q2, .ref q3, .int ((upd F 9 x2) 4), .int ((upd F 9 x2) 5), .int ((upd F 9 x2) 6), .int ((upd F 9 x2) 7), .int ((upd F 9 x2) 8), .int ((upd F 9 x2) 9), .long (J 10), .int ((upd F 9 x2) 11), .int ((upd F 9 x2) 12), .int ((upd F 9 x2) 13), .ref q4, .int ((upd F 9 x2) 15), .ref q5, .ref q6, .ref q7, .int ((upd F 9 x2) 19), .ref q8, .int ((upd F 9 x2) 21), .int ((upd F 9 x2) 22), .int ((upd F 9 x2) 23), .int ((upd F 9 x2) 24), .ref q9, .ref q10, .ref q11, .long (J 28)])), (q2, .inl (g.2 1, 2000, .inl tx))]) [0, 1] (by decide) rfl) hS ls (lv_sub hl [0, 1] rfl)
    · have hv := hvf hc
      refine lv_aload_n hx hb dX9_token_88 rfl (lv_at hl 0 rfl) ?_
      refine lv_aload_n hx hb dX9_token_89 rfl (lv_at hl 0 rfl) ?_
      refine va_get (D := g.1) (ci := 9) (v := .long (J 10)) (C := RX9) (T := TX9) (N := 29) hx hb hts inX9_token_9 hown hK hP 0 rfl rfl 10 (by decide) (hts (.fieldLink RX9 82 "RangeCodesModel" "word" "J") (List.mem_of_getElem? (i := 3) rfl)) (fun _ h9 => h9) rfl dX9_token_90 ?_
      refine lv_bipush (v := (8 : Int32)) hx hb dX9_token_93 (by decide) ?_
      refine lv_lshl (v := ((J 10) <<< ((8 : Int32).toInt64 &&& 63))) hx hb dX9_token_95 rfl ?_
      refine lv_aload_n hx hb dX9_token_96 rfl (lv_at hl 0 rfl) ?_
      obtain ⟨b_97, nb_97, i_97, ho_3, hv⟩ := hv
      refine vp_callSi (W.runV (As := []) (rest := [.long ((J 10) <<< ((8 : Int32).toInt64 &&& 63)), .ref qM]) S (wX9_see l g qM q1 q2 q3 q4 q5 q6 q7 q8 q9 q10 q11 F J tx (sX9_see b_97 nb_97 i_97 F J tx ho_3)) (cwV 0 hts gX9_token_X9_see rfl rfl rfl (by decide +kernel) ⟨Nat.le_of_ble_eq_true rfl, Nat.le_of_ble_eq_true rfl⟩) ⟨blindRO, va_recv hK hP (ci := 9) (q0 := 0) rfl rfl, fun U hU hW => ⟨rfl, by rw [hU]; exact hP.sub (ws' := [(qM, .inr (9, [.int (F 0), .ref q1, .ref q2, .ref q3, .int (F 4), .int (F 5), .int (F 6), .int (F 7), .int (F 8), .int (F 9), .long (J 10), .int (F 11), .int (F 12), .int (F 13), .ref q4, .int (F 15), .ref q5, .ref q6, .ref q7, .int (F 19), .ref q8, .int (F 21), .int (F 22), .int (F 23), .int (F 24), .ref q9, .ref q10, .ref q11, .long (J 28)])), (q2, .inl (g.2 1, 2000, .inl tx))]) [0, 1] rfl, hG.warm hW⟩⟩ rfl rfl hl.1 rfl (lv_room (Nat.le_of_ble_eq_true rfl)) dX9_token_97 ⟨Nat.le_of_ble_eq_true rfl, Nat.le_of_ble_eq_true rfl⟩) (fun r_97 hr_97 => ?_)
      have hv := hv r_97 hr_97
      refine lv_i2l (v := (r_97.toInt64)) hx hb dX9_token_100 rfl ?_
      refine lv_lor hx hb dX9_token_101 ?_
      refine lv_topl (fun f_102 ef_102 => ?_)
      have hv := hv f_102 ef_102
      refine va_put (D := g.1) (ci := 9) (v := .long f_102) (ty := .long) (C := RX9) (T := TX9) (N := 29) hx hb hts inX9_token_9 tyX9 tyX9_ok nmX9 hown hK hP hD hS 0 rfl rfl 10 (by decide) (hts (.fieldLink RX9 82 "RangeCodesModel" "word" "J") (List.mem_of_getElem? (i := 3) rfl)) (fun _ h9 => h9) rfl (by decide +kernel) rfl rfl (Nat.le_of_ble_eq_true rfl) dX9_token_102 (fun H locs hP hD hS => ?_)
      have hP : va_P g.1 vwCl [(qM, .inr (9, [.int (F 0), .ref q1, .ref q2, .ref q3, .int (F 4), .int (F 5), .int (F 6), .int (F 7), .int (F 8), .int (F 9), .long f_102, .int (F 11), .int (F 12), .int (F 13), .ref q4, .int (F 15), .ref q5, .ref q6, .ref q7, .int (F 19), .ref q8, .int (F 21), .int (F 22), .int (F 23), .int (F 24), .ref q9, .ref q10, .ref q11, .long (J 28)])), (q2, .inl (g.2 1, 2000, .inl tx))] H := hP
      have hD : va_D A [(qM, .inr (9, [.int (F 0), .ref q1, .ref q2, .ref q3, .int (F 4), .int (F 5), .int (F 6), .int (F 7), .int (F 8), .int (F 9), .long f_102, .int (F 11), .int (F 12), .int (F 13), .ref q4, .int (F 15), .ref q5, .ref q6, .ref q7, .int (F 19), .ref q8, .int (F 21), .int (F 22), .int (F 23), .int (F 24), .ref q9, .ref q10, .ref q11, .long (J 28)])), (q2, .inl (g.2 1, 2000, .inl tx))] := hD
      refine lv_aload_n hx hb dX9_token_105 rfl (lv_at hl 0 rfl) ?_
      refine lv_dup hx hb dX9_token_106 rfl ?_
      refine va_get (D := g.1) (ci := 9) (v := .int (F 4)) (C := RX9) (T := TX9) (N := 29) hx hb hts inX9_token_9 hown hK hP 0 rfl rfl 4 (by decide) (hts (.fieldLink RX9 69 "RangeCodesModel" "reached" "I") (List.mem_of_getElem? (i := 1) rfl)) (fun _ h9 => h9) rfl dX9_token_107 ?_
      refine lv_iconst (v := (1 : Int32)) hx hb dX9_token_110 (by decide) ?_
      refine lv_iadd hx hb dX9_token_111 ?_
      refine va_put (D := g.1) (ci := 9) (v := .int ((F 4) + (1 : Int32))) (ty := .int) (C := RX9) (T := TX9) (N := 29) hx hb hts inX9_token_9 tyX9 tyX9_ok nmX9 hown hK hP hD hS 0 rfl rfl 4 (by decide) (hts (.fieldLink RX9 69 "RangeCodesModel" "reached" "I") (List.mem_of_getElem? (i := 1) rfl)) (fun _ h9 => h9) rfl (by decide +kernel) rfl rfl (Nat.le_of_ble_eq_true rfl) dX9_token_112 (fun H locs hP hD hS => ?_)
      have hP : va_P g.1 vwCl [(qM, .inr (9, [.int (F 0), .ref q1, .ref q2, .ref q3, .int ((F 4) + (1 : Int32)), .int (F 5), .int (F 6), .int (F 7), .int (F 8), .int (F 9), .long f_102, .int (F 11), .int (F 12), .int (F 13), .ref q4, .int (F 15), .ref q5, .ref q6, .ref q7, .int (F 19), .ref q8, .int (F 21), .int (F 22), .int (F 23), .int (F 24), .ref q9, .ref q10, .ref q11, .long (J 28)])), (q2, .inl (g.2 1, 2000, .inl tx))] H := hP
      have hD : va_D A [(qM, .inr (9, [.int (F 0), .ref q1, .ref q2, .ref q3, .int ((F 4) + (1 : Int32)), .int (F 5), .int (F 6), .int (F 7), .int (F 8), .int (F 9), .long f_102, .int (F 11), .int (F 12), .int (F 13), .ref q4, .int (F 15), .ref q5, .ref q6, .ref q7, .int (F 19), .ref q8, .int (F 21), .int (F 22), .int (F 23), .int (F 24), .ref q9, .ref q10, .ref q11, .long (J 28)])), (q2, .inl (g.2 1, 2000, .inl tx))] := hD
      refine lv_iinc (v := (x2 + (1 : Int32))) (lv' := [(2, .int (x2 + (1 : Int32))), (0, .ref qM)]) hx hb dX9_token_115 hl (k := 1) rfl rfl (by decide) rfl (fun ls hl => ?_)
      refine lv_goto (tgt := 74) hx hb dX9_token_118 (by decide) ?_
      exact ih _ _ _ hv _ _ (hP.sub (ws' := [(qM, .inr (9, [.int ((upd F 4 ((F 4) + (1 : Int32))) 0), .ref q1, .ref q2, .ref q3, .int ((upd F 4 ((F 4) + (1 : Int32))) 4), .int ((upd F 4 ((F 4) + (1 : Int32))) 5), .int ((upd F 4 ((F 4) + (1 : Int32))) 6), .int ((upd F 4 ((F 4) + (1 : Int32))) 7), .int ((upd F 4 ((F 4) + (1 : Int32))) 8), .int ((upd F 4 ((F 4) + (1 : Int32))) 9), .long ((vp_updL J 10 f_102) 10), .int ((upd F 4 ((F 4) + (1 : Int32))) 11), .int ((upd F 4 ((F 4) + (1 : Int32))) 12), .int ((upd F 4 ((F 4) + (1 : Int32))) 13), .ref q4, .int ((upd F 4 ((F 4) + (1 : Int32))) 15), .ref q5, .ref q6, .ref q7, .int ((upd F 4 ((F 4) + (1 : Int32))) 19), .ref q8, .int ((upd F 4 ((F 4) + (1 : Int32))) 21), .int ((upd F 4 ((F 4) + (1 : Int32))) 22), .int ((upd F 4 ((F 4) + (1 : Int32))) 23), .int ((upd F 4 ((F 4) + (1 : Int32))) 24), .ref q9, .ref q10, .ref q11, .long ((vp_updL J 10 f_102) 28)])), (q2, .inl (g.2 1, 2000, .inl tx))]) [0, 1] rfl) (hD.sub (ws' := [(qM, .inr (9, [.int ((upd F 4 ((F 4) + (1 : Int32))) 0), .ref q1, .ref q2, .ref q3, .int ((upd F 4 ((F 4) + (1 : Int32))) 4), .int ((upd F 4 ((F 4) + (1 : Int32))) 5), .int ((upd F 4 ((F 4) + (1 : Int32))) 6), .int ((upd F 4 ((F 4) + (1 : Int32))) 7), .int ((upd F 4 ((F 4) + (1 : Int32))) 8), .int ((upd F 4 ((F 4) + (1 : Int32))) 9), .long ((vp_updL J 10 f_102) 10), .int ((upd F 4 ((F 4) + (1 : Int32))) 11), .int ((upd F 4 ((F 4) + (1 : Int32))) 12), .int ((upd F 4 ((F 4) + (1 : Int32))) 13), .ref q4, .int ((upd F 4 ((F 4) + (1 : Int32))) 15), .ref q5, .ref q6, .ref q7, .int ((upd F 4 ((F 4) + (1 : Int32))) 19), .ref q8, .int ((upd F 4 ((F 4) + (1 : Int32))) 21), .int ((upd F 4 ((F 4) + (1 : Int32))) 22), .int ((upd F 4 ((F 4) + (1 : Int32))) 23), .int ((upd F 4 ((F 4) + (1 : Int32))) 24), .ref q9, .ref q10, .ref q11, .long ((vp_updL J 10 f_102) 28)])), (q2, .inl (g.2 1, 2000, .inl tx))]) [0, 1] (by decide) rfl) hS ls (lv_sub hl [1, 0] rfl)
def vX9_token_c0 (tx : Nat → Int32) (Q : (Nat → Int32) → (Nat → Int64) → Prop) : Nat → (Nat → Int32) → (Nat → Int64) → Prop
  | 0, _, _ => False
  | n + 1, F, J => (∃ (b_1 : Nat → Int32) (nb_1 : Nat) (i_1 : Nat), preX9_see b_1 nb_1 i_1 F J tx ∧ (∀ r_1 : Int32, postX9_see b_1 nb_1 i_1 F J tx r_1 → ((r_1 = (10 : Int32) → (vX9_token_c0 tx Q n (upd F 4 ((F 4) + (1 : Int32))) J)) ∧ (¬ r_1 = (10 : Int32) → (∃ (b_10 : Nat → Int32) (nb_10 : Nat) (i_10 : Nat), preX9_see b_10 nb_10 i_10 F J tx ∧ (∀ r_10 : Int32, postX9_see b_10 nb_10 i_10 F J tx r_10 → ((¬ r_10 = (32 : Int32) → (∃ (b_40 : Nat → Int32) (nb_40 : Nat) (i_40 : Nat), preX9_see b_40 nb_40 i_40 (upd F 6 (F 4)) J tx ∧ (∀ r_40 : Int32, postX9_see b_40 nb_40 i_40 (upd F 6 (F 4)) J tx r_40 → ((0 ≤ r_40 → (preX9_in r_40 (97 : Int32) (122 : Int32) ∧ (∀ r_68 : Int32, postX9_in r_40 (97 : Int32) (122 : Int32) r_68 → ((r_68 = 0 → (preX9_in r_40 (48 : Int32) (57 : Int32) ∧ (∀ r_167 : Int32, postX9_in r_40 (48 : Int32) (57 : Int32) r_167 → ((r_167 = 0 → ((¬ r_40 = (59 : Int32) → (Q (upd (upd (upd F 4 ((F 4) + (1 : Int32))) 6 (F 4)) 7 (1 : Int32)) (vp_updL J 10 (0 : Int64)))) ∧ (r_40 = (59 : Int32) → (Q (upd (upd (upd F 4 ((F 4) + (1 : Int32))) 6 (F 4)) 7 (4 : Int32)) (vp_updL J 10 (0 : Int64)))))) ∧ (¬ r_167 = 0 → (∃ nn, vX9_token_c178 tx Q nn (0 : Int32) (upd (upd F 6 (F 4)) 8 (0 : Int32)) (vp_updL J 10 (0 : Int64)))))))) ∧ (¬ r_68 = 0 → (∃ nn, vX9_token_c74 tx Q nn (0 : Int32) (upd F 6 (F 4)) (vp_updL J 10 (0 : Int64)))))))) ∧ (¬ 0 ≤ r_40 → (Q (upd (upd F 6 (F 4)) 7 (0 : Int32)) (vp_updL J 10 (0 : Int64)))))))) ∧ (r_10 = (32 : Int32) → (vX9_token_c0 tx Q n (upd F 4 ((F 4) + (1 : Int32))) J)))))))))
set_option maxHeartbeats 4000000 in
set_option maxRecDepth 100000 in
theorem kX9_token_c0 {p : Program} {l : Launch} {e : Env} {s : State} {m : MethodId} {args : Array Value} {below : List Frame} {meth : Method} {c : Code} {g : GP} {qM : Nat} {q1 : Nat} {q2 : Nat} {q3 : Nat} {q4 : Nat} {q5 : Nat} {q6 : Nat} {q7 : Nat} {q8 : Nat} {q9 : Nat} {q10 : Nat} {q11 : Nat} {tx : Nat → Int32}  {Q : (Nat → Int32) → (Nat → Int64) → Prop} {A : Nat → Prop} (S : CallFix p m c cX9_token 3 s args wsX9_token RX9) (hr : meth.sig.returnType = none) (hlocks : meth.locks = false) (hG : GK g s) (hA : ∀ q : Nat, s.heap.size ≤ q → A q) : ∀ (n : Nat), ∀ (F : Nat → Int32) (J : Nat → Int64), vX9_token_c0 tx Q n F J → ∀ (H : Heap) (locs : List Loc), va_P g.1 vwCl [(qM, .inr (9, [.int (F 0), .ref q1, .ref q2, .ref q3, .int (F 4), .int (F 5), .int (F 6), .int (F 7), .int (F 8), .int (F 9), .long (J 10), .int (F 11), .int (F 12), .int (F 13), .ref q4, .int (F 15), .ref q5, .ref q6, .ref q7, .int (F 19), .ref q8, .int (F 21), .int (F 22), .int (F 23), .int (F 24), .ref q9, .ref q10, .ref q11, .long (J 28)])), (q2, .inl (g.2 1, 2000, .inl tx))] H → va_D A [(qM, .inr (9, [.int (F 0), .ref q1, .ref q2, .ref q3, .int (F 4), .int (F 5), .int (F 6), .int (F 7), .int (F 8), .int (F 9), .long (J 10), .int (F 11), .int (F 12), .int (F 13), .ref q4, .int (F 15), .ref q5, .ref q6, .ref q7, .int (F 19), .ref q8, .int (F 21), .int (F 22), .int (F 23), .int (F 24), .ref q9, .ref q10, .ref q11, .long (J 28)])), (q2, .inl (g.2 1, 2000, .inl tx))] → va_S A s.heap H locs → ∀ (ls : Array Slot), lv_has ls 3 [(0, .ref qM)] → W p l e (headSpec wsX9_token rmX9_token).room s m args below meth c H locs 0 0 (MQ below (va_Qv (fun (u : (Nat → Int32) × (Nat → Int64)) => Q u.1 u.2) (fun (u : (Nat → Int32) × (Nat → Int64)) t => va_P g.1 vwCl [(qM, .inr (9, [.int (u.1 0), .ref q1, .ref q2, .ref q3, .int (u.1 4), .int (u.1 5), .int (u.1 6), .int (u.1 7), .int (u.1 8), .int (u.1 9), .long (u.2 10), .int (u.1 11), .int (u.1 12), .int (u.1 13), .ref q4, .int (u.1 15), .ref q5, .ref q6, .ref q7, .int (u.1 19), .ref q8, .int (u.1 21), .int (u.1 22), .int (u.1 23), .int (u.1 24), .ref q9, .ref q10, .ref q11, .long (u.2 28)])), (q2, .inl (g.2 1, 2000, .inl tx))] t.heap ∧ va_D A [(qM, .inr (9, [.int (u.1 0), .ref q1, .ref q2, .ref q3, .int (u.1 4), .int (u.1 5), .int (u.1 6), .int (u.1 7), .int (u.1 8), .int (u.1 9), .long (u.2 10), .int (u.1 11), .int (u.1 12), .int (u.1 13), .ref q4, .int (u.1 15), .ref q5, .ref q6, .ref q7, .int (u.1 19), .ref q8, .int (u.1 21), .int (u.1 22), .int (u.1 23), .int (u.1 24), .ref q9, .ref q10, .ref q11, .long (u.2 28)])), (q2, .inl (g.2 1, 2000, .inl tx))]) A) args s 0 0 A) (F0 m 0 ls []) := by
  obtain ⟨hx, hb, hml, hown, hts⟩ := id S
  have hK := hG.1
  intro n
  induction n with
  | zero => intro F J hv; exact hv.elim
  | succ n ih =>
    intro F J hv H locs hP hD hS ls hl
    refine lv_aload_n hx hb dX9_token_0 rfl (lv_at hl 0 rfl) ?_
    obtain ⟨b_1, nb_1, i_1, ho_1, hv⟩ := hv
    refine vp_callSi (W.runV (As := []) (rest := []) S (wX9_see l g qM q1 q2 q3 q4 q5 q6 q7 q8 q9 q10 q11 F J tx (sX9_see b_1 nb_1 i_1 F J tx ho_1)) (cwV 0 hts gX9_token_X9_see rfl rfl rfl (by decide +kernel) ⟨Nat.le_of_ble_eq_true rfl, Nat.le_of_ble_eq_true rfl⟩) ⟨blindRO, va_recv hK hP (ci := 9) (q0 := 0) rfl rfl, fun U hU hW => ⟨rfl, by rw [hU]; exact hP.sub (ws' := [(qM, .inr (9, [.int (F 0), .ref q1, .ref q2, .ref q3, .int (F 4), .int (F 5), .int (F 6), .int (F 7), .int (F 8), .int (F 9), .long (J 10), .int (F 11), .int (F 12), .int (F 13), .ref q4, .int (F 15), .ref q5, .ref q6, .ref q7, .int (F 19), .ref q8, .int (F 21), .int (F 22), .int (F 23), .int (F 24), .ref q9, .ref q10, .ref q11, .long (J 28)])), (q2, .inl (g.2 1, 2000, .inl tx))]) [0, 1] rfl, hG.warm hW⟩⟩ rfl rfl hl.1 rfl (lv_room (Nat.le_of_ble_eq_true rfl)) dX9_token_1 ⟨Nat.le_of_ble_eq_true rfl, Nat.le_of_ble_eq_true rfl⟩) (fun r_1 hr_1 => ?_)
    have hv := hv r_1 hr_1
    refine lv_bipush (v := (10 : Int32)) hx hb dX9_token_4 (by decide) ?_
    obtain ⟨hvt, hvf⟩ := hv
    refine lv_icmp_eq (tgt := 18) hx hb dX9_token_6 (by decide) (fun hc => ?_) (fun hc => ?_)
    · have hv := hvt hc
      refine lv_aload_n hx hb dX9_token_18 rfl (lv_at hl 0 rfl) ?_
      refine lv_dup hx hb dX9_token_19 rfl ?_
      refine va_get (D := g.1) (ci := 9) (v := .int (F 4)) (C := RX9) (T := TX9) (N := 29) hx hb hts inX9_token_9 hown hK hP 0 rfl rfl 4 (by decide) (hts (.fieldLink RX9 69 "RangeCodesModel" "reached" "I") (List.mem_of_getElem? (i := 1) rfl)) (fun _ h9 => h9) rfl dX9_token_20 ?_
      refine lv_iconst (v := (1 : Int32)) hx hb dX9_token_23 (by decide) ?_
      refine lv_iadd hx hb dX9_token_24 ?_
      refine va_put (D := g.1) (ci := 9) (v := .int ((F 4) + (1 : Int32))) (ty := .int) (C := RX9) (T := TX9) (N := 29) hx hb hts inX9_token_9 tyX9 tyX9_ok nmX9 hown hK hP hD hS 0 rfl rfl 4 (by decide) (hts (.fieldLink RX9 69 "RangeCodesModel" "reached" "I") (List.mem_of_getElem? (i := 1) rfl)) (fun _ h9 => h9) rfl (by decide +kernel) rfl rfl (Nat.le_of_ble_eq_true rfl) dX9_token_25 (fun H locs hP hD hS => ?_)
      have hP : va_P g.1 vwCl [(qM, .inr (9, [.int (F 0), .ref q1, .ref q2, .ref q3, .int ((F 4) + (1 : Int32)), .int (F 5), .int (F 6), .int (F 7), .int (F 8), .int (F 9), .long (J 10), .int (F 11), .int (F 12), .int (F 13), .ref q4, .int (F 15), .ref q5, .ref q6, .ref q7, .int (F 19), .ref q8, .int (F 21), .int (F 22), .int (F 23), .int (F 24), .ref q9, .ref q10, .ref q11, .long (J 28)])), (q2, .inl (g.2 1, 2000, .inl tx))] H := hP
      have hD : va_D A [(qM, .inr (9, [.int (F 0), .ref q1, .ref q2, .ref q3, .int ((F 4) + (1 : Int32)), .int (F 5), .int (F 6), .int (F 7), .int (F 8), .int (F 9), .long (J 10), .int (F 11), .int (F 12), .int (F 13), .ref q4, .int (F 15), .ref q5, .ref q6, .ref q7, .int (F 19), .ref q8, .int (F 21), .int (F 22), .int (F 23), .int (F 24), .ref q9, .ref q10, .ref q11, .long (J 28)])), (q2, .inl (g.2 1, 2000, .inl tx))] := hD
      refine lv_goto (tgt := 0) hx hb dX9_token_28 (by decide) ?_
      exact ih _ _ hv _ _ (hP.sub (ws' := [(qM, .inr (9, [.int ((upd F 4 ((F 4) + (1 : Int32))) 0), .ref q1, .ref q2, .ref q3, .int ((upd F 4 ((F 4) + (1 : Int32))) 4), .int ((upd F 4 ((F 4) + (1 : Int32))) 5), .int ((upd F 4 ((F 4) + (1 : Int32))) 6), .int ((upd F 4 ((F 4) + (1 : Int32))) 7), .int ((upd F 4 ((F 4) + (1 : Int32))) 8), .int ((upd F 4 ((F 4) + (1 : Int32))) 9), .long (J 10), .int ((upd F 4 ((F 4) + (1 : Int32))) 11), .int ((upd F 4 ((F 4) + (1 : Int32))) 12), .int ((upd F 4 ((F 4) + (1 : Int32))) 13), .ref q4, .int ((upd F 4 ((F 4) + (1 : Int32))) 15), .ref q5, .ref q6, .ref q7, .int ((upd F 4 ((F 4) + (1 : Int32))) 19), .ref q8, .int ((upd F 4 ((F 4) + (1 : Int32))) 21), .int ((upd F 4 ((F 4) + (1 : Int32))) 22), .int ((upd F 4 ((F 4) + (1 : Int32))) 23), .int ((upd F 4 ((F 4) + (1 : Int32))) 24), .ref q9, .ref q10, .ref q11, .long (J 28)])), (q2, .inl (g.2 1, 2000, .inl tx))]) [0, 1] rfl) (hD.sub (ws' := [(qM, .inr (9, [.int ((upd F 4 ((F 4) + (1 : Int32))) 0), .ref q1, .ref q2, .ref q3, .int ((upd F 4 ((F 4) + (1 : Int32))) 4), .int ((upd F 4 ((F 4) + (1 : Int32))) 5), .int ((upd F 4 ((F 4) + (1 : Int32))) 6), .int ((upd F 4 ((F 4) + (1 : Int32))) 7), .int ((upd F 4 ((F 4) + (1 : Int32))) 8), .int ((upd F 4 ((F 4) + (1 : Int32))) 9), .long (J 10), .int ((upd F 4 ((F 4) + (1 : Int32))) 11), .int ((upd F 4 ((F 4) + (1 : Int32))) 12), .int ((upd F 4 ((F 4) + (1 : Int32))) 13), .ref q4, .int ((upd F 4 ((F 4) + (1 : Int32))) 15), .ref q5, .ref q6, .ref q7, .int ((upd F 4 ((F 4) + (1 : Int32))) 19), .ref q8, .int ((upd F 4 ((F 4) + (1 : Int32))) 21), .int ((upd F 4 ((F 4) + (1 : Int32))) 22), .int ((upd F 4 ((F 4) + (1 : Int32))) 23), .int ((upd F 4 ((F 4) + (1 : Int32))) 24), .ref q9, .ref q10, .ref q11, .long (J 28)])), (q2, .inl (g.2 1, 2000, .inl tx))]) [0, 1] (by decide) rfl) hS ls (lv_sub hl [0] rfl)
    · have hv := hvf hc
      refine lv_aload_n hx hb dX9_token_9 rfl (lv_at hl 0 rfl) ?_
      obtain ⟨b_10, nb_10, i_10, ho_2, hv⟩ := hv
      refine vp_callSi (W.runV (As := []) (rest := []) S (wX9_see l g qM q1 q2 q3 q4 q5 q6 q7 q8 q9 q10 q11 F J tx (sX9_see b_10 nb_10 i_10 F J tx ho_2)) (cwV 0 hts gX9_token_X9_see rfl rfl rfl (by decide +kernel) ⟨Nat.le_of_ble_eq_true rfl, Nat.le_of_ble_eq_true rfl⟩) ⟨blindRO, va_recv hK hP (ci := 9) (q0 := 0) rfl rfl, fun U hU hW => ⟨rfl, by rw [hU]; exact hP.sub (ws' := [(qM, .inr (9, [.int (F 0), .ref q1, .ref q2, .ref q3, .int (F 4), .int (F 5), .int (F 6), .int (F 7), .int (F 8), .int (F 9), .long (J 10), .int (F 11), .int (F 12), .int (F 13), .ref q4, .int (F 15), .ref q5, .ref q6, .ref q7, .int (F 19), .ref q8, .int (F 21), .int (F 22), .int (F 23), .int (F 24), .ref q9, .ref q10, .ref q11, .long (J 28)])), (q2, .inl (g.2 1, 2000, .inl tx))]) [0, 1] rfl, hG.warm hW⟩⟩ rfl rfl hl.1 rfl (lv_room (Nat.le_of_ble_eq_true rfl)) dX9_token_10 ⟨Nat.le_of_ble_eq_true rfl, Nat.le_of_ble_eq_true rfl⟩) (fun r_10 hr_10 => ?_)
      have hv := hv r_10 hr_10
      refine lv_bipush (v := (32 : Int32)) hx hb dX9_token_13 (by decide) ?_
      obtain ⟨hvt, hvf⟩ := hv
      refine lv_icmp_ne (tgt := 31) hx hb dX9_token_15 (by decide) (fun hc => ?_) (fun hc => ?_)
      · have hv := hvt hc
        refine lv_aload_n hx hb dX9_token_31 rfl (lv_at hl 0 rfl) ?_
        refine lv_aload_n hx hb dX9_token_32 rfl (lv_at hl 0 rfl) ?_
        refine va_get (D := g.1) (ci := 9) (v := .int (F 4)) (C := RX9) (T := TX9) (N := 29) hx hb hts inX9_token_9 hown hK hP 0 rfl rfl 4 (by decide) (hts (.fieldLink RX9 69 "RangeCodesModel" "reached" "I") (List.mem_of_getElem? (i := 1) rfl)) (fun _ h9 => h9) rfl dX9_token_33 ?_
        refine va_put (D := g.1) (ci := 9) (v := .int (F 4)) (ty := .int) (C := RX9) (T := TX9) (N := 29) hx hb hts inX9_token_9 tyX9 tyX9_ok nmX9 hown hK hP hD hS 0 rfl rfl 6 (by decide) (hts (.fieldLink RX9 79 "RangeCodesModel" "begin" "I") (List.mem_of_getElem? (i := 2) rfl)) (fun _ h9 => h9) rfl (by decide +kernel) rfl rfl (Nat.le_of_ble_eq_true rfl) dX9_token_36 (fun H locs hP hD hS => ?_)
        have hP : va_P g.1 vwCl [(qM, .inr (9, [.int (F 0), .ref q1, .ref q2, .ref q3, .int (F 4), .int (F 5), .int (F 4), .int (F 7), .int (F 8), .int (F 9), .long (J 10), .int (F 11), .int (F 12), .int (F 13), .ref q4, .int (F 15), .ref q5, .ref q6, .ref q7, .int (F 19), .ref q8, .int (F 21), .int (F 22), .int (F 23), .int (F 24), .ref q9, .ref q10, .ref q11, .long (J 28)])), (q2, .inl (g.2 1, 2000, .inl tx))] H := hP
        have hD : va_D A [(qM, .inr (9, [.int (F 0), .ref q1, .ref q2, .ref q3, .int (F 4), .int (F 5), .int (F 4), .int (F 7), .int (F 8), .int (F 9), .long (J 10), .int (F 11), .int (F 12), .int (F 13), .ref q4, .int (F 15), .ref q5, .ref q6, .ref q7, .int (F 19), .ref q8, .int (F 21), .int (F 22), .int (F 23), .int (F 24), .ref q9, .ref q10, .ref q11, .long (J 28)])), (q2, .inl (g.2 1, 2000, .inl tx))] := hD
        refine lv_aload_n hx hb dX9_token_39 rfl (lv_at hl 0 rfl) ?_
        obtain ⟨b_40, nb_40, i_40, ho_3, hv⟩ := hv
        refine vp_callSi (W.runV (As := []) (rest := []) S (wX9_see l g qM q1 q2 q3 q4 q5 q6 q7 q8 q9 q10 q11 (upd F 6 (F 4)) J tx (sX9_see b_40 nb_40 i_40 (upd F 6 (F 4)) J tx ho_3)) (cwV 0 hts gX9_token_X9_see rfl rfl rfl (by decide +kernel) ⟨Nat.le_of_ble_eq_true rfl, Nat.le_of_ble_eq_true rfl⟩) ⟨blindRO, va_recv hK hP (ci := 9) (q0 := 0) rfl rfl, fun U hU hW => ⟨rfl, by rw [hU]; exact hP.sub (ws' := [(qM, .inr (9, [.int ((upd F 6 (F 4)) 0), .ref q1, .ref q2, .ref q3, .int ((upd F 6 (F 4)) 4), .int ((upd F 6 (F 4)) 5), .int ((upd F 6 (F 4)) 6), .int ((upd F 6 (F 4)) 7), .int ((upd F 6 (F 4)) 8), .int ((upd F 6 (F 4)) 9), .long (J 10), .int ((upd F 6 (F 4)) 11), .int ((upd F 6 (F 4)) 12), .int ((upd F 6 (F 4)) 13), .ref q4, .int ((upd F 6 (F 4)) 15), .ref q5, .ref q6, .ref q7, .int ((upd F 6 (F 4)) 19), .ref q8, .int ((upd F 6 (F 4)) 21), .int ((upd F 6 (F 4)) 22), .int ((upd F 6 (F 4)) 23), .int ((upd F 6 (F 4)) 24), .ref q9, .ref q10, .ref q11, .long (J 28)])), (q2, .inl (g.2 1, 2000, .inl tx))]) [0, 1] rfl, hG.warm hW⟩⟩ rfl rfl hl.1 rfl (lv_room (Nat.le_of_ble_eq_true rfl)) dX9_token_40 ⟨Nat.le_of_ble_eq_true rfl, Nat.le_of_ble_eq_true rfl⟩) (fun r_40 hr_40 => ?_)
        have hv := hv r_40 hr_40
        refine lv_istore_n (lv' := [(1, .int r_40), (0, .ref qM)]) hx hb dX9_token_43 rfl hl (by decide) rfl (fun ls hl => ?_)
        refine lv_aload_n hx hb dX9_token_44 rfl (lv_at hl 1 rfl) ?_
        refine lv_lconst (v := (0 : Int64)) hx hb dX9_token_45 (by decide) ?_
        refine va_put (D := g.1) (ci := 9) (v := .long (0 : Int64)) (ty := .long) (C := RX9) (T := TX9) (N := 29) hx hb hts inX9_token_9 tyX9 tyX9_ok nmX9 hown hK hP hD hS 0 rfl rfl 10 (by decide) (hts (.fieldLink RX9 82 "RangeCodesModel" "word" "J") (List.mem_of_getElem? (i := 3) rfl)) (fun _ h9 => h9) rfl (by decide +kernel) rfl rfl (Nat.le_of_ble_eq_true rfl) dX9_token_46 (fun H locs hP hD hS => ?_)
        have hP : va_P g.1 vwCl [(qM, .inr (9, [.int (F 0), .ref q1, .ref q2, .ref q3, .int (F 4), .int (F 5), .int (F 4), .int (F 7), .int (F 8), .int (F 9), .long (0 : Int64), .int (F 11), .int (F 12), .int (F 13), .ref q4, .int (F 15), .ref q5, .ref q6, .ref q7, .int (F 19), .ref q8, .int (F 21), .int (F 22), .int (F 23), .int (F 24), .ref q9, .ref q10, .ref q11, .long (J 28)])), (q2, .inl (g.2 1, 2000, .inl tx))] H := hP
        have hD : va_D A [(qM, .inr (9, [.int (F 0), .ref q1, .ref q2, .ref q3, .int (F 4), .int (F 5), .int (F 4), .int (F 7), .int (F 8), .int (F 9), .long (0 : Int64), .int (F 11), .int (F 12), .int (F 13), .ref q4, .int (F 15), .ref q5, .ref q6, .ref q7, .int (F 19), .ref q8, .int (F 21), .int (F 22), .int (F 23), .int (F 24), .ref q9, .ref q10, .ref q11, .long (J 28)])), (q2, .inl (g.2 1, 2000, .inl tx))] := hD
        refine lv_iconst (v := (0 : Int32)) hx hb dX9_token_49 (by decide) ?_
        refine lv_istore_n (lv' := [(2, .int (0 : Int32)), (1, .int r_40), (0, .ref qM)]) hx hb dX9_token_50 rfl hl (by decide) rfl (fun ls hl => ?_)
        refine lv_iload_n hx hb dX9_token_51 rfl (lv_at hl 1 rfl) ?_
        obtain ⟨hvt, hvf⟩ := hv
        refine lv_if_ge (tgt := 63) hx hb dX9_token_52 (by decide) (fun hc => ?_) (fun hc => ?_)
        · have hv := hvt hc
          refine lv_iload_n hx hb dX9_token_63 rfl (lv_at hl 1 rfl) ?_
          refine lv_bipush (v := (97 : Int32)) hx hb dX9_token_64 (by decide) ?_
          refine lv_bipush (v := (122 : Int32)) hx hb dX9_token_66 (by decide) ?_
          obtain ⟨ho_4, hv⟩ := hv
          refine vp_callSi (W.runS (As := [.int r_40, .int (97 : Int32), .int (122 : Int32)]) (rest := []) S (wX9_in l g r_40 (97 : Int32) (122 : Int32) (sX9_in r_40 (97 : Int32) (122 : Int32) ho_4)) (va_cwS 3 hts gX9_token_X9_in rfl rfl rfl (by decide +kernel) ⟨Nat.le_of_ble_eq_true rfl, Nat.le_of_ble_eq_true rfl⟩) ⟨blindRO, fun U hU hW => ⟨rfl, by rw [hU]; exact hP.sub (ws' := []) [] rfl, hG.warm hW⟩⟩ rfl rfl hl.1 rfl (lv_room (Nat.le_of_ble_eq_true rfl)) dX9_token_68 ⟨Nat.le_of_ble_eq_true rfl, Nat.le_of_ble_eq_true rfl⟩) (fun r_68 hr_68 => ?_)
          have hv := hv r_68 hr_68
          obtain ⟨hvt, hvf⟩ := hv
          refine lv_if_eq (tgt := 162) hx hb dX9_token_71 (by decide) (fun hc => ?_) (fun hc => ?_)
          · have hv := hvt hc
            refine lv_iload_n hx hb dX9_token_162 rfl (lv_at hl 1 rfl) ?_
            refine lv_bipush (v := (48 : Int32)) hx hb dX9_token_163 (by decide) ?_
            refine lv_bipush (v := (57 : Int32)) hx hb dX9_token_165 (by decide) ?_
            obtain ⟨ho_5, hv⟩ := hv
            refine vp_callSi (W.runS (As := [.int r_40, .int (48 : Int32), .int (57 : Int32)]) (rest := []) S (wX9_in l g r_40 (48 : Int32) (57 : Int32) (sX9_in r_40 (48 : Int32) (57 : Int32) ho_5)) (va_cwS 3 hts gX9_token_X9_in rfl rfl rfl (by decide +kernel) ⟨Nat.le_of_ble_eq_true rfl, Nat.le_of_ble_eq_true rfl⟩) ⟨blindRO, fun U hU hW => ⟨rfl, by rw [hU]; exact hP.sub (ws' := []) [] rfl, hG.warm hW⟩⟩ rfl rfl hl.1 rfl (lv_room (Nat.le_of_ble_eq_true rfl)) dX9_token_167 ⟨Nat.le_of_ble_eq_true rfl, Nat.le_of_ble_eq_true rfl⟩) (fun r_167 hr_167 => ?_)
            have hv := hv r_167 hr_167
            obtain ⟨hvt, hvf⟩ := hv
            refine lv_if_eq (tgt := 256) hx hb dX9_token_170 (by decide) (fun hc => ?_) (fun hc => ?_)
            · have hv := hvt hc
              refine lv_aload_n hx hb dX9_token_256 rfl (lv_at hl 2 rfl) ?_
              refine lv_dup hx hb dX9_token_257 rfl ?_
              refine va_get (D := g.1) (ci := 9) (v := .int (F 4)) (C := RX9) (T := TX9) (N := 29) hx hb hts inX9_token_9 hown hK hP 0 rfl rfl 4 (by decide) (hts (.fieldLink RX9 69 "RangeCodesModel" "reached" "I") (List.mem_of_getElem? (i := 1) rfl)) (fun _ h9 => h9) rfl dX9_token_258 ?_
              refine lv_iconst (v := (1 : Int32)) hx hb dX9_token_261 (by decide) ?_
              refine lv_iadd hx hb dX9_token_262 ?_
              refine va_put (D := g.1) (ci := 9) (v := .int ((F 4) + (1 : Int32))) (ty := .int) (C := RX9) (T := TX9) (N := 29) hx hb hts inX9_token_9 tyX9 tyX9_ok nmX9 hown hK hP hD hS 0 rfl rfl 4 (by decide) (hts (.fieldLink RX9 69 "RangeCodesModel" "reached" "I") (List.mem_of_getElem? (i := 1) rfl)) (fun _ h9 => h9) rfl (by decide +kernel) rfl rfl (Nat.le_of_ble_eq_true rfl) dX9_token_263 (fun H locs hP hD hS => ?_)
              have hP : va_P g.1 vwCl [(qM, .inr (9, [.int (F 0), .ref q1, .ref q2, .ref q3, .int ((F 4) + (1 : Int32)), .int (F 5), .int (F 4), .int (F 7), .int (F 8), .int (F 9), .long (0 : Int64), .int (F 11), .int (F 12), .int (F 13), .ref q4, .int (F 15), .ref q5, .ref q6, .ref q7, .int (F 19), .ref q8, .int (F 21), .int (F 22), .int (F 23), .int (F 24), .ref q9, .ref q10, .ref q11, .long (J 28)])), (q2, .inl (g.2 1, 2000, .inl tx))] H := hP
              have hD : va_D A [(qM, .inr (9, [.int (F 0), .ref q1, .ref q2, .ref q3, .int ((F 4) + (1 : Int32)), .int (F 5), .int (F 4), .int (F 7), .int (F 8), .int (F 9), .long (0 : Int64), .int (F 11), .int (F 12), .int (F 13), .ref q4, .int (F 15), .ref q5, .ref q6, .ref q7, .int (F 19), .ref q8, .int (F 21), .int (F 22), .int (F 23), .int (F 24), .ref q9, .ref q10, .ref q11, .long (J 28)])), (q2, .inl (g.2 1, 2000, .inl tx))] := hD
              refine lv_aload_n hx hb dX9_token_266 rfl (lv_at hl 2 rfl) ?_
              refine lv_iload_n hx hb dX9_token_267 rfl (lv_at hl 1 rfl) ?_
              refine lv_bipush (v := (59 : Int32)) hx hb dX9_token_268 (by decide) ?_
              obtain ⟨hvt, hvf⟩ := hv
              refine lv_icmp_ne (tgt := 277) hx hb dX9_token_270 (by decide) (fun hc => ?_) (fun hc => ?_)
              · have hv := hvt hc
                refine lv_iconst (v := (1 : Int32)) hx hb dX9_token_277 (by decide) ?_
                refine va_put (D := g.1) (ci := 9) (v := .int (1 : Int32)) (ty := .int) (C := RX9) (T := TX9) (N := 29) hx hb hts inX9_token_9 tyX9 tyX9_ok nmX9 hown hK hP hD hS 0 rfl rfl 7 (by decide) (hts (.fieldLink RX9 86 "RangeCodesModel" "sort" "I") (List.mem_of_getElem? (i := 4) rfl)) (fun _ h9 => h9) rfl (by decide +kernel) rfl rfl (Nat.le_of_ble_eq_true rfl) dX9_token_278 (fun H locs hP hD hS => ?_)
                have hP : va_P g.1 vwCl [(qM, .inr (9, [.int (F 0), .ref q1, .ref q2, .ref q3, .int ((F 4) + (1 : Int32)), .int (F 5), .int (F 4), .int (1 : Int32), .int (F 8), .int (F 9), .long (0 : Int64), .int (F 11), .int (F 12), .int (F 13), .ref q4, .int (F 15), .ref q5, .ref q6, .ref q7, .int (F 19), .ref q8, .int (F 21), .int (F 22), .int (F 23), .int (F 24), .ref q9, .ref q10, .ref q11, .long (J 28)])), (q2, .inl (g.2 1, 2000, .inl tx))] H := hP
                have hD : va_D A [(qM, .inr (9, [.int (F 0), .ref q1, .ref q2, .ref q3, .int ((F 4) + (1 : Int32)), .int (F 5), .int (F 4), .int (1 : Int32), .int (F 8), .int (F 9), .long (0 : Int64), .int (F 11), .int (F 12), .int (F 13), .ref q4, .int (F 15), .ref q5, .ref q6, .ref q7, .int (F 19), .ref q8, .int (F 21), .int (F 22), .int (F 23), .int (F 24), .ref q9, .ref q10, .ref q11, .long (J 28)])), (q2, .inl (g.2 1, 2000, .inl tx))] := hD
                have hP9 := hP.sub (ws' := [(qM, .inr (9, [.int ((upd (upd (upd F 4 ((F 4) + (1 : Int32))) 6 (F 4)) 7 (1 : Int32)) 0), .ref q1, .ref q2, .ref q3, .int ((upd (upd (upd F 4 ((F 4) + (1 : Int32))) 6 (F 4)) 7 (1 : Int32)) 4), .int ((upd (upd (upd F 4 ((F 4) + (1 : Int32))) 6 (F 4)) 7 (1 : Int32)) 5), .int ((upd (upd (upd F 4 ((F 4) + (1 : Int32))) 6 (F 4)) 7 (1 : Int32)) 6), .int ((upd (upd (upd F 4 ((F 4) + (1 : Int32))) 6 (F 4)) 7 (1 : Int32)) 7), .int ((upd (upd (upd F 4 ((F 4) + (1 : Int32))) 6 (F 4)) 7 (1 : Int32)) 8), .int ((upd (upd (upd F 4 ((F 4) + (1 : Int32))) 6 (F 4)) 7 (1 : Int32)) 9), .long ((vp_updL J 10 (0 : Int64)) 10), .int ((upd (upd (upd F 4 ((F 4) + (1 : Int32))) 6 (F 4)) 7 (1 : Int32)) 11), .int ((upd (upd (upd F 4 ((F 4) + (1 : Int32))) 6 (F 4)) 7 (1 : Int32)) 12), .int ((upd (upd (upd F 4 ((F 4) + (1 : Int32))) 6 (F 4)) 7 (1 : Int32)) 13), .ref q4, .int ((upd (upd (upd F 4 ((F 4) + (1 : Int32))) 6 (F 4)) 7 (1 : Int32)) 15), .ref q5, .ref q6, .ref q7, .int ((upd (upd (upd F 4 ((F 4) + (1 : Int32))) 6 (F 4)) 7 (1 : Int32)) 19), .ref q8, .int ((upd (upd (upd F 4 ((F 4) + (1 : Int32))) 6 (F 4)) 7 (1 : Int32)) 21), .int ((upd (upd (upd F 4 ((F 4) + (1 : Int32))) 6 (F 4)) 7 (1 : Int32)) 22), .int ((upd (upd (upd F 4 ((F 4) + (1 : Int32))) 6 (F 4)) 7 (1 : Int32)) 23), .int ((upd (upd (upd F 4 ((F 4) + (1 : Int32))) 6 (F 4)) 7 (1 : Int32)) 24), .ref q9, .ref q10, .ref q11, .long ((vp_updL J 10 (0 : Int64)) 28)])), (q2, .inl (g.2 1, 2000, .inl tx))]) [0, 1] rfl
                have hD9 := hD.sub (ws' := [(qM, .inr (9, [.int ((upd (upd (upd F 4 ((F 4) + (1 : Int32))) 6 (F 4)) 7 (1 : Int32)) 0), .ref q1, .ref q2, .ref q3, .int ((upd (upd (upd F 4 ((F 4) + (1 : Int32))) 6 (F 4)) 7 (1 : Int32)) 4), .int ((upd (upd (upd F 4 ((F 4) + (1 : Int32))) 6 (F 4)) 7 (1 : Int32)) 5), .int ((upd (upd (upd F 4 ((F 4) + (1 : Int32))) 6 (F 4)) 7 (1 : Int32)) 6), .int ((upd (upd (upd F 4 ((F 4) + (1 : Int32))) 6 (F 4)) 7 (1 : Int32)) 7), .int ((upd (upd (upd F 4 ((F 4) + (1 : Int32))) 6 (F 4)) 7 (1 : Int32)) 8), .int ((upd (upd (upd F 4 ((F 4) + (1 : Int32))) 6 (F 4)) 7 (1 : Int32)) 9), .long ((vp_updL J 10 (0 : Int64)) 10), .int ((upd (upd (upd F 4 ((F 4) + (1 : Int32))) 6 (F 4)) 7 (1 : Int32)) 11), .int ((upd (upd (upd F 4 ((F 4) + (1 : Int32))) 6 (F 4)) 7 (1 : Int32)) 12), .int ((upd (upd (upd F 4 ((F 4) + (1 : Int32))) 6 (F 4)) 7 (1 : Int32)) 13), .ref q4, .int ((upd (upd (upd F 4 ((F 4) + (1 : Int32))) 6 (F 4)) 7 (1 : Int32)) 15), .ref q5, .ref q6, .ref q7, .int ((upd (upd (upd F 4 ((F 4) + (1 : Int32))) 6 (F 4)) 7 (1 : Int32)) 19), .ref q8, .int ((upd (upd (upd F 4 ((F 4) + (1 : Int32))) 6 (F 4)) 7 (1 : Int32)) 21), .int ((upd (upd (upd F 4 ((F 4) + (1 : Int32))) 6 (F 4)) 7 (1 : Int32)) 22), .int ((upd (upd (upd F 4 ((F 4) + (1 : Int32))) 6 (F 4)) 7 (1 : Int32)) 23), .int ((upd (upd (upd F 4 ((F 4) + (1 : Int32))) 6 (F 4)) 7 (1 : Int32)) 24), .ref q9, .ref q10, .ref q11, .long ((vp_updL J 10 (0 : Int64)) 28)])), (q2, .inl (g.2 1, 2000, .inl tx))]) [0, 1] (by decide) rfl
                exact W.vret hx hb hr (fun t ht hW => ⟨⟨((upd (upd (upd F 4 ((F 4) + (1 : Int32))) 6 (F 4)) 7 (1 : Int32)), (vp_updL J 10 (0 : Int64))), rfl, hv, by rw [ht]; exact hP9, hD9⟩, hS.F ht⟩) hS.2.2 dX9_token_281
              · have hv := hvf hc
                refine lv_iconst (v := (4 : Int32)) hx hb dX9_token_273 (by decide) ?_
                refine lv_goto (tgt := 278) hx hb dX9_token_274 (by decide) ?_
                refine va_put (D := g.1) (ci := 9) (v := .int (4 : Int32)) (ty := .int) (C := RX9) (T := TX9) (N := 29) hx hb hts inX9_token_9 tyX9 tyX9_ok nmX9 hown hK hP hD hS 0 rfl rfl 7 (by decide) (hts (.fieldLink RX9 86 "RangeCodesModel" "sort" "I") (List.mem_of_getElem? (i := 4) rfl)) (fun _ h9 => h9) rfl (by decide +kernel) rfl rfl (Nat.le_of_ble_eq_true rfl) dX9_token_278 (fun H locs hP hD hS => ?_)
                have hP : va_P g.1 vwCl [(qM, .inr (9, [.int (F 0), .ref q1, .ref q2, .ref q3, .int ((F 4) + (1 : Int32)), .int (F 5), .int (F 4), .int (4 : Int32), .int (F 8), .int (F 9), .long (0 : Int64), .int (F 11), .int (F 12), .int (F 13), .ref q4, .int (F 15), .ref q5, .ref q6, .ref q7, .int (F 19), .ref q8, .int (F 21), .int (F 22), .int (F 23), .int (F 24), .ref q9, .ref q10, .ref q11, .long (J 28)])), (q2, .inl (g.2 1, 2000, .inl tx))] H := hP
                have hD : va_D A [(qM, .inr (9, [.int (F 0), .ref q1, .ref q2, .ref q3, .int ((F 4) + (1 : Int32)), .int (F 5), .int (F 4), .int (4 : Int32), .int (F 8), .int (F 9), .long (0 : Int64), .int (F 11), .int (F 12), .int (F 13), .ref q4, .int (F 15), .ref q5, .ref q6, .ref q7, .int (F 19), .ref q8, .int (F 21), .int (F 22), .int (F 23), .int (F 24), .ref q9, .ref q10, .ref q11, .long (J 28)])), (q2, .inl (g.2 1, 2000, .inl tx))] := hD
                have hP9 := hP.sub (ws' := [(qM, .inr (9, [.int ((upd (upd (upd F 4 ((F 4) + (1 : Int32))) 6 (F 4)) 7 (4 : Int32)) 0), .ref q1, .ref q2, .ref q3, .int ((upd (upd (upd F 4 ((F 4) + (1 : Int32))) 6 (F 4)) 7 (4 : Int32)) 4), .int ((upd (upd (upd F 4 ((F 4) + (1 : Int32))) 6 (F 4)) 7 (4 : Int32)) 5), .int ((upd (upd (upd F 4 ((F 4) + (1 : Int32))) 6 (F 4)) 7 (4 : Int32)) 6), .int ((upd (upd (upd F 4 ((F 4) + (1 : Int32))) 6 (F 4)) 7 (4 : Int32)) 7), .int ((upd (upd (upd F 4 ((F 4) + (1 : Int32))) 6 (F 4)) 7 (4 : Int32)) 8), .int ((upd (upd (upd F 4 ((F 4) + (1 : Int32))) 6 (F 4)) 7 (4 : Int32)) 9), .long ((vp_updL J 10 (0 : Int64)) 10), .int ((upd (upd (upd F 4 ((F 4) + (1 : Int32))) 6 (F 4)) 7 (4 : Int32)) 11), .int ((upd (upd (upd F 4 ((F 4) + (1 : Int32))) 6 (F 4)) 7 (4 : Int32)) 12), .int ((upd (upd (upd F 4 ((F 4) + (1 : Int32))) 6 (F 4)) 7 (4 : Int32)) 13), .ref q4, .int ((upd (upd (upd F 4 ((F 4) + (1 : Int32))) 6 (F 4)) 7 (4 : Int32)) 15), .ref q5, .ref q6, .ref q7, .int ((upd (upd (upd F 4 ((F 4) + (1 : Int32))) 6 (F 4)) 7 (4 : Int32)) 19), .ref q8, .int ((upd (upd (upd F 4 ((F 4) + (1 : Int32))) 6 (F 4)) 7 (4 : Int32)) 21), .int ((upd (upd (upd F 4 ((F 4) + (1 : Int32))) 6 (F 4)) 7 (4 : Int32)) 22), .int ((upd (upd (upd F 4 ((F 4) + (1 : Int32))) 6 (F 4)) 7 (4 : Int32)) 23), .int ((upd (upd (upd F 4 ((F 4) + (1 : Int32))) 6 (F 4)) 7 (4 : Int32)) 24), .ref q9, .ref q10, .ref q11, .long ((vp_updL J 10 (0 : Int64)) 28)])), (q2, .inl (g.2 1, 2000, .inl tx))]) [0, 1] rfl
                have hD9 := hD.sub (ws' := [(qM, .inr (9, [.int ((upd (upd (upd F 4 ((F 4) + (1 : Int32))) 6 (F 4)) 7 (4 : Int32)) 0), .ref q1, .ref q2, .ref q3, .int ((upd (upd (upd F 4 ((F 4) + (1 : Int32))) 6 (F 4)) 7 (4 : Int32)) 4), .int ((upd (upd (upd F 4 ((F 4) + (1 : Int32))) 6 (F 4)) 7 (4 : Int32)) 5), .int ((upd (upd (upd F 4 ((F 4) + (1 : Int32))) 6 (F 4)) 7 (4 : Int32)) 6), .int ((upd (upd (upd F 4 ((F 4) + (1 : Int32))) 6 (F 4)) 7 (4 : Int32)) 7), .int ((upd (upd (upd F 4 ((F 4) + (1 : Int32))) 6 (F 4)) 7 (4 : Int32)) 8), .int ((upd (upd (upd F 4 ((F 4) + (1 : Int32))) 6 (F 4)) 7 (4 : Int32)) 9), .long ((vp_updL J 10 (0 : Int64)) 10), .int ((upd (upd (upd F 4 ((F 4) + (1 : Int32))) 6 (F 4)) 7 (4 : Int32)) 11), .int ((upd (upd (upd F 4 ((F 4) + (1 : Int32))) 6 (F 4)) 7 (4 : Int32)) 12), .int ((upd (upd (upd F 4 ((F 4) + (1 : Int32))) 6 (F 4)) 7 (4 : Int32)) 13), .ref q4, .int ((upd (upd (upd F 4 ((F 4) + (1 : Int32))) 6 (F 4)) 7 (4 : Int32)) 15), .ref q5, .ref q6, .ref q7, .int ((upd (upd (upd F 4 ((F 4) + (1 : Int32))) 6 (F 4)) 7 (4 : Int32)) 19), .ref q8, .int ((upd (upd (upd F 4 ((F 4) + (1 : Int32))) 6 (F 4)) 7 (4 : Int32)) 21), .int ((upd (upd (upd F 4 ((F 4) + (1 : Int32))) 6 (F 4)) 7 (4 : Int32)) 22), .int ((upd (upd (upd F 4 ((F 4) + (1 : Int32))) 6 (F 4)) 7 (4 : Int32)) 23), .int ((upd (upd (upd F 4 ((F 4) + (1 : Int32))) 6 (F 4)) 7 (4 : Int32)) 24), .ref q9, .ref q10, .ref q11, .long ((vp_updL J 10 (0 : Int64)) 28)])), (q2, .inl (g.2 1, 2000, .inl tx))]) [0, 1] (by decide) rfl
                exact W.vret hx hb hr (fun t ht hW => ⟨⟨((upd (upd (upd F 4 ((F 4) + (1 : Int32))) 6 (F 4)) 7 (4 : Int32)), (vp_updL J 10 (0 : Int64))), rfl, hv, by rw [ht]; exact hP9, hD9⟩, hS.F ht⟩) hS.2.2 dX9_token_281
            · have hv := hvf hc
              refine lv_aload_n hx hb dX9_token_173 rfl (lv_at hl 2 rfl) ?_
              refine lv_iconst (v := (0 : Int32)) hx hb dX9_token_174 (by decide) ?_
              refine va_put (D := g.1) (ci := 9) (v := .int (0 : Int32)) (ty := .int) (C := RX9) (T := TX9) (N := 29) hx hb hts inX9_token_9 tyX9 tyX9_ok nmX9 hown hK hP hD hS 0 rfl rfl 8 (by decide) (hts (.fieldLink RX9 92 "RangeCodesModel" "value" "I") (List.mem_of_getElem? (i := 6) rfl)) (fun _ h9 => h9) rfl (by decide +kernel) rfl rfl (Nat.le_of_ble_eq_true rfl) dX9_token_175 (fun H locs hP hD hS => ?_)
              have hP : va_P g.1 vwCl [(qM, .inr (9, [.int (F 0), .ref q1, .ref q2, .ref q3, .int (F 4), .int (F 5), .int (F 4), .int (F 7), .int (0 : Int32), .int (F 9), .long (0 : Int64), .int (F 11), .int (F 12), .int (F 13), .ref q4, .int (F 15), .ref q5, .ref q6, .ref q7, .int (F 19), .ref q8, .int (F 21), .int (F 22), .int (F 23), .int (F 24), .ref q9, .ref q10, .ref q11, .long (J 28)])), (q2, .inl (g.2 1, 2000, .inl tx))] H := hP
              have hD : va_D A [(qM, .inr (9, [.int (F 0), .ref q1, .ref q2, .ref q3, .int (F 4), .int (F 5), .int (F 4), .int (F 7), .int (0 : Int32), .int (F 9), .long (0 : Int64), .int (F 11), .int (F 12), .int (F 13), .ref q4, .int (F 15), .ref q5, .ref q6, .ref q7, .int (F 19), .ref q8, .int (F 21), .int (F 22), .int (F 23), .int (F 24), .ref q9, .ref q10, .ref q11, .long (J 28)])), (q2, .inl (g.2 1, 2000, .inl tx))] := hD
              obtain ⟨nn, hv⟩ := hv
              exact kX9_token_c178 S hr hlocks hG hA nn _ _ _ hv _ _ (hP.sub (ws' := [(qM, .inr (9, [.int ((upd (upd F 6 (F 4)) 8 (0 : Int32)) 0), .ref q1, .ref q2, .ref q3, .int ((upd (upd F 6 (F 4)) 8 (0 : Int32)) 4), .int ((upd (upd F 6 (F 4)) 8 (0 : Int32)) 5), .int ((upd (upd F 6 (F 4)) 8 (0 : Int32)) 6), .int ((upd (upd F 6 (F 4)) 8 (0 : Int32)) 7), .int ((upd (upd F 6 (F 4)) 8 (0 : Int32)) 8), .int ((upd (upd F 6 (F 4)) 8 (0 : Int32)) 9), .long ((vp_updL J 10 (0 : Int64)) 10), .int ((upd (upd F 6 (F 4)) 8 (0 : Int32)) 11), .int ((upd (upd F 6 (F 4)) 8 (0 : Int32)) 12), .int ((upd (upd F 6 (F 4)) 8 (0 : Int32)) 13), .ref q4, .int ((upd (upd F 6 (F 4)) 8 (0 : Int32)) 15), .ref q5, .ref q6, .ref q7, .int ((upd (upd F 6 (F 4)) 8 (0 : Int32)) 19), .ref q8, .int ((upd (upd F 6 (F 4)) 8 (0 : Int32)) 21), .int ((upd (upd F 6 (F 4)) 8 (0 : Int32)) 22), .int ((upd (upd F 6 (F 4)) 8 (0 : Int32)) 23), .int ((upd (upd F 6 (F 4)) 8 (0 : Int32)) 24), .ref q9, .ref q10, .ref q11, .long ((vp_updL J 10 (0 : Int64)) 28)])), (q2, .inl (g.2 1, 2000, .inl tx))]) [0, 1] rfl) (hD.sub (ws' := [(qM, .inr (9, [.int ((upd (upd F 6 (F 4)) 8 (0 : Int32)) 0), .ref q1, .ref q2, .ref q3, .int ((upd (upd F 6 (F 4)) 8 (0 : Int32)) 4), .int ((upd (upd F 6 (F 4)) 8 (0 : Int32)) 5), .int ((upd (upd F 6 (F 4)) 8 (0 : Int32)) 6), .int ((upd (upd F 6 (F 4)) 8 (0 : Int32)) 7), .int ((upd (upd F 6 (F 4)) 8 (0 : Int32)) 8), .int ((upd (upd F 6 (F 4)) 8 (0 : Int32)) 9), .long ((vp_updL J 10 (0 : Int64)) 10), .int ((upd (upd F 6 (F 4)) 8 (0 : Int32)) 11), .int ((upd (upd F 6 (F 4)) 8 (0 : Int32)) 12), .int ((upd (upd F 6 (F 4)) 8 (0 : Int32)) 13), .ref q4, .int ((upd (upd F 6 (F 4)) 8 (0 : Int32)) 15), .ref q5, .ref q6, .ref q7, .int ((upd (upd F 6 (F 4)) 8 (0 : Int32)) 19), .ref q8, .int ((upd (upd F 6 (F 4)) 8 (0 : Int32)) 21), .int ((upd (upd F 6 (F 4)) 8 (0 : Int32)) 22), .int ((upd (upd F 6 (F 4)) 8 (0 : Int32)) 23), .int ((upd (upd F 6 (F 4)) 8 (0 : Int32)) 24), .ref q9, .ref q10, .ref q11, .long ((vp_updL J 10 (0 : Int64)) 28)])), (q2, .inl (g.2 1, 2000, .inl tx))]) [0, 1] (by decide) rfl) hS ls (lv_sub hl [2, 0] rfl)
          · have hv := hvf hc
            obtain ⟨nn, hv⟩ := hv
            exact kX9_token_c74 S hr hlocks hG hA nn _ _ _ hv _ _ (hP.sub (ws' := [(qM, .inr (9, [.int ((upd F 6 (F 4)) 0), .ref q1, .ref q2, .ref q3, .int ((upd F 6 (F 4)) 4), .int ((upd F 6 (F 4)) 5), .int ((upd F 6 (F 4)) 6), .int ((upd F 6 (F 4)) 7), .int ((upd F 6 (F 4)) 8), .int ((upd F 6 (F 4)) 9), .long ((vp_updL J 10 (0 : Int64)) 10), .int ((upd F 6 (F 4)) 11), .int ((upd F 6 (F 4)) 12), .int ((upd F 6 (F 4)) 13), .ref q4, .int ((upd F 6 (F 4)) 15), .ref q5, .ref q6, .ref q7, .int ((upd F 6 (F 4)) 19), .ref q8, .int ((upd F 6 (F 4)) 21), .int ((upd F 6 (F 4)) 22), .int ((upd F 6 (F 4)) 23), .int ((upd F 6 (F 4)) 24), .ref q9, .ref q10, .ref q11, .long ((vp_updL J 10 (0 : Int64)) 28)])), (q2, .inl (g.2 1, 2000, .inl tx))]) [0, 1] rfl) (hD.sub (ws' := [(qM, .inr (9, [.int ((upd F 6 (F 4)) 0), .ref q1, .ref q2, .ref q3, .int ((upd F 6 (F 4)) 4), .int ((upd F 6 (F 4)) 5), .int ((upd F 6 (F 4)) 6), .int ((upd F 6 (F 4)) 7), .int ((upd F 6 (F 4)) 8), .int ((upd F 6 (F 4)) 9), .long ((vp_updL J 10 (0 : Int64)) 10), .int ((upd F 6 (F 4)) 11), .int ((upd F 6 (F 4)) 12), .int ((upd F 6 (F 4)) 13), .ref q4, .int ((upd F 6 (F 4)) 15), .ref q5, .ref q6, .ref q7, .int ((upd F 6 (F 4)) 19), .ref q8, .int ((upd F 6 (F 4)) 21), .int ((upd F 6 (F 4)) 22), .int ((upd F 6 (F 4)) 23), .int ((upd F 6 (F 4)) 24), .ref q9, .ref q10, .ref q11, .long ((vp_updL J 10 (0 : Int64)) 28)])), (q2, .inl (g.2 1, 2000, .inl tx))]) [0, 1] (by decide) rfl) hS ls (lv_sub hl [2, 0] rfl)
        · have hv := hvf hc
          refine lv_aload_n hx hb dX9_token_55 rfl (lv_at hl 2 rfl) ?_
          refine lv_iconst (v := (0 : Int32)) hx hb dX9_token_56 (by decide) ?_
          refine va_put (D := g.1) (ci := 9) (v := .int (0 : Int32)) (ty := .int) (C := RX9) (T := TX9) (N := 29) hx hb hts inX9_token_9 tyX9 tyX9_ok nmX9 hown hK hP hD hS 0 rfl rfl 7 (by decide) (hts (.fieldLink RX9 86 "RangeCodesModel" "sort" "I") (List.mem_of_getElem? (i := 4) rfl)) (fun _ h9 => h9) rfl (by decide +kernel) rfl rfl (Nat.le_of_ble_eq_true rfl) dX9_token_57 (fun H locs hP hD hS => ?_)
          have hP : va_P g.1 vwCl [(qM, .inr (9, [.int (F 0), .ref q1, .ref q2, .ref q3, .int (F 4), .int (F 5), .int (F 4), .int (0 : Int32), .int (F 8), .int (F 9), .long (0 : Int64), .int (F 11), .int (F 12), .int (F 13), .ref q4, .int (F 15), .ref q5, .ref q6, .ref q7, .int (F 19), .ref q8, .int (F 21), .int (F 22), .int (F 23), .int (F 24), .ref q9, .ref q10, .ref q11, .long (J 28)])), (q2, .inl (g.2 1, 2000, .inl tx))] H := hP
          have hD : va_D A [(qM, .inr (9, [.int (F 0), .ref q1, .ref q2, .ref q3, .int (F 4), .int (F 5), .int (F 4), .int (0 : Int32), .int (F 8), .int (F 9), .long (0 : Int64), .int (F 11), .int (F 12), .int (F 13), .ref q4, .int (F 15), .ref q5, .ref q6, .ref q7, .int (F 19), .ref q8, .int (F 21), .int (F 22), .int (F 23), .int (F 24), .ref q9, .ref q10, .ref q11, .long (J 28)])), (q2, .inl (g.2 1, 2000, .inl tx))] := hD
          refine lv_goto (tgt := 281) hx hb dX9_token_60 (by decide) ?_
          have hP9 := hP.sub (ws' := [(qM, .inr (9, [.int ((upd (upd F 6 (F 4)) 7 (0 : Int32)) 0), .ref q1, .ref q2, .ref q3, .int ((upd (upd F 6 (F 4)) 7 (0 : Int32)) 4), .int ((upd (upd F 6 (F 4)) 7 (0 : Int32)) 5), .int ((upd (upd F 6 (F 4)) 7 (0 : Int32)) 6), .int ((upd (upd F 6 (F 4)) 7 (0 : Int32)) 7), .int ((upd (upd F 6 (F 4)) 7 (0 : Int32)) 8), .int ((upd (upd F 6 (F 4)) 7 (0 : Int32)) 9), .long ((vp_updL J 10 (0 : Int64)) 10), .int ((upd (upd F 6 (F 4)) 7 (0 : Int32)) 11), .int ((upd (upd F 6 (F 4)) 7 (0 : Int32)) 12), .int ((upd (upd F 6 (F 4)) 7 (0 : Int32)) 13), .ref q4, .int ((upd (upd F 6 (F 4)) 7 (0 : Int32)) 15), .ref q5, .ref q6, .ref q7, .int ((upd (upd F 6 (F 4)) 7 (0 : Int32)) 19), .ref q8, .int ((upd (upd F 6 (F 4)) 7 (0 : Int32)) 21), .int ((upd (upd F 6 (F 4)) 7 (0 : Int32)) 22), .int ((upd (upd F 6 (F 4)) 7 (0 : Int32)) 23), .int ((upd (upd F 6 (F 4)) 7 (0 : Int32)) 24), .ref q9, .ref q10, .ref q11, .long ((vp_updL J 10 (0 : Int64)) 28)])), (q2, .inl (g.2 1, 2000, .inl tx))]) [0, 1] rfl
          have hD9 := hD.sub (ws' := [(qM, .inr (9, [.int ((upd (upd F 6 (F 4)) 7 (0 : Int32)) 0), .ref q1, .ref q2, .ref q3, .int ((upd (upd F 6 (F 4)) 7 (0 : Int32)) 4), .int ((upd (upd F 6 (F 4)) 7 (0 : Int32)) 5), .int ((upd (upd F 6 (F 4)) 7 (0 : Int32)) 6), .int ((upd (upd F 6 (F 4)) 7 (0 : Int32)) 7), .int ((upd (upd F 6 (F 4)) 7 (0 : Int32)) 8), .int ((upd (upd F 6 (F 4)) 7 (0 : Int32)) 9), .long ((vp_updL J 10 (0 : Int64)) 10), .int ((upd (upd F 6 (F 4)) 7 (0 : Int32)) 11), .int ((upd (upd F 6 (F 4)) 7 (0 : Int32)) 12), .int ((upd (upd F 6 (F 4)) 7 (0 : Int32)) 13), .ref q4, .int ((upd (upd F 6 (F 4)) 7 (0 : Int32)) 15), .ref q5, .ref q6, .ref q7, .int ((upd (upd F 6 (F 4)) 7 (0 : Int32)) 19), .ref q8, .int ((upd (upd F 6 (F 4)) 7 (0 : Int32)) 21), .int ((upd (upd F 6 (F 4)) 7 (0 : Int32)) 22), .int ((upd (upd F 6 (F 4)) 7 (0 : Int32)) 23), .int ((upd (upd F 6 (F 4)) 7 (0 : Int32)) 24), .ref q9, .ref q10, .ref q11, .long ((vp_updL J 10 (0 : Int64)) 28)])), (q2, .inl (g.2 1, 2000, .inl tx))]) [0, 1] (by decide) rfl
          exact W.vret hx hb hr (fun t ht hW => ⟨⟨((upd (upd F 6 (F 4)) 7 (0 : Int32)), (vp_updL J 10 (0 : Int64))), rfl, hv, by rw [ht]; exact hP9, hD9⟩, hS.F ht⟩) hS.2.2 dX9_token_281
      · have hv := hvf hc
        refine lv_aload_n hx hb dX9_token_18 rfl (lv_at hl 0 rfl) ?_
        refine lv_dup hx hb dX9_token_19 rfl ?_
        refine va_get (D := g.1) (ci := 9) (v := .int (F 4)) (C := RX9) (T := TX9) (N := 29) hx hb hts inX9_token_9 hown hK hP 0 rfl rfl 4 (by decide) (hts (.fieldLink RX9 69 "RangeCodesModel" "reached" "I") (List.mem_of_getElem? (i := 1) rfl)) (fun _ h9 => h9) rfl dX9_token_20 ?_
        refine lv_iconst (v := (1 : Int32)) hx hb dX9_token_23 (by decide) ?_
        refine lv_iadd hx hb dX9_token_24 ?_
        refine va_put (D := g.1) (ci := 9) (v := .int ((F 4) + (1 : Int32))) (ty := .int) (C := RX9) (T := TX9) (N := 29) hx hb hts inX9_token_9 tyX9 tyX9_ok nmX9 hown hK hP hD hS 0 rfl rfl 4 (by decide) (hts (.fieldLink RX9 69 "RangeCodesModel" "reached" "I") (List.mem_of_getElem? (i := 1) rfl)) (fun _ h9 => h9) rfl (by decide +kernel) rfl rfl (Nat.le_of_ble_eq_true rfl) dX9_token_25 (fun H locs hP hD hS => ?_)
        have hP : va_P g.1 vwCl [(qM, .inr (9, [.int (F 0), .ref q1, .ref q2, .ref q3, .int ((F 4) + (1 : Int32)), .int (F 5), .int (F 6), .int (F 7), .int (F 8), .int (F 9), .long (J 10), .int (F 11), .int (F 12), .int (F 13), .ref q4, .int (F 15), .ref q5, .ref q6, .ref q7, .int (F 19), .ref q8, .int (F 21), .int (F 22), .int (F 23), .int (F 24), .ref q9, .ref q10, .ref q11, .long (J 28)])), (q2, .inl (g.2 1, 2000, .inl tx))] H := hP
        have hD : va_D A [(qM, .inr (9, [.int (F 0), .ref q1, .ref q2, .ref q3, .int ((F 4) + (1 : Int32)), .int (F 5), .int (F 6), .int (F 7), .int (F 8), .int (F 9), .long (J 10), .int (F 11), .int (F 12), .int (F 13), .ref q4, .int (F 15), .ref q5, .ref q6, .ref q7, .int (F 19), .ref q8, .int (F 21), .int (F 22), .int (F 23), .int (F 24), .ref q9, .ref q10, .ref q11, .long (J 28)])), (q2, .inl (g.2 1, 2000, .inl tx))] := hD
        refine lv_goto (tgt := 0) hx hb dX9_token_28 (by decide) ?_
        exact ih _ _ hv _ _ (hP.sub (ws' := [(qM, .inr (9, [.int ((upd F 4 ((F 4) + (1 : Int32))) 0), .ref q1, .ref q2, .ref q3, .int ((upd F 4 ((F 4) + (1 : Int32))) 4), .int ((upd F 4 ((F 4) + (1 : Int32))) 5), .int ((upd F 4 ((F 4) + (1 : Int32))) 6), .int ((upd F 4 ((F 4) + (1 : Int32))) 7), .int ((upd F 4 ((F 4) + (1 : Int32))) 8), .int ((upd F 4 ((F 4) + (1 : Int32))) 9), .long (J 10), .int ((upd F 4 ((F 4) + (1 : Int32))) 11), .int ((upd F 4 ((F 4) + (1 : Int32))) 12), .int ((upd F 4 ((F 4) + (1 : Int32))) 13), .ref q4, .int ((upd F 4 ((F 4) + (1 : Int32))) 15), .ref q5, .ref q6, .ref q7, .int ((upd F 4 ((F 4) + (1 : Int32))) 19), .ref q8, .int ((upd F 4 ((F 4) + (1 : Int32))) 21), .int ((upd F 4 ((F 4) + (1 : Int32))) 22), .int ((upd F 4 ((F 4) + (1 : Int32))) 23), .int ((upd F 4 ((F 4) + (1 : Int32))) 24), .ref q9, .ref q10, .ref q11, .long (J 28)])), (q2, .inl (g.2 1, 2000, .inl tx))]) [0, 1] rfl) (hD.sub (ws' := [(qM, .inr (9, [.int ((upd F 4 ((F 4) + (1 : Int32))) 0), .ref q1, .ref q2, .ref q3, .int ((upd F 4 ((F 4) + (1 : Int32))) 4), .int ((upd F 4 ((F 4) + (1 : Int32))) 5), .int ((upd F 4 ((F 4) + (1 : Int32))) 6), .int ((upd F 4 ((F 4) + (1 : Int32))) 7), .int ((upd F 4 ((F 4) + (1 : Int32))) 8), .int ((upd F 4 ((F 4) + (1 : Int32))) 9), .long (J 10), .int ((upd F 4 ((F 4) + (1 : Int32))) 11), .int ((upd F 4 ((F 4) + (1 : Int32))) 12), .int ((upd F 4 ((F 4) + (1 : Int32))) 13), .ref q4, .int ((upd F 4 ((F 4) + (1 : Int32))) 15), .ref q5, .ref q6, .ref q7, .int ((upd F 4 ((F 4) + (1 : Int32))) 19), .ref q8, .int ((upd F 4 ((F 4) + (1 : Int32))) 21), .int ((upd F 4 ((F 4) + (1 : Int32))) 22), .int ((upd F 4 ((F 4) + (1 : Int32))) 23), .int ((upd F 4 ((F 4) + (1 : Int32))) 24), .ref q9, .ref q10, .ref q11, .long (J 28)])), (q2, .inl (g.2 1, 2000, .inl tx))]) [0, 1] (by decide) rfl) hS ls (lv_sub hl [0] rfl)
def vX9_token (F : Nat → Int32) (J : Nat → Int64) (tx : Nat → Int32) (Q : (Nat → Int32) → (Nat → Int64) → Prop) : Prop := (∃ (b_1 : Nat → Int32) (nb_1 : Nat) (i_1 : Nat), preX9_see b_1 nb_1 i_1 F J tx ∧ (∀ r_1 : Int32, postX9_see b_1 nb_1 i_1 F J tx r_1 → ((r_1 = (10 : Int32) → (∃ nn, vX9_token_c0 tx Q nn (upd F 4 ((F 4) + (1 : Int32))) J)) ∧ (¬ r_1 = (10 : Int32) → (∃ (b_10 : Nat → Int32) (nb_10 : Nat) (i_10 : Nat), preX9_see b_10 nb_10 i_10 F J tx ∧ (∀ r_10 : Int32, postX9_see b_10 nb_10 i_10 F J tx r_10 → ((¬ r_10 = (32 : Int32) → (∃ (b_40 : Nat → Int32) (nb_40 : Nat) (i_40 : Nat), preX9_see b_40 nb_40 i_40 (upd F 6 (F 4)) J tx ∧ (∀ r_40 : Int32, postX9_see b_40 nb_40 i_40 (upd F 6 (F 4)) J tx r_40 → ((0 ≤ r_40 → (preX9_in r_40 (97 : Int32) (122 : Int32) ∧ (∀ r_68 : Int32, postX9_in r_40 (97 : Int32) (122 : Int32) r_68 → ((r_68 = 0 → (preX9_in r_40 (48 : Int32) (57 : Int32) ∧ (∀ r_167 : Int32, postX9_in r_40 (48 : Int32) (57 : Int32) r_167 → ((r_167 = 0 → ((¬ r_40 = (59 : Int32) → (Q (upd (upd (upd F 4 ((F 4) + (1 : Int32))) 6 (F 4)) 7 (1 : Int32)) (vp_updL J 10 (0 : Int64)))) ∧ (r_40 = (59 : Int32) → (Q (upd (upd (upd F 4 ((F 4) + (1 : Int32))) 6 (F 4)) 7 (4 : Int32)) (vp_updL J 10 (0 : Int64)))))) ∧ (¬ r_167 = 0 → (∃ nn, vX9_token_c178 tx Q nn (0 : Int32) (upd (upd F 6 (F 4)) 8 (0 : Int32)) (vp_updL J 10 (0 : Int64)))))))) ∧ (¬ r_68 = 0 → (∃ nn, vX9_token_c74 tx Q nn (0 : Int32) (upd F 6 (F 4)) (vp_updL J 10 (0 : Int64)))))))) ∧ (¬ 0 ≤ r_40 → (Q (upd (upd F 6 (F 4)) 7 (0 : Int32)) (vp_updL J 10 (0 : Int64)))))))) ∧ (r_10 = (32 : Int32) → (∃ nn, vX9_token_c0 tx Q nn (upd F 4 ((F 4) + (1 : Int32))) J)))))))))
set_option maxHeartbeats 4000000 in
set_option maxRecDepth 100000 in
theorem wX9_token (l : Launch) (g : GP) (qM : Nat) (q1 : Nat) (q2 : Nat) (q3 : Nat) (q4 : Nat) (q5 : Nat) (q6 : Nat) (q7 : Nat) (q8 : Nat) (q9 : Nat) (q10 : Nat) (q11 : Nat) (sz : Nat) (F : Nat → Int32) (J : Nat → Int64) (tx : Nat → Int32) {Q : (Nat → Int32) → (Nat → Int64) → Prop} (hv : vX9_token F J tx Q) : Met l yX9_token wsX9_token rmX9_token (va_Pc [.ref qM] (fun U => U.heap.size = sz ∧ va_P g.1 vwCl [(qM, .inr (9, [.int (F 0), .ref q1, .ref q2, .ref q3, .int (F 4), .int (F 5), .int (F 6), .int (F 7), .int (F 8), .int (F 9), .long (J 10), .int (F 11), .int (F 12), .int (F 13), .ref q4, .int (F 15), .ref q5, .ref q6, .ref q7, .int (F 19), .ref q8, .int (F 21), .int (F 22), .int (F 23), .int (F 24), .ref q9, .ref q10, .ref q11, .long (J 28)])), (q2, .inl (g.2 1, 2000, .inl tx))] U.heap ∧ GK g U ∧ va_D (fun _ => True) [(qM, .inr (9, [.int (F 0), .ref q1, .ref q2, .ref q3, .int (F 4), .int (F 5), .int (F 6), .int (F 7), .int (F 8), .int (F 9), .long (J 10), .int (F 11), .int (F 12), .int (F 13), .ref q4, .int (F 15), .ref q5, .ref q6, .ref q7, .int (F 19), .ref q8, .int (F 21), .int (F 22), .int (F 23), .int (F 24), .ref q9, .ref q10, .ref q11, .long (J 28)])), (q2, .inl (g.2 1, 2000, .inl tx))])) (va_Qv (fun (u : (Nat → Int32) × (Nat → Int64)) => Q u.1 u.2) (fun (u : (Nat → Int32) × (Nat → Int64)) t => va_P g.1 vwCl [(qM, .inr (9, [.int (u.1 0), .ref q1, .ref q2, .ref q3, .int (u.1 4), .int (u.1 5), .int (u.1 6), .int (u.1 7), .int (u.1 8), .int (u.1 9), .long (u.2 10), .int (u.1 11), .int (u.1 12), .int (u.1 13), .ref q4, .int (u.1 15), .ref q5, .ref q6, .ref q7, .int (u.1 19), .ref q8, .int (u.1 21), .int (u.1 22), .int (u.1 23), .int (u.1 24), .ref q9, .ref q10, .ref q11, .long (u.2 28)])), (q2, .inl (g.2 1, 2000, .inl tx))] t.heap ∧ va_D (va_A [(qM, .inr (9, [.int (F 0), .ref q1, .ref q2, .ref q3, .int (F 4), .int (F 5), .int (F 6), .int (F 7), .int (F 8), .int (F 9), .long (J 10), .int (F 11), .int (F 12), .int (F 13), .ref q4, .int (F 15), .ref q5, .ref q6, .ref q7, .int (F 19), .ref q8, .int (F 21), .int (F 22), .int (F 23), .int (F 24), .ref q9, .ref q10, .ref q11, .long (J 28)])), (q2, .inl (g.2 1, 2000, .inl tx))] sz) [(qM, .inr (9, [.int (u.1 0), .ref q1, .ref q2, .ref q3, .int (u.1 4), .int (u.1 5), .int (u.1 6), .int (u.1 7), .int (u.1 8), .int (u.1 9), .long (u.2 10), .int (u.1 11), .int (u.1 12), .int (u.1 13), .ref q4, .int (u.1 15), .ref q5, .ref q6, .ref q7, .int (u.1 19), .ref q8, .int (u.1 21), .int (u.1 22), .int (u.1 23), .int (u.1 24), .ref q9, .ref q10, .ref q11, .long (u.2 28)])), (q2, .inl (g.2 1, 2000, .inl tx))]) (va_A [(qM, .inr (9, [.int (F 0), .ref q1, .ref q2, .ref q3, .int (F 4), .int (F 5), .int (F 6), .int (F 7), .int (F 8), .int (F 9), .long (J 10), .int (F 11), .int (F 12), .int (F 13), .ref q4, .int (F 15), .ref q5, .ref q6, .ref q7, .int (F 19), .ref q8, .int (F 21), .int (F 22), .int (F 23), .int (F 24), .ref q9, .ref q10, .ref q11, .long (J 28)])), (q2, .inl (g.2 1, 2000, .inl tx))] sz)) 0 0 (va_A [(qM, .inr (9, [.int (F 0), .ref q1, .ref q2, .ref q3, .int (F 4), .int (F 5), .int (F 6), .int (F 7), .int (F 8), .int (F 9), .long (J 10), .int (F 11), .int (F 12), .int (F 13), .ref q4, .int (F 15), .ref q5, .ref q6, .ref q7, .int (F 19), .ref q8, .int (F 21), .int (F 22), .int (F 23), .int (F 24), .ref q9, .ref q10, .ref q11, .long (J 28)])), (q2, .inl (g.2 1, 2000, .inl tx))] sz) := by
  refine Met.ofW (cc := cX9_token) (maxL := 3) (ret := none) (by decide) rfl ?_
  intro p e s m args below meth c s₁ B hml hv'
  obtain ⟨rfl, hsz, hP, hG, hD0⟩ := hv'
  have S : CallFix p m c cX9_token 3 s _ wsX9_token RX9 := ⟨B.exec, B.bytes, hml, findClass_of_methodNamed B.named, atoms_spec (ws := wsX9_token) B.pre⟩
  obtain ⟨hx, hb, hml, hown, hts⟩ := id S
  have hK := hG.1
  have hr := B.returns
  have hlocks := B.notSynchronized
  subst hsz
  have hD := hD0.self (sz := s.heap.size)
  generalize hAe : va_A [(qM, .inr (9, [.int (F 0), .ref q1, .ref q2, .ref q3, .int (F 4), .int (F 5), .int (F 6), .int (F 7), .int (F 8), .int (F 9), .long (J 10), .int (F 11), .int (F 12), .int (F 13), .ref q4, .int (F 15), .ref q5, .ref q6, .ref q7, .int (F 19), .ref q8, .int (F 21), .int (F 22), .int (F 23), .int (F 24), .ref q9, .ref q10, .ref q11, .long (J 28)])), (q2, .inl (g.2 1, 2000, .inl tx))] s.heap.size = A at hD ⊢
  have hA : ∀ q : Nat, s.heap.size ≤ q → A q := fun q h => by rw [← hAe]; exact Or.inr h
  have hS : va_S A s.heap s.heap [] := va_S.rf
  clear hD0 hAe
  have hl := lv_entry ([.ref qM]) (n := 3) (Nat.le_of_ble_eq_true rfl)
  rw [lg_entry_eq]
  generalize (lg_sl ([.ref qM]) ++ List.replicate (3 - (lg_sl ([.ref qM])).length) Slot.unset).toArray = ls at hl ⊢
  have hl : lv_has ls 3 [(0, .ref qM)] := hl
  unfold vX9_token at hv
  refine lv_aload_n hx hb dX9_token_0 rfl (lv_at hl 0 rfl) ?_
  obtain ⟨b_1, nb_1, i_1, ho_1, hv⟩ := hv
  refine vp_callSi (W.runV (As := []) (rest := []) S (wX9_see l g qM q1 q2 q3 q4 q5 q6 q7 q8 q9 q10 q11 F J tx (sX9_see b_1 nb_1 i_1 F J tx ho_1)) (cwV 0 hts gX9_token_X9_see rfl rfl rfl (by decide +kernel) ⟨Nat.le_of_ble_eq_true rfl, Nat.le_of_ble_eq_true rfl⟩) ⟨blindRO, va_recv hK hP (ci := 9) (q0 := 0) rfl rfl, fun U hU hW => ⟨rfl, by rw [hU]; exact hP.sub (ws' := [(qM, .inr (9, [.int (F 0), .ref q1, .ref q2, .ref q3, .int (F 4), .int (F 5), .int (F 6), .int (F 7), .int (F 8), .int (F 9), .long (J 10), .int (F 11), .int (F 12), .int (F 13), .ref q4, .int (F 15), .ref q5, .ref q6, .ref q7, .int (F 19), .ref q8, .int (F 21), .int (F 22), .int (F 23), .int (F 24), .ref q9, .ref q10, .ref q11, .long (J 28)])), (q2, .inl (g.2 1, 2000, .inl tx))]) [0, 1] rfl, hG.warm hW⟩⟩ rfl rfl hl.1 rfl (lv_room (Nat.le_of_ble_eq_true rfl)) dX9_token_1 ⟨Nat.le_of_ble_eq_true rfl, Nat.le_of_ble_eq_true rfl⟩) (fun r_1 hr_1 => ?_)
  have hv := hv r_1 hr_1
  refine lv_bipush (v := (10 : Int32)) hx hb dX9_token_4 (by decide) ?_
  obtain ⟨hvt, hvf⟩ := hv
  refine lv_icmp_eq (tgt := 18) hx hb dX9_token_6 (by decide) (fun hc => ?_) (fun hc => ?_)
  · have hv := hvt hc
    refine lv_aload_n hx hb dX9_token_18 rfl (lv_at hl 0 rfl) ?_
    refine lv_dup hx hb dX9_token_19 rfl ?_
    refine va_get (D := g.1) (ci := 9) (v := .int (F 4)) (C := RX9) (T := TX9) (N := 29) hx hb hts inX9_token_9 hown hK hP 0 rfl rfl 4 (by decide) (hts (.fieldLink RX9 69 "RangeCodesModel" "reached" "I") (List.mem_of_getElem? (i := 1) rfl)) (fun _ h9 => h9) rfl dX9_token_20 ?_
    refine lv_iconst (v := (1 : Int32)) hx hb dX9_token_23 (by decide) ?_
    refine lv_iadd hx hb dX9_token_24 ?_
    refine va_put (D := g.1) (ci := 9) (v := .int ((F 4) + (1 : Int32))) (ty := .int) (C := RX9) (T := TX9) (N := 29) hx hb hts inX9_token_9 tyX9 tyX9_ok nmX9 hown hK hP hD hS 0 rfl rfl 4 (by decide) (hts (.fieldLink RX9 69 "RangeCodesModel" "reached" "I") (List.mem_of_getElem? (i := 1) rfl)) (fun _ h9 => h9) rfl (by decide +kernel) rfl rfl (Nat.le_of_ble_eq_true rfl) dX9_token_25 (fun H locs hP hD hS => ?_)
    have hP : va_P g.1 vwCl [(qM, .inr (9, [.int (F 0), .ref q1, .ref q2, .ref q3, .int ((F 4) + (1 : Int32)), .int (F 5), .int (F 6), .int (F 7), .int (F 8), .int (F 9), .long (J 10), .int (F 11), .int (F 12), .int (F 13), .ref q4, .int (F 15), .ref q5, .ref q6, .ref q7, .int (F 19), .ref q8, .int (F 21), .int (F 22), .int (F 23), .int (F 24), .ref q9, .ref q10, .ref q11, .long (J 28)])), (q2, .inl (g.2 1, 2000, .inl tx))] H := hP
    have hD : va_D A [(qM, .inr (9, [.int (F 0), .ref q1, .ref q2, .ref q3, .int ((F 4) + (1 : Int32)), .int (F 5), .int (F 6), .int (F 7), .int (F 8), .int (F 9), .long (J 10), .int (F 11), .int (F 12), .int (F 13), .ref q4, .int (F 15), .ref q5, .ref q6, .ref q7, .int (F 19), .ref q8, .int (F 21), .int (F 22), .int (F 23), .int (F 24), .ref q9, .ref q10, .ref q11, .long (J 28)])), (q2, .inl (g.2 1, 2000, .inl tx))] := hD
    refine lv_goto (tgt := 0) hx hb dX9_token_28 (by decide) ?_
    obtain ⟨nn, hv⟩ := hv
    exact kX9_token_c0 S hr hlocks hG hA nn _ _ hv _ _ (hP.sub (ws' := [(qM, .inr (9, [.int ((upd F 4 ((F 4) + (1 : Int32))) 0), .ref q1, .ref q2, .ref q3, .int ((upd F 4 ((F 4) + (1 : Int32))) 4), .int ((upd F 4 ((F 4) + (1 : Int32))) 5), .int ((upd F 4 ((F 4) + (1 : Int32))) 6), .int ((upd F 4 ((F 4) + (1 : Int32))) 7), .int ((upd F 4 ((F 4) + (1 : Int32))) 8), .int ((upd F 4 ((F 4) + (1 : Int32))) 9), .long (J 10), .int ((upd F 4 ((F 4) + (1 : Int32))) 11), .int ((upd F 4 ((F 4) + (1 : Int32))) 12), .int ((upd F 4 ((F 4) + (1 : Int32))) 13), .ref q4, .int ((upd F 4 ((F 4) + (1 : Int32))) 15), .ref q5, .ref q6, .ref q7, .int ((upd F 4 ((F 4) + (1 : Int32))) 19), .ref q8, .int ((upd F 4 ((F 4) + (1 : Int32))) 21), .int ((upd F 4 ((F 4) + (1 : Int32))) 22), .int ((upd F 4 ((F 4) + (1 : Int32))) 23), .int ((upd F 4 ((F 4) + (1 : Int32))) 24), .ref q9, .ref q10, .ref q11, .long (J 28)])), (q2, .inl (g.2 1, 2000, .inl tx))]) [0, 1] rfl) (hD.sub (ws' := [(qM, .inr (9, [.int ((upd F 4 ((F 4) + (1 : Int32))) 0), .ref q1, .ref q2, .ref q3, .int ((upd F 4 ((F 4) + (1 : Int32))) 4), .int ((upd F 4 ((F 4) + (1 : Int32))) 5), .int ((upd F 4 ((F 4) + (1 : Int32))) 6), .int ((upd F 4 ((F 4) + (1 : Int32))) 7), .int ((upd F 4 ((F 4) + (1 : Int32))) 8), .int ((upd F 4 ((F 4) + (1 : Int32))) 9), .long (J 10), .int ((upd F 4 ((F 4) + (1 : Int32))) 11), .int ((upd F 4 ((F 4) + (1 : Int32))) 12), .int ((upd F 4 ((F 4) + (1 : Int32))) 13), .ref q4, .int ((upd F 4 ((F 4) + (1 : Int32))) 15), .ref q5, .ref q6, .ref q7, .int ((upd F 4 ((F 4) + (1 : Int32))) 19), .ref q8, .int ((upd F 4 ((F 4) + (1 : Int32))) 21), .int ((upd F 4 ((F 4) + (1 : Int32))) 22), .int ((upd F 4 ((F 4) + (1 : Int32))) 23), .int ((upd F 4 ((F 4) + (1 : Int32))) 24), .ref q9, .ref q10, .ref q11, .long (J 28)])), (q2, .inl (g.2 1, 2000, .inl tx))]) [0, 1] (by decide) rfl) hS ls (lv_sub hl [0] rfl)
  · have hv := hvf hc
    refine lv_aload_n hx hb dX9_token_9 rfl (lv_at hl 0 rfl) ?_
    obtain ⟨b_10, nb_10, i_10, ho_2, hv⟩ := hv
    refine vp_callSi (W.runV (As := []) (rest := []) S (wX9_see l g qM q1 q2 q3 q4 q5 q6 q7 q8 q9 q10 q11 F J tx (sX9_see b_10 nb_10 i_10 F J tx ho_2)) (cwV 0 hts gX9_token_X9_see rfl rfl rfl (by decide +kernel) ⟨Nat.le_of_ble_eq_true rfl, Nat.le_of_ble_eq_true rfl⟩) ⟨blindRO, va_recv hK hP (ci := 9) (q0 := 0) rfl rfl, fun U hU hW => ⟨rfl, by rw [hU]; exact hP.sub (ws' := [(qM, .inr (9, [.int (F 0), .ref q1, .ref q2, .ref q3, .int (F 4), .int (F 5), .int (F 6), .int (F 7), .int (F 8), .int (F 9), .long (J 10), .int (F 11), .int (F 12), .int (F 13), .ref q4, .int (F 15), .ref q5, .ref q6, .ref q7, .int (F 19), .ref q8, .int (F 21), .int (F 22), .int (F 23), .int (F 24), .ref q9, .ref q10, .ref q11, .long (J 28)])), (q2, .inl (g.2 1, 2000, .inl tx))]) [0, 1] rfl, hG.warm hW⟩⟩ rfl rfl hl.1 rfl (lv_room (Nat.le_of_ble_eq_true rfl)) dX9_token_10 ⟨Nat.le_of_ble_eq_true rfl, Nat.le_of_ble_eq_true rfl⟩) (fun r_10 hr_10 => ?_)
    have hv := hv r_10 hr_10
    refine lv_bipush (v := (32 : Int32)) hx hb dX9_token_13 (by decide) ?_
    obtain ⟨hvt, hvf⟩ := hv
    refine lv_icmp_ne (tgt := 31) hx hb dX9_token_15 (by decide) (fun hc => ?_) (fun hc => ?_)
    · have hv := hvt hc
      refine lv_aload_n hx hb dX9_token_31 rfl (lv_at hl 0 rfl) ?_
      refine lv_aload_n hx hb dX9_token_32 rfl (lv_at hl 0 rfl) ?_
      refine va_get (D := g.1) (ci := 9) (v := .int (F 4)) (C := RX9) (T := TX9) (N := 29) hx hb hts inX9_token_9 hown hK hP 0 rfl rfl 4 (by decide) (hts (.fieldLink RX9 69 "RangeCodesModel" "reached" "I") (List.mem_of_getElem? (i := 1) rfl)) (fun _ h9 => h9) rfl dX9_token_33 ?_
      refine va_put (D := g.1) (ci := 9) (v := .int (F 4)) (ty := .int) (C := RX9) (T := TX9) (N := 29) hx hb hts inX9_token_9 tyX9 tyX9_ok nmX9 hown hK hP hD hS 0 rfl rfl 6 (by decide) (hts (.fieldLink RX9 79 "RangeCodesModel" "begin" "I") (List.mem_of_getElem? (i := 2) rfl)) (fun _ h9 => h9) rfl (by decide +kernel) rfl rfl (Nat.le_of_ble_eq_true rfl) dX9_token_36 (fun H locs hP hD hS => ?_)
      have hP : va_P g.1 vwCl [(qM, .inr (9, [.int (F 0), .ref q1, .ref q2, .ref q3, .int (F 4), .int (F 5), .int (F 4), .int (F 7), .int (F 8), .int (F 9), .long (J 10), .int (F 11), .int (F 12), .int (F 13), .ref q4, .int (F 15), .ref q5, .ref q6, .ref q7, .int (F 19), .ref q8, .int (F 21), .int (F 22), .int (F 23), .int (F 24), .ref q9, .ref q10, .ref q11, .long (J 28)])), (q2, .inl (g.2 1, 2000, .inl tx))] H := hP
      have hD : va_D A [(qM, .inr (9, [.int (F 0), .ref q1, .ref q2, .ref q3, .int (F 4), .int (F 5), .int (F 4), .int (F 7), .int (F 8), .int (F 9), .long (J 10), .int (F 11), .int (F 12), .int (F 13), .ref q4, .int (F 15), .ref q5, .ref q6, .ref q7, .int (F 19), .ref q8, .int (F 21), .int (F 22), .int (F 23), .int (F 24), .ref q9, .ref q10, .ref q11, .long (J 28)])), (q2, .inl (g.2 1, 2000, .inl tx))] := hD
      refine lv_aload_n hx hb dX9_token_39 rfl (lv_at hl 0 rfl) ?_
      obtain ⟨b_40, nb_40, i_40, ho_3, hv⟩ := hv
      refine vp_callSi (W.runV (As := []) (rest := []) S (wX9_see l g qM q1 q2 q3 q4 q5 q6 q7 q8 q9 q10 q11 (upd F 6 (F 4)) J tx (sX9_see b_40 nb_40 i_40 (upd F 6 (F 4)) J tx ho_3)) (cwV 0 hts gX9_token_X9_see rfl rfl rfl (by decide +kernel) ⟨Nat.le_of_ble_eq_true rfl, Nat.le_of_ble_eq_true rfl⟩) ⟨blindRO, va_recv hK hP (ci := 9) (q0 := 0) rfl rfl, fun U hU hW => ⟨rfl, by rw [hU]; exact hP.sub (ws' := [(qM, .inr (9, [.int ((upd F 6 (F 4)) 0), .ref q1, .ref q2, .ref q3, .int ((upd F 6 (F 4)) 4), .int ((upd F 6 (F 4)) 5), .int ((upd F 6 (F 4)) 6), .int ((upd F 6 (F 4)) 7), .int ((upd F 6 (F 4)) 8), .int ((upd F 6 (F 4)) 9), .long (J 10), .int ((upd F 6 (F 4)) 11), .int ((upd F 6 (F 4)) 12), .int ((upd F 6 (F 4)) 13), .ref q4, .int ((upd F 6 (F 4)) 15), .ref q5, .ref q6, .ref q7, .int ((upd F 6 (F 4)) 19), .ref q8, .int ((upd F 6 (F 4)) 21), .int ((upd F 6 (F 4)) 22), .int ((upd F 6 (F 4)) 23), .int ((upd F 6 (F 4)) 24), .ref q9, .ref q10, .ref q11, .long (J 28)])), (q2, .inl (g.2 1, 2000, .inl tx))]) [0, 1] rfl, hG.warm hW⟩⟩ rfl rfl hl.1 rfl (lv_room (Nat.le_of_ble_eq_true rfl)) dX9_token_40 ⟨Nat.le_of_ble_eq_true rfl, Nat.le_of_ble_eq_true rfl⟩) (fun r_40 hr_40 => ?_)
      have hv := hv r_40 hr_40
      refine lv_istore_n (lv' := [(1, .int r_40), (0, .ref qM)]) hx hb dX9_token_43 rfl hl (by decide) rfl (fun ls hl => ?_)
      refine lv_aload_n hx hb dX9_token_44 rfl (lv_at hl 1 rfl) ?_
      refine lv_lconst (v := (0 : Int64)) hx hb dX9_token_45 (by decide) ?_
      refine va_put (D := g.1) (ci := 9) (v := .long (0 : Int64)) (ty := .long) (C := RX9) (T := TX9) (N := 29) hx hb hts inX9_token_9 tyX9 tyX9_ok nmX9 hown hK hP hD hS 0 rfl rfl 10 (by decide) (hts (.fieldLink RX9 82 "RangeCodesModel" "word" "J") (List.mem_of_getElem? (i := 3) rfl)) (fun _ h9 => h9) rfl (by decide +kernel) rfl rfl (Nat.le_of_ble_eq_true rfl) dX9_token_46 (fun H locs hP hD hS => ?_)
      have hP : va_P g.1 vwCl [(qM, .inr (9, [.int (F 0), .ref q1, .ref q2, .ref q3, .int (F 4), .int (F 5), .int (F 4), .int (F 7), .int (F 8), .int (F 9), .long (0 : Int64), .int (F 11), .int (F 12), .int (F 13), .ref q4, .int (F 15), .ref q5, .ref q6, .ref q7, .int (F 19), .ref q8, .int (F 21), .int (F 22), .int (F 23), .int (F 24), .ref q9, .ref q10, .ref q11, .long (J 28)])), (q2, .inl (g.2 1, 2000, .inl tx))] H := hP
      have hD : va_D A [(qM, .inr (9, [.int (F 0), .ref q1, .ref q2, .ref q3, .int (F 4), .int (F 5), .int (F 4), .int (F 7), .int (F 8), .int (F 9), .long (0 : Int64), .int (F 11), .int (F 12), .int (F 13), .ref q4, .int (F 15), .ref q5, .ref q6, .ref q7, .int (F 19), .ref q8, .int (F 21), .int (F 22), .int (F 23), .int (F 24), .ref q9, .ref q10, .ref q11, .long (J 28)])), (q2, .inl (g.2 1, 2000, .inl tx))] := hD
      refine lv_iconst (v := (0 : Int32)) hx hb dX9_token_49 (by decide) ?_
      refine lv_istore_n (lv' := [(2, .int (0 : Int32)), (1, .int r_40), (0, .ref qM)]) hx hb dX9_token_50 rfl hl (by decide) rfl (fun ls hl => ?_)
      refine lv_iload_n hx hb dX9_token_51 rfl (lv_at hl 1 rfl) ?_
      obtain ⟨hvt, hvf⟩ := hv
      refine lv_if_ge (tgt := 63) hx hb dX9_token_52 (by decide) (fun hc => ?_) (fun hc => ?_)
      · have hv := hvt hc
        refine lv_iload_n hx hb dX9_token_63 rfl (lv_at hl 1 rfl) ?_
        refine lv_bipush (v := (97 : Int32)) hx hb dX9_token_64 (by decide) ?_
        refine lv_bipush (v := (122 : Int32)) hx hb dX9_token_66 (by decide) ?_
        obtain ⟨ho_4, hv⟩ := hv
        refine vp_callSi (W.runS (As := [.int r_40, .int (97 : Int32), .int (122 : Int32)]) (rest := []) S (wX9_in l g r_40 (97 : Int32) (122 : Int32) (sX9_in r_40 (97 : Int32) (122 : Int32) ho_4)) (va_cwS 3 hts gX9_token_X9_in rfl rfl rfl (by decide +kernel) ⟨Nat.le_of_ble_eq_true rfl, Nat.le_of_ble_eq_true rfl⟩) ⟨blindRO, fun U hU hW => ⟨rfl, by rw [hU]; exact hP.sub (ws' := []) [] rfl, hG.warm hW⟩⟩ rfl rfl hl.1 rfl (lv_room (Nat.le_of_ble_eq_true rfl)) dX9_token_68 ⟨Nat.le_of_ble_eq_true rfl, Nat.le_of_ble_eq_true rfl⟩) (fun r_68 hr_68 => ?_)
        have hv := hv r_68 hr_68
        obtain ⟨hvt, hvf⟩ := hv
        refine lv_if_eq (tgt := 162) hx hb dX9_token_71 (by decide) (fun hc => ?_) (fun hc => ?_)
        · have hv := hvt hc
          refine lv_iload_n hx hb dX9_token_162 rfl (lv_at hl 1 rfl) ?_
          refine lv_bipush (v := (48 : Int32)) hx hb dX9_token_163 (by decide) ?_
          refine lv_bipush (v := (57 : Int32)) hx hb dX9_token_165 (by decide) ?_
          obtain ⟨ho_5, hv⟩ := hv
          refine vp_callSi (W.runS (As := [.int r_40, .int (48 : Int32), .int (57 : Int32)]) (rest := []) S (wX9_in l g r_40 (48 : Int32) (57 : Int32) (sX9_in r_40 (48 : Int32) (57 : Int32) ho_5)) (va_cwS 3 hts gX9_token_X9_in rfl rfl rfl (by decide +kernel) ⟨Nat.le_of_ble_eq_true rfl, Nat.le_of_ble_eq_true rfl⟩) ⟨blindRO, fun U hU hW => ⟨rfl, by rw [hU]; exact hP.sub (ws' := []) [] rfl, hG.warm hW⟩⟩ rfl rfl hl.1 rfl (lv_room (Nat.le_of_ble_eq_true rfl)) dX9_token_167 ⟨Nat.le_of_ble_eq_true rfl, Nat.le_of_ble_eq_true rfl⟩) (fun r_167 hr_167 => ?_)
          have hv := hv r_167 hr_167
          obtain ⟨hvt, hvf⟩ := hv
          refine lv_if_eq (tgt := 256) hx hb dX9_token_170 (by decide) (fun hc => ?_) (fun hc => ?_)
          · have hv := hvt hc
            refine lv_aload_n hx hb dX9_token_256 rfl (lv_at hl 2 rfl) ?_
            refine lv_dup hx hb dX9_token_257 rfl ?_
            refine va_get (D := g.1) (ci := 9) (v := .int (F 4)) (C := RX9) (T := TX9) (N := 29) hx hb hts inX9_token_9 hown hK hP 0 rfl rfl 4 (by decide) (hts (.fieldLink RX9 69 "RangeCodesModel" "reached" "I") (List.mem_of_getElem? (i := 1) rfl)) (fun _ h9 => h9) rfl dX9_token_258 ?_
            refine lv_iconst (v := (1 : Int32)) hx hb dX9_token_261 (by decide) ?_
            refine lv_iadd hx hb dX9_token_262 ?_
            refine va_put (D := g.1) (ci := 9) (v := .int ((F 4) + (1 : Int32))) (ty := .int) (C := RX9) (T := TX9) (N := 29) hx hb hts inX9_token_9 tyX9 tyX9_ok nmX9 hown hK hP hD hS 0 rfl rfl 4 (by decide) (hts (.fieldLink RX9 69 "RangeCodesModel" "reached" "I") (List.mem_of_getElem? (i := 1) rfl)) (fun _ h9 => h9) rfl (by decide +kernel) rfl rfl (Nat.le_of_ble_eq_true rfl) dX9_token_263 (fun H locs hP hD hS => ?_)
            have hP : va_P g.1 vwCl [(qM, .inr (9, [.int (F 0), .ref q1, .ref q2, .ref q3, .int ((F 4) + (1 : Int32)), .int (F 5), .int (F 4), .int (F 7), .int (F 8), .int (F 9), .long (0 : Int64), .int (F 11), .int (F 12), .int (F 13), .ref q4, .int (F 15), .ref q5, .ref q6, .ref q7, .int (F 19), .ref q8, .int (F 21), .int (F 22), .int (F 23), .int (F 24), .ref q9, .ref q10, .ref q11, .long (J 28)])), (q2, .inl (g.2 1, 2000, .inl tx))] H := hP
            have hD : va_D A [(qM, .inr (9, [.int (F 0), .ref q1, .ref q2, .ref q3, .int ((F 4) + (1 : Int32)), .int (F 5), .int (F 4), .int (F 7), .int (F 8), .int (F 9), .long (0 : Int64), .int (F 11), .int (F 12), .int (F 13), .ref q4, .int (F 15), .ref q5, .ref q6, .ref q7, .int (F 19), .ref q8, .int (F 21), .int (F 22), .int (F 23), .int (F 24), .ref q9, .ref q10, .ref q11, .long (J 28)])), (q2, .inl (g.2 1, 2000, .inl tx))] := hD
            refine lv_aload_n hx hb dX9_token_266 rfl (lv_at hl 2 rfl) ?_
            refine lv_iload_n hx hb dX9_token_267 rfl (lv_at hl 1 rfl) ?_
            refine lv_bipush (v := (59 : Int32)) hx hb dX9_token_268 (by decide) ?_
            obtain ⟨hvt, hvf⟩ := hv
            refine lv_icmp_ne (tgt := 277) hx hb dX9_token_270 (by decide) (fun hc => ?_) (fun hc => ?_)
            · have hv := hvt hc
              refine lv_iconst (v := (1 : Int32)) hx hb dX9_token_277 (by decide) ?_
              refine va_put (D := g.1) (ci := 9) (v := .int (1 : Int32)) (ty := .int) (C := RX9) (T := TX9) (N := 29) hx hb hts inX9_token_9 tyX9 tyX9_ok nmX9 hown hK hP hD hS 0 rfl rfl 7 (by decide) (hts (.fieldLink RX9 86 "RangeCodesModel" "sort" "I") (List.mem_of_getElem? (i := 4) rfl)) (fun _ h9 => h9) rfl (by decide +kernel) rfl rfl (Nat.le_of_ble_eq_true rfl) dX9_token_278 (fun H locs hP hD hS => ?_)
              have hP : va_P g.1 vwCl [(qM, .inr (9, [.int (F 0), .ref q1, .ref q2, .ref q3, .int ((F 4) + (1 : Int32)), .int (F 5), .int (F 4), .int (1 : Int32), .int (F 8), .int (F 9), .long (0 : Int64), .int (F 11), .int (F 12), .int (F 13), .ref q4, .int (F 15), .ref q5, .ref q6, .ref q7, .int (F 19), .ref q8, .int (F 21), .int (F 22), .int (F 23), .int (F 24), .ref q9, .ref q10, .ref q11, .long (J 28)])), (q2, .inl (g.2 1, 2000, .inl tx))] H := hP
              have hD : va_D A [(qM, .inr (9, [.int (F 0), .ref q1, .ref q2, .ref q3, .int ((F 4) + (1 : Int32)), .int (F 5), .int (F 4), .int (1 : Int32), .int (F 8), .int (F 9), .long (0 : Int64), .int (F 11), .int (F 12), .int (F 13), .ref q4, .int (F 15), .ref q5, .ref q6, .ref q7, .int (F 19), .ref q8, .int (F 21), .int (F 22), .int (F 23), .int (F 24), .ref q9, .ref q10, .ref q11, .long (J 28)])), (q2, .inl (g.2 1, 2000, .inl tx))] := hD
              have hP9 := hP.sub (ws' := [(qM, .inr (9, [.int ((upd (upd (upd F 4 ((F 4) + (1 : Int32))) 6 (F 4)) 7 (1 : Int32)) 0), .ref q1, .ref q2, .ref q3, .int ((upd (upd (upd F 4 ((F 4) + (1 : Int32))) 6 (F 4)) 7 (1 : Int32)) 4), .int ((upd (upd (upd F 4 ((F 4) + (1 : Int32))) 6 (F 4)) 7 (1 : Int32)) 5), .int ((upd (upd (upd F 4 ((F 4) + (1 : Int32))) 6 (F 4)) 7 (1 : Int32)) 6), .int ((upd (upd (upd F 4 ((F 4) + (1 : Int32))) 6 (F 4)) 7 (1 : Int32)) 7), .int ((upd (upd (upd F 4 ((F 4) + (1 : Int32))) 6 (F 4)) 7 (1 : Int32)) 8), .int ((upd (upd (upd F 4 ((F 4) + (1 : Int32))) 6 (F 4)) 7 (1 : Int32)) 9), .long ((vp_updL J 10 (0 : Int64)) 10), .int ((upd (upd (upd F 4 ((F 4) + (1 : Int32))) 6 (F 4)) 7 (1 : Int32)) 11), .int ((upd (upd (upd F 4 ((F 4) + (1 : Int32))) 6 (F 4)) 7 (1 : Int32)) 12), .int ((upd (upd (upd F 4 ((F 4) + (1 : Int32))) 6 (F 4)) 7 (1 : Int32)) 13), .ref q4, .int ((upd (upd (upd F 4 ((F 4) + (1 : Int32))) 6 (F 4)) 7 (1 : Int32)) 15), .ref q5, .ref q6, .ref q7, .int ((upd (upd (upd F 4 ((F 4) + (1 : Int32))) 6 (F 4)) 7 (1 : Int32)) 19), .ref q8, .int ((upd (upd (upd F 4 ((F 4) + (1 : Int32))) 6 (F 4)) 7 (1 : Int32)) 21), .int ((upd (upd (upd F 4 ((F 4) + (1 : Int32))) 6 (F 4)) 7 (1 : Int32)) 22), .int ((upd (upd (upd F 4 ((F 4) + (1 : Int32))) 6 (F 4)) 7 (1 : Int32)) 23), .int ((upd (upd (upd F 4 ((F 4) + (1 : Int32))) 6 (F 4)) 7 (1 : Int32)) 24), .ref q9, .ref q10, .ref q11, .long ((vp_updL J 10 (0 : Int64)) 28)])), (q2, .inl (g.2 1, 2000, .inl tx))]) [0, 1] rfl
              have hD9 := hD.sub (ws' := [(qM, .inr (9, [.int ((upd (upd (upd F 4 ((F 4) + (1 : Int32))) 6 (F 4)) 7 (1 : Int32)) 0), .ref q1, .ref q2, .ref q3, .int ((upd (upd (upd F 4 ((F 4) + (1 : Int32))) 6 (F 4)) 7 (1 : Int32)) 4), .int ((upd (upd (upd F 4 ((F 4) + (1 : Int32))) 6 (F 4)) 7 (1 : Int32)) 5), .int ((upd (upd (upd F 4 ((F 4) + (1 : Int32))) 6 (F 4)) 7 (1 : Int32)) 6), .int ((upd (upd (upd F 4 ((F 4) + (1 : Int32))) 6 (F 4)) 7 (1 : Int32)) 7), .int ((upd (upd (upd F 4 ((F 4) + (1 : Int32))) 6 (F 4)) 7 (1 : Int32)) 8), .int ((upd (upd (upd F 4 ((F 4) + (1 : Int32))) 6 (F 4)) 7 (1 : Int32)) 9), .long ((vp_updL J 10 (0 : Int64)) 10), .int ((upd (upd (upd F 4 ((F 4) + (1 : Int32))) 6 (F 4)) 7 (1 : Int32)) 11), .int ((upd (upd (upd F 4 ((F 4) + (1 : Int32))) 6 (F 4)) 7 (1 : Int32)) 12), .int ((upd (upd (upd F 4 ((F 4) + (1 : Int32))) 6 (F 4)) 7 (1 : Int32)) 13), .ref q4, .int ((upd (upd (upd F 4 ((F 4) + (1 : Int32))) 6 (F 4)) 7 (1 : Int32)) 15), .ref q5, .ref q6, .ref q7, .int ((upd (upd (upd F 4 ((F 4) + (1 : Int32))) 6 (F 4)) 7 (1 : Int32)) 19), .ref q8, .int ((upd (upd (upd F 4 ((F 4) + (1 : Int32))) 6 (F 4)) 7 (1 : Int32)) 21), .int ((upd (upd (upd F 4 ((F 4) + (1 : Int32))) 6 (F 4)) 7 (1 : Int32)) 22), .int ((upd (upd (upd F 4 ((F 4) + (1 : Int32))) 6 (F 4)) 7 (1 : Int32)) 23), .int ((upd (upd (upd F 4 ((F 4) + (1 : Int32))) 6 (F 4)) 7 (1 : Int32)) 24), .ref q9, .ref q10, .ref q11, .long ((vp_updL J 10 (0 : Int64)) 28)])), (q2, .inl (g.2 1, 2000, .inl tx))]) [0, 1] (by decide) rfl
              exact W.vret hx hb hr (fun t ht hW => ⟨⟨((upd (upd (upd F 4 ((F 4) + (1 : Int32))) 6 (F 4)) 7 (1 : Int32)), (vp_updL J 10 (0 : Int64))), rfl, hv, by rw [ht]; exact hP9, hD9⟩, hS.F ht⟩) hS.2.2 dX9_token_281
            · have hv := hvf hc
              refine lv_iconst (v := (4 : Int32)) hx hb dX9_token_273 (by decide) ?_
              refine lv_goto (tgt := 278) hx hb dX9_token_274 (by decide) ?_
              refine va_put (D := g.1) (ci := 9) (v := .int (4 : Int32)) (ty := .int) (C := RX9) (T := TX9) (N := 29) hx hb hts inX9_token_9 tyX9 tyX9_ok nmX9 hown hK hP hD hS 0 rfl rfl 7 (by decide) (hts (.fieldLink RX9 86 "RangeCodesModel" "sort" "I") (List.mem_of_getElem? (i := 4) rfl)) (fun _ h9 => h9) rfl (by decide +kernel) rfl rfl (Nat.le_of_ble_eq_true rfl) dX9_token_278 (fun H locs hP hD hS => ?_)
              have hP : va_P g.1 vwCl [(qM, .inr (9, [.int (F 0), .ref q1, .ref q2, .ref q3, .int ((F 4) + (1 : Int32)), .int (F 5), .int (F 4), .int (4 : Int32), .int (F 8), .int (F 9), .long (0 : Int64), .int (F 11), .int (F 12), .int (F 13), .ref q4, .int (F 15), .ref q5, .ref q6, .ref q7, .int (F 19), .ref q8, .int (F 21), .int (F 22), .int (F 23), .int (F 24), .ref q9, .ref q10, .ref q11, .long (J 28)])), (q2, .inl (g.2 1, 2000, .inl tx))] H := hP
              have hD : va_D A [(qM, .inr (9, [.int (F 0), .ref q1, .ref q2, .ref q3, .int ((F 4) + (1 : Int32)), .int (F 5), .int (F 4), .int (4 : Int32), .int (F 8), .int (F 9), .long (0 : Int64), .int (F 11), .int (F 12), .int (F 13), .ref q4, .int (F 15), .ref q5, .ref q6, .ref q7, .int (F 19), .ref q8, .int (F 21), .int (F 22), .int (F 23), .int (F 24), .ref q9, .ref q10, .ref q11, .long (J 28)])), (q2, .inl (g.2 1, 2000, .inl tx))] := hD
              have hP9 := hP.sub (ws' := [(qM, .inr (9, [.int ((upd (upd (upd F 4 ((F 4) + (1 : Int32))) 6 (F 4)) 7 (4 : Int32)) 0), .ref q1, .ref q2, .ref q3, .int ((upd (upd (upd F 4 ((F 4) + (1 : Int32))) 6 (F 4)) 7 (4 : Int32)) 4), .int ((upd (upd (upd F 4 ((F 4) + (1 : Int32))) 6 (F 4)) 7 (4 : Int32)) 5), .int ((upd (upd (upd F 4 ((F 4) + (1 : Int32))) 6 (F 4)) 7 (4 : Int32)) 6), .int ((upd (upd (upd F 4 ((F 4) + (1 : Int32))) 6 (F 4)) 7 (4 : Int32)) 7), .int ((upd (upd (upd F 4 ((F 4) + (1 : Int32))) 6 (F 4)) 7 (4 : Int32)) 8), .int ((upd (upd (upd F 4 ((F 4) + (1 : Int32))) 6 (F 4)) 7 (4 : Int32)) 9), .long ((vp_updL J 10 (0 : Int64)) 10), .int ((upd (upd (upd F 4 ((F 4) + (1 : Int32))) 6 (F 4)) 7 (4 : Int32)) 11), .int ((upd (upd (upd F 4 ((F 4) + (1 : Int32))) 6 (F 4)) 7 (4 : Int32)) 12), .int ((upd (upd (upd F 4 ((F 4) + (1 : Int32))) 6 (F 4)) 7 (4 : Int32)) 13), .ref q4, .int ((upd (upd (upd F 4 ((F 4) + (1 : Int32))) 6 (F 4)) 7 (4 : Int32)) 15), .ref q5, .ref q6, .ref q7, .int ((upd (upd (upd F 4 ((F 4) + (1 : Int32))) 6 (F 4)) 7 (4 : Int32)) 19), .ref q8, .int ((upd (upd (upd F 4 ((F 4) + (1 : Int32))) 6 (F 4)) 7 (4 : Int32)) 21), .int ((upd (upd (upd F 4 ((F 4) + (1 : Int32))) 6 (F 4)) 7 (4 : Int32)) 22), .int ((upd (upd (upd F 4 ((F 4) + (1 : Int32))) 6 (F 4)) 7 (4 : Int32)) 23), .int ((upd (upd (upd F 4 ((F 4) + (1 : Int32))) 6 (F 4)) 7 (4 : Int32)) 24), .ref q9, .ref q10, .ref q11, .long ((vp_updL J 10 (0 : Int64)) 28)])), (q2, .inl (g.2 1, 2000, .inl tx))]) [0, 1] rfl
              have hD9 := hD.sub (ws' := [(qM, .inr (9, [.int ((upd (upd (upd F 4 ((F 4) + (1 : Int32))) 6 (F 4)) 7 (4 : Int32)) 0), .ref q1, .ref q2, .ref q3, .int ((upd (upd (upd F 4 ((F 4) + (1 : Int32))) 6 (F 4)) 7 (4 : Int32)) 4), .int ((upd (upd (upd F 4 ((F 4) + (1 : Int32))) 6 (F 4)) 7 (4 : Int32)) 5), .int ((upd (upd (upd F 4 ((F 4) + (1 : Int32))) 6 (F 4)) 7 (4 : Int32)) 6), .int ((upd (upd (upd F 4 ((F 4) + (1 : Int32))) 6 (F 4)) 7 (4 : Int32)) 7), .int ((upd (upd (upd F 4 ((F 4) + (1 : Int32))) 6 (F 4)) 7 (4 : Int32)) 8), .int ((upd (upd (upd F 4 ((F 4) + (1 : Int32))) 6 (F 4)) 7 (4 : Int32)) 9), .long ((vp_updL J 10 (0 : Int64)) 10), .int ((upd (upd (upd F 4 ((F 4) + (1 : Int32))) 6 (F 4)) 7 (4 : Int32)) 11), .int ((upd (upd (upd F 4 ((F 4) + (1 : Int32))) 6 (F 4)) 7 (4 : Int32)) 12), .int ((upd (upd (upd F 4 ((F 4) + (1 : Int32))) 6 (F 4)) 7 (4 : Int32)) 13), .ref q4, .int ((upd (upd (upd F 4 ((F 4) + (1 : Int32))) 6 (F 4)) 7 (4 : Int32)) 15), .ref q5, .ref q6, .ref q7, .int ((upd (upd (upd F 4 ((F 4) + (1 : Int32))) 6 (F 4)) 7 (4 : Int32)) 19), .ref q8, .int ((upd (upd (upd F 4 ((F 4) + (1 : Int32))) 6 (F 4)) 7 (4 : Int32)) 21), .int ((upd (upd (upd F 4 ((F 4) + (1 : Int32))) 6 (F 4)) 7 (4 : Int32)) 22), .int ((upd (upd (upd F 4 ((F 4) + (1 : Int32))) 6 (F 4)) 7 (4 : Int32)) 23), .int ((upd (upd (upd F 4 ((F 4) + (1 : Int32))) 6 (F 4)) 7 (4 : Int32)) 24), .ref q9, .ref q10, .ref q11, .long ((vp_updL J 10 (0 : Int64)) 28)])), (q2, .inl (g.2 1, 2000, .inl tx))]) [0, 1] (by decide) rfl
              exact W.vret hx hb hr (fun t ht hW => ⟨⟨((upd (upd (upd F 4 ((F 4) + (1 : Int32))) 6 (F 4)) 7 (4 : Int32)), (vp_updL J 10 (0 : Int64))), rfl, hv, by rw [ht]; exact hP9, hD9⟩, hS.F ht⟩) hS.2.2 dX9_token_281
          · have hv := hvf hc
            refine lv_aload_n hx hb dX9_token_173 rfl (lv_at hl 2 rfl) ?_
            refine lv_iconst (v := (0 : Int32)) hx hb dX9_token_174 (by decide) ?_
            refine va_put (D := g.1) (ci := 9) (v := .int (0 : Int32)) (ty := .int) (C := RX9) (T := TX9) (N := 29) hx hb hts inX9_token_9 tyX9 tyX9_ok nmX9 hown hK hP hD hS 0 rfl rfl 8 (by decide) (hts (.fieldLink RX9 92 "RangeCodesModel" "value" "I") (List.mem_of_getElem? (i := 6) rfl)) (fun _ h9 => h9) rfl (by decide +kernel) rfl rfl (Nat.le_of_ble_eq_true rfl) dX9_token_175 (fun H locs hP hD hS => ?_)
            have hP : va_P g.1 vwCl [(qM, .inr (9, [.int (F 0), .ref q1, .ref q2, .ref q3, .int (F 4), .int (F 5), .int (F 4), .int (F 7), .int (0 : Int32), .int (F 9), .long (0 : Int64), .int (F 11), .int (F 12), .int (F 13), .ref q4, .int (F 15), .ref q5, .ref q6, .ref q7, .int (F 19), .ref q8, .int (F 21), .int (F 22), .int (F 23), .int (F 24), .ref q9, .ref q10, .ref q11, .long (J 28)])), (q2, .inl (g.2 1, 2000, .inl tx))] H := hP
            have hD : va_D A [(qM, .inr (9, [.int (F 0), .ref q1, .ref q2, .ref q3, .int (F 4), .int (F 5), .int (F 4), .int (F 7), .int (0 : Int32), .int (F 9), .long (0 : Int64), .int (F 11), .int (F 12), .int (F 13), .ref q4, .int (F 15), .ref q5, .ref q6, .ref q7, .int (F 19), .ref q8, .int (F 21), .int (F 22), .int (F 23), .int (F 24), .ref q9, .ref q10, .ref q11, .long (J 28)])), (q2, .inl (g.2 1, 2000, .inl tx))] := hD
            obtain ⟨nn, hv⟩ := hv
            exact kX9_token_c178 S hr hlocks hG hA nn _ _ _ hv _ _ (hP.sub (ws' := [(qM, .inr (9, [.int ((upd (upd F 6 (F 4)) 8 (0 : Int32)) 0), .ref q1, .ref q2, .ref q3, .int ((upd (upd F 6 (F 4)) 8 (0 : Int32)) 4), .int ((upd (upd F 6 (F 4)) 8 (0 : Int32)) 5), .int ((upd (upd F 6 (F 4)) 8 (0 : Int32)) 6), .int ((upd (upd F 6 (F 4)) 8 (0 : Int32)) 7), .int ((upd (upd F 6 (F 4)) 8 (0 : Int32)) 8), .int ((upd (upd F 6 (F 4)) 8 (0 : Int32)) 9), .long ((vp_updL J 10 (0 : Int64)) 10), .int ((upd (upd F 6 (F 4)) 8 (0 : Int32)) 11), .int ((upd (upd F 6 (F 4)) 8 (0 : Int32)) 12), .int ((upd (upd F 6 (F 4)) 8 (0 : Int32)) 13), .ref q4, .int ((upd (upd F 6 (F 4)) 8 (0 : Int32)) 15), .ref q5, .ref q6, .ref q7, .int ((upd (upd F 6 (F 4)) 8 (0 : Int32)) 19), .ref q8, .int ((upd (upd F 6 (F 4)) 8 (0 : Int32)) 21), .int ((upd (upd F 6 (F 4)) 8 (0 : Int32)) 22), .int ((upd (upd F 6 (F 4)) 8 (0 : Int32)) 23), .int ((upd (upd F 6 (F 4)) 8 (0 : Int32)) 24), .ref q9, .ref q10, .ref q11, .long ((vp_updL J 10 (0 : Int64)) 28)])), (q2, .inl (g.2 1, 2000, .inl tx))]) [0, 1] rfl) (hD.sub (ws' := [(qM, .inr (9, [.int ((upd (upd F 6 (F 4)) 8 (0 : Int32)) 0), .ref q1, .ref q2, .ref q3, .int ((upd (upd F 6 (F 4)) 8 (0 : Int32)) 4), .int ((upd (upd F 6 (F 4)) 8 (0 : Int32)) 5), .int ((upd (upd F 6 (F 4)) 8 (0 : Int32)) 6), .int ((upd (upd F 6 (F 4)) 8 (0 : Int32)) 7), .int ((upd (upd F 6 (F 4)) 8 (0 : Int32)) 8), .int ((upd (upd F 6 (F 4)) 8 (0 : Int32)) 9), .long ((vp_updL J 10 (0 : Int64)) 10), .int ((upd (upd F 6 (F 4)) 8 (0 : Int32)) 11), .int ((upd (upd F 6 (F 4)) 8 (0 : Int32)) 12), .int ((upd (upd F 6 (F 4)) 8 (0 : Int32)) 13), .ref q4, .int ((upd (upd F 6 (F 4)) 8 (0 : Int32)) 15), .ref q5, .ref q6, .ref q7, .int ((upd (upd F 6 (F 4)) 8 (0 : Int32)) 19), .ref q8, .int ((upd (upd F 6 (F 4)) 8 (0 : Int32)) 21), .int ((upd (upd F 6 (F 4)) 8 (0 : Int32)) 22), .int ((upd (upd F 6 (F 4)) 8 (0 : Int32)) 23), .int ((upd (upd F 6 (F 4)) 8 (0 : Int32)) 24), .ref q9, .ref q10, .ref q11, .long ((vp_updL J 10 (0 : Int64)) 28)])), (q2, .inl (g.2 1, 2000, .inl tx))]) [0, 1] (by decide) rfl) hS ls (lv_sub hl [2, 0] rfl)
        · have hv := hvf hc
          obtain ⟨nn, hv⟩ := hv
          exact kX9_token_c74 S hr hlocks hG hA nn _ _ _ hv _ _ (hP.sub (ws' := [(qM, .inr (9, [.int ((upd F 6 (F 4)) 0), .ref q1, .ref q2, .ref q3, .int ((upd F 6 (F 4)) 4), .int ((upd F 6 (F 4)) 5), .int ((upd F 6 (F 4)) 6), .int ((upd F 6 (F 4)) 7), .int ((upd F 6 (F 4)) 8), .int ((upd F 6 (F 4)) 9), .long ((vp_updL J 10 (0 : Int64)) 10), .int ((upd F 6 (F 4)) 11), .int ((upd F 6 (F 4)) 12), .int ((upd F 6 (F 4)) 13), .ref q4, .int ((upd F 6 (F 4)) 15), .ref q5, .ref q6, .ref q7, .int ((upd F 6 (F 4)) 19), .ref q8, .int ((upd F 6 (F 4)) 21), .int ((upd F 6 (F 4)) 22), .int ((upd F 6 (F 4)) 23), .int ((upd F 6 (F 4)) 24), .ref q9, .ref q10, .ref q11, .long ((vp_updL J 10 (0 : Int64)) 28)])), (q2, .inl (g.2 1, 2000, .inl tx))]) [0, 1] rfl) (hD.sub (ws' := [(qM, .inr (9, [.int ((upd F 6 (F 4)) 0), .ref q1, .ref q2, .ref q3, .int ((upd F 6 (F 4)) 4), .int ((upd F 6 (F 4)) 5), .int ((upd F 6 (F 4)) 6), .int ((upd F 6 (F 4)) 7), .int ((upd F 6 (F 4)) 8), .int ((upd F 6 (F 4)) 9), .long ((vp_updL J 10 (0 : Int64)) 10), .int ((upd F 6 (F 4)) 11), .int ((upd F 6 (F 4)) 12), .int ((upd F 6 (F 4)) 13), .ref q4, .int ((upd F 6 (F 4)) 15), .ref q5, .ref q6, .ref q7, .int ((upd F 6 (F 4)) 19), .ref q8, .int ((upd F 6 (F 4)) 21), .int ((upd F 6 (F 4)) 22), .int ((upd F 6 (F 4)) 23), .int ((upd F 6 (F 4)) 24), .ref q9, .ref q10, .ref q11, .long ((vp_updL J 10 (0 : Int64)) 28)])), (q2, .inl (g.2 1, 2000, .inl tx))]) [0, 1] (by decide) rfl) hS ls (lv_sub hl [2, 0] rfl)
      · have hv := hvf hc
        refine lv_aload_n hx hb dX9_token_55 rfl (lv_at hl 2 rfl) ?_
        refine lv_iconst (v := (0 : Int32)) hx hb dX9_token_56 (by decide) ?_
        refine va_put (D := g.1) (ci := 9) (v := .int (0 : Int32)) (ty := .int) (C := RX9) (T := TX9) (N := 29) hx hb hts inX9_token_9 tyX9 tyX9_ok nmX9 hown hK hP hD hS 0 rfl rfl 7 (by decide) (hts (.fieldLink RX9 86 "RangeCodesModel" "sort" "I") (List.mem_of_getElem? (i := 4) rfl)) (fun _ h9 => h9) rfl (by decide +kernel) rfl rfl (Nat.le_of_ble_eq_true rfl) dX9_token_57 (fun H locs hP hD hS => ?_)
        have hP : va_P g.1 vwCl [(qM, .inr (9, [.int (F 0), .ref q1, .ref q2, .ref q3, .int (F 4), .int (F 5), .int (F 4), .int (0 : Int32), .int (F 8), .int (F 9), .long (0 : Int64), .int (F 11), .int (F 12), .int (F 13), .ref q4, .int (F 15), .ref q5, .ref q6, .ref q7, .int (F 19), .ref q8, .int (F 21), .int (F 22), .int (F 23), .int (F 24), .ref q9, .ref q10, .ref q11, .long (J 28)])), (q2, .inl (g.2 1, 2000, .inl tx))] H := hP
        have hD : va_D A [(qM, .inr (9, [.int (F 0), .ref q1, .ref q2, .ref q3, .int (F 4), .int (F 5), .int (F 4), .int (0 : Int32), .int (F 8), .int (F 9), .long (0 : Int64), .int (F 11), .int (F 12), .int (F 13), .ref q4, .int (F 15), .ref q5, .ref q6, .ref q7, .int (F 19), .ref q8, .int (F 21), .int (F 22), .int (F 23), .int (F 24), .ref q9, .ref q10, .ref q11, .long (J 28)])), (q2, .inl (g.2 1, 2000, .inl tx))] := hD
        refine lv_goto (tgt := 281) hx hb dX9_token_60 (by decide) ?_
        have hP9 := hP.sub (ws' := [(qM, .inr (9, [.int ((upd (upd F 6 (F 4)) 7 (0 : Int32)) 0), .ref q1, .ref q2, .ref q3, .int ((upd (upd F 6 (F 4)) 7 (0 : Int32)) 4), .int ((upd (upd F 6 (F 4)) 7 (0 : Int32)) 5), .int ((upd (upd F 6 (F 4)) 7 (0 : Int32)) 6), .int ((upd (upd F 6 (F 4)) 7 (0 : Int32)) 7), .int ((upd (upd F 6 (F 4)) 7 (0 : Int32)) 8), .int ((upd (upd F 6 (F 4)) 7 (0 : Int32)) 9), .long ((vp_updL J 10 (0 : Int64)) 10), .int ((upd (upd F 6 (F 4)) 7 (0 : Int32)) 11), .int ((upd (upd F 6 (F 4)) 7 (0 : Int32)) 12), .int ((upd (upd F 6 (F 4)) 7 (0 : Int32)) 13), .ref q4, .int ((upd (upd F 6 (F 4)) 7 (0 : Int32)) 15), .ref q5, .ref q6, .ref q7, .int ((upd (upd F 6 (F 4)) 7 (0 : Int32)) 19), .ref q8, .int ((upd (upd F 6 (F 4)) 7 (0 : Int32)) 21), .int ((upd (upd F 6 (F 4)) 7 (0 : Int32)) 22), .int ((upd (upd F 6 (F 4)) 7 (0 : Int32)) 23), .int ((upd (upd F 6 (F 4)) 7 (0 : Int32)) 24), .ref q9, .ref q10, .ref q11, .long ((vp_updL J 10 (0 : Int64)) 28)])), (q2, .inl (g.2 1, 2000, .inl tx))]) [0, 1] rfl
        have hD9 := hD.sub (ws' := [(qM, .inr (9, [.int ((upd (upd F 6 (F 4)) 7 (0 : Int32)) 0), .ref q1, .ref q2, .ref q3, .int ((upd (upd F 6 (F 4)) 7 (0 : Int32)) 4), .int ((upd (upd F 6 (F 4)) 7 (0 : Int32)) 5), .int ((upd (upd F 6 (F 4)) 7 (0 : Int32)) 6), .int ((upd (upd F 6 (F 4)) 7 (0 : Int32)) 7), .int ((upd (upd F 6 (F 4)) 7 (0 : Int32)) 8), .int ((upd (upd F 6 (F 4)) 7 (0 : Int32)) 9), .long ((vp_updL J 10 (0 : Int64)) 10), .int ((upd (upd F 6 (F 4)) 7 (0 : Int32)) 11), .int ((upd (upd F 6 (F 4)) 7 (0 : Int32)) 12), .int ((upd (upd F 6 (F 4)) 7 (0 : Int32)) 13), .ref q4, .int ((upd (upd F 6 (F 4)) 7 (0 : Int32)) 15), .ref q5, .ref q6, .ref q7, .int ((upd (upd F 6 (F 4)) 7 (0 : Int32)) 19), .ref q8, .int ((upd (upd F 6 (F 4)) 7 (0 : Int32)) 21), .int ((upd (upd F 6 (F 4)) 7 (0 : Int32)) 22), .int ((upd (upd F 6 (F 4)) 7 (0 : Int32)) 23), .int ((upd (upd F 6 (F 4)) 7 (0 : Int32)) 24), .ref q9, .ref q10, .ref q11, .long ((vp_updL J 10 (0 : Int64)) 28)])), (q2, .inl (g.2 1, 2000, .inl tx))]) [0, 1] (by decide) rfl
        exact W.vret hx hb hr (fun t ht hW => ⟨⟨((upd (upd F 6 (F 4)) 7 (0 : Int32)), (vp_updL J 10 (0 : Int64))), rfl, hv, by rw [ht]; exact hP9, hD9⟩, hS.F ht⟩) hS.2.2 dX9_token_281
    · have hv := hvf hc
      refine lv_aload_n hx hb dX9_token_18 rfl (lv_at hl 0 rfl) ?_
      refine lv_dup hx hb dX9_token_19 rfl ?_
      refine va_get (D := g.1) (ci := 9) (v := .int (F 4)) (C := RX9) (T := TX9) (N := 29) hx hb hts inX9_token_9 hown hK hP 0 rfl rfl 4 (by decide) (hts (.fieldLink RX9 69 "RangeCodesModel" "reached" "I") (List.mem_of_getElem? (i := 1) rfl)) (fun _ h9 => h9) rfl dX9_token_20 ?_
      refine lv_iconst (v := (1 : Int32)) hx hb dX9_token_23 (by decide) ?_
      refine lv_iadd hx hb dX9_token_24 ?_
      refine va_put (D := g.1) (ci := 9) (v := .int ((F 4) + (1 : Int32))) (ty := .int) (C := RX9) (T := TX9) (N := 29) hx hb hts inX9_token_9 tyX9 tyX9_ok nmX9 hown hK hP hD hS 0 rfl rfl 4 (by decide) (hts (.fieldLink RX9 69 "RangeCodesModel" "reached" "I") (List.mem_of_getElem? (i := 1) rfl)) (fun _ h9 => h9) rfl (by decide +kernel) rfl rfl (Nat.le_of_ble_eq_true rfl) dX9_token_25 (fun H locs hP hD hS => ?_)
      have hP : va_P g.1 vwCl [(qM, .inr (9, [.int (F 0), .ref q1, .ref q2, .ref q3, .int ((F 4) + (1 : Int32)), .int (F 5), .int (F 6), .int (F 7), .int (F 8), .int (F 9), .long (J 10), .int (F 11), .int (F 12), .int (F 13), .ref q4, .int (F 15), .ref q5, .ref q6, .ref q7, .int (F 19), .ref q8, .int (F 21), .int (F 22), .int (F 23), .int (F 24), .ref q9, .ref q10, .ref q11, .long (J 28)])), (q2, .inl (g.2 1, 2000, .inl tx))] H := hP
      have hD : va_D A [(qM, .inr (9, [.int (F 0), .ref q1, .ref q2, .ref q3, .int ((F 4) + (1 : Int32)), .int (F 5), .int (F 6), .int (F 7), .int (F 8), .int (F 9), .long (J 10), .int (F 11), .int (F 12), .int (F 13), .ref q4, .int (F 15), .ref q5, .ref q6, .ref q7, .int (F 19), .ref q8, .int (F 21), .int (F 22), .int (F 23), .int (F 24), .ref q9, .ref q10, .ref q11, .long (J 28)])), (q2, .inl (g.2 1, 2000, .inl tx))] := hD
      refine lv_goto (tgt := 0) hx hb dX9_token_28 (by decide) ?_
      obtain ⟨nn, hv⟩ := hv
      exact kX9_token_c0 S hr hlocks hG hA nn _ _ hv _ _ (hP.sub (ws' := [(qM, .inr (9, [.int ((upd F 4 ((F 4) + (1 : Int32))) 0), .ref q1, .ref q2, .ref q3, .int ((upd F 4 ((F 4) + (1 : Int32))) 4), .int ((upd F 4 ((F 4) + (1 : Int32))) 5), .int ((upd F 4 ((F 4) + (1 : Int32))) 6), .int ((upd F 4 ((F 4) + (1 : Int32))) 7), .int ((upd F 4 ((F 4) + (1 : Int32))) 8), .int ((upd F 4 ((F 4) + (1 : Int32))) 9), .long (J 10), .int ((upd F 4 ((F 4) + (1 : Int32))) 11), .int ((upd F 4 ((F 4) + (1 : Int32))) 12), .int ((upd F 4 ((F 4) + (1 : Int32))) 13), .ref q4, .int ((upd F 4 ((F 4) + (1 : Int32))) 15), .ref q5, .ref q6, .ref q7, .int ((upd F 4 ((F 4) + (1 : Int32))) 19), .ref q8, .int ((upd F 4 ((F 4) + (1 : Int32))) 21), .int ((upd F 4 ((F 4) + (1 : Int32))) 22), .int ((upd F 4 ((F 4) + (1 : Int32))) 23), .int ((upd F 4 ((F 4) + (1 : Int32))) 24), .ref q9, .ref q10, .ref q11, .long (J 28)])), (q2, .inl (g.2 1, 2000, .inl tx))]) [0, 1] rfl) (hD.sub (ws' := [(qM, .inr (9, [.int ((upd F 4 ((F 4) + (1 : Int32))) 0), .ref q1, .ref q2, .ref q3, .int ((upd F 4 ((F 4) + (1 : Int32))) 4), .int ((upd F 4 ((F 4) + (1 : Int32))) 5), .int ((upd F 4 ((F 4) + (1 : Int32))) 6), .int ((upd F 4 ((F 4) + (1 : Int32))) 7), .int ((upd F 4 ((F 4) + (1 : Int32))) 8), .int ((upd F 4 ((F 4) + (1 : Int32))) 9), .long (J 10), .int ((upd F 4 ((F 4) + (1 : Int32))) 11), .int ((upd F 4 ((F 4) + (1 : Int32))) 12), .int ((upd F 4 ((F 4) + (1 : Int32))) 13), .ref q4, .int ((upd F 4 ((F 4) + (1 : Int32))) 15), .ref q5, .ref q6, .ref q7, .int ((upd F 4 ((F 4) + (1 : Int32))) 19), .ref q8, .int ((upd F 4 ((F 4) + (1 : Int32))) 21), .int ((upd F 4 ((F 4) + (1 : Int32))) 22), .int ((upd F 4 ((F 4) + (1 : Int32))) 23), .int ((upd F 4 ((F 4) + (1 : Int32))) 24), .ref q9, .ref q10, .ref q11, .long (J 28)])), (q2, .inl (g.2 1, 2000, .inl tx))]) [0, 1] (by decide) rfl) hS ls (lv_sub hl [0] rfl)
def soK (k : Nat) : Int := if k = 0 then 0 else if k = 1 then 2 else if k = 2 then 3 else if k = 3 then 4 else 1
theorem soK_2 {k : Nat} (hk : k ≤ 4) : soK k = 2 ↔ k = 1 := by
  rcases (show k = 0 ∨ k = 1 ∨ k = 2 ∨ k = 3 ∨ k = 4 by omega) with rfl | rfl | rfl | rfl | rfl <;> decide
theorem soK_3 {k : Nat} (hk : k ≤ 4) : soK k = 3 ↔ k = 2 := by
  rcases (show k = 0 ∨ k = 1 ∨ k = 2 ∨ k = 3 ∨ k = 4 by omega) with rfl | rfl | rfl | rfl | rfl <;> decide
theorem soK_4 {k : Nat} (hk : k ≤ 4) : soK k = 4 ↔ k = 3 := by
  rcases (show k = 0 ∨ k = 1 ∨ k = 2 ∨ k = 3 ∨ k = 4 by omega) with rfl | rfl | rfl | rfl | rfl <;> decide
theorem soK_0 {k : Nat} (hk : k ≤ 4) : soK k = 0 ↔ k = 0 := by
  rcases (show k = 0 ∨ k = 1 ∨ k = 2 ∨ k = 3 ∨ k = 4 by omega) with rfl | rfl | rfl | rfl | rfl <;> decide
theorem tK_le (b : Nat → Int32) (nb i : Nat) : tK b nb i ≤ 4 := by unfold tK; split <;> (try split) <;> (try split) <;> (try split) <;> omega
/-- a token in the reference's fields -/
def rdM (b : Nat → Int32) (nb i : Nat) (F : Nat → Int32) (J : Nat → Int64) : Prop := (F 5).toInt = (nb : Int) ∧ nb ≤ 500 ∧ i ≤ nb ∧ (F 6).toInt = (tS b nb i : Int) ∧ (F 4).toInt = (tE b nb i : Int) ∧ (F 7).toInt = soK (tK b nb i) ∧ (tK b nb i = 2 → (F 8).toInt = (tV b nb i : Int)) ∧ (tK b nb i = 1 → (F 9).toInt = ((tE b nb i - tS b nb i : Nat) : Int) ∧ J 10 = wdL b nb i)
def kpF (F F' : Nat → Int32) : Prop := F' 11 = F 11 ∧ F' 12 = F 12 ∧ F' 13 = F 13 ∧ F' 15 = F 15
abbrev preX9_token (b : Nat → Int32) (nb : Nat) (i : Nat) (F : Nat → Int32) (J : Nat → Int64) (tx : Nat → Int32) : Prop := atM b nb i F tx
abbrev postX9_token (b : Nat → Int32) (nb : Nat) (i : Nat) (F : Nat → Int32) (J : Nat → Int64) (tx : Nat → Int32) (F' : Nat → Int32) (J' : Nat → Int64) : Prop := rdM b nb i F' J' ∧ kpF F F'
theorem sX9_token_141 {b : Nat → Int32} {nb i : Nat} {tx F F0 : Nat → Int32} {J J0 : Nat → Int64} (hnb : nb ≤ 500) (hi : i ≤ nb) (hs : tS b nb i < nb) (hl : leB (b (tS b nb i)) = true) (h5 : (F 5).toInt = (nb : Int)) (h6 : (F 6).toInt = (tS b nb i : Int)) (h4 : (F 4).toInt = (enS leB b nb (tS b nb i) : Int)) (hk : kpF F0 F) (x2 : Int32) (h2 : x2.toInt = ((enS leB b nb (tS b nb i) - tS b nb i : Nat) : Int)) (hJ : enS leB b nb (tS b nb i) - tS b nb i ≤ 8 → J 10 = lN (encF (fun j => b (tS b nb i + j)) (enS leB b nb (tS b nb i) - tS b nb i))) : (x2 ≤ (8 : Int32) → vX9_token_c141 tx (postX9_token b nb i F0 J0 tx) x2 (J 10) (upd F 9 x2) J) ∧ (¬ x2 ≤ (8 : Int32) → vX9_token_c141 tx (postX9_token b nb i F0 J0 tx) x2 (0 : Int64) (upd F 9 x2) J) := by
  have he := enS_le leB b (Nat.le_of_lt hs)
  have hE : tE b nb i = enS leB b nb (tS b nb i) := by unfold tE; rw [if_neg (by omega), if_pos hl]
  have hK : tK b nb i = if enS leB b nb (tS b nb i) - tS b nb i ≤ 13 then 1 else 4 := by unfold tK; rw [if_neg (by omega), if_pos hl]
  have fin : ∀ z : Int64, (enS leB b nb (tS b nb i) - tS b nb i ≤ 13 → z = wdL b nb i) → vX9_token_c141 tx (postX9_token b nb i F0 J0 tx) x2 z (upd F 9 x2) J := fun z hz => by
    unfold vX9_token_c141
    rw [fa_le, h2, z13]
    refine ⟨fun c => ⟨⟨h5, hnb, hi, h6, by rw [hE]; exact h4, by rw [hK, if_pos (by omega)]; rfl, fun q => ?_, fun q => ⟨by rw [hE]; exact h2, ?_⟩⟩, hk⟩, fun c => ⟨⟨h5, hnb, hi, h6, by rw [hE]; exact h4, by rw [hK, if_neg (by omega)]; rfl, fun q => ?_, fun q => ?_⟩, hk⟩⟩
    · rw [hK, if_pos (by omega)] at q; exact absurd q (by decide)
    · rw [pk_uLs]; exact hz (by omega)
    · rw [hK, if_neg (by omega)] at q; exact absurd q (by decide)
    · rw [hK, if_neg (by omega)] at q; exact absurd q (by decide)
  rw [fa_le, h2, z8]
  refine ⟨fun c => fin _ (fun q => ?_), fun c => fin _ (fun q => ?_)⟩
  · rw [hJ (by omega)]; unfold wdL; rw [hE, if_pos ⟨by rw [hK, if_pos q], by omega⟩]
  · unfold wdL; rw [hE, if_neg (fun z => by omega)]
theorem sX9_token_74 {b : Nat → Int32} {nb i : Nat} {tx F0 : Nat → Int32} {J0 : Nat → Int64} (hnb : nb ≤ 500) (hi : i ≤ nb) (htx : isTx b nb tx) (hs : tS b nb i < nb) (hl : leB (b (tS b nb i)) = true) : ∀ (n a : Nat) (x2 : Int32) (F : Nat → Int32) (J : Nat → Int64), (F 5).toInt = (nb : Int) → (F 6).toInt = (tS b nb i : Int) → (F 4).toInt = (a : Int) → kpF F0 F → x2.toInt = ((a - tS b nb i : Nat) : Int) → (a - tS b nb i ≤ 8 → J 10 = lN (encF (fun j => b (tS b nb i + j)) (a - tS b nb i))) → tS b nb i ≤ a → a ≤ nb → (∀ j, tS b nb i ≤ j → j < a → leB (b j) = true) → nb + 1 ≤ a + n → vX9_token_c74 tx (postX9_token b nb i F0 J0 tx) n x2 F J
  | 0, a, x2, F, J, _, _, _, _, _, _, _, _, _, hf => absurd hf (by omega)
  | n + 1, a, x2, F, J, h5, h6, h4, hk, h2, hJ, h1, h3, hall, hf => by
    have hat : atM b nb a F tx := ⟨h5, hnb, h4, h3, htx⟩
    rw [vX9_token_c74]
    refine ⟨b, nb, a, hat, fun r hr => ⟨trivial, fun r2 hr2 => ?_⟩⟩
    have hr : r.toInt = if a < nb then uZ (b a) else -1 := hr
    have hr2 : r2 = if 97 ≤ r.toInt ∧ r.toInt ≤ 122 then 1 else 0 := hr2
    rw [hr2, q_if1, hr]
    by_cases c : a < nb
    · have ht := htx a c
      rw [if_pos c, ← uZ_le ht.2.1 ht.2.2]
      refine ⟨fun d => ?_, fun d => ⟨b, nb, a, hat, fun r3 hr3 f ef => ?_⟩⟩
      · have d : leB (b a) = false := by simpa using d
        have e := enS_at (nb := nb) h1 c hall d
        exact sX9_token_141 hnb hi hs hl h5 h6 (by rw [e]; exact h4) hk x2 (by rw [e]; exact h2) (by rw [e]; exact hJ)
      · have d := Decidable.not_not.mp d
        have hr3 : r3.toInt = if a < nb then uZ (b a) else -1 := hr3
        rw [if_pos c] at hr3
        have hd := of_decide_eq_true d
        have hu : uZ (b a) = (b a).toInt := by unfold uZ; rw [if_neg (by omega)]
        refine sX9_token_74 hnb hi htx hs hl n (a + 1) _ _ _ h5 h6 (q_1 h4 (by omega)) hk (by rw [q_1 h2 (by omega)]; omega) (fun hz => ?_) (by omega) (by omega) (fun j hj1 hj2 => ?_) (by omega)
        · rw [pk_uLs, ef, hJ (by omega), lN_sh8, show a + 1 - tS b nb i = (a - tS b nb i) + 1 by omega, encF, show tS b nb i + (a - tS b nb i) = a by omega]
          have e3 : r3.toInt64 = lN (b a).toInt.toNat := q_lNj (by rw [hr3, hu]; omega)
          rw [e3]
          exact lN_or (by omega)
        · by_cases e : j = a
          · subst e; exact d
          · exact hall j hj1 (by omega)
    · rw [if_neg c]
      refine ⟨fun _ => ?_, fun d => absurd d (by decide)⟩
      have e0 : a = nb := by omega
      rw [e0] at hall h4 h2 hJ
      have e := enS_nb (by omega) hall
      exact sX9_token_141 hnb hi hs hl h5 h6 (by rw [e]; exact h4) hk x2 (by rw [e]; exact h2) (by rw [e]; exact hJ)
theorem sX9_token_178 {b : Nat → Int32} {nb i : Nat} {tx F0 : Nat → Int32} {J0 : Nat → Int64} (hnb : nb ≤ 500) (hi : i ≤ nb) (htx : isTx b nb tx) (hs : tS b nb i < nb) (hl : ¬ leB (b (tS b nb i)) = true) (hd : diB (b (tS b nb i)) = true) : ∀ (n a : Nat) (x2 : Int32) (F : Nat → Int32) (J : Nat → Int64), (F 5).toInt = (nb : Int) → (F 6).toInt = (tS b nb i : Int) → (F 4).toInt = (a : Int) → kpF F0 F → x2.toInt = ((a - tS b nb i : Nat) : Int) → (a - tS b nb i ≤ 4 → (F 8).toInt = (vaN b (tS b nb i) (a - tS b nb i) : Int)) → tS b nb i ≤ a → a ≤ nb → (∀ j, tS b nb i ≤ j → j < a → diB (b j) = true) → nb + 1 ≤ a + n → vX9_token_c178 tx (postX9_token b nb i F0 J0 tx) n x2 F J
  | 0, a, x2, F, J, _, _, _, _, _, _, _, _, _, hf => absurd hf (by omega)
  | n + 1, a, x2, F, J, h5, h6, h4, hk, h2, h8, h1, h3, hall, hf => by
    have hat : atM b nb a F tx := ⟨h5, hnb, h4, h3, htx⟩
    have fin : enS diB b nb (tS b nb i) = a → (x2 ≤ (4 : Int32) → postX9_token b nb i F0 J0 tx (upd F 7 (3 : Int32)) J) ∧ (¬ x2 ≤ (4 : Int32) → postX9_token b nb i F0 J0 tx (upd F 7 (1 : Int32)) J) := fun e => by
      have hE : tE b nb i = a := by unfold tE; rw [if_neg (by omega), if_neg hl, if_pos hd, e]
      have hK : tK b nb i = if a - tS b nb i ≤ 4 then 2 else 4 := by unfold tK; rw [if_neg (by omega), if_neg hl, if_pos hd, e]
      rw [fa_le, h2, z4]
      refine ⟨fun c => ⟨⟨h5, hnb, hi, h6, by rw [hE]; exact h4, by rw [hK, if_pos (by omega)]; rfl, fun q => ?_, fun q => ?_⟩, hk⟩, fun c => ⟨⟨h5, hnb, hi, h6, by rw [hE]; exact h4, by rw [hK, if_neg (by omega)]; rfl, fun q => ?_, fun q => ?_⟩, hk⟩⟩
      · unfold tV; rw [hE]; exact h8 (by omega)
      · rw [hK, if_pos (by omega)] at q; exact absurd q (by decide)
      · rw [hK, if_neg (by omega)] at q; exact absurd q (by decide)
      · rw [hK, if_neg (by omega)] at q; exact absurd q (by decide)
    rw [vX9_token_c178]
    refine ⟨b, nb, a, hat, fun r hr => ⟨trivial, fun r2 hr2 => ?_⟩⟩
    have hr : r.toInt = if a < nb then uZ (b a) else -1 := hr
    have hr2 : r2 = if 48 ≤ r.toInt ∧ r.toInt ≤ 57 then 1 else 0 := hr2
    rw [hr2, q_if1, hr]
    by_cases c : a < nb
    · have ht := htx a c
      rw [if_pos c, ← uZ_di ht.2.1 ht.2.2]
      refine ⟨fun d => fin (enS_at (nb := nb) h1 c hall (by simpa using d)), fun d => ?_⟩
      have d := Decidable.not_not.mp d
      have hdd := of_decide_eq_true d
      have hu : uZ (b a) = (b a).toInt := by unfold uZ; rw [if_neg (by omega)]
      have nx : ∀ s0 : Int32, (a + 1 - tS b nb i ≤ 4 → s0.toInt = (vaN b (tS b nb i) (a + 1 - tS b nb i) : Int)) → vX9_token_c220 tx (postX9_token b nb i F0 J0 tx) (vX9_token_c178 tx (postX9_token b nb i F0 J0 tx) n) x2 s0 F J := fun s0 hs0 => by
        refine sX9_token_178 hnb hi htx hs hl hd n (a + 1) _ _ _ h5 h6 (q_1 h4 (by omega)) hk (by rw [q_1 h2 (by omega)]; omega) hs0 (by omega) (by omega) (fun j hj1 hj2 => ?_) (by omega)
        by_cases e : j = a
        · subst e; exact d
        · exact hall j hj1 (by omega)
      rw [fa_le, h2, z4]
      refine ⟨fun q => nx _ (fun z => by omega), fun q => ⟨b, nb, a, hat, fun r3 hr3 => nx _ (fun z => ?_)⟩⟩
      have hr3 : r3.toInt = if a < nb then uZ (b a) else -1 := hr3
      rw [if_pos c, hu] at hr3
      have h8 := h8 (by omega)
      have hb := vaN_le (b := b) (s := tS b nb i) (a - tS b nb i) (fun j hj => hall _ (by omega) (by omega))
      have hp : 10 ^ (a - tS b nb i) ≤ 10 ^ 3 := Nat.pow_le_pow_right (by decide) (by omega)
      rw [show a + 1 - tS b nb i = (a - tS b nb i) + 1 by omega, vaN, show tS b nb i + (a - tS b nb i) = a by omega]
      have e1 := q_mul (x := (10 : Int32)) z10 h8 (by omega) (by omega)
      have e2 := q_add e1 hr3 (by omega) (by omega)
      rw [q_sub e2 (show (48 : Int32).toInt = 48 from rfl) (by omega) (by omega)]
      omega
    · rw [if_neg c]
      refine ⟨fun _ => fin ?_, fun d => absurd d (by decide)⟩
      have e0 : a = nb := by omega
      rw [e0] at hall ⊢
      exact enS_nb (by omega) hall
theorem sX9_token_b {b : Nat → Int32} {nb i : Nat} {tx F0 : Nat → Int32} {J0 : Nat → Int64} (hnb : nb ≤ 500) (hi : i ≤ nb) (htx : isTx b nb tx) (a : Nat) (F : Nat → Int32) (J : Nat → Int64) (h5 : (F 5).toInt = (nb : Int)) (h4 : (F 4).toInt = (a : Int)) (hk : kpF F0 F) (h1 : i ≤ a) (h3 : a ≤ nb) (hall : ∀ j, i ≤ j → j < a → blB (b j) = true) (X : Prop) (hX : a < nb → blB (b a) = true → X) : (∃ (b_1 : Nat → Int32) (nb_1 : Nat) (i_1 : Nat), preX9_see b_1 nb_1 i_1 F J tx ∧ (∀ r_1 : Int32, postX9_see b_1 nb_1 i_1 F J tx r_1 → ((r_1 = (10 : Int32) → X) ∧ (¬ r_1 = (10 : Int32) → (∃ (b_10 : Nat → Int32) (nb_10 : Nat) (i_10 : Nat), preX9_see b_10 nb_10 i_10 F J tx ∧ (∀ r_10 : Int32, postX9_see b_10 nb_10 i_10 F J tx r_10 → ((¬ r_10 = (32 : Int32) → (∃ (b_40 : Nat → Int32) (nb_40 : Nat) (i_40 : Nat), preX9_see b_40 nb_40 i_40 (upd F 6 (F 4)) J tx ∧ (∀ r_40 : Int32, postX9_see b_40 nb_40 i_40 (upd F 6 (F 4)) J tx r_40 → ((0 ≤ r_40 → (preX9_in r_40 (97 : Int32) (122 : Int32) ∧ (∀ r_68 : Int32, postX9_in r_40 (97 : Int32) (122 : Int32) r_68 → ((r_68 = 0 → (preX9_in r_40 (48 : Int32) (57 : Int32) ∧ (∀ r_167 : Int32, postX9_in r_40 (48 : Int32) (57 : Int32) r_167 → ((r_167 = 0 → ((¬ r_40 = (59 : Int32) → (postX9_token b nb i F0 J0 tx (upd (upd (upd F 4 ((F 4) + (1 : Int32))) 6 (F 4)) 7 (1 : Int32)) (vp_updL J 10 (0 : Int64)))) ∧ (r_40 = (59 : Int32) → (postX9_token b nb i F0 J0 tx (upd (upd (upd F 4 ((F 4) + (1 : Int32))) 6 (F 4)) 7 (4 : Int32)) (vp_updL J 10 (0 : Int64)))))) ∧ (¬ r_167 = 0 → (∃ nn, vX9_token_c178 tx (postX9_token b nb i F0 J0 tx) nn (0 : Int32) (upd (upd F 6 (F 4)) 8 (0 : Int32)) (vp_updL J 10 (0 : Int64)))))))) ∧ (¬ r_68 = 0 → (∃ nn, vX9_token_c74 tx (postX9_token b nb i F0 J0 tx) nn (0 : Int32) (upd F 6 (F 4)) (vp_updL J 10 (0 : Int64)))))))) ∧ (¬ 0 ≤ r_40 → (postX9_token b nb i F0 J0 tx (upd (upd F 6 (F 4)) 7 (0 : Int32)) (vp_updL J 10 (0 : Int64)))))))) ∧ (r_10 = (32 : Int32) → X)))))))) := by
  have hat : atM b nb a F tx := ⟨h5, hnb, h4, h3, htx⟩
  refine ⟨b, nb, a, hat, fun r hr => ?_⟩
  have hr : r.toInt = if a < nb then uZ (b a) else -1 := hr
  rw [fa_eq r, hr, z10]
  have hb : ∀ c : a < nb, (uZ (b a) = 32 ∨ uZ (b a) = 10) → X := fun c q => hX c ((uZ_bl (htx a c).2.1 (htx a c).2.2).mpr q)
  refine ⟨fun q => ?_, fun q => ⟨b, nb, a, hat, fun r2 hr2 => ?_⟩⟩
  · by_cases c : a < nb
    · rw [if_pos c] at q; exact hb c (Or.inr q)
    · rw [if_neg c] at q; exact absurd q (by decide)
  have hr2 : r2.toInt = if a < nb then uZ (b a) else -1 := hr2
  rw [fa_eq r2, hr2, z32]
  refine ⟨fun w => ?_, fun w => ?_⟩
  · have hs : tS b nb i = a := by
      by_cases c : a < nb
      · rw [if_pos c] at q w
        refine enS_at (nb := nb) h1 c hall ?_
        cases e : blB (b a)
        · rfl
        · exact absurd ((uZ_bl (htx a c).2.1 (htx a c).2.2).mp e) (fun z => z.elim w q)
      · have e0 : a = nb := by omega
        rw [e0] at hall ⊢
        exact enS_nb (by omega) hall
    have h4s : (F 4).toInt = (tS b nb i : Int) := by rw [hs]; exact h4
    refine ⟨b, nb, a, ⟨h5, hnb, h4, h3, htx⟩, fun r3 hr3 => ?_⟩
    have hr3 : r3.toInt = if a < nb then uZ (b a) else -1 := hr3
    rw [fa_le, z0, hr3]
    by_cases c : a < nb
    · have ht := htx a c
      have hu0 : 0 ≤ uZ (b a) := by unfold uZ; split <;> omega
      rw [if_pos c] at hr3 ⊢
      refine ⟨fun _ => ⟨trivial, fun r4 hr4 => ?_⟩, fun z => absurd hu0 z⟩
      have hr4 : r4 = if 97 ≤ r3.toInt ∧ r3.toInt ≤ 122 then 1 else 0 := hr4
      rw [hr4, q_if1, hr3, ← uZ_le ht.2.1 ht.2.2]
      refine ⟨fun d => ⟨trivial, fun r5 hr5 => ?_⟩, fun d => ?_⟩
      · have hr5 : r5 = if 48 ≤ r3.toInt ∧ r3.toInt ≤ 57 then 1 else 0 := hr5
        rw [hr5, q_if1, hr3, ← uZ_di ht.2.1 ht.2.2, fa_eq r3, hr3, show (59 : Int32).toInt = 59 from rfl]
        have hu : uZ (b a) = 59 ↔ (b a).toInt = 59 := by unfold uZ; split <;> omega
        have hE : ∀ _ : ¬ diB (b a) = true, tE b nb i = tS b nb i + 1 := fun e => by unfold tE; rw [hs, if_neg (by omega), if_neg d, if_neg e]
        have hK : ∀ _ : ¬ diB (b a) = true, tK b nb i = if (b a).toInt = 59 then 3 else 4 := fun e => by unfold tK; rw [hs, if_neg (by omega), if_neg d, if_neg e]
        have h41 := q_1 h4s (by have := tS_le b hi; omega)
        refine ⟨fun e => ⟨fun f => ⟨⟨h5, hnb, hi, h4s, by rw [hE e]; exact h41, by rw [hK e, if_neg (fun z => f (hu.mpr z))]; rfl, fun q => ?_, fun q => ?_⟩, hk⟩, fun f => ⟨⟨h5, hnb, hi, h4s, by rw [hE e]; exact h41, by rw [hK e, if_pos (hu.mp f)]; rfl, fun q => ?_, fun q => ?_⟩, hk⟩⟩, fun e => ?_⟩
        · rw [hK e, if_neg (fun z => f (hu.mpr z))] at q; exact absurd q (by decide)
        · rw [hK e, if_neg (fun z => f (hu.mpr z))] at q; exact absurd q (by decide)
        · rw [hK e, if_pos (hu.mp f)] at q; exact absurd q (by decide)
        · rw [hK e, if_pos (hu.mp f)] at q; exact absurd q (by decide)
        · have e := Decidable.not_not.mp e
          exact ⟨nb + 1, sX9_token_178 hnb hi htx (by omega) (by rw [hs]; exact d) (by rw [hs]; exact e) (nb + 1) (tS b nb i) _ _ _ h5 h4s h4s hk (by rw [Nat.sub_self]; rfl) (fun _ => by rw [Nat.sub_self]; rfl) (Nat.le_refl _) (by omega) (fun j h1 h2 => absurd h2 (by omega)) (by omega)⟩
      · have d := Decidable.not_not.mp d
        exact ⟨nb + 1, sX9_token_74 hnb hi htx (by omega) (by rw [hs]; exact d) (nb + 1) (tS b nb i) _ _ _ h5 h4s h4s hk (by rw [Nat.sub_self]; rfl) (fun _ => by rw [Nat.sub_self, pk_uLs]; rfl) (Nat.le_refl _) (by omega) (fun j h1 h2 => absurd h2 (by omega)) (by omega)⟩
    · rw [if_neg c]
      have hE : tE b nb i = tS b nb i := by unfold tE; rw [if_pos (by omega)]
      have hK : tK b nb i = 0 := by unfold tK; rw [if_pos (by omega)]
      refine ⟨fun z => absurd z (by decide), fun _ => ⟨⟨h5, hnb, hi, h4s, by rw [hE]; exact h4s, by rw [hK]; rfl, fun q => ?_, fun q => ?_⟩, hk⟩⟩
      · rw [hK] at q; exact absurd q (by decide)
      · rw [hK] at q; exact absurd q (by decide)
  · by_cases c : a < nb
    · rw [if_pos c] at w; exact hb c (Or.inl w)
    · rw [if_neg c] at w; exact absurd w (by decide)
theorem sX9_token_0 {b : Nat → Int32} {nb i : Nat} {tx F0 : Nat → Int32} {J0 : Nat → Int64} (hnb : nb ≤ 500) (hi : i ≤ nb) (htx : isTx b nb tx) : ∀ (n a : Nat) (F : Nat → Int32) (J : Nat → Int64), (F 5).toInt = (nb : Int) → (F 4).toInt = (a : Int) → kpF F0 F → i ≤ a → a ≤ nb → (∀ j, i ≤ j → j < a → blB (b j) = true) → nb + 1 ≤ a + n → vX9_token_c0 tx (postX9_token b nb i F0 J0 tx) n F J
  | 0, a, F, J, _, _, _, _, _, _, hf => absurd hf (by omega)
  | n + 1, a, F, J, h5, h4, hk, h1, h3, hall, hf => by
    rw [vX9_token_c0]
    refine sX9_token_b hnb hi htx a F J h5 h4 hk h1 h3 hall _ (fun hlt hb => sX9_token_0 hnb hi htx n (a + 1) _ _ h5 (q_1 h4 (by omega)) hk (by omega) (by omega) (fun j hj1 hj2 => ?_) (by omega))
    by_cases e : j = a
    · subst e; exact hb
    · exact hall j hj1 (by omega)
theorem sX9_token (b : Nat → Int32) (nb : Nat) (i : Nat) (F : Nat → Int32) (J : Nat → Int64) (tx : Nat → Int32) (H : preX9_token b nb i F J tx) : vX9_token F J tx (postX9_token b nb i F J tx) := by
  obtain ⟨h5, hnb, h4, hi, htx⟩ := H
  have hk : kpF F F := ⟨rfl, rfl, rfl, rfl⟩
  exact sX9_token_b hnb hi htx i F J h5 h4 hk (Nat.le_refl _) hi (fun j h1 h2 => absurd h2 (by omega)) _ (fun hlt hb => ⟨nb + 1, sX9_token_0 hnb hi htx (nb + 1) (i + 1) _ _ h5 (q_1 h4 (by omega)) hk (by omega) (by omega) (fun j hj1 hj2 => by rw [show j = i by omega]; exact hb) (by omega)⟩)
