-- arrays of arrays and of legs: loads by a known place
theorem co_5 {P : Nat → Prop} (h0 : P 0) (h1 : P 1) (h2 : P 2) (h3 : P 3) (h4 : P 4) {i : Nat} (hi : i < 5) : P i := by
  rcases (show i = 0 ∨ i = 1 ∨ i = 2 ∨ i = 3 ∨ i = 4 by omega) with rfl | rfl | rfl | rfl | rfl <;> assumption
def rwM (a : Nat → Nat) : Nat → Option Nat := fun i => if i < 5 then some (a i) else none
def lgC (a b : Nat) : Nat → Option Nat := va_up (va_up (fun _ => none) 0 (some a)) 1 (some b)
theorem two_in {i : Int32} (h : vp_in i 2) : i = nI 0 ∨ i = nI 1 := by
  obtain ⟨j, hj, e⟩ := vp_in_of h (by decide)
  rcases (show j = 0 ∨ j = 1 by omega) with rfl | rfl
  · exact Or.inl e
  · exact Or.inr e
section ROWX
variable {p : Program} {l : Launch} {e : Env} {R : Room} {s : State} {m : MethodId} {args : Array Value} {below : List Frame} {meth : Method} {c : Code} {H : Heap} {locs : List Loc} {cells slots : Nat} {Q : State → Prop}
variable {cc : ByteArray} {pc : Nat} {ls : Array Slot} {rest : List Value} {D : va_G} {cl : List vw_C} {A : Nat → Prop} {a : Nat} {tys : List (ClassId × FieldType)} {ws : va_W} {H0 : Heap}
theorem va_ldG (hexec : p.tables.exec = Jvm.exec) (hb : c.code = cc) (hK : va_K D cl tys s) (hP : va_P D cl ws H) (q0 t0 j : Nat) {cA : ClassId} {C : String} {n r : Nat} {f : Nat → Option Nat} (ha : ws[q0]? = some (a, .inl (cA, n, .inr (.inr (.inr (.inr f)))))) (ht : tys[t0]? = some (cA, .object C)) {i : Int32} (hi : i = nI j) (hj : j < n) (hn : n < 2 ^ 31) (hf : f j = some r) (hdg : decode cc pc = .ok (.aaload, 1))
    (kk : W p l e R s m args below meth c H locs cells slots Q (F0 m (pc + 1) ls (.ref r :: rest))) : W p l e R s m args below meth c H locs cells slots Q (F0 m pc ls (.int i :: .ref a :: rest)) := by
  subst hi
  refine va_aldq hexec hb hK hP q0 t0 ha ht (vp_in_nI hj hn) hdg ?_
  rw [nI_clamp (Nat.lt_trans hj hn), hf]
  exact kk
theorem va_ldGN (hexec : p.tables.exec = Jvm.exec) (hb : c.code = cc) (hK : va_K D cl tys s) (hP : va_P D cl ws H) (q0 t0 j : Nat) {cA : ClassId} {C : String} {n : Nat} {f : Nat → Option Nat} (ha : ws[q0]? = some (a, .inl (cA, n, .inr (.inr (.inr (.inr f)))))) (ht : tys[t0]? = some (cA, .object C)) {i : Int32} (hi : i = nI j) (hj : j < n) (hn : n < 2 ^ 31) (hf : f j = none) (hdg : decode cc pc = .ok (.aaload, 1))
    (kk : W p l e R s m args below meth c H locs cells slots Q (F0 m (pc + 1) ls (.null :: rest))) : W p l e R s m args below meth c H locs cells slots Q (F0 m pc ls (.int i :: .ref a :: rest)) := by
  subst hi
  refine va_aldq hexec hb hK hP q0 t0 ha ht (vp_in_nI hj hn) hdg ?_
  rw [nI_clamp (Nat.lt_trans hj hn), hf]
  exact kk
theorem va_ldM (hexec : p.tables.exec = Jvm.exec) (hb : c.code = cc) (hK : va_K D cl tys s) (hP : va_P D cl ws H) (q0 t0 j : Nat) {cA : ClassId} {t : FieldType} {r : Nat → Nat} (ha : ws[q0]? = some (a, .inl (cA, 5, .inr (.inr (.inr (.inr (rwM r))))))) (ht : tys[t0]? = some (cA, .array t)) {i : Int32} (hi : i = nI j) (hj : j < 5) (hdg : decode cc pc = .ok (.aaload, 1))
    (kk : W p l e R s m args below meth c H locs cells slots Q (F0 m (pc + 1) ls (.ref (r j) :: rest))) : W p l e R s m args below meth c H locs cells slots Q (F0 m pc ls (.int i :: .ref a :: rest)) := by
  subst hi
  have hin : vp_in (nI j) 5 := vp_in_nI hj (by decide)
  have hlt : (nI j).toNatClampNeg < 5 := Nat.not_le.mp fun q => hin (Or.inr q)
  have hcl : (nI j).toNatClampNeg = j := nI_clamp (Nat.lt_trans hj (by decide))
  have hv : va_rf (rwM r (nI j).toNatClampNeg) = .ref (r j) := by rw [hcl]; unfold rwM; rw [if_pos hj]; rfl
  rw [← hv] at kk
  exact W.aald (v := va_rf (rwM r (nI j).toNatClampNeg)) (ty := .array t) hexec hb (hP q0 _ ha) ((hK.2 t0 _ ht).1 5 (fun j => va_rf (rwM r j))) rfl (fun q => by cases q) (by show ¬ (_ < 0 ∨ (arrV _ _ _).slots.size ≤ _); rw [arrV_size]; exact hin) (by show (arrV _ _ _).slots[_]? = _; rw [arrV_read _ _ hlt]) rfl rfl hdg kk
end ROWX
-- the ear's counting
def hcN (h : Nat → Nat) (k : Nat) : Nat → Nat
  | 0 => 0
  | i + 1 => hcN h k i + if h i = k then 1 else 0
theorem hcN_le (h : Nat → Nat) (k : Nat) : ∀ i, hcN h k i ≤ i
  | 0 => Nat.le_refl 0
  | i + 1 => by have := hcN_le h k i; rw [hcN]; split <;> omega
def sgZ (v : Nat) : Int := if v = 2 then 0 else if v = 1 then 1 else -1
theorem sgZ_le (v : Nat) : -1 ≤ sgZ v ∧ sgZ v ≤ 1 := by
  unfold sgZ; split
  · omega
  · split <;> omega
theorem alZ_sg (T : Cd) (h : Nat → Nat) (fr p pl i : Nat) (hh : h i ≤ 2) : alZ T h fr p pl i = if chB T p (((fr + i : Nat) : Int) - (pl : Int)) then sgZ (h i) else -sgZ (h i) := by
  unfold alZ sgZ
  rcases (show h i = 0 ∨ h i = 1 ∨ h i = 2 by omega) with e | e | e <;> cases chB T p (((fr + i : Nat) : Int) - (pl : Int)) <;> simp [e]
/-- as bst, but for one place -/
def bsx (m : Nat → Int) (bu : Int) : Nat → Nat
  | 0 => if bu = 0 then 1 else 0
  | k + 1 => if (k : Int) ≠ bu ∧ m (bsx m bu k) < m k then k else bsx m bu k
theorem bsx_bst (m : Nat → Int) : ∀ k, bsx m (-1) k = bst m k
  | 0 => rfl
  | k + 1 => by
    rw [bsx, bst, bsx_bst m k]
    by_cases h : m (bst m k) < m k
    · rw [if_pos ⟨by omega, h⟩, if_pos h]
    · rw [if_neg (fun q => h q.2), if_neg h]
theorem bsx_1 (m : Nat → Int) (bu : Int) (h : bu ≠ 0) : bsx m bu 1 = 0 := by
  rw [bsx, bsx, if_neg h]
  split <;> rfl
theorem bsx_2 (m : Nat → Int) : bsx m 0 2 = 1 := by
  have e : bsx m 0 1 = 1 := by
    rw [bsx, bsx, if_pos rfl, if_neg (fun q => q.1 rfl)]
  rw [bsx, e]
  split <;> rfl
theorem bsx_lt (m : Nat → Int) (bu : Int) : ∀ k, 1 ≤ k → (bu = 0 → 2 ≤ k) → bsx m bu k < k
  | 0, h, _ => absurd h (by omega)
  | k + 1, _, h2 => by
    rw [bsx]; split
    · omega
    · by_cases hb : bu = 0
      · subst hb
        rcases (show k = 1 ∨ 2 ≤ k by have := h2 rfl; omega) with z | z
        · subst z
          have e : bsx m 0 1 = 1 := by rw [bsx, bsx, if_pos rfl, if_neg (fun q => q.1 rfl)]
          rw [e]; omega
        · have := bsx_lt m 0 k (by omega) (fun _ => z); omega
      · rcases Nat.eq_zero_or_pos k with z | z
        · subst z; rw [bsx, if_neg hb]; omega
        · have := bsx_lt m bu k z (fun q => absurd q hb); omega
theorem dX0_countOf_0 : decode cX0_countOf 0 = .ok (.iconst 0, 1) := by decide +kernel
theorem dX0_countOf_1 : decode cX0_countOf 1 = .ok (.istore_n 2, 1) := by decide +kernel
theorem dX0_countOf_2 : decode cX0_countOf 2 = .ok (.iconst 0, 1) := by decide +kernel
theorem dX0_countOf_3 : decode cX0_countOf 3 = .ok (.istore_n 3, 1) := by decide +kernel
theorem dX0_countOf_4 : decode cX0_countOf 4 = .ok (.iload_n 3, 1) := by decide +kernel
theorem dX0_countOf_5 : decode cX0_countOf 5 = .ok (.aload_n 0, 1) := by decide +kernel
theorem dX0_countOf_6 : decode cX0_countOf 6 = .ok (.getfield 63, 3) := by decide +kernel
theorem dX0_countOf_9 : decode cX0_countOf 9 = .ok (.if_icmp .ge 22, 3) := by decide +kernel
theorem dX0_countOf_12 : decode cX0_countOf 12 = .ok (.aload_n 0, 1) := by decide +kernel
theorem dX0_countOf_13 : decode cX0_countOf 13 = .ok (.getfield 9, 3) := by decide +kernel
theorem dX0_countOf_16 : decode cX0_countOf 16 = .ok (.iload_n 3, 1) := by decide +kernel
theorem dX0_countOf_17 : decode cX0_countOf 17 = .ok (.iaload, 1) := by decide +kernel
theorem dX0_countOf_18 : decode cX0_countOf 18 = .ok (.iload_n 1, 1) := by decide +kernel
theorem dX0_countOf_19 : decode cX0_countOf 19 = .ok (.if_icmp .ne 6, 3) := by decide +kernel
theorem dX0_countOf_22 : decode cX0_countOf 22 = .ok (.iinc 2 1, 3) := by decide +kernel
theorem dX0_countOf_25 : decode cX0_countOf 25 = .ok (.iinc 3 1, 3) := by decide +kernel
theorem dX0_countOf_28 : decode cX0_countOf 28 = .ok (.goto (-24), 3) := by decide +kernel
theorem dX0_countOf_31 : decode cX0_countOf 31 = .ok (.iload_n 2, 1) := by decide +kernel
theorem dX0_countOf_32 : decode cX0_countOf 32 = .ok (.ireturn, 1) := by decide +kernel
abbrev rmX0_countOf : Room := { frames := 0, cells := 0, slots := 0, locals := 0 }
theorem inX0_countOf_0 : ∀ w ∈ wsX00, w ∈ wsX0_countOf := by decide +kernel
def vX0_countOf_c4 (E : Nat → Int32) (he : Nat → Int32) (p1 : Int32) (Q : Int32 → Prop) : Nat → Int32 → Int32 → Prop
  | 0, _, _ => False
  | n + 1, x2, x3 => (((E 6) ≤ x3 → (Q x2)) ∧ (¬ (E 6) ≤ x3 → (vp_in x3 200 ∧ ((¬ (he x3.toNatClampNeg) = p1 → (vX0_countOf_c4 E he p1 Q n x2 (x3 + (1 : Int32)))) ∧ ((he x3.toNatClampNeg) = p1 → (vX0_countOf_c4 E he p1 Q n (x2 + (1 : Int32)) (x3 + (1 : Int32))))))))
set_option maxHeartbeats 4000000 in
set_option maxRecDepth 100000 in
theorem kX0_countOf_c4 {p : Program} {l : Launch} {e : Env} {s : State} {m : MethodId} {args : Array Value} {below : List Frame} {meth : Method} {c : Code} {g : GP} {qe : Nat} {qt : Nat} {qh : Nat} {qm : Nat} {qb : Nat} {qx : Nat} {E : Nat → Int32} {he : Nat → Int32} {p1 : Int32} {Q : Int32 → Prop} (S : CallFix p m c cX0_countOf 4 s args wsX0_countOf RX0) (hr : meth.sig.returnType = (some .int)) (hlocks : meth.locks = false) (hG : GK g s) (hP : va_P g.1 vwCl [(qe, .inr (0, [.ref qt, .ref qh, .ref qm, .ref qb, .ref qx, .int (E 5), .int (E 6), .int (E 7), .int (E 8), .int (E 9), .int (E 10), .int (E 11)])), (qh, .inl (g.2 0, 200, .inl he))] s.heap) : ∀ (n : Nat), ∀ (x2 : Int32) (x3 : Int32), vX0_countOf_c4 E he p1 Q n x2 x3 → ∀ (ls : Array Slot), lv_has ls 4 [(0, .ref qe), (1, .int p1), (2, .int x2), (3, .int x3)] → W p l e (headSpec wsX0_countOf rmX0_countOf).room s m args below meth c s.heap [] 0 0 (MQ below (vp_Si Q) args s 0 0 (fun _ => False)) (F0 m 4 ls []) := by
  obtain ⟨hx, hb, hml, hown, hts⟩ := id S
  have hK := hG.1
  intro n
  induction n with
  | zero => intro x2 x3 hv; exact hv.elim
  | succ n ih =>
    intro x2 x3 hv ls hl
    refine lv_iload_n hx hb dX0_countOf_4 rfl (lv_at hl 3 rfl) ?_
    refine lv_aload_n hx hb dX0_countOf_5 rfl (lv_at hl 0 rfl) ?_
    refine va_get (D := g.1) (ci := 0) (v := .int (E 6)) (C := RX0) (T := TX0) (N := 12) hx hb hts inX0_countOf_0 hown hK hP 0 rfl rfl 6 (by decide) (hts (.fieldLink RX0 63 "RangeCodes$Ear" "many" "I") (List.mem_of_getElem? (i := 1) rfl)) (fun _ h9 => h9) rfl dX0_countOf_6 ?_
    obtain ⟨hvt, hvf⟩ := hv
    refine lv_icmp_ge (tgt := 31) hx hb dX0_countOf_9 (by decide) (fun hc => ?_) (fun hc => ?_)
    · have hv := hvt hc
      refine lv_iload_n hx hb dX0_countOf_31 rfl (lv_at hl 2 rfl) ?_
      exact W.iret (v := x2) hx hb hr (fun t ht hW => ⟨_, rfl, hv, ht⟩) (fun _ h => by cases h) dX0_countOf_32
    · have hv := hvf hc
      refine lv_aload_n hx hb dX0_countOf_12 rfl (lv_at hl 0 rfl) ?_
      refine va_get (D := g.1) (ci := 0) (v := .ref qh) (C := RX0) (T := TX0) (N := 12) hx hb hts inX0_countOf_0 hown hK hP 0 rfl rfl 1 (by decide) (hts (.fieldLink RX0 9 "RangeCodes$Ear" "heard" "[I") (List.mem_of_getElem? (i := 2) rfl)) (fun _ h9 => h9) rfl dX0_countOf_13 ?_
      refine lv_iload_n hx hb dX0_countOf_16 rfl (lv_at hl 3 rfl) ?_
      obtain ⟨ho_1, hv⟩ := hv
      refine va_iald hx hb hK hP 1 0 rfl rfl ho_1 dX0_countOf_17 ?_
      refine lv_iload_n hx hb dX0_countOf_18 rfl (lv_at hl 1 rfl) ?_
      obtain ⟨hvt, hvf⟩ := hv
      refine lv_icmp_ne (tgt := 25) hx hb dX0_countOf_19 (by decide) (fun hc => ?_) (fun hc => ?_)
      · have hv := hvt hc
        refine lv_iinc (v := (x3 + (1 : Int32))) (lv' := [(3, .int (x3 + (1 : Int32))), (0, .ref qe), (1, .int p1), (2, .int x2)]) hx hb dX0_countOf_25 hl (k := 3) rfl rfl (by decide) rfl (fun ls hl => ?_)
        refine lv_goto (tgt := 4) hx hb dX0_countOf_28 (by decide) ?_
        exact ih _ _ hv ls (lv_sub hl [1, 2, 3, 0] rfl)
      · have hv := hvf hc
        refine lv_iinc (v := (x2 + (1 : Int32))) (lv' := [(2, .int (x2 + (1 : Int32))), (0, .ref qe), (1, .int p1), (3, .int x3)]) hx hb dX0_countOf_22 hl (k := 2) rfl rfl (by decide) rfl (fun ls hl => ?_)
        refine lv_iinc (v := (x3 + (1 : Int32))) (lv' := [(3, .int (x3 + (1 : Int32))), (2, .int (x2 + (1 : Int32))), (0, .ref qe), (1, .int p1)]) hx hb dX0_countOf_25 hl (k := 3) rfl rfl (by decide) rfl (fun ls hl => ?_)
        refine lv_goto (tgt := 4) hx hb dX0_countOf_28 (by decide) ?_
        exact ih _ _ hv ls (lv_sub hl [2, 3, 1, 0] rfl)
def vX0_countOf (E : Nat → Int32) (he : Nat → Int32) (p1 : Int32) (Q : Int32 → Prop) : Prop := (∃ nn, vX0_countOf_c4 E he p1 Q nn (0 : Int32) (0 : Int32))
set_option maxHeartbeats 4000000 in
set_option maxRecDepth 100000 in
theorem wX0_countOf (l : Launch) (g : GP) (qe : Nat) (qt : Nat) (qh : Nat) (qm : Nat) (qb : Nat) (qx : Nat) (E : Nat → Int32) (he : Nat → Int32) (p1 : Int32) {Q : Int32 → Prop} (hv : vX0_countOf E he p1 Q) : Met l yX0_countOf wsX0_countOf rmX0_countOf (va_Pc [.ref qe, .int p1] (fun U => va_P g.1 vwCl [(qe, .inr (0, [.ref qt, .ref qh, .ref qm, .ref qb, .ref qx, .int (E 5), .int (E 6), .int (E 7), .int (E 8), .int (E 9), .int (E 10), .int (E 11)])), (qh, .inl (g.2 0, 200, .inl he))] U.heap ∧ GK g U)) (vp_Si Q) 0 0 (fun _ => False) := by
  refine Met.ofW (cc := cX0_countOf) (maxL := 4) (ret := (some .int)) (by decide) rfl ?_
  intro p e s m args below meth c s₁ B hml hv'
  obtain ⟨rfl, hP, hG⟩ := hv'
  have S : CallFix p m c cX0_countOf 4 s _ wsX0_countOf RX0 := ⟨B.exec, B.bytes, hml, findClass_of_methodNamed B.named, atoms_spec (ws := wsX0_countOf) B.pre⟩
  obtain ⟨hx, hb, hml, hown, hts⟩ := id S
  have hK := hG.1
  have hr := B.returns
  have hlocks := B.notSynchronized
  have hl := lv_entry ([.ref qe, .int p1]) (n := 4) (Nat.le_of_ble_eq_true rfl)
  rw [lg_entry_eq]
  generalize (lg_sl ([.ref qe, .int p1]) ++ List.replicate (4 - (lg_sl ([.ref qe, .int p1])).length) Slot.unset).toArray = ls at hl ⊢
  have hl : lv_has ls 4 [(0, .ref qe), (1, .int p1)] := hl
  unfold vX0_countOf at hv
  refine lv_iconst (v := (0 : Int32)) hx hb dX0_countOf_0 (by decide) ?_
  refine lv_istore_n (lv' := [(2, .int (0 : Int32)), (0, .ref qe), (1, .int p1)]) hx hb dX0_countOf_1 rfl hl (by decide) rfl (fun ls hl => ?_)
  refine lv_iconst (v := (0 : Int32)) hx hb dX0_countOf_2 (by decide) ?_
  refine lv_istore_n (lv' := [(3, .int (0 : Int32)), (2, .int (0 : Int32)), (0, .ref qe), (1, .int p1)]) hx hb dX0_countOf_3 rfl hl (by decide) rfl (fun ls hl => ?_)
  obtain ⟨nn, hv⟩ := hv
  exact kX0_countOf_c4 S hr hlocks hG hP nn _ _ hv ls (lv_sub hl [2, 3, 1, 0] rfl)
abbrev preX0_countOf (h : Nat → Nat) (mn k : Nat) (E he : Nat → Int32) (p1 : Int32) : Prop := isH h mn he ∧ (E 6).toInt = (mn : Int) ∧ mn ≤ 200 ∧ p1.toInt = (k : Int)
abbrev postX0_countOf (h : Nat → Nat) (mn k : Nat) (_ _ : Nat → Int32) (_ r : Int32) : Prop := r.toInt = ((hcN h k mn : Nat) : Int)
theorem sX0_countOf_1 (h : Nat → Nat) (mn k : Nat) (E he : Nat → Int32) (p1 : Int32) (H : preX0_countOf h mn k E he p1) : ∀ (n i : Nat) (x2 x3 : Int32), x2.toInt = ((hcN h k i : Nat) : Int) → x3.toInt = (i : Int) → i ≤ mn → mn + 1 ≤ i + n → vX0_countOf_c4 E he p1 (postX0_countOf h mn k E he p1) n x2 x3
  | 0, i, x2, x3, _, _, hi, hn => absurd hn (by omega)
  | n + 1, i, x2, x3, h2, h3, hi, hn => by
    obtain ⟨hH, hm, hm2, h1⟩ := id H
    have hle := hcN_le h k i
    rw [vX0_countOf_c4, q_le hm h3]
    refine ⟨fun hc => ?_, fun hc => ⟨q_in h3 (by omega), ?_⟩⟩
    · have : i = mn := by omega
      subst this
      exact h2
    · have h3s := q_1 h3 (by omega)
      rw [q_cl h3, q_eq (hH i (by omega)).1 h1]
      refine ⟨fun hb => sX0_countOf_1 h mn k E he p1 H n (i + 1) _ _ ?_ h3s (by omega) (by omega), fun hb => sX0_countOf_1 h mn k E he p1 H n (i + 1) _ _ ?_ h3s (by omega) (by omega)⟩
      · rw [hcN, if_neg (by omega)]; exact h2
      · rw [hcN, if_pos (by omega)]; exact q_1 h2 (by omega)
theorem sX0_countOf (h : Nat → Nat) (mn k : Nat) (E he : Nat → Int32) (p1 : Int32) (H : preX0_countOf h mn k E he p1) : vX0_countOf E he p1 (postX0_countOf h mn k E he p1) :=
  ⟨mn + 1, sX0_countOf_1 h mn k E he p1 H (mn + 1) 0 0 0 rfl rfl (by omega) (by omega)⟩
theorem dX0_sign_0 : decode cX0_sign 0 = .ok (.aload_n 0, 1) := by decide +kernel
theorem dX0_sign_1 : decode cX0_sign 1 = .ok (.getfield 9, 3) := by decide +kernel
theorem dX0_sign_4 : decode cX0_sign 4 = .ok (.iload_n 1, 1) := by decide +kernel
theorem dX0_sign_5 : decode cX0_sign 5 = .ok (.iaload, 1) := by decide +kernel
theorem dX0_sign_6 : decode cX0_sign 6 = .ok (.iconst 2, 1) := by decide +kernel
theorem dX0_sign_7 : decode cX0_sign 7 = .ok (.if_icmp .ne 7, 3) := by decide +kernel
theorem dX0_sign_10 : decode cX0_sign 10 = .ok (.iconst 0, 1) := by decide +kernel
theorem dX0_sign_11 : decode cX0_sign 11 = .ok (.goto 18, 3) := by decide +kernel
theorem dX0_sign_14 : decode cX0_sign 14 = .ok (.aload_n 0, 1) := by decide +kernel
theorem dX0_sign_15 : decode cX0_sign 15 = .ok (.getfield 9, 3) := by decide +kernel
theorem dX0_sign_18 : decode cX0_sign 18 = .ok (.iload_n 1, 1) := by decide +kernel
theorem dX0_sign_19 : decode cX0_sign 19 = .ok (.iaload, 1) := by decide +kernel
theorem dX0_sign_20 : decode cX0_sign 20 = .ok (.iconst 1, 1) := by decide +kernel
theorem dX0_sign_21 : decode cX0_sign 21 = .ok (.if_icmp .ne 7, 3) := by decide +kernel
theorem dX0_sign_24 : decode cX0_sign 24 = .ok (.iconst 1, 1) := by decide +kernel
theorem dX0_sign_25 : decode cX0_sign 25 = .ok (.goto 4, 3) := by decide +kernel
theorem dX0_sign_28 : decode cX0_sign 28 = .ok (.iconst (-1), 1) := by decide +kernel
theorem dX0_sign_29 : decode cX0_sign 29 = .ok (.ireturn, 1) := by decide +kernel
abbrev rmX0_sign : Room := { frames := 0, cells := 0, slots := 0, locals := 0 }
theorem inX0_sign_0 : ∀ w ∈ wsX00, w ∈ wsX0_sign := by decide +kernel
def vX0_sign (E : Nat → Int32) (he : Nat → Int32) (p1 : Int32) (Q : Int32 → Prop) : Prop := (vp_in p1 200 ∧ ((¬ (he p1.toNatClampNeg) = (2 : Int32) → (vp_in p1 200 ∧ ((¬ (he p1.toNatClampNeg) = (1 : Int32) → (Q (-1 : Int32))) ∧ ((he p1.toNatClampNeg) = (1 : Int32) → (Q (1 : Int32)))))) ∧ ((he p1.toNatClampNeg) = (2 : Int32) → (Q (0 : Int32)))))
set_option maxHeartbeats 4000000 in
set_option maxRecDepth 100000 in
theorem wX0_sign (l : Launch) (g : GP) (qe : Nat) (qt : Nat) (qh : Nat) (qm : Nat) (qb : Nat) (qx : Nat) (E : Nat → Int32) (he : Nat → Int32) (p1 : Int32) {Q : Int32 → Prop} (hv : vX0_sign E he p1 Q) : Met l yX0_sign wsX0_sign rmX0_sign (va_Pc [.ref qe, .int p1] (fun U => va_P g.1 vwCl [(qe, .inr (0, [.ref qt, .ref qh, .ref qm, .ref qb, .ref qx, .int (E 5), .int (E 6), .int (E 7), .int (E 8), .int (E 9), .int (E 10), .int (E 11)])), (qh, .inl (g.2 0, 200, .inl he))] U.heap ∧ GK g U)) (vp_Si Q) 0 0 (fun _ => False) := by
  refine Met.ofW (cc := cX0_sign) (maxL := 2) (ret := (some .int)) (by decide) rfl ?_
  intro p e s m args below meth c s₁ B hml hv'
  obtain ⟨rfl, hP, hG⟩ := hv'
  have S : CallFix p m c cX0_sign 2 s _ wsX0_sign RX0 := ⟨B.exec, B.bytes, hml, findClass_of_methodNamed B.named, atoms_spec (ws := wsX0_sign) B.pre⟩
  obtain ⟨hx, hb, hml, hown, hts⟩ := id S
  have hK := hG.1
  have hr := B.returns
  have hlocks := B.notSynchronized
  have hl := lv_entry ([.ref qe, .int p1]) (n := 2) (Nat.le_of_ble_eq_true rfl)
  rw [lg_entry_eq]
  generalize (lg_sl ([.ref qe, .int p1]) ++ List.replicate (2 - (lg_sl ([.ref qe, .int p1])).length) Slot.unset).toArray = ls at hl ⊢
  have hl : lv_has ls 2 [(0, .ref qe), (1, .int p1)] := hl
  unfold vX0_sign at hv
  refine lv_aload_n hx hb dX0_sign_0 rfl (lv_at hl 0 rfl) ?_
  refine va_get (D := g.1) (ci := 0) (v := .ref qh) (C := RX0) (T := TX0) (N := 12) hx hb hts inX0_sign_0 hown hK hP 0 rfl rfl 1 (by decide) (hts (.fieldLink RX0 9 "RangeCodes$Ear" "heard" "[I") (List.mem_of_getElem? (i := 1) rfl)) (fun _ h9 => h9) rfl dX0_sign_1 ?_
  refine lv_iload_n hx hb dX0_sign_4 rfl (lv_at hl 1 rfl) ?_
  obtain ⟨ho_1, hv⟩ := hv
  refine va_iald hx hb hK hP 1 0 rfl rfl ho_1 dX0_sign_5 ?_
  refine lv_iconst (v := (2 : Int32)) hx hb dX0_sign_6 (by decide) ?_
  obtain ⟨hvt, hvf⟩ := hv
  refine lv_icmp_ne (tgt := 14) hx hb dX0_sign_7 (by decide) (fun hc => ?_) (fun hc => ?_)
  · have hv := hvt hc
    refine lv_aload_n hx hb dX0_sign_14 rfl (lv_at hl 0 rfl) ?_
    refine va_get (D := g.1) (ci := 0) (v := .ref qh) (C := RX0) (T := TX0) (N := 12) hx hb hts inX0_sign_0 hown hK hP 0 rfl rfl 1 (by decide) (hts (.fieldLink RX0 9 "RangeCodes$Ear" "heard" "[I") (List.mem_of_getElem? (i := 1) rfl)) (fun _ h9 => h9) rfl dX0_sign_15 ?_
    refine lv_iload_n hx hb dX0_sign_18 rfl (lv_at hl 1 rfl) ?_
    obtain ⟨ho_2, hv⟩ := hv
    refine va_iald hx hb hK hP 1 0 rfl rfl ho_2 dX0_sign_19 ?_
    refine lv_iconst (v := (1 : Int32)) hx hb dX0_sign_20 (by decide) ?_
    obtain ⟨hvt, hvf⟩ := hv
    refine lv_icmp_ne (tgt := 28) hx hb dX0_sign_21 (by decide) (fun hc => ?_) (fun hc => ?_)
    · have hv := hvt hc
      refine lv_iconst (v := (-1 : Int32)) hx hb dX0_sign_28 (by decide) ?_
      exact W.iret (v := (-1 : Int32)) hx hb hr (fun t ht hW => ⟨_, rfl, hv, ht⟩) (fun _ h => by cases h) dX0_sign_29
    · have hv := hvf hc
      refine lv_iconst (v := (1 : Int32)) hx hb dX0_sign_24 (by decide) ?_
      refine lv_goto (tgt := 29) hx hb dX0_sign_25 (by decide) ?_
      exact W.iret (v := (1 : Int32)) hx hb hr (fun t ht hW => ⟨_, rfl, hv, ht⟩) (fun _ h => by cases h) dX0_sign_29
  · have hv := hvf hc
    refine lv_iconst (v := (0 : Int32)) hx hb dX0_sign_10 (by decide) ?_
    refine lv_goto (tgt := 29) hx hb dX0_sign_11 (by decide) ?_
    exact W.iret (v := (0 : Int32)) hx hb hr (fun t ht hW => ⟨_, rfl, hv, ht⟩) (fun _ h => by cases h) dX0_sign_29
abbrev preX0_sign (h : Nat → Nat) (i : Nat) (_ he : Nat → Int32) (p1 : Int32) : Prop := p1.toInt = (i : Int) ∧ i < 200 ∧ (he i).toInt = (h i : Int)
abbrev postX0_sign (h : Nat → Nat) (i : Nat) (_ _ : Nat → Int32) (_ r : Int32) : Prop := r.toInt = sgZ (h i)
theorem sX0_sign (h : Nat → Nat) (i : Nat) (E he : Nat → Int32) (p1 : Int32) (H : preX0_sign h i E he p1) : vX0_sign E he p1 (postX0_sign h i E he p1) := by
  obtain ⟨h1, hi, hh⟩ := H
  refine ⟨q_in h1 hi, ?_⟩
  unfold postX0_sign sgZ
  rw [q_cl h1, q_eq hh z2]
  refine ⟨fun hc => ⟨q_in h1 hi, ?_⟩, fun hc => ?_⟩
  · rw [q_eq hh z1, if_neg (by omega)]
    refine ⟨fun hd => ?_, fun hd => ?_⟩
    · rw [if_neg (by omega)]; rfl
    · rw [if_pos (by omega)]; rfl
  · rw [if_pos (by omega)]; rfl
theorem dX0_greatest_0 : decode cX0_greatest 0 = .ok (.iload_n 2, 1) := by decide +kernel
theorem dX0_greatest_1 : decode cX0_greatest 1 = .ok (.ifCond .ne 7, 3) := by decide +kernel
theorem dX0_greatest_4 : decode cX0_greatest 4 = .ok (.iconst 1, 1) := by decide +kernel
theorem dX0_greatest_5 : decode cX0_greatest 5 = .ok (.goto 4, 3) := by decide +kernel
theorem dX0_greatest_8 : decode cX0_greatest 8 = .ok (.iconst 0, 1) := by decide +kernel
theorem dX0_greatest_9 : decode cX0_greatest 9 = .ok (.istore_n 3, 1) := by decide +kernel
theorem dX0_greatest_10 : decode cX0_greatest 10 = .ok (.iload_n 3, 1) := by decide +kernel
theorem dX0_greatest_11 : decode cX0_greatest 11 = .ok (.iconst 1, 1) := by decide +kernel
theorem dX0_greatest_12 : decode cX0_greatest 12 = .ok (.iadd, 1) := by decide +kernel
theorem dX0_greatest_13 : decode cX0_greatest 13 = .ok (.istore 4, 2) := by decide +kernel
theorem dX0_greatest_15 : decode cX0_greatest 15 = .ok (.iload 4, 2) := by decide +kernel
theorem dX0_greatest_17 : decode cX0_greatest 17 = .ok (.iload_n 1, 1) := by decide +kernel
theorem dX0_greatest_18 : decode cX0_greatest 18 = .ok (.if_icmp .ge 28, 3) := by decide +kernel
theorem dX0_greatest_21 : decode cX0_greatest 21 = .ok (.iload 4, 2) := by decide +kernel
theorem dX0_greatest_23 : decode cX0_greatest 23 = .ok (.iload_n 2, 1) := by decide +kernel
theorem dX0_greatest_24 : decode cX0_greatest 24 = .ok (.if_icmp .eq 16, 3) := by decide +kernel
theorem dX0_greatest_27 : decode cX0_greatest 27 = .ok (.aload_n 0, 1) := by decide +kernel
theorem dX0_greatest_28 : decode cX0_greatest 28 = .ok (.iload 4, 2) := by decide +kernel
theorem dX0_greatest_30 : decode cX0_greatest 30 = .ok (.iaload, 1) := by decide +kernel
theorem dX0_greatest_31 : decode cX0_greatest 31 = .ok (.aload_n 0, 1) := by decide +kernel
theorem dX0_greatest_32 : decode cX0_greatest 32 = .ok (.iload_n 3, 1) := by decide +kernel
theorem dX0_greatest_33 : decode cX0_greatest 33 = .ok (.iaload, 1) := by decide +kernel
theorem dX0_greatest_34 : decode cX0_greatest 34 = .ok (.if_icmp .le 6, 3) := by decide +kernel
theorem dX0_greatest_37 : decode cX0_greatest 37 = .ok (.iload 4, 2) := by decide +kernel
theorem dX0_greatest_39 : decode cX0_greatest 39 = .ok (.istore_n 3, 1) := by decide +kernel
theorem dX0_greatest_40 : decode cX0_greatest 40 = .ok (.iinc 4 1, 3) := by decide +kernel
theorem dX0_greatest_43 : decode cX0_greatest 43 = .ok (.goto (-28), 3) := by decide +kernel
theorem dX0_greatest_46 : decode cX0_greatest 46 = .ok (.iload_n 3, 1) := by decide +kernel
theorem dX0_greatest_47 : decode cX0_greatest 47 = .ok (.ireturn, 1) := by decide +kernel
abbrev rmX0_greatest : Room := { frames := 0, cells := 0, slots := 0, locals := 0 }
def vX0_greatest_c15 (nC : Nat) (fc : Nat → Int32) (p2 : Int32) (p3 : Int32) (Q : Int32 → Prop) : Nat → Int32 → Int32 → Prop
  | 0, _, _ => False
  | n + 1, x3, x4 => ((p2 ≤ x4 → (Q x3)) ∧ (¬ p2 ≤ x4 → ((x4 = p3 → (vX0_greatest_c15 nC fc p2 p3 Q n x3 (x4 + (1 : Int32)))) ∧ (¬ x4 = p3 → (vp_in x4 nC ∧ (vp_in x3 nC ∧ (((fc x4.toNatClampNeg) ≤ (fc x3.toNatClampNeg) → (vX0_greatest_c15 nC fc p2 p3 Q n x3 (x4 + (1 : Int32)))) ∧ (¬ (fc x4.toNatClampNeg) ≤ (fc x3.toNatClampNeg) → (vX0_greatest_c15 nC fc p2 p3 Q n x4 (x4 + (1 : Int32)))))))))))
set_option maxHeartbeats 4000000 in
set_option maxRecDepth 100000 in
theorem kX0_greatest_c15 {p : Program} {l : Launch} {e : Env} {s : State} {m : MethodId} {args : Array Value} {below : List Frame} {meth : Method} {c : Code} {g : GP} {qc : Nat} {nC : Nat} {fc : Nat → Int32} {p2 : Int32} {p3 : Int32} {Q : Int32 → Prop} (S : CallFix p m c cX0_greatest 5 s args wsX0_greatest RX0) (hr : meth.sig.returnType = (some .int)) (hlocks : meth.locks = false) (hG : GK g s) (hP : va_P g.1 vwCl [(qc, .inl (g.2 0, nC, .inl fc))] s.heap) : ∀ (n : Nat), ∀ (x3 : Int32) (x4 : Int32), vX0_greatest_c15 nC fc p2 p3 Q n x3 x4 → ∀ (ls : Array Slot), lv_has ls 5 [(0, .ref qc), (1, .int p2), (2, .int p3), (3, .int x3), (4, .int x4)] → W p l e (headSpec wsX0_greatest rmX0_greatest).room s m args below meth c s.heap [] 0 0 (MQ below (vp_Si Q) args s 0 0 (fun _ => False)) (F0 m 15 ls []) := by
  obtain ⟨hx, hb, hml, hown, hts⟩ := id S
  have hK := hG.1
  intro n
  induction n with
  | zero => intro x3 x4 hv; exact hv.elim
  | succ n ih =>
    intro x3 x4 hv ls hl
    refine lv_iload hx hb dX0_greatest_15 (lv_at hl 4 rfl) ?_
    refine lv_iload_n hx hb dX0_greatest_17 rfl (lv_at hl 1 rfl) ?_
    obtain ⟨hvt, hvf⟩ := hv
    refine lv_icmp_ge (tgt := 46) hx hb dX0_greatest_18 (by decide) (fun hc => ?_) (fun hc => ?_)
    · have hv := hvt hc
      refine lv_iload_n hx hb dX0_greatest_46 rfl (lv_at hl 3 rfl) ?_
      exact W.iret (v := x3) hx hb hr (fun t ht hW => ⟨_, rfl, hv, ht⟩) (fun _ h => by cases h) dX0_greatest_47
    · have hv := hvf hc
      refine lv_iload hx hb dX0_greatest_21 (lv_at hl 4 rfl) ?_
      refine lv_iload_n hx hb dX0_greatest_23 rfl (lv_at hl 2 rfl) ?_
      obtain ⟨hvt, hvf⟩ := hv
      refine lv_icmp_eq (tgt := 40) hx hb dX0_greatest_24 (by decide) (fun hc => ?_) (fun hc => ?_)
      · have hv := hvt hc
        refine lv_iinc (v := (x4 + (1 : Int32))) (lv' := [(4, .int (x4 + (1 : Int32))), (0, .ref qc), (1, .int p2), (2, .int p3), (3, .int x3)]) hx hb dX0_greatest_40 hl (k := 4) rfl rfl (by decide) rfl (fun ls hl => ?_)
        refine lv_goto (tgt := 15) hx hb dX0_greatest_43 (by decide) ?_
        exact ih _ _ hv ls (lv_sub hl [1, 2, 3, 4, 0] rfl)
      · have hv := hvf hc
        refine lv_aload_n hx hb dX0_greatest_27 rfl (lv_at hl 0 rfl) ?_
        refine lv_iload hx hb dX0_greatest_28 (lv_at hl 4 rfl) ?_
        obtain ⟨ho_1, hv⟩ := hv
        refine va_iald hx hb hK hP 0 0 rfl rfl ho_1 dX0_greatest_30 ?_
        refine lv_aload_n hx hb dX0_greatest_31 rfl (lv_at hl 0 rfl) ?_
        refine lv_iload_n hx hb dX0_greatest_32 rfl (lv_at hl 3 rfl) ?_
        obtain ⟨ho_2, hv⟩ := hv
        refine va_iald hx hb hK hP 0 0 rfl rfl ho_2 dX0_greatest_33 ?_
        obtain ⟨hvt, hvf⟩ := hv
        refine lv_icmp_le (tgt := 40) hx hb dX0_greatest_34 (by decide) (fun hc => ?_) (fun hc => ?_)
        · have hv := hvt hc
          refine lv_iinc (v := (x4 + (1 : Int32))) (lv' := [(4, .int (x4 + (1 : Int32))), (0, .ref qc), (1, .int p2), (2, .int p3), (3, .int x3)]) hx hb dX0_greatest_40 hl (k := 4) rfl rfl (by decide) rfl (fun ls hl => ?_)
          refine lv_goto (tgt := 15) hx hb dX0_greatest_43 (by decide) ?_
          exact ih _ _ hv ls (lv_sub hl [1, 2, 3, 4, 0] rfl)
        · have hv := hvf hc
          refine lv_iload hx hb dX0_greatest_37 (lv_at hl 4 rfl) ?_
          refine lv_istore_n (lv' := [(3, .int x4), (0, .ref qc), (1, .int p2), (2, .int p3), (4, .int x4)]) hx hb dX0_greatest_39 rfl hl (by decide) rfl (fun ls hl => ?_)
          refine lv_iinc (v := (x4 + (1 : Int32))) (lv' := [(4, .int (x4 + (1 : Int32))), (3, .int x4), (0, .ref qc), (1, .int p2), (2, .int p3)]) hx hb dX0_greatest_40 hl (k := 4) rfl rfl (by decide) rfl (fun ls hl => ?_)
          refine lv_goto (tgt := 15) hx hb dX0_greatest_43 (by decide) ?_
          exact ih _ _ hv ls (lv_sub hl [2, 3, 4, 1, 0] rfl)
def vX0_greatest (nC : Nat) (fc : Nat → Int32) (p2 : Int32) (p3 : Int32) (Q : Int32 → Prop) : Prop := ((¬ p3 = 0 → (∀ y_13 : Int32, y_13 = ((0 : Int32) + (1 : Int32)) → (∃ nn, vX0_greatest_c15 nC fc p2 p3 Q nn (0 : Int32) y_13))) ∧ (p3 = 0 → (∀ y_13 : Int32, y_13 = ((1 : Int32) + (1 : Int32)) → (∃ nn, vX0_greatest_c15 nC fc p2 p3 Q nn (1 : Int32) y_13))))
set_option maxHeartbeats 4000000 in
set_option maxRecDepth 100000 in
theorem wX0_greatest (l : Launch) (g : GP) (qc : Nat) (nC : Nat) (fc : Nat → Int32) (p2 : Int32) (p3 : Int32) {Q : Int32 → Prop} (hv : vX0_greatest nC fc p2 p3 Q) : Met l yX0_greatest wsX0_greatest rmX0_greatest (va_Pc [.ref qc, .int p2, .int p3] (fun U => va_P g.1 vwCl [(qc, .inl (g.2 0, nC, .inl fc))] U.heap ∧ GK g U)) (vp_Si Q) 0 0 (fun _ => False) := by
  refine Met.ofW (cc := cX0_greatest) (maxL := 5) (ret := (some .int)) (by decide) rfl ?_
  intro p e s m args below meth c s₁ B hml hv'
  obtain ⟨rfl, hP, hG⟩ := hv'
  have S : CallFix p m c cX0_greatest 5 s _ wsX0_greatest RX0 := ⟨B.exec, B.bytes, hml, findClass_of_methodNamed B.named, atoms_spec (ws := wsX0_greatest) B.pre⟩
  obtain ⟨hx, hb, hml, hown, hts⟩ := id S
  have hK := hG.1
  have hr := B.returns
  have hlocks := B.notSynchronized
  have hl := lv_entry ([.ref qc, .int p2, .int p3]) (n := 5) (Nat.le_of_ble_eq_true rfl)
  rw [lg_entry_eq]
  generalize (lg_sl ([.ref qc, .int p2, .int p3]) ++ List.replicate (5 - (lg_sl ([.ref qc, .int p2, .int p3])).length) Slot.unset).toArray = ls at hl ⊢
  have hl : lv_has ls 5 [(0, .ref qc), (1, .int p2), (2, .int p3)] := hl
  unfold vX0_greatest at hv
  refine lv_iload_n hx hb dX0_greatest_0 rfl (lv_at hl 2 rfl) ?_
  obtain ⟨hvt, hvf⟩ := hv
  refine lv_if_ne (tgt := 8) hx hb dX0_greatest_1 (by decide) (fun hc => ?_) (fun hc => ?_)
  · have hv := hvt hc
    refine lv_iconst (v := (0 : Int32)) hx hb dX0_greatest_8 (by decide) ?_
    refine lv_istore_n (lv' := [(3, .int (0 : Int32)), (0, .ref qc), (1, .int p2), (2, .int p3)]) hx hb dX0_greatest_9 rfl hl (by decide) rfl (fun ls hl => ?_)
    refine lv_iload_n hx hb dX0_greatest_10 rfl (lv_at hl 0 rfl) ?_
    refine lv_iconst (v := (1 : Int32)) hx hb dX0_greatest_11 (by decide) ?_
    refine lv_iadd hx hb dX0_greatest_12 ?_
    refine lv_topi (fun y_13 ey_13 => ?_)
    have hv := hv y_13 ey_13
    refine lv_istore (lv' := [(4, .int y_13), (3, .int (0 : Int32)), (0, .ref qc), (1, .int p2), (2, .int p3)]) hx hb dX0_greatest_13 hl (by decide) rfl (fun ls hl => ?_)
    obtain ⟨nn, hv⟩ := hv
    exact kX0_greatest_c15 S hr hlocks hG hP nn _ _ hv ls (lv_sub hl [2, 3, 4, 1, 0] rfl)
  · have hv := hvf hc
    refine lv_iconst (v := (1 : Int32)) hx hb dX0_greatest_4 (by decide) ?_
    refine lv_goto (tgt := 9) hx hb dX0_greatest_5 (by decide) ?_
    refine lv_istore_n (lv' := [(3, .int (1 : Int32)), (0, .ref qc), (1, .int p2), (2, .int p3)]) hx hb dX0_greatest_9 rfl hl (by decide) rfl (fun ls hl => ?_)
    refine lv_iload_n hx hb dX0_greatest_10 rfl (lv_at hl 0 rfl) ?_
    refine lv_iconst (v := (1 : Int32)) hx hb dX0_greatest_11 (by decide) ?_
    refine lv_iadd hx hb dX0_greatest_12 ?_
    refine lv_topi (fun y_13 ey_13 => ?_)
    have hv := hv y_13 ey_13
    refine lv_istore (lv' := [(4, .int y_13), (3, .int (1 : Int32)), (0, .ref qc), (1, .int p2), (2, .int p3)]) hx hb dX0_greatest_13 hl (by decide) rfl (fun ls hl => ?_)
    obtain ⟨nn, hv⟩ := hv
    exact kX0_greatest_c15 S hr hlocks hG hP nn _ _ hv ls (lv_sub hl [2, 3, 4, 1, 0] rfl)
abbrev preX0_greatest (m : Nat → Int) (n : Nat) (bu : Int) (nC : Nat) (fc : Nat → Int32) (p2 p3 : Int32) : Prop := p2.toInt = (n : Int) ∧ n ≤ nC ∧ n ≤ 1000 ∧ 1 ≤ n ∧ (bu = 0 → 2 ≤ n) ∧ p3.toInt = bu ∧ ∀ w, w < n → (fc w).toInt = m w
abbrev postX0_greatest (m : Nat → Int) (n : Nat) (bu : Int) (_ : Nat) (_ : Nat → Int32) (_ _ r : Int32) : Prop := r.toInt = ((bsx m bu n : Nat) : Int)
theorem sX0_greatest_1 (m : Nat → Int) (nn : Nat) (bu : Int) (nC : Nat) (fc : Nat → Int32) (p2 p3 : Int32) (H : preX0_greatest m nn bu nC fc p2 p3) : ∀ (n i : Nat) (x3 x4 : Int32), x3.toInt = ((bsx m bu i : Nat) : Int) → x4.toInt = (i : Int) → 1 ≤ i → (bu = 0 → 2 ≤ i) → i ≤ nn → nn + 1 ≤ i + n → vX0_greatest_c15 nC fc p2 p3 (postX0_greatest m nn bu nC fc p2 p3) n x3 x4
  | 0, i, x3, x4, _, _, _, _, hi, hn => absurd hn (by omega)
  | n + 1, i, x3, x4, h3, h4, hi1, hi2, hi, hn => by
    obtain ⟨h2, hnC, hnn, -, -, hp3, hm⟩ := id H
    have hb := bsx_lt m bu i hi1 hi2
    rw [vX0_greatest_c15, q_le h2 h4]
    refine ⟨fun hc => ?_, fun hc => ?_⟩
    · have : i = nn := by omega
      subst this
      exact h3
    · have h4s := q_1 h4 (by omega)
      have stay : bsx m bu (i + 1) = bsx m bu i → vX0_greatest_c15 nC fc p2 p3 (postX0_greatest m nn bu nC fc p2 p3) n x3 (x4 + (1 : Int32)) := fun e => sX0_greatest_1 m nn bu nC fc p2 p3 H n (i + 1) _ _ (by rw [e]; exact h3) h4s (by omega) (by omega) (by omega) (by omega)
      rw [q_eq h4 hp3]
      refine ⟨fun hq => stay ?_, fun hq => ⟨q_in h4 (by omega), q_in h3 (by omega), ?_⟩⟩
      · rw [bsx, if_neg (fun z => z.1 hq)]
      · rw [q_cl h4, q_cl h3, fa_le, hm i (by omega), hm _ (by omega)]
        refine ⟨fun hl => stay ?_, fun hl => sX0_greatest_1 m nn bu nC fc p2 p3 H n (i + 1) _ _ ?_ h4s (by omega) (by omega) (by omega) (by omega)⟩
        · rw [bsx, if_neg (fun z => by omega)]
        · rw [bsx, if_pos ⟨hq, by omega⟩]; exact h4
theorem sX0_greatest (m : Nat → Int) (n : Nat) (bu : Int) (nC : Nat) (fc : Nat → Int32) (p2 p3 : Int32) (H : preX0_greatest m n bu nC fc p2 p3) : vX0_greatest nC fc p2 p3 (postX0_greatest m n bu nC fc p2 p3) := by
  obtain ⟨h2, hnC, hnn, hn1, hn2, hp3, hm⟩ := id H
  unfold vX0_greatest
  rw [fa_eq p3, z0, hp3]
  refine ⟨fun hc y hy => ⟨n + 1, sX0_greatest_1 m n bu nC fc p2 p3 H (n + 1) 1 0 y (by rw [bsx_1 m bu hc]; rfl) (by rw [hy]; rfl) (by omega) (fun q => absurd q hc) (by omega) (by omega)⟩, fun hc y hy => ⟨n + 1, ?_⟩⟩
  subst hc
  exact sX0_greatest_1 m n 0 nC fc p2 p3 H (n + 1) 2 1 y (by rw [bsx_2]; rfl) (by rw [hy]; rfl) (by omega) (fun _ => by omega) (hn2 rfl) (by omega)
set_option maxRecDepth 20000 in
theorem ggX0_addMatches_X7_chipOf : GoodIn wsX0_addMatches wsX7_chipOf := goodIn_r _ [7, 8, 9, 10, 11, 12, 25, 26, 27, 28, 29, 30] (by decide +kernel) (by decide +kernel)
set_option maxRecDepth 20000 in
theorem gX0_addMatches_X7_chipOf : GoodIn wsX0_addMatches (wsV RX0 126 RX7 yX7_chipOf wsX7_chipOf) := goodIn_app (goodIn_of _ (by decide +kernel)) ggX0_addMatches_X7_chipOf
theorem dX0_addMatches_0 : decode cX0_addMatches 0 = .ok (.iconst 0, 1) := by decide +kernel
theorem dX0_addMatches_1 : decode cX0_addMatches 1 = .ok (.istore 5, 2) := by decide +kernel
theorem dX0_addMatches_3 : decode cX0_addMatches 3 = .ok (.iload 5, 2) := by decide +kernel
theorem dX0_addMatches_5 : decode cX0_addMatches 5 = .ok (.aload_n 0, 1) := by decide +kernel
theorem dX0_addMatches_6 : decode cX0_addMatches 6 = .ok (.getfield 26, 3) := by decide +kernel
theorem dX0_addMatches_9 : decode cX0_addMatches 9 = .ok (.getfield 107, 3) := by decide +kernel
theorem dX0_addMatches_12 : decode cX0_addMatches 12 = .ok (.iload_n 2, 1) := by decide +kernel
theorem dX0_addMatches_13 : decode cX0_addMatches 13 = .ok (.iaload, 1) := by decide +kernel
theorem dX0_addMatches_14 : decode cX0_addMatches 14 = .ok (.if_icmp .ge 40, 3) := by decide +kernel
theorem dX0_addMatches_17 : decode cX0_addMatches 17 = .ok (.aload_n 1, 1) := by decide +kernel
theorem dX0_addMatches_18 : decode cX0_addMatches 18 = .ok (.iload 5, 2) := by decide +kernel
theorem dX0_addMatches_20 : decode cX0_addMatches 20 = .ok (.dup2, 1) := by decide +kernel
theorem dX0_addMatches_21 : decode cX0_addMatches 21 = .ok (.iaload, 1) := by decide +kernel
theorem dX0_addMatches_22 : decode cX0_addMatches 22 = .ok (.aload_n 0, 1) := by decide +kernel
theorem dX0_addMatches_23 : decode cX0_addMatches 23 = .ok (.getfield 26, 3) := by decide +kernel
theorem dX0_addMatches_26 : decode cX0_addMatches 26 = .ok (.iload_n 2, 1) := by decide +kernel
theorem dX0_addMatches_27 : decode cX0_addMatches 27 = .ok (.iload_n 3, 1) := by decide +kernel
theorem dX0_addMatches_28 : decode cX0_addMatches 28 = .ok (.iload 5, 2) := by decide +kernel
theorem dX0_addMatches_30 : decode cX0_addMatches 30 = .ok (.isub, 1) := by decide +kernel
theorem dX0_addMatches_31 : decode cX0_addMatches 31 = .ok (.invokevirtual 126, 3) := by decide +kernel
theorem dX0_addMatches_34 : decode cX0_addMatches 34 = .ok (.iconst 1, 1) := by decide +kernel
theorem dX0_addMatches_35 : decode cX0_addMatches 35 = .ok (.if_icmp .ne 8, 3) := by decide +kernel
theorem dX0_addMatches_38 : decode cX0_addMatches 38 = .ok (.iload 4, 2) := by decide +kernel
theorem dX0_addMatches_40 : decode cX0_addMatches 40 = .ok (.goto 6, 3) := by decide +kernel
theorem dX0_addMatches_43 : decode cX0_addMatches 43 = .ok (.iload 4, 2) := by decide +kernel
theorem dX0_addMatches_45 : decode cX0_addMatches 45 = .ok (.ineg, 1) := by decide +kernel
theorem dX0_addMatches_46 : decode cX0_addMatches 46 = .ok (.iadd, 1) := by decide +kernel
theorem dX0_addMatches_47 : decode cX0_addMatches 47 = .ok (.iastore, 1) := by decide +kernel
theorem dX0_addMatches_48 : decode cX0_addMatches 48 = .ok (.iinc 5 1, 3) := by decide +kernel
theorem dX0_addMatches_51 : decode cX0_addMatches 51 = .ok (.goto (-48), 3) := by decide +kernel
theorem dX0_addMatches_54 : decode cX0_addMatches 54 = .ok (.return_, 1) := by decide +kernel
abbrev rmX0_addMatches : Room := { frames := 2, cells := 0, slots := 0, locals := 44 }
theorem inX0_addMatches_0 : ∀ w ∈ wsX00, w ∈ wsX0_addMatches := by decide +kernel
theorem inX0_addMatches_7 : ∀ w ∈ wsX70, w ∈ wsX0_addMatches := by decide +kernel
def vX0_addMatches_c3 (E : Nat → Int32) (parts : Int32) (limit : Int32) (len : Nat → Int32) (row : Nat → Int32) (p2 : Int32) (p3 : Int32) (p4 : Int32) (Q : (Nat → Int32) → Prop) : Nat → Int32 → (Nat → Int32) → Prop
  | 0, _, _ => False
  | n + 1, x5, fc => (vp_in p2 5 ∧ (((len p2.toNatClampNeg) ≤ x5 → (Q fc)) ∧ (¬ (len p2.toNatClampNeg) ≤ x5 → (vp_in x5 13 ∧ (∃ (T_31 : Cd) (pp_31 : Nat), preX7_chipOf T_31 pp_31 parts limit len row p2 (p3 - x5) ∧ (∀ r_31 : Int32, postX7_chipOf T_31 pp_31 parts limit len row p2 (p3 - x5) r_31 → ((¬ r_31 = (1 : Int32) → (∀ a_47 : Int32, a_47 = ((fc x5.toNatClampNeg) + (-p4)) → (vp_in x5 13 ∧ (vX0_addMatches_c3 E parts limit len row p2 p3 p4 Q n (x5 + (1 : Int32)) (upd fc x5.toNatClampNeg a_47))))) ∧ (r_31 = (1 : Int32) → (∀ a_47 : Int32, a_47 = ((fc x5.toNatClampNeg) + p4) → (vp_in x5 13 ∧ (vX0_addMatches_c3 E parts limit len row p2 p3 p4 Q n (x5 + (1 : Int32)) (upd fc x5.toNatClampNeg a_47))))))))))))
set_option maxHeartbeats 4000000 in
set_option maxRecDepth 100000 in
theorem kX0_addMatches_c3 {p : Program} {l : Launch} {e : Env} {s : State} {m : MethodId} {args : Array Value} {below : List Frame} {meth : Method} {c : Code} {g : GP} {qe : Nat} {qt : Nat} {qh : Nat} {qm : Nat} {qb : Nat} {qx : Nat} {ql : Nat} {qr : Nat} {qv : Nat} {qg : Nat} {qc : Nat} {E : Nat → Int32} {parts : Int32} {limit : Int32} {len : Nat → Int32} {row : Nat → Int32} {p2 : Int32} {p3 : Int32} {p4 : Int32} {Q : (Nat → Int32) → Prop} {A : Nat → Prop} (S : CallFix p m c cX0_addMatches 6 s args wsX0_addMatches RX0) (hr : meth.sig.returnType = none) (hlocks : meth.locks = false) (hG : GK g s) (hA : ∀ q : Nat, s.heap.size ≤ q → A q) : ∀ (n : Nat), ∀ (x5 : Int32) (fc : Nat → Int32), vX0_addMatches_c3 E parts limit len row p2 p3 p4 Q n x5 fc → ∀ (H : Heap) (locs : List Loc), va_P g.1 vwCl [(qe, .inr (0, [.ref qt, .ref qh, .ref qm, .ref qb, .ref qx, .int (E 5), .int (E 6), .int (E 7), .int (E 8), .int (E 9), .int (E 10), .int (E 11)])), (qt, .inr (7, [.ref ql, .ref qr, .ref qv, .ref qg, .int parts, .int limit])), (ql, .inl (g.2 0, 5, .inl len)), (qr, .inl (g.2 0, 5, .inl row)), (qc, .inl (g.2 0, 13, .inl fc))] H → va_D A [(qe, .inr (0, [.ref qt, .ref qh, .ref qm, .ref qb, .ref qx, .int (E 5), .int (E 6), .int (E 7), .int (E 8), .int (E 9), .int (E 10), .int (E 11)])), (qt, .inr (7, [.ref ql, .ref qr, .ref qv, .ref qg, .int parts, .int limit])), (ql, .inl (g.2 0, 5, .inl len)), (qr, .inl (g.2 0, 5, .inl row)), (qc, .inl (g.2 0, 13, .inl fc))] → va_S A s.heap H locs → ∀ (ls : Array Slot), lv_has ls 6 [(0, .ref qe), (1, .ref qc), (2, .int p2), (3, .int p3), (4, .int p4), (5, .int x5)] → W p l e (headSpec wsX0_addMatches rmX0_addMatches).room s m args below meth c H locs 0 0 (MQ below (va_Qv (fun (u : (Nat → Int32)) => Q u) (fun (u : (Nat → Int32)) t => va_P g.1 vwCl [(qe, .inr (0, [.ref qt, .ref qh, .ref qm, .ref qb, .ref qx, .int (E 5), .int (E 6), .int (E 7), .int (E 8), .int (E 9), .int (E 10), .int (E 11)])), (qt, .inr (7, [.ref ql, .ref qr, .ref qv, .ref qg, .int parts, .int limit])), (ql, .inl (g.2 0, 5, .inl len)), (qr, .inl (g.2 0, 5, .inl row)), (qc, .inl (g.2 0, 13, .inl u))] t.heap ∧ va_D A [(qe, .inr (0, [.ref qt, .ref qh, .ref qm, .ref qb, .ref qx, .int (E 5), .int (E 6), .int (E 7), .int (E 8), .int (E 9), .int (E 10), .int (E 11)])), (qt, .inr (7, [.ref ql, .ref qr, .ref qv, .ref qg, .int parts, .int limit])), (ql, .inl (g.2 0, 5, .inl len)), (qr, .inl (g.2 0, 5, .inl row)), (qc, .inl (g.2 0, 13, .inl u))]) A) args s 0 0 A) (F0 m 3 ls []) := by
  obtain ⟨hx, hb, hml, hown, hts⟩ := id S
  have hK := hG.1
  intro n
  induction n with
  | zero => intro x5 fc hv; exact hv.elim
  | succ n ih =>
    intro x5 fc hv H locs hP hD hS ls hl
    refine lv_iload hx hb dX0_addMatches_3 (lv_at hl 5 rfl) ?_
    refine lv_aload_n hx hb dX0_addMatches_5 rfl (lv_at hl 0 rfl) ?_
    refine va_get (D := g.1) (ci := 0) (v := .ref qt) (C := RX0) (T := TX0) (N := 12) hx hb hts inX0_addMatches_0 hown hK hP 0 rfl rfl 0 (by decide) (hts (.fieldLink RX0 26 "RangeCodes$Ear" "told" "LRangeCodes$Told;") (List.mem_of_getElem? (i := 1) rfl)) (fun _ h9 => h9) rfl dX0_addMatches_6 ?_
    refine va_get (D := g.1) (ci := 7) (v := .ref ql) (C := RX7) (T := TX7) (N := 6) hx hb hts inX0_addMatches_7 hown hK hP 1 rfl rfl 0 (by decide) (hts (.fieldLink RX0 107 "RangeCodes$Told" "lengths" "[I") (List.mem_of_getElem? (i := 2) rfl)) (fun _ h9 => h9) rfl dX0_addMatches_9 ?_
    refine lv_iload_n hx hb dX0_addMatches_12 rfl (lv_at hl 2 rfl) ?_
    obtain ⟨ho_1, hv⟩ := hv
    refine va_iald hx hb hK hP 2 0 rfl rfl ho_1 dX0_addMatches_13 ?_
    obtain ⟨hvt, hvf⟩ := hv
    refine lv_icmp_ge (tgt := 54) hx hb dX0_addMatches_14 (by decide) (fun hc => ?_) (fun hc => ?_)
    · have hv := hvt hc
      have hP9 := hP.sub (ws' := [(qe, .inr (0, [.ref qt, .ref qh, .ref qm, .ref qb, .ref qx, .int (E 5), .int (E 6), .int (E 7), .int (E 8), .int (E 9), .int (E 10), .int (E 11)])), (qt, .inr (7, [.ref ql, .ref qr, .ref qv, .ref qg, .int parts, .int limit])), (ql, .inl (g.2 0, 5, .inl len)), (qr, .inl (g.2 0, 5, .inl row)), (qc, .inl (g.2 0, 13, .inl fc))]) [0, 1, 2, 3, 4] rfl
      have hD9 := hD.sub (ws' := [(qe, .inr (0, [.ref qt, .ref qh, .ref qm, .ref qb, .ref qx, .int (E 5), .int (E 6), .int (E 7), .int (E 8), .int (E 9), .int (E 10), .int (E 11)])), (qt, .inr (7, [.ref ql, .ref qr, .ref qv, .ref qg, .int parts, .int limit])), (ql, .inl (g.2 0, 5, .inl len)), (qr, .inl (g.2 0, 5, .inl row)), (qc, .inl (g.2 0, 13, .inl fc))]) [0, 1, 2, 3, 4] (by decide) rfl
      exact W.vret hx hb hr (fun t ht hW => ⟨⟨(fc), rfl, hv, by rw [ht]; exact hP9, hD9⟩, hS.F ht⟩) hS.2.2 dX0_addMatches_54
    · have hv := hvf hc
      refine lv_aload_n hx hb dX0_addMatches_17 rfl (lv_at hl 1 rfl) ?_
      refine lv_iload hx hb dX0_addMatches_18 (lv_at hl 5 rfl) ?_
      refine lv_dup2_11 hx hb dX0_addMatches_20 rfl rfl ?_
      obtain ⟨ho_2, hv⟩ := hv
      refine va_iald hx hb hK hP 4 0 rfl rfl ho_2 dX0_addMatches_21 ?_
      refine lv_aload_n hx hb dX0_addMatches_22 rfl (lv_at hl 0 rfl) ?_
      refine va_get (D := g.1) (ci := 0) (v := .ref qt) (C := RX0) (T := TX0) (N := 12) hx hb hts inX0_addMatches_0 hown hK hP 0 rfl rfl 0 (by decide) (hts (.fieldLink RX0 26 "RangeCodes$Ear" "told" "LRangeCodes$Told;") (List.mem_of_getElem? (i := 1) rfl)) (fun _ h9 => h9) rfl dX0_addMatches_23 ?_
      refine lv_iload_n hx hb dX0_addMatches_26 rfl (lv_at hl 2 rfl) ?_
      refine lv_iload_n hx hb dX0_addMatches_27 rfl (lv_at hl 3 rfl) ?_
      refine lv_iload hx hb dX0_addMatches_28 (lv_at hl 5 rfl) ?_
      refine lv_isub hx hb dX0_addMatches_30 ?_
      obtain ⟨T_31, pp_31, ho_3, hv⟩ := hv
      refine vp_callSi (W.runV (As := [.int p2, .int (p3 - x5)]) (rest := [.int (fc x5.toNatClampNeg), .int x5, .ref qc]) S (wX7_chipOf l g qt ql qr qv qg parts limit len row p2 (p3 - x5) (sX7_chipOf T_31 pp_31 parts limit len row p2 (p3 - x5) ho_3)) (cwV 2 hts gX0_addMatches_X7_chipOf rfl rfl rfl (by decide +kernel) ⟨Nat.le_of_ble_eq_true rfl, Nat.le_of_ble_eq_true rfl⟩) ⟨blindRO, va_recv hK hP (ci := 7) (q0 := 1) rfl rfl, fun U hU hW => ⟨rfl, by rw [hU]; exact hP.sub (ws' := [(qt, .inr (7, [.ref ql, .ref qr, .ref qv, .ref qg, .int parts, .int limit])), (ql, .inl (g.2 0, 5, .inl len)), (qr, .inl (g.2 0, 5, .inl row))]) [1, 2, 3] rfl, hG.warm hW⟩⟩ rfl rfl hl.1 rfl (lv_room (Nat.le_of_ble_eq_true rfl)) dX0_addMatches_31 ⟨Nat.le_of_ble_eq_true rfl, Nat.le_of_ble_eq_true rfl⟩) (fun r_31 hr_31 => ?_)
      have hv := hv r_31 hr_31
      refine lv_iconst (v := (1 : Int32)) hx hb dX0_addMatches_34 (by decide) ?_
      obtain ⟨hvt, hvf⟩ := hv
      refine lv_icmp_ne (tgt := 43) hx hb dX0_addMatches_35 (by decide) (fun hc => ?_) (fun hc => ?_)
      · have hv := hvt hc
        refine lv_iload hx hb dX0_addMatches_43 (lv_at hl 4 rfl) ?_
        refine lv_ineg hx hb dX0_addMatches_45 ?_
        refine lv_iadd hx hb dX0_addMatches_46 ?_
        refine lv_topi (fun a_47 ea_47 => ?_)
        have hv := hv a_47 ea_47
        obtain ⟨ho_4, hv⟩ := hv
        refine va_iast hx hb hK hP hD hS 4 0 rfl rfl ho_4 dX0_addMatches_47 (fun H locs hP hD hS => ?_)
        have hP : va_P g.1 vwCl [(qe, .inr (0, [.ref qt, .ref qh, .ref qm, .ref qb, .ref qx, .int (E 5), .int (E 6), .int (E 7), .int (E 8), .int (E 9), .int (E 10), .int (E 11)])), (qt, .inr (7, [.ref ql, .ref qr, .ref qv, .ref qg, .int parts, .int limit])), (ql, .inl (g.2 0, 5, .inl len)), (qr, .inl (g.2 0, 5, .inl row)), (qc, .inl (g.2 0, 13, .inl (upd fc x5.toNatClampNeg a_47)))] H := hP
        have hD : va_D A [(qe, .inr (0, [.ref qt, .ref qh, .ref qm, .ref qb, .ref qx, .int (E 5), .int (E 6), .int (E 7), .int (E 8), .int (E 9), .int (E 10), .int (E 11)])), (qt, .inr (7, [.ref ql, .ref qr, .ref qv, .ref qg, .int parts, .int limit])), (ql, .inl (g.2 0, 5, .inl len)), (qr, .inl (g.2 0, 5, .inl row)), (qc, .inl (g.2 0, 13, .inl (upd fc x5.toNatClampNeg a_47)))] := hD
        refine lv_iinc (v := (x5 + (1 : Int32))) (lv' := [(5, .int (x5 + (1 : Int32))), (0, .ref qe), (1, .ref qc), (2, .int p2), (3, .int p3), (4, .int p4)]) hx hb dX0_addMatches_48 hl (k := 5) rfl rfl (by decide) rfl (fun ls hl => ?_)
        refine lv_goto (tgt := 3) hx hb dX0_addMatches_51 (by decide) ?_
        exact ih _ _ hv _ _ (hP.sub (ws' := [(qe, .inr (0, [.ref qt, .ref qh, .ref qm, .ref qb, .ref qx, .int (E 5), .int (E 6), .int (E 7), .int (E 8), .int (E 9), .int (E 10), .int (E 11)])), (qt, .inr (7, [.ref ql, .ref qr, .ref qv, .ref qg, .int parts, .int limit])), (ql, .inl (g.2 0, 5, .inl len)), (qr, .inl (g.2 0, 5, .inl row)), (qc, .inl (g.2 0, 13, .inl (upd fc x5.toNatClampNeg a_47)))]) [0, 1, 2, 3, 4] rfl) (hD.sub (ws' := [(qe, .inr (0, [.ref qt, .ref qh, .ref qm, .ref qb, .ref qx, .int (E 5), .int (E 6), .int (E 7), .int (E 8), .int (E 9), .int (E 10), .int (E 11)])), (qt, .inr (7, [.ref ql, .ref qr, .ref qv, .ref qg, .int parts, .int limit])), (ql, .inl (g.2 0, 5, .inl len)), (qr, .inl (g.2 0, 5, .inl row)), (qc, .inl (g.2 0, 13, .inl (upd fc x5.toNatClampNeg a_47)))]) [0, 1, 2, 3, 4] (by decide) rfl) hS ls (lv_sub hl [1, 2, 3, 4, 5, 0] rfl)
      · have hv := hvf hc
        refine lv_iload hx hb dX0_addMatches_38 (lv_at hl 4 rfl) ?_
        refine lv_goto (tgt := 46) hx hb dX0_addMatches_40 (by decide) ?_
        refine lv_iadd hx hb dX0_addMatches_46 ?_
        refine lv_topi (fun a_47 ea_47 => ?_)
        have hv := hv a_47 ea_47
        obtain ⟨ho_5, hv⟩ := hv
        refine va_iast hx hb hK hP hD hS 4 0 rfl rfl ho_5 dX0_addMatches_47 (fun H locs hP hD hS => ?_)
        have hP : va_P g.1 vwCl [(qe, .inr (0, [.ref qt, .ref qh, .ref qm, .ref qb, .ref qx, .int (E 5), .int (E 6), .int (E 7), .int (E 8), .int (E 9), .int (E 10), .int (E 11)])), (qt, .inr (7, [.ref ql, .ref qr, .ref qv, .ref qg, .int parts, .int limit])), (ql, .inl (g.2 0, 5, .inl len)), (qr, .inl (g.2 0, 5, .inl row)), (qc, .inl (g.2 0, 13, .inl (upd fc x5.toNatClampNeg a_47)))] H := hP
        have hD : va_D A [(qe, .inr (0, [.ref qt, .ref qh, .ref qm, .ref qb, .ref qx, .int (E 5), .int (E 6), .int (E 7), .int (E 8), .int (E 9), .int (E 10), .int (E 11)])), (qt, .inr (7, [.ref ql, .ref qr, .ref qv, .ref qg, .int parts, .int limit])), (ql, .inl (g.2 0, 5, .inl len)), (qr, .inl (g.2 0, 5, .inl row)), (qc, .inl (g.2 0, 13, .inl (upd fc x5.toNatClampNeg a_47)))] := hD
        refine lv_iinc (v := (x5 + (1 : Int32))) (lv' := [(5, .int (x5 + (1 : Int32))), (0, .ref qe), (1, .ref qc), (2, .int p2), (3, .int p3), (4, .int p4)]) hx hb dX0_addMatches_48 hl (k := 5) rfl rfl (by decide) rfl (fun ls hl => ?_)
        refine lv_goto (tgt := 3) hx hb dX0_addMatches_51 (by decide) ?_
        exact ih _ _ hv _ _ (hP.sub (ws' := [(qe, .inr (0, [.ref qt, .ref qh, .ref qm, .ref qb, .ref qx, .int (E 5), .int (E 6), .int (E 7), .int (E 8), .int (E 9), .int (E 10), .int (E 11)])), (qt, .inr (7, [.ref ql, .ref qr, .ref qv, .ref qg, .int parts, .int limit])), (ql, .inl (g.2 0, 5, .inl len)), (qr, .inl (g.2 0, 5, .inl row)), (qc, .inl (g.2 0, 13, .inl (upd fc x5.toNatClampNeg a_47)))]) [0, 1, 2, 3, 4] rfl) (hD.sub (ws' := [(qe, .inr (0, [.ref qt, .ref qh, .ref qm, .ref qb, .ref qx, .int (E 5), .int (E 6), .int (E 7), .int (E 8), .int (E 9), .int (E 10), .int (E 11)])), (qt, .inr (7, [.ref ql, .ref qr, .ref qv, .ref qg, .int parts, .int limit])), (ql, .inl (g.2 0, 5, .inl len)), (qr, .inl (g.2 0, 5, .inl row)), (qc, .inl (g.2 0, 13, .inl (upd fc x5.toNatClampNeg a_47)))]) [0, 1, 2, 3, 4] (by decide) rfl) hS ls (lv_sub hl [1, 2, 3, 4, 5, 0] rfl)
def vX0_addMatches (E : Nat → Int32) (parts : Int32) (limit : Int32) (len : Nat → Int32) (row : Nat → Int32) (fc : Nat → Int32) (p2 : Int32) (p3 : Int32) (p4 : Int32) (Q : (Nat → Int32) → Prop) : Prop := (∃ nn, vX0_addMatches_c3 E parts limit len row p2 p3 p4 Q nn (0 : Int32) fc)
set_option maxHeartbeats 4000000 in
set_option maxRecDepth 100000 in
theorem wX0_addMatches (l : Launch) (g : GP) (qe : Nat) (qt : Nat) (qh : Nat) (qm : Nat) (qb : Nat) (qx : Nat) (ql : Nat) (qr : Nat) (qv : Nat) (qg : Nat) (qc : Nat) (sz : Nat) (E : Nat → Int32) (parts : Int32) (limit : Int32) (len : Nat → Int32) (row : Nat → Int32) (fc : Nat → Int32) (p2 : Int32) (p3 : Int32) (p4 : Int32) {Q : (Nat → Int32) → Prop} (hv : vX0_addMatches E parts limit len row fc p2 p3 p4 Q) : Met l yX0_addMatches wsX0_addMatches rmX0_addMatches (va_Pc [.ref qe, .ref qc, .int p2, .int p3, .int p4] (fun U => U.heap.size = sz ∧ va_P g.1 vwCl [(qe, .inr (0, [.ref qt, .ref qh, .ref qm, .ref qb, .ref qx, .int (E 5), .int (E 6), .int (E 7), .int (E 8), .int (E 9), .int (E 10), .int (E 11)])), (qt, .inr (7, [.ref ql, .ref qr, .ref qv, .ref qg, .int parts, .int limit])), (ql, .inl (g.2 0, 5, .inl len)), (qr, .inl (g.2 0, 5, .inl row)), (qc, .inl (g.2 0, 13, .inl fc))] U.heap ∧ GK g U ∧ va_D (fun _ => True) [(qe, .inr (0, [.ref qt, .ref qh, .ref qm, .ref qb, .ref qx, .int (E 5), .int (E 6), .int (E 7), .int (E 8), .int (E 9), .int (E 10), .int (E 11)])), (qt, .inr (7, [.ref ql, .ref qr, .ref qv, .ref qg, .int parts, .int limit])), (ql, .inl (g.2 0, 5, .inl len)), (qr, .inl (g.2 0, 5, .inl row)), (qc, .inl (g.2 0, 13, .inl fc))])) (va_Qv (fun (u : (Nat → Int32)) => Q u) (fun (u : (Nat → Int32)) t => va_P g.1 vwCl [(qe, .inr (0, [.ref qt, .ref qh, .ref qm, .ref qb, .ref qx, .int (E 5), .int (E 6), .int (E 7), .int (E 8), .int (E 9), .int (E 10), .int (E 11)])), (qt, .inr (7, [.ref ql, .ref qr, .ref qv, .ref qg, .int parts, .int limit])), (ql, .inl (g.2 0, 5, .inl len)), (qr, .inl (g.2 0, 5, .inl row)), (qc, .inl (g.2 0, 13, .inl u))] t.heap ∧ va_D (va_A [(qe, .inr (0, [.ref qt, .ref qh, .ref qm, .ref qb, .ref qx, .int (E 5), .int (E 6), .int (E 7), .int (E 8), .int (E 9), .int (E 10), .int (E 11)])), (qt, .inr (7, [.ref ql, .ref qr, .ref qv, .ref qg, .int parts, .int limit])), (ql, .inl (g.2 0, 5, .inl len)), (qr, .inl (g.2 0, 5, .inl row)), (qc, .inl (g.2 0, 13, .inl fc))] sz) [(qe, .inr (0, [.ref qt, .ref qh, .ref qm, .ref qb, .ref qx, .int (E 5), .int (E 6), .int (E 7), .int (E 8), .int (E 9), .int (E 10), .int (E 11)])), (qt, .inr (7, [.ref ql, .ref qr, .ref qv, .ref qg, .int parts, .int limit])), (ql, .inl (g.2 0, 5, .inl len)), (qr, .inl (g.2 0, 5, .inl row)), (qc, .inl (g.2 0, 13, .inl u))]) (va_A [(qe, .inr (0, [.ref qt, .ref qh, .ref qm, .ref qb, .ref qx, .int (E 5), .int (E 6), .int (E 7), .int (E 8), .int (E 9), .int (E 10), .int (E 11)])), (qt, .inr (7, [.ref ql, .ref qr, .ref qv, .ref qg, .int parts, .int limit])), (ql, .inl (g.2 0, 5, .inl len)), (qr, .inl (g.2 0, 5, .inl row)), (qc, .inl (g.2 0, 13, .inl fc))] sz)) 0 0 (va_A [(qe, .inr (0, [.ref qt, .ref qh, .ref qm, .ref qb, .ref qx, .int (E 5), .int (E 6), .int (E 7), .int (E 8), .int (E 9), .int (E 10), .int (E 11)])), (qt, .inr (7, [.ref ql, .ref qr, .ref qv, .ref qg, .int parts, .int limit])), (ql, .inl (g.2 0, 5, .inl len)), (qr, .inl (g.2 0, 5, .inl row)), (qc, .inl (g.2 0, 13, .inl fc))] sz) := by
  refine Met.ofW (cc := cX0_addMatches) (maxL := 6) (ret := none) (by decide) rfl ?_
  intro p e s m args below meth c s₁ B hml hv'
  obtain ⟨rfl, hsz, hP, hG, hD0⟩ := hv'
  have S : CallFix p m c cX0_addMatches 6 s _ wsX0_addMatches RX0 := ⟨B.exec, B.bytes, hml, findClass_of_methodNamed B.named, atoms_spec (ws := wsX0_addMatches) B.pre⟩
  obtain ⟨hx, hb, hml, hown, hts⟩ := id S
  have hK := hG.1
  have hr := B.returns
  have hlocks := B.notSynchronized
  subst hsz
  have hD := hD0.self (sz := s.heap.size)
  generalize hAe : va_A [(qe, .inr (0, [.ref qt, .ref qh, .ref qm, .ref qb, .ref qx, .int (E 5), .int (E 6), .int (E 7), .int (E 8), .int (E 9), .int (E 10), .int (E 11)])), (qt, .inr (7, [.ref ql, .ref qr, .ref qv, .ref qg, .int parts, .int limit])), (ql, .inl (g.2 0, 5, .inl len)), (qr, .inl (g.2 0, 5, .inl row)), (qc, .inl (g.2 0, 13, .inl fc))] s.heap.size = A at hD ⊢
  have hA : ∀ q : Nat, s.heap.size ≤ q → A q := fun q h => by rw [← hAe]; exact Or.inr h
  have hS : va_S A s.heap s.heap [] := va_S.rf
  clear hD0 hAe
  have hl := lv_entry ([.ref qe, .ref qc, .int p2, .int p3, .int p4]) (n := 6) (Nat.le_of_ble_eq_true rfl)
  rw [lg_entry_eq]
  generalize (lg_sl ([.ref qe, .ref qc, .int p2, .int p3, .int p4]) ++ List.replicate (6 - (lg_sl ([.ref qe, .ref qc, .int p2, .int p3, .int p4])).length) Slot.unset).toArray = ls at hl ⊢
  have hl : lv_has ls 6 [(0, .ref qe), (1, .ref qc), (2, .int p2), (3, .int p3), (4, .int p4)] := hl
  unfold vX0_addMatches at hv
  refine lv_iconst (v := (0 : Int32)) hx hb dX0_addMatches_0 (by decide) ?_
  refine lv_istore (lv' := [(5, .int (0 : Int32)), (0, .ref qe), (1, .ref qc), (2, .int p2), (3, .int p3), (4, .int p4)]) hx hb dX0_addMatches_1 hl (by decide) rfl (fun ls hl => ?_)
  obtain ⟨nn, hv⟩ := hv
  exact kX0_addMatches_c3 S hr hlocks hG hA nn _ _ hv _ _ (hP.sub (ws' := [(qe, .inr (0, [.ref qt, .ref qh, .ref qm, .ref qb, .ref qx, .int (E 5), .int (E 6), .int (E 7), .int (E 8), .int (E 9), .int (E 10), .int (E 11)])), (qt, .inr (7, [.ref ql, .ref qr, .ref qv, .ref qg, .int parts, .int limit])), (ql, .inl (g.2 0, 5, .inl len)), (qr, .inl (g.2 0, 5, .inl row)), (qc, .inl (g.2 0, 13, .inl fc))]) [0, 1, 2, 3, 4] rfl) (hD.sub (ws' := [(qe, .inr (0, [.ref qt, .ref qh, .ref qm, .ref qb, .ref qx, .int (E 5), .int (E 6), .int (E 7), .int (E 8), .int (E 9), .int (E 10), .int (E 11)])), (qt, .inr (7, [.ref ql, .ref qr, .ref qv, .ref qg, .int parts, .int limit])), (ql, .inl (g.2 0, 5, .inl len)), (qr, .inl (g.2 0, 5, .inl row)), (qc, .inl (g.2 0, 13, .inl fc))]) [0, 1, 2, 3, 4] (by decide) rfl) hS ls (lv_sub hl [1, 2, 3, 4, 5, 0] rfl)
abbrev preX0_addMatches (T : Cd) (p : Nat) (_ : Nat → Int32) (parts _ : Int32) (len row fc : Nat → Int32) (p2 p3 p4 : Int32) : Prop := cn T ≤ 5 ∧ isL T len ∧ isR T row ∧ p2.toInt = (p : Int) ∧ p < cn T ∧ -1000000 ≤ p3.toInt ∧ p3.toInt ≤ 1000000 ∧ -10000 ≤ p4.toInt ∧ p4.toInt ≤ 10000 ∧ ∀ w, w < cL T p → -100000 ≤ (fc w).toInt ∧ (fc w).toInt ≤ 100000
abbrev postX0_addMatches (T : Cd) (p : Nat) (_ : Nat → Int32) (_ _ : Int32) (_ _ fc : Nat → Int32) (_ p3 p4 : Int32) (fc' : Nat → Int32) : Prop := ∀ w, if w < cL T p then (fc' w).toInt = (fc w).toInt + (if chB T p (p3.toInt - (w : Int)) then p4.toInt else -p4.toInt) else fc' w = fc w
theorem sX0_addMatches_1 (T : Cd) (p : Nat) (E : Nat → Int32) (parts limit : Int32) (len row fc0 : Nat → Int32) (p2 p3 p4 : Int32) (H : preX0_addMatches T p E parts limit len row fc0 p2 p3 p4) : ∀ (n i : Nat) (x5 : Int32) (fc : Nat → Int32), x5.toInt = (i : Int) → i ≤ cL T p → cL T p + 1 ≤ i + n → (∀ w, if w < i then (fc w).toInt = (fc0 w).toInt + (if chB T p (p3.toInt - (w : Int)) then p4.toInt else -p4.toInt) else fc w = fc0 w) → vX0_addMatches_c3 E parts limit len row p2 p3 p4 (postX0_addMatches T p E parts limit len row fc0 p2 p3 p4) n x5 fc
  | 0, i, x5, fc, _, hi, hn, _ => absurd hn (by omega)
  | n + 1, i, x5, fc, h5, hi, hn, hf => by
    obtain ⟨hn5, hL, hR, h2, hp, hb1, hb2, hb3, hb4, hb5⟩ := id H
    have hl := hL p hp
    rw [vX0_addMatches_c3]
    refine ⟨q_in h2 (by omega), ?_⟩
    rw [q_cl h2, q_le hl.1 h5]
    refine ⟨fun hc => ?_, fun hc => ⟨q_in h5 (by omega), ?_⟩⟩
    · have : i = cL T p := by omega
      subst this
      exact hf
    · have h5s := q_1 h5 (by omega)
      have e := q_sub (x := p3) rfl h5 (by omega) (by omega)
      have hfi : fc i = fc0 i := by have := hf i; rw [if_neg (by omega)] at this; exact this
      have hbi := hb5 i (by omega)
      have next : ∀ v : Int32, v.toInt = (fc0 i).toInt + (if chB T p (p3.toInt - (i : Int)) then p4.toInt else -p4.toInt) → vX0_addMatches_c3 E parts limit len row p2 p3 p4 (postX0_addMatches T p E parts limit len row fc0 p2 p3 p4) n (x5 + (1 : Int32)) (upd fc i v) := by
        intro v hv
        refine sX0_addMatches_1 T p E parts limit len row fc0 p2 p3 p4 H n (i + 1) _ _ h5s (by omega) (by omega) (fun w => ?_)
        unfold upd
        have hw := hf w
        by_cases e2 : w = i
        · subst e2
          rw [if_pos (by omega), if_pos rfl]; exact hv
        · rw [if_neg e2]
          by_cases z : w < i
          · rw [if_pos z] at hw; rw [if_pos (by omega)]; exact hw
          · rw [if_neg z] at hw; rw [if_neg (by omega)]; exact hw
      refine ⟨T, p, ⟨hn5, hL, hR, h2, hp⟩, fun r hr => ?_⟩
      have hr : r = if chB T p (p3 - x5).toInt then 1 else 0 := hr
      rw [e] at hr
      rw [q_cl h5, hfi, hr]
      cases hcb : chB T p (p3.toInt - (i : Int)) with
      | false =>
        rw [hcb] at next
        refine ⟨fun _ a ha => ⟨q_in h5 (by omega), next a ?_⟩, fun q => absurd q (by decide)⟩
        rw [ha, q_add rfl (fb_negI (by omega)) (by omega) (by omega)]; rfl
      | true =>
        rw [hcb] at next
        refine ⟨fun q => absurd rfl q, fun _ a ha => ⟨q_in h5 (by omega), next a ?_⟩⟩
        rw [ha, q_add rfl rfl (by omega) (by omega)]; rfl
theorem sX0_addMatches (T : Cd) (p : Nat) (E : Nat → Int32) (parts limit : Int32) (len row fc : Nat → Int32) (p2 p3 p4 : Int32) (H : preX0_addMatches T p E parts limit len row fc p2 p3 p4) : vX0_addMatches E parts limit len row fc p2 p3 p4 (postX0_addMatches T p E parts limit len row fc p2 p3 p4) :=
  ⟨cL T p + 1, sX0_addMatches_1 T p E parts limit len row fc p2 p3 p4 H (cL T p + 1) 0 0 fc rfl (by omega) (by omega) (fun w => by rw [if_neg (by omega)])⟩
