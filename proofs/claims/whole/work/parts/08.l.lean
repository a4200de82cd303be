theorem dJ7_fill_53178_0 : decode cJ7_fill_53178 0 = .ok (.iconst 0, 1) := by decide +kernel
theorem dJ7_fill_53178_1 : decode cJ7_fill_53178 1 = .ok (.istore_n 2, 1) := by decide +kernel
theorem dJ7_fill_53178_2 : decode cJ7_fill_53178 2 = .ok (.aload_n 0, 1) := by decide +kernel
theorem dJ7_fill_53178_3 : decode cJ7_fill_53178 3 = .ok (.arraylength, 1) := by decide +kernel
theorem dJ7_fill_53178_4 : decode cJ7_fill_53178 4 = .ok (.istore_n 3, 1) := by decide +kernel
theorem dJ7_fill_53178_5 : decode cJ7_fill_53178 5 = .ok (.iload_n 2, 1) := by decide +kernel
theorem dJ7_fill_53178_6 : decode cJ7_fill_53178 6 = .ok (.iload_n 3, 1) := by decide +kernel
theorem dJ7_fill_53178_7 : decode cJ7_fill_53178 7 = .ok (.if_icmp .ge 13, 3) := by decide +kernel
theorem dJ7_fill_53178_10 : decode cJ7_fill_53178 10 = .ok (.aload_n 0, 1) := by decide +kernel
theorem dJ7_fill_53178_11 : decode cJ7_fill_53178 11 = .ok (.iload_n 2, 1) := by decide +kernel
theorem dJ7_fill_53178_12 : decode cJ7_fill_53178 12 = .ok (.iload_n 1, 1) := by decide +kernel
theorem dJ7_fill_53178_13 : decode cJ7_fill_53178 13 = .ok (.iastore, 1) := by decide +kernel
theorem dJ7_fill_53178_14 : decode cJ7_fill_53178 14 = .ok (.iinc 2 1, 3) := by decide +kernel
theorem dJ7_fill_53178_17 : decode cJ7_fill_53178 17 = .ok (.goto (-12), 3) := by decide +kernel
theorem dJ7_fill_53178_20 : decode cJ7_fill_53178 20 = .ok (.return_, 1) := by decide +kernel
abbrev rmJ7_fill_53178 : Room := { frames := 0, cells := 0, slots := 0, locals := 0 }
def vJ7_fill_53178_c5 (nA : Nat) (p2 : Int32) (Q : (Nat → Int32) → Prop) : Nat → Int32 → Int32 → (Nat → Int32) → Prop
  | 0, _, _, _ => False
  | n + 1, x2, x3, fA => ((x3 ≤ x2 → (Q fA)) ∧ (¬ x3 ≤ x2 → (vp_in x2 nA ∧ (vJ7_fill_53178_c5 nA p2 Q n (x2 + (1 : Int32)) x3 (upd fA x2.toNatClampNeg p2)))))
set_option maxHeartbeats 4000000 in
set_option maxRecDepth 100000 in
theorem kJ7_fill_53178_c5 {p : Program} {l : Launch} {e : Env} {s : State} {m : MethodId} {args : Array Value} {below : List Frame} {meth : Method} {c : Code} {g : GP} {qa : Nat} {nA : Nat} {p2 : Int32} {Q : (Nat → Int32) → Prop} {A : Nat → Prop} (S : CallFix p m c cJ7_fill_53178 4 s args wsJ7_fill_53178 RJ7) (hr : meth.sig.returnType = none) (hlocks : meth.locks = false) (hG : GK g s) (hA : ∀ q : Nat, s.heap.size ≤ q → A q) : ∀ (n : Nat), ∀ (x2 : Int32) (x3 : Int32) (fA : Nat → Int32), vJ7_fill_53178_c5 nA p2 Q n x2 x3 fA → ∀ (H : Heap) (locs : List Loc), va_P g.1 vwCl [(qa, .inl (g.2 0, nA, .inl fA))] H → va_D A [(qa, .inl (g.2 0, nA, .inl fA))] → va_S A s.heap H locs → ∀ (ls : Array Slot), lv_has ls 4 [(0, .ref qa), (1, .int p2), (2, .int x2), (3, .int x3)] → W p l e (headSpec wsJ7_fill_53178 rmJ7_fill_53178).room s m args below meth c H locs 0 0 (MQ below (va_Qv (fun (u : (Nat → Int32)) => Q u) (fun (u : (Nat → Int32)) t => va_P g.1 vwCl [(qa, .inl (g.2 0, nA, .inl u))] t.heap ∧ va_D A [(qa, .inl (g.2 0, nA, .inl u))]) A) args s 0 0 A) (F0 m 5 ls []) := by
  obtain ⟨hx, hb, hml, hown, hts⟩ := id S
  have hK := hG.1
  intro n
  induction n with
  | zero => intro x2 x3 fA hv; exact hv.elim
  | succ n ih =>
    intro x2 x3 fA hv H locs hP hD hS ls hl
    refine lv_iload_n hx hb dJ7_fill_53178_5 rfl (lv_at hl 2 rfl) ?_
    refine lv_iload_n hx hb dJ7_fill_53178_6 rfl (lv_at hl 3 rfl) ?_
    obtain ⟨hvt, hvf⟩ := hv
    refine lv_icmp_ge (tgt := 20) hx hb dJ7_fill_53178_7 (by decide) (fun hc => ?_) (fun hc => ?_)
    · have hv := hvt hc
      have hP9 := hP.sub (ws' := [(qa, .inl (g.2 0, nA, .inl fA))]) [0] rfl
      have hD9 := hD.sub (ws' := [(qa, .inl (g.2 0, nA, .inl fA))]) [0] (by decide) rfl
      exact W.vret hx hb hr (fun t ht hW => ⟨⟨(fA), rfl, hv, by rw [ht]; exact hP9, hD9⟩, hS.F ht⟩) hS.2.2 dJ7_fill_53178_20
    · have hv := hvf hc
      refine lv_aload_n hx hb dJ7_fill_53178_10 rfl (lv_at hl 0 rfl) ?_
      refine lv_iload_n hx hb dJ7_fill_53178_11 rfl (lv_at hl 2 rfl) ?_
      refine lv_iload_n hx hb dJ7_fill_53178_12 rfl (lv_at hl 1 rfl) ?_
      obtain ⟨ho_1, hv⟩ := hv
      refine va_iast hx hb hK hP hD hS 0 0 rfl rfl ho_1 dJ7_fill_53178_13 (fun H locs hP hD hS => ?_)
      have hP : va_P g.1 vwCl [(qa, .inl (g.2 0, nA, .inl (upd fA x2.toNatClampNeg p2)))] H := hP
      have hD : va_D A [(qa, .inl (g.2 0, nA, .inl (upd fA x2.toNatClampNeg p2)))] := hD
      refine lv_iinc (v := (x2 + (1 : Int32))) (lv' := [(2, .int (x2 + (1 : Int32))), (0, .ref qa), (1, .int p2), (3, .int x3)]) hx hb dJ7_fill_53178_14 hl (k := 2) rfl rfl (by decide) rfl (fun ls hl => ?_)
      refine lv_goto (tgt := 5) hx hb dJ7_fill_53178_17 (by decide) ?_
      exact ih _ _ _ hv _ _ (hP.sub (ws' := [(qa, .inl (g.2 0, nA, .inl (upd fA x2.toNatClampNeg p2)))]) [0] rfl) (hD.sub (ws' := [(qa, .inl (g.2 0, nA, .inl (upd fA x2.toNatClampNeg p2)))]) [0] (by decide) rfl) hS ls (lv_sub hl [1, 2, 0, 3] rfl)
def vJ7_fill_53178 (nA : Nat) (fA : Nat → Int32) (p2 : Int32) (Q : (Nat → Int32) → Prop) : Prop := (∃ nn, vJ7_fill_53178_c5 nA p2 Q nn (0 : Int32) (nI nA) fA)
set_option maxHeartbeats 4000000 in
set_option maxRecDepth 100000 in
theorem wJ7_fill_53178 (l : Launch) (g : GP) (qa : Nat) (sz : Nat) (nA : Nat) (fA : Nat → Int32) (p2 : Int32) {Q : (Nat → Int32) → Prop} (hv : vJ7_fill_53178 nA fA p2 Q) : Met l yJ7_fill_53178 wsJ7_fill_53178 rmJ7_fill_53178 (va_Pc [.ref qa, .int p2] (fun U => U.heap.size = sz ∧ va_P g.1 vwCl [(qa, .inl (g.2 0, nA, .inl fA))] U.heap ∧ GK g U ∧ va_D (fun _ => True) [(qa, .inl (g.2 0, nA, .inl fA))])) (va_Qv (fun (u : (Nat → Int32)) => Q u) (fun (u : (Nat → Int32)) t => va_P g.1 vwCl [(qa, .inl (g.2 0, nA, .inl u))] t.heap ∧ va_D (va_A [(qa, .inl (g.2 0, nA, .inl fA))] sz) [(qa, .inl (g.2 0, nA, .inl u))]) (va_A [(qa, .inl (g.2 0, nA, .inl fA))] sz)) 0 0 (va_A [(qa, .inl (g.2 0, nA, .inl fA))] sz) := by
  refine met_ofWF (cc := cJ7_fill_53178) (maxL := 4) (ret := none) (by decide +kernel) rfl ?_
  intro p e s m args below meth c s₁ B hml hv'
  obtain ⟨rfl, hsz, hP, hG, hD0⟩ := hv'
  have S : CallFix p m c cJ7_fill_53178 4 s _ wsJ7_fill_53178 RJ7 := ⟨B.exec, B.bytes, hml, findClass_of_methodNamed B.named, atoms_spec (ws := wsJ7_fill_53178) B.pre⟩
  obtain ⟨hx, hb, hml, hown, hts⟩ := id S
  have hK := hG.1
  have hr := B.returns
  have hlocks := B.notSynchronized
  subst hsz
  have hD := hD0.self (sz := s.heap.size)
  generalize hAe : va_A [(qa, .inl (g.2 0, nA, .inl fA))] s.heap.size = A at hD ⊢
  have hA : ∀ q : Nat, s.heap.size ≤ q → A q := fun q h => by rw [← hAe]; exact Or.inr h
  have hS : va_S A s.heap s.heap [] := va_S.rf
  clear hD0 hAe
  have hl := lv_entry ([.ref qa, .int p2]) (n := 4) (Nat.le_of_ble_eq_true rfl)
  rw [lg_entry_eq]
  generalize (lg_sl ([.ref qa, .int p2]) ++ List.replicate (4 - (lg_sl ([.ref qa, .int p2])).length) Slot.unset).toArray = ls at hl ⊢
  have hl : lv_has ls 4 [(0, .ref qa), (1, .int p2)] := hl
  unfold vJ7_fill_53178 at hv
  refine lv_iconst (v := (0 : Int32)) hx hb dJ7_fill_53178_0 (by decide) ?_
  refine lv_istore_n (lv' := [(2, .int (0 : Int32)), (0, .ref qa), (1, .int p2)]) hx hb dJ7_fill_53178_1 rfl hl (by decide) rfl (fun ls hl => ?_)
  refine lv_aload_n hx hb dJ7_fill_53178_2 rfl (lv_at hl 1 rfl) ?_
  refine va_alen (v := (nI nA)) hx hb hK hP 0 0 rfl rfl rfl dJ7_fill_53178_3 ?_
  refine lv_istore_n (lv' := [(3, .int (nI nA)), (2, .int (0 : Int32)), (0, .ref qa), (1, .int p2)]) hx hb dJ7_fill_53178_4 rfl hl (by decide) rfl (fun ls hl => ?_)
  obtain ⟨nn, hv⟩ := hv
  exact kJ7_fill_53178_c5 S hr hlocks hG hA nn _ _ _ hv _ _ (hP.sub (ws' := [(qa, .inl (g.2 0, nA, .inl fA))]) [0] rfl) (hD.sub (ws' := [(qa, .inl (g.2 0, nA, .inl fA))]) [0] (by decide) rfl) hS ls (lv_sub hl [2, 3, 1, 0] rfl)
abbrev preJ7_fill_53178 (nA : Nat) (_ : Nat → Int32) (_ : Int32) : Prop := nA < 2147483647
abbrev postJ7_fill_53178 (nA : Nat) (fA : Nat → Int32) (p2 : Int32) (f : Nat → Int32) : Prop := ∀ j, f j = if j < nA then p2 else fA j
theorem sJ7_fill_53178_1 (nA : Nat) (fA0 : Nat → Int32) (p2 : Int32) (h : nA < 2147483647) : ∀ (n i : Nat) (x2 x3 : Int32) (fA : Nat → Int32), x2.toInt = (i : Int) → x3.toInt = (nA : Int) → i ≤ nA → nA + 1 ≤ i + n → (∀ j, fA j = if j < i then p2 else fA0 j) → vJ7_fill_53178_c5 nA p2 (postJ7_fill_53178 nA fA0 p2) n x2 x3 fA
  | 0, i, x2, x3, fA, _, _, hi, hn, _ => absurd hn (by omega)
  | n + 1, i, x2, x3, fA, h2, h3, hi, hn, hf => by
    rw [vJ7_fill_53178_c5, q_le h3 h2]
    refine ⟨fun hc => ?_, fun hc => ⟨q_in h2 (by omega), ?_⟩⟩
    · have : i = nA := by omega
      subst this
      exact hf
    · refine sJ7_fill_53178_1 nA fA0 p2 h n (i + 1) _ _ _ (q_1 h2 (by omega)) h3 (by omega) (by omega) (fun j => ?_)
      rw [q_cl h2]
      unfold upd
      rw [hf j]
      by_cases e : j = i
      · subst e; simp
      · rw [if_neg e]
        by_cases z : j < i
        · rw [if_pos z, if_pos (by omega)]
        · rw [if_neg z, if_neg (by omega)]
theorem sJ7_fill_53178 (nA : Nat) (fA : Nat → Int32) (p2 : Int32) (h : preJ7_fill_53178 nA fA p2) : vJ7_fill_53178 nA fA p2 (postJ7_fill_53178 nA fA p2) :=
  ⟨nA + 1, sJ7_fill_53178_1 nA fA p2 h (nA + 1) 0 0 (nI nA) fA rfl (q_nI (by omega)) (by omega) (by omega) (fun j => by simp)⟩
theorem dX1_countOf_0 : decode cX1_countOf 0 = .ok (.iconst 0, 1) := by decide +kernel
theorem dX1_countOf_1 : decode cX1_countOf 1 = .ok (.istore_n 2, 1) := by decide +kernel
theorem dX1_countOf_2 : decode cX1_countOf 2 = .ok (.iconst 0, 1) := by decide +kernel
theorem dX1_countOf_3 : decode cX1_countOf 3 = .ok (.istore_n 3, 1) := by decide +kernel
theorem dX1_countOf_4 : decode cX1_countOf 4 = .ok (.iload_n 3, 1) := by decide +kernel
theorem dX1_countOf_5 : decode cX1_countOf 5 = .ok (.aload_n 0, 1) := by decide +kernel
theorem dX1_countOf_6 : decode cX1_countOf 6 = .ok (.getfield 30, 3) := by decide +kernel
theorem dX1_countOf_9 : decode cX1_countOf 9 = .ok (.if_icmp .ge 22, 3) := by decide +kernel
theorem dX1_countOf_12 : decode cX1_countOf 12 = .ok (.aload_n 0, 1) := by decide +kernel
theorem dX1_countOf_13 : decode cX1_countOf 13 = .ok (.getfield 15, 3) := by decide +kernel
theorem dX1_countOf_16 : decode cX1_countOf 16 = .ok (.iload_n 3, 1) := by decide +kernel
theorem dX1_countOf_17 : decode cX1_countOf 17 = .ok (.iaload, 1) := by decide +kernel
theorem dX1_countOf_18 : decode cX1_countOf 18 = .ok (.iload_n 1, 1) := by decide +kernel
theorem dX1_countOf_19 : decode cX1_countOf 19 = .ok (.if_icmp .ne 6, 3) := by decide +kernel
theorem dX1_countOf_22 : decode cX1_countOf 22 = .ok (.iinc 2 1, 3) := by decide +kernel
theorem dX1_countOf_25 : decode cX1_countOf 25 = .ok (.iinc 3 1, 3) := by decide +kernel
theorem dX1_countOf_28 : decode cX1_countOf 28 = .ok (.goto (-24), 3) := by decide +kernel
theorem dX1_countOf_31 : decode cX1_countOf 31 = .ok (.iload_n 2, 1) := by decide +kernel
theorem dX1_countOf_32 : decode cX1_countOf 32 = .ok (.ireturn, 1) := by decide +kernel
abbrev rmX1_countOf : Room := { frames := 0, cells := 0, slots := 0, locals := 0 }
theorem inX1_countOf_1 : ∀ w ∈ wsX10, w ∈ wsX1_countOf := by decide +kernel
def vX1_countOf_c4 (mk : Int32) (nu : Nat → Int32) (kd : Nat → Int32) (fi : Nat → Int32) (la : Nat → Int32) (p1 : Int32) (Q : Int32 → Prop) : Nat → Int32 → Int32 → Prop
  | 0, _, _ => False
  | n + 1, x2, x3 => ((mk ≤ x3 → (Q x2)) ∧ (¬ mk ≤ x3 → (vp_in x3 10 ∧ ((¬ (kd x3.toNatClampNeg) = p1 → (vX1_countOf_c4 mk nu kd fi la p1 Q n x2 (x3 + (1 : Int32)))) ∧ ((kd x3.toNatClampNeg) = p1 → (vX1_countOf_c4 mk nu kd fi la p1 Q n (x2 + (1 : Int32)) (x3 + (1 : Int32))))))))
set_option maxHeartbeats 4000000 in
set_option maxRecDepth 100000 in
theorem kX1_countOf_c4 {p : Program} {l : Launch} {e : Env} {s : State} {m : MethodId} {args : Array Value} {below : List Frame} {meth : Method} {c : Code} {g : GP} {qG qn qk qf qs : Nat} {mk : Int32} {nu : Nat → Int32} {kd : Nat → Int32} {fi : Nat → Int32} {la : Nat → Int32} {p1 : Int32} {Q : Int32 → Prop} (S : CallFix p m c cX1_countOf 4 s args wsX1_countOf RX1) (hr : meth.sig.returnType = (some .int)) (hlocks : meth.locks = false) (hG : GK g s) (hP : va_P g.1 vwCl [(qG, .inr (1, [.ref qn, .ref qk, .ref qf, .ref qs, .int mk])), (qn, .inl (g.2 0, 6, .inl nu)), (qk, .inl (g.2 0, 10, .inl kd)), (qf, .inl (g.2 0, 10, .inl fi)), (qs, .inl (g.2 0, 10, .inl la))] s.heap) : ∀ (n : Nat), ∀ (x2 : Int32) (x3 : Int32), vX1_countOf_c4 mk nu kd fi la p1 Q n x2 x3 → ∀ (ls : Array Slot), lv_has ls 4 [(0, .ref qG), (1, .int p1), (2, .int x2), (3, .int x3)] → W p l e (headSpec wsX1_countOf rmX1_countOf).room s m args below meth c s.heap [] 0 0 (MQ below (vp_Si Q) args s 0 0 (fun _ => False)) (F0 m 4 ls []) := by
  obtain ⟨hx, hb, hml, hown, hts⟩ := id S
  have hK := hG.1
  intro n
  induction n with
  | zero => intro x2 x3 hv; exact hv.elim
  | succ n ih =>
    intro x2 x3 hv ls hl
    refine lv_iload_n hx hb dX1_countOf_4 rfl (lv_at hl 3 rfl) ?_
    refine lv_aload_n hx hb dX1_countOf_5 rfl (lv_at hl 0 rfl) ?_
    refine va_get (D := g.1) (ci := 1) (v := .int mk) (C := RX1) (T := TX1) (N := 5) hx hb hts inX1_countOf_1 hown hK hP 0 rfl rfl 4 (by decide) (hts (.fieldLink RX1 30 "RangeCodes$Leg" "marks" "I") (List.mem_of_getElem? (i := 1) rfl)) (fun _ h9 => h9) rfl dX1_countOf_6 ?_
    obtain ⟨hvt, hvf⟩ := hv
    refine lv_icmp_ge (tgt := 31) hx hb dX1_countOf_9 (by decide) (fun hc => ?_) (fun hc => ?_)
    · have hv := hvt hc
      refine lv_iload_n hx hb dX1_countOf_31 rfl (lv_at hl 2 rfl) ?_
      exact W.iret (v := x2) hx hb hr (fun t ht hW => ⟨_, rfl, hv, ht⟩) (fun _ h => by cases h) dX1_countOf_32
    · have hv := hvf hc
      refine lv_aload_n hx hb dX1_countOf_12 rfl (lv_at hl 0 rfl) ?_
      refine va_get (D := g.1) (ci := 1) (v := .ref qk) (C := RX1) (T := TX1) (N := 5) hx hb hts inX1_countOf_1 hown hK hP 0 rfl rfl 1 (by decide) (hts (.fieldLink RX1 15 "RangeCodes$Leg" "kinds" "[I") (List.mem_of_getElem? (i := 2) rfl)) (fun _ h9 => h9) rfl dX1_countOf_13 ?_
      refine lv_iload_n hx hb dX1_countOf_16 rfl (lv_at hl 3 rfl) ?_
      obtain ⟨ho_1, hv⟩ := hv
      refine va_iald hx hb hK hP 2 0 rfl rfl ho_1 dX1_countOf_17 ?_
      refine lv_iload_n hx hb dX1_countOf_18 rfl (lv_at hl 1 rfl) ?_
      obtain ⟨hvt, hvf⟩ := hv
      refine lv_icmp_ne (tgt := 25) hx hb dX1_countOf_19 (by decide) (fun hc => ?_) (fun hc => ?_)
      · have hv := hvt hc
        refine lv_iinc (v := (x3 + (1 : Int32))) (lv' := [(3, .int (x3 + (1 : Int32))), (0, .ref qG), (1, .int p1), (2, .int x2)]) hx hb dX1_countOf_25 hl (k := 3) rfl rfl (by decide) rfl (fun ls hl => ?_)
        refine lv_goto (tgt := 4) hx hb dX1_countOf_28 (by decide) ?_
        exact ih _ _ hv ls (lv_sub hl [1, 2, 3, 0] rfl)
      · have hv := hvf hc
        refine lv_iinc (v := (x2 + (1 : Int32))) (lv' := [(2, .int (x2 + (1 : Int32))), (0, .ref qG), (1, .int p1), (3, .int x3)]) hx hb dX1_countOf_22 hl (k := 2) rfl rfl (by decide) rfl (fun ls hl => ?_)
        refine lv_iinc (v := (x3 + (1 : Int32))) (lv' := [(3, .int (x3 + (1 : Int32))), (2, .int (x2 + (1 : Int32))), (0, .ref qG), (1, .int p1)]) hx hb dX1_countOf_25 hl (k := 3) rfl rfl (by decide) rfl (fun ls hl => ?_)
        refine lv_goto (tgt := 4) hx hb dX1_countOf_28 (by decide) ?_
        exact ih _ _ hv ls (lv_sub hl [2, 3, 1, 0] rfl)
def vX1_countOf (mk : Int32) (nu : Nat → Int32) (kd : Nat → Int32) (fi : Nat → Int32) (la : Nat → Int32) (p1 : Int32) (Q : Int32 → Prop) : Prop := (∃ nn, vX1_countOf_c4 mk nu kd fi la p1 Q nn (0 : Int32) (0 : Int32))
set_option maxHeartbeats 4000000 in
set_option maxRecDepth 100000 in
theorem wX1_countOf (l : Launch) (g : GP) (qG : Nat) (qn : Nat) (qk : Nat) (qf : Nat) (qs : Nat) (mk : Int32) (nu : Nat → Int32) (kd : Nat → Int32) (fi : Nat → Int32) (la : Nat → Int32) (p1 : Int32) {Q : Int32 → Prop} (hv : vX1_countOf mk nu kd fi la p1 Q) : Met l yX1_countOf wsX1_countOf rmX1_countOf (va_Pc [.ref qG, .int p1] (fun U => va_P g.1 vwCl [(qG, .inr (1, [.ref qn, .ref qk, .ref qf, .ref qs, .int mk])), (qn, .inl (g.2 0, 6, .inl nu)), (qk, .inl (g.2 0, 10, .inl kd)), (qf, .inl (g.2 0, 10, .inl fi)), (qs, .inl (g.2 0, 10, .inl la))] U.heap ∧ GK g U)) (vp_Si Q) 0 0 (fun _ => False) := by
  refine Met.ofW (cc := cX1_countOf) (maxL := 4) (ret := (some .int)) (by decide) rfl ?_
  intro p e s m args below meth c s₁ B hml hv'
  obtain ⟨rfl, hP, hG⟩ := hv'
  have S : CallFix p m c cX1_countOf 4 s _ wsX1_countOf RX1 := ⟨B.exec, B.bytes, hml, findClass_of_methodNamed B.named, atoms_spec (ws := wsX1_countOf) B.pre⟩
  obtain ⟨hx, hb, hml, hown, hts⟩ := id S
  have hK := hG.1
  have hr := B.returns
  have hlocks := B.notSynchronized
  have hl := lv_entry ([.ref qG, .int p1]) (n := 4) (Nat.le_of_ble_eq_true rfl)
  rw [lg_entry_eq]
  generalize (lg_sl ([.ref qG, .int p1]) ++ List.replicate (4 - (lg_sl ([.ref qG, .int p1])).length) Slot.unset).toArray = ls at hl ⊢
  have hl : lv_has ls 4 [(0, .ref qG), (1, .int p1)] := hl
  unfold vX1_countOf at hv
  refine lv_iconst (v := (0 : Int32)) hx hb dX1_countOf_0 (by decide) ?_
  refine lv_istore_n (lv' := [(2, .int (0 : Int32)), (0, .ref qG), (1, .int p1)]) hx hb dX1_countOf_1 rfl hl (by decide) rfl (fun ls hl => ?_)
  refine lv_iconst (v := (0 : Int32)) hx hb dX1_countOf_2 (by decide) ?_
  refine lv_istore_n (lv' := [(3, .int (0 : Int32)), (2, .int (0 : Int32)), (0, .ref qG), (1, .int p1)]) hx hb dX1_countOf_3 rfl hl (by decide) rfl (fun ls hl => ?_)
  obtain ⟨nn, hv⟩ := hv
  exact kX1_countOf_c4 S hr hlocks hG hP nn _ _ hv ls (lv_sub hl [2, 3, 1, 0] rfl)
abbrev preX1_countOf (G : Lg) (k : Nat) (mk : Int32) (nu kd fi la : Nat → Int32) (p1 : Int32) : Prop := isG G mk nu kd fi la ∧ p1.toInt = (k : Int)
abbrev postX1_countOf (G : Lg) (k : Nat) (_ : Int32) (_ _ _ _ : Nat → Int32) (_ r : Int32) : Prop := r.toInt = ((ctK G k (gm G) : Nat) : Int)
theorem sX1_countOf_1 (G : Lg) (k : Nat) (mk : Int32) (nu kd fi la : Nat → Int32) (p1 : Int32) (h : preX1_countOf G k mk nu kd fi la p1) : ∀ (n i : Nat) (x2 x3 : Int32), x2.toInt = ((ctK G k i : Nat) : Int) → x3.toInt = (i : Int) → i ≤ gm G → gm G + 1 ≤ i + n → vX1_countOf_c4 mk nu kd fi la p1 (postX1_countOf G k mk nu kd fi la p1) n x2 x3
  | 0, i, x2, x3, _, _, hi, hn => absurd hn (by omega)
  | n + 1, i, x2, x3, h2, h3, hi, hn => by
    obtain ⟨⟨ok, hm, hu, hk⟩, h1⟩ := id h
    have h10 := ok.2.2.2.2.2.2.1
    have hle := ctK_le G k i
    rw [vX1_countOf_c4, q_le hm h3]
    refine ⟨fun hc => ?_, fun hc => ⟨q_in h3 (by omega), ?_⟩⟩
    · have : i = gm G := by omega
      subst this
      exact h2
    · have hki := (hk i (by omega)).1
      have h3s := q_1 h3 (by omega)
      rw [q_cl h3, q_eq hki h1]
      refine ⟨fun hb => sX1_countOf_1 G k mk nu kd fi la p1 h n (i + 1) _ _ ?_ h3s (by omega) (by omega), fun hb => sX1_countOf_1 G k mk nu kd fi la p1 h n (i + 1) _ _ ?_ h3s (by omega) (by omega)⟩
      · rw [ctK, if_neg (by omega)]; exact h2
      · rw [ctK, if_pos (by omega)]; exact q_1 h2 (by omega)
theorem sX1_countOf (G : Lg) (k : Nat) (mk : Int32) (nu kd fi la : Nat → Int32) (p1 : Int32) (h : preX1_countOf G k mk nu kd fi la p1) : vX1_countOf mk nu kd fi la p1 (postX1_countOf G k mk nu kd fi la p1) :=
  ⟨gm G + 1, sX1_countOf_1 G k mk nu kd fi la p1 h (gm G + 1) 0 0 0 rfl rfl (by omega) (by omega)⟩
set_option maxRecDepth 20000 in
theorem ggX1_lag_J9_floorDiv_7cf53 : GoodIn wsX1_lag wsJ9_floorDiv_7cf53 := goodIn_r _ [8] (by decide +kernel) (by decide +kernel)
set_option maxRecDepth 20000 in
theorem gX1_lag_J9_floorDiv_7cf53 : GoodIn wsX1_lag (va_wsS RX1 40 yJ9_floorDiv_7cf53 wsJ9_floorDiv_7cf53) := goodIn_app (goodIn_of _ (by decide +kernel)) ggX1_lag_J9_floorDiv_7cf53
theorem dX1_lag_0 : decode cX1_lag 0 = .ok (.aload_n 0, 1) := by decide +kernel
theorem dX1_lag_1 : decode cX1_lag 1 = .ok (.getfield 9, 3) := by decide +kernel
theorem dX1_lag_4 : decode cX1_lag 4 = .ok (.iconst 0, 1) := by decide +kernel
theorem dX1_lag_5 : decode cX1_lag 5 = .ok (.iaload, 1) := by decide +kernel
theorem dX1_lag_6 : decode cX1_lag 6 = .ok (.aload_n 0, 1) := by decide +kernel
theorem dX1_lag_7 : decode cX1_lag 7 = .ok (.getfield 9, 3) := by decide +kernel
theorem dX1_lag_10 : decode cX1_lag 10 = .ok (.iconst 1, 1) := by decide +kernel
theorem dX1_lag_11 : decode cX1_lag 11 = .ok (.iaload, 1) := by decide +kernel
theorem dX1_lag_12 : decode cX1_lag 12 = .ok (.iload_n 2, 1) := by decide +kernel
theorem dX1_lag_13 : decode cX1_lag 13 = .ok (.imul, 1) := by decide +kernel
theorem dX1_lag_14 : decode cX1_lag 14 = .ok (.sipush 256, 3) := by decide +kernel
theorem dX1_lag_17 : decode cX1_lag 17 = .ok (.invokestatic 40, 3) := by decide +kernel
theorem dX1_lag_20 : decode cX1_lag 20 = .ok (.iadd, 1) := by decide +kernel
theorem dX1_lag_21 : decode cX1_lag 21 = .ok (.istore_n 3, 1) := by decide +kernel
theorem dX1_lag_22 : decode cX1_lag 22 = .ok (.iconst 0, 1) := by decide +kernel
theorem dX1_lag_23 : decode cX1_lag 23 = .ok (.istore 4, 2) := by decide +kernel
theorem dX1_lag_25 : decode cX1_lag 25 = .ok (.iload 4, 2) := by decide +kernel
theorem dX1_lag_27 : decode cX1_lag 27 = .ok (.aload_n 0, 1) := by decide +kernel
theorem dX1_lag_28 : decode cX1_lag 28 = .ok (.getfield 30, 3) := by decide +kernel
theorem dX1_lag_31 : decode cX1_lag 31 = .ok (.if_icmp .ge 62, 3) := by decide +kernel
theorem dX1_lag_34 : decode cX1_lag 34 = .ok (.aload_n 0, 1) := by decide +kernel
theorem dX1_lag_35 : decode cX1_lag 35 = .ok (.getfield 18, 3) := by decide +kernel
theorem dX1_lag_38 : decode cX1_lag 38 = .ok (.iload 4, 2) := by decide +kernel
theorem dX1_lag_40 : decode cX1_lag 40 = .ok (.iaload, 1) := by decide +kernel
theorem dX1_lag_41 : decode cX1_lag 41 = .ok (.iload_n 1, 1) := by decide +kernel
theorem dX1_lag_42 : decode cX1_lag 42 = .ok (.if_icmp .gt 20, 3) := by decide +kernel
theorem dX1_lag_45 : decode cX1_lag 45 = .ok (.aload_n 0, 1) := by decide +kernel
theorem dX1_lag_46 : decode cX1_lag 46 = .ok (.getfield 15, 3) := by decide +kernel
theorem dX1_lag_49 : decode cX1_lag 49 = .ok (.iload 4, 2) := by decide +kernel
theorem dX1_lag_51 : decode cX1_lag 51 = .ok (.iaload, 1) := by decide +kernel
theorem dX1_lag_52 : decode cX1_lag 52 = .ok (.iconst 1, 1) := by decide +kernel
theorem dX1_lag_53 : decode cX1_lag 53 = .ok (.if_icmp .ne 9, 3) := by decide +kernel
theorem dX1_lag_56 : decode cX1_lag 56 = .ok (.iinc 3 1, 3) := by decide +kernel
theorem dX1_lag_59 : decode cX1_lag 59 = .ok (.goto 28, 3) := by decide +kernel
theorem dX1_lag_62 : decode cX1_lag 62 = .ok (.aload_n 0, 1) := by decide +kernel
theorem dX1_lag_63 : decode cX1_lag 63 = .ok (.getfield 18, 3) := by decide +kernel
theorem dX1_lag_66 : decode cX1_lag 66 = .ok (.iload 4, 2) := by decide +kernel
theorem dX1_lag_68 : decode cX1_lag 68 = .ok (.iaload, 1) := by decide +kernel
theorem dX1_lag_69 : decode cX1_lag 69 = .ok (.iload_n 1, 1) := by decide +kernel
theorem dX1_lag_70 : decode cX1_lag 70 = .ok (.if_icmp .gt 17, 3) := by decide +kernel
theorem dX1_lag_73 : decode cX1_lag 73 = .ok (.aload_n 0, 1) := by decide +kernel
theorem dX1_lag_74 : decode cX1_lag 74 = .ok (.getfield 15, 3) := by decide +kernel
theorem dX1_lag_77 : decode cX1_lag 77 = .ok (.iload 4, 2) := by decide +kernel
theorem dX1_lag_79 : decode cX1_lag 79 = .ok (.iaload, 1) := by decide +kernel
theorem dX1_lag_80 : decode cX1_lag 80 = .ok (.iconst 2, 1) := by decide +kernel
theorem dX1_lag_81 : decode cX1_lag 81 = .ok (.if_icmp .ne 6, 3) := by decide +kernel
theorem dX1_lag_84 : decode cX1_lag 84 = .ok (.iinc 3 (-1), 3) := by decide +kernel
theorem dX1_lag_87 : decode cX1_lag 87 = .ok (.iinc 4 1, 3) := by decide +kernel
theorem dX1_lag_90 : decode cX1_lag 90 = .ok (.goto (-65), 3) := by decide +kernel
theorem dX1_lag_93 : decode cX1_lag 93 = .ok (.iload_n 3, 1) := by decide +kernel
theorem dX1_lag_94 : decode cX1_lag 94 = .ok (.ireturn, 1) := by decide +kernel
abbrev rmX1_lag : Room := { frames := 1, cells := 0, slots := 0, locals := 22 }
theorem inX1_lag_1 : ∀ w ∈ wsX10, w ∈ wsX1_lag := by decide +kernel
def vX1_lag_c62 (mk : Int32) (nu : Nat → Int32) (kd : Nat → Int32) (fi : Nat → Int32) (la : Nat → Int32) (p1 : Int32) (p2 : Int32) (Q : Int32 → Prop) (K25 : Int32 → Int32 → Prop) (x3 : Int32) (x4 : Int32) : Prop := (vp_in x4 10 ∧ ((p1 < (fi x4.toNatClampNeg) → (K25 x3 (x4 + (1 : Int32)))) ∧ (¬ p1 < (fi x4.toNatClampNeg) → (vp_in x4 10 ∧ ((¬ (kd x4.toNatClampNeg) = (2 : Int32) → (K25 x3 (x4 + (1 : Int32)))) ∧ ((kd x4.toNatClampNeg) = (2 : Int32) → (K25 (x3 + (-1 : Int32)) (x4 + (1 : Int32)))))))))
set_option maxHeartbeats 4000000 in
set_option maxRecDepth 100000 in
theorem kX1_lag_c62 {p : Program} {l : Launch} {e : Env} {s : State} {m : MethodId} {args : Array Value} {below : List Frame} {meth : Method} {c : Code} {g : GP} {qG qn qk qf qs : Nat} {mk : Int32} {nu : Nat → Int32} {kd : Nat → Int32} {fi : Nat → Int32} {la : Nat → Int32} {p1 : Int32} {p2 : Int32} {Q : Int32 → Prop} {K25 : Int32 → Int32 → Prop} (S : CallFix p m c cX1_lag 5 s args wsX1_lag RX1) (hr : meth.sig.returnType = (some .int)) (hlocks : meth.locks = false) (hG : GK g s) (hP : va_P g.1 vwCl [(qG, .inr (1, [.ref qn, .ref qk, .ref qf, .ref qs, .int mk])), (qn, .inl (g.2 0, 6, .inl nu)), (qk, .inl (g.2 0, 10, .inl kd)), (qf, .inl (g.2 0, 10, .inl fi)), (qs, .inl (g.2 0, 10, .inl la))] s.heap) (kk25 : ∀ (x3 : Int32) (x4 : Int32), K25 x3 x4 → ∀ (ls : Array Slot), lv_has ls 5 [(0, .ref qG), (1, .int p1), (3, .int x3), (4, .int x4)] → W p l e (headSpec wsX1_lag rmX1_lag).room s m args below meth c s.heap [] 0 0 (MQ below (vp_Si Q) args s 0 0 (fun _ => False)) (F0 m 25 ls [])) : ∀ (x3 : Int32) (x4 : Int32), vX1_lag_c62 mk nu kd fi la p1 p2 Q K25 x3 x4 → ∀ (ls : Array Slot), lv_has ls 5 [(0, .ref qG), (1, .int p1), (3, .int x3), (4, .int x4)] → W p l e (headSpec wsX1_lag rmX1_lag).room s m args below meth c s.heap [] 0 0 (MQ below (vp_Si Q) args s 0 0 (fun _ => False)) (F0 m 62 ls []) := by
  obtain ⟨hx, hb, hml, hown, hts⟩ := id S
  have hK := hG.1
  intro x3 x4 hv ls hl
  unfold vX1_lag_c62 at hv
  refine lv_aload_n hx hb dX1_lag_62 rfl (lv_at hl 0 rfl) ?_
  refine va_get (D := g.1) (ci := 1) (v := .ref qf) (C := RX1) (T := TX1) (N := 5) hx hb hts inX1_lag_1 hown hK hP 0 rfl rfl 2 (by decide) (hts (.fieldLink RX1 18 "RangeCodes$Leg" "firsts" "[I") (List.mem_of_getElem? (i := 3) rfl)) (fun _ h9 => h9) rfl dX1_lag_63 ?_
  refine lv_iload hx hb dX1_lag_66 (lv_at hl 3 rfl) ?_
  obtain ⟨ho_1, hv⟩ := hv
  refine va_iald hx hb hK hP 3 0 rfl rfl ho_1 dX1_lag_68 ?_
  refine lv_iload_n hx hb dX1_lag_69 rfl (lv_at hl 1 rfl) ?_
  obtain ⟨hvt, hvf⟩ := hv
  refine lv_icmp_gt (tgt := 87) hx hb dX1_lag_70 (by decide) (fun hc => ?_) (fun hc => ?_)
  · have hv := hvt hc
    refine lv_iinc (v := (x4 + (1 : Int32))) (lv' := [(4, .int (x4 + (1 : Int32))), (0, .ref qG), (1, .int p1), (3, .int x3)]) hx hb dX1_lag_87 hl (k := 3) rfl rfl (by decide) rfl (fun ls hl => ?_)
    refine lv_goto (tgt := 25) hx hb dX1_lag_90 (by decide) ?_
    exact kk25 _ _ hv ls (lv_sub hl [1, 2, 3, 0] rfl)
  · have hv := hvf hc
    refine lv_aload_n hx hb dX1_lag_73 rfl (lv_at hl 0 rfl) ?_
    refine va_get (D := g.1) (ci := 1) (v := .ref qk) (C := RX1) (T := TX1) (N := 5) hx hb hts inX1_lag_1 hown hK hP 0 rfl rfl 1 (by decide) (hts (.fieldLink RX1 15 "RangeCodes$Leg" "kinds" "[I") (List.mem_of_getElem? (i := 4) rfl)) (fun _ h9 => h9) rfl dX1_lag_74 ?_
    refine lv_iload hx hb dX1_lag_77 (lv_at hl 3 rfl) ?_
    obtain ⟨ho_2, hv⟩ := hv
    refine va_iald hx hb hK hP 2 0 rfl rfl ho_2 dX1_lag_79 ?_
    refine lv_iconst (v := (2 : Int32)) hx hb dX1_lag_80 (by decide) ?_
    obtain ⟨hvt, hvf⟩ := hv
    refine lv_icmp_ne (tgt := 87) hx hb dX1_lag_81 (by decide) (fun hc => ?_) (fun hc => ?_)
    · have hv := hvt hc
      refine lv_iinc (v := (x4 + (1 : Int32))) (lv' := [(4, .int (x4 + (1 : Int32))), (0, .ref qG), (1, .int p1), (3, .int x3)]) hx hb dX1_lag_87 hl (k := 3) rfl rfl (by decide) rfl (fun ls hl => ?_)
      refine lv_goto (tgt := 25) hx hb dX1_lag_90 (by decide) ?_
      exact kk25 _ _ hv ls (lv_sub hl [1, 2, 3, 0] rfl)
    · have hv := hvf hc
      refine lv_iinc (v := (x3 + (-1 : Int32))) (lv' := [(3, .int (x3 + (-1 : Int32))), (0, .ref qG), (1, .int p1), (4, .int x4)]) hx hb dX1_lag_84 hl (k := 2) rfl rfl (by decide) rfl (fun ls hl => ?_)
      refine lv_iinc (v := (x4 + (1 : Int32))) (lv' := [(4, .int (x4 + (1 : Int32))), (3, .int (x3 + (-1 : Int32))), (0, .ref qG), (1, .int p1)]) hx hb dX1_lag_87 hl (k := 3) rfl rfl (by decide) rfl (fun ls hl => ?_)
      refine lv_goto (tgt := 25) hx hb dX1_lag_90 (by decide) ?_
      exact kk25 _ _ hv ls (lv_sub hl [2, 3, 1, 0] rfl)
def vX1_lag_c25 (mk : Int32) (nu : Nat → Int32) (kd : Nat → Int32) (fi : Nat → Int32) (la : Nat → Int32) (p1 : Int32) (p2 : Int32) (Q : Int32 → Prop) : Nat → Int32 → Int32 → Prop
  | 0, _, _ => False
  | n + 1, x3, x4 => ((mk ≤ x4 → (Q x3)) ∧ (¬ mk ≤ x4 → (vp_in x4 10 ∧ ((p1 < (fi x4.toNatClampNeg) → (vX1_lag_c62 mk nu kd fi la p1 p2 Q (vX1_lag_c25 mk nu kd fi la p1 p2 Q n) x3 x4)) ∧ (¬ p1 < (fi x4.toNatClampNeg) → (vp_in x4 10 ∧ ((¬ (kd x4.toNatClampNeg) = (1 : Int32) → (vX1_lag_c62 mk nu kd fi la p1 p2 Q (vX1_lag_c25 mk nu kd fi la p1 p2 Q n) x3 x4)) ∧ ((kd x4.toNatClampNeg) = (1 : Int32) → (vX1_lag_c25 mk nu kd fi la p1 p2 Q n (x3 + (1 : Int32)) (x4 + (1 : Int32)))))))))))
set_option maxHeartbeats 4000000 in
set_option maxRecDepth 100000 in
theorem kX1_lag_c25 {p : Program} {l : Launch} {e : Env} {s : State} {m : MethodId} {args : Array Value} {below : List Frame} {meth : Method} {c : Code} {g : GP} {qG qn qk qf qs : Nat} {mk : Int32} {nu : Nat → Int32} {kd : Nat → Int32} {fi : Nat → Int32} {la : Nat → Int32} {p1 : Int32} {p2 : Int32} {Q : Int32 → Prop} (S : CallFix p m c cX1_lag 5 s args wsX1_lag RX1) (hr : meth.sig.returnType = (some .int)) (hlocks : meth.locks = false) (hG : GK g s) (hP : va_P g.1 vwCl [(qG, .inr (1, [.ref qn, .ref qk, .ref qf, .ref qs, .int mk])), (qn, .inl (g.2 0, 6, .inl nu)), (qk, .inl (g.2 0, 10, .inl kd)), (qf, .inl (g.2 0, 10, .inl fi)), (qs, .inl (g.2 0, 10, .inl la))] s.heap) : ∀ (n : Nat), ∀ (x3 : Int32) (x4 : Int32), vX1_lag_c25 mk nu kd fi la p1 p2 Q n x3 x4 → ∀ (ls : Array Slot), lv_has ls 5 [(0, .ref qG), (1, .int p1), (3, .int x3), (4, .int x4)] → W p l e (headSpec wsX1_lag rmX1_lag).room s m args below meth c s.heap [] 0 0 (MQ below (vp_Si Q) args s 0 0 (fun _ => False)) (F0 m 25 ls []) := by
  obtain ⟨hx, hb, hml, hown, hts⟩ := id S
  have hK := hG.1
  intro n
  induction n with
  | zero => intro x3 x4 hv; exact hv.elim
  | succ n ih =>
    intro x3 x4 hv ls hl
    refine lv_iload hx hb dX1_lag_25 (lv_at hl 3 rfl) ?_
    refine lv_aload_n hx hb dX1_lag_27 rfl (lv_at hl 0 rfl) ?_
    refine va_get (D := g.1) (ci := 1) (v := .int mk) (C := RX1) (T := TX1) (N := 5) hx hb hts inX1_lag_1 hown hK hP 0 rfl rfl 4 (by decide) (hts (.fieldLink RX1 30 "RangeCodes$Leg" "marks" "I") (List.mem_of_getElem? (i := 2) rfl)) (fun _ h9 => h9) rfl dX1_lag_28 ?_
    obtain ⟨hvt, hvf⟩ := hv
    refine lv_icmp_ge (tgt := 93) hx hb dX1_lag_31 (by decide) (fun hc => ?_) (fun hc => ?_)
    · have hv := hvt hc
      refine lv_iload_n hx hb dX1_lag_93 rfl (lv_at hl 2 rfl) ?_
      exact W.iret (v := x3) hx hb hr (fun t ht hW => ⟨_, rfl, hv, ht⟩) (fun _ h => by cases h) dX1_lag_94
    · have hv := hvf hc
      refine lv_aload_n hx hb dX1_lag_34 rfl (lv_at hl 0 rfl) ?_
      refine va_get (D := g.1) (ci := 1) (v := .ref qf) (C := RX1) (T := TX1) (N := 5) hx hb hts inX1_lag_1 hown hK hP 0 rfl rfl 2 (by decide) (hts (.fieldLink RX1 18 "RangeCodes$Leg" "firsts" "[I") (List.mem_of_getElem? (i := 3) rfl)) (fun _ h9 => h9) rfl dX1_lag_35 ?_
      refine lv_iload hx hb dX1_lag_38 (lv_at hl 3 rfl) ?_
      obtain ⟨ho_1, hv⟩ := hv
      refine va_iald hx hb hK hP 3 0 rfl rfl ho_1 dX1_lag_40 ?_
      refine lv_iload_n hx hb dX1_lag_41 rfl (lv_at hl 1 rfl) ?_
      obtain ⟨hvt, hvf⟩ := hv
      refine lv_icmp_gt (tgt := 62) hx hb dX1_lag_42 (by decide) (fun hc => ?_) (fun hc => ?_)
      · have hv := hvt hc
        exact kX1_lag_c62 S hr hlocks hG hP ih _ _ hv ls (lv_sub hl [0, 1, 2, 3] rfl)
      · have hv := hvf hc
        refine lv_aload_n hx hb dX1_lag_45 rfl (lv_at hl 0 rfl) ?_
        refine va_get (D := g.1) (ci := 1) (v := .ref qk) (C := RX1) (T := TX1) (N := 5) hx hb hts inX1_lag_1 hown hK hP 0 rfl rfl 1 (by decide) (hts (.fieldLink RX1 15 "RangeCodes$Leg" "kinds" "[I") (List.mem_of_getElem? (i := 4) rfl)) (fun _ h9 => h9) rfl dX1_lag_46 ?_
        refine lv_iload hx hb dX1_lag_49 (lv_at hl 3 rfl) ?_
        obtain ⟨ho_2, hv⟩ := hv
        refine va_iald hx hb hK hP 2 0 rfl rfl ho_2 dX1_lag_51 ?_
        refine lv_iconst (v := (1 : Int32)) hx hb dX1_lag_52 (by decide) ?_
        obtain ⟨hvt, hvf⟩ := hv
        refine lv_icmp_ne (tgt := 62) hx hb dX1_lag_53 (by decide) (fun hc => ?_) (fun hc => ?_)
        · have hv := hvt hc
          exact kX1_lag_c62 S hr hlocks hG hP ih _ _ hv ls (lv_sub hl [0, 1, 2, 3] rfl)
        · have hv := hvf hc
          refine lv_iinc (v := (x3 + (1 : Int32))) (lv' := [(3, .int (x3 + (1 : Int32))), (0, .ref qG), (1, .int p1), (4, .int x4)]) hx hb dX1_lag_56 hl (k := 2) rfl rfl (by decide) rfl (fun ls hl => ?_)
          refine lv_goto (tgt := 87) hx hb dX1_lag_59 (by decide) ?_
          refine lv_iinc (v := (x4 + (1 : Int32))) (lv' := [(4, .int (x4 + (1 : Int32))), (3, .int (x3 + (1 : Int32))), (0, .ref qG), (1, .int p1)]) hx hb dX1_lag_87 hl (k := 3) rfl rfl (by decide) rfl (fun ls hl => ?_)
          refine lv_goto (tgt := 25) hx hb dX1_lag_90 (by decide) ?_
          exact ih _ _ hv ls (lv_sub hl [2, 3, 1, 0] rfl)
def vX1_lag (mk : Int32) (nu : Nat → Int32) (kd : Nat → Int32) (fi : Nat → Int32) (la : Nat → Int32) (p1 : Int32) (p2 : Int32) (Q : Int32 → Prop) : Prop := (preJ9_floorDiv_7cf53 ((nu 1) * p2) (256 : Int32) ∧ (∀ r_17 : Int32, postJ9_floorDiv_7cf53 ((nu 1) * p2) (256 : Int32) r_17 → (∃ nn, vX1_lag_c25 mk nu kd fi la p1 p2 Q nn ((nu 0) + r_17) (0 : Int32))))
set_option maxHeartbeats 4000000 in
set_option maxRecDepth 100000 in
theorem wX1_lag (l : Launch) (g : GP) (qG : Nat) (qn : Nat) (qk : Nat) (qf : Nat) (qs : Nat) (mk : Int32) (nu : Nat → Int32) (kd : Nat → Int32) (fi : Nat → Int32) (la : Nat → Int32) (p1 : Int32) (p2 : Int32) {Q : Int32 → Prop} (hv : vX1_lag mk nu kd fi la p1 p2 Q) : Met l yX1_lag wsX1_lag rmX1_lag (va_Pc [.ref qG, .int p1, .int p2] (fun U => va_P g.1 vwCl [(qG, .inr (1, [.ref qn, .ref qk, .ref qf, .ref qs, .int mk])), (qn, .inl (g.2 0, 6, .inl nu)), (qk, .inl (g.2 0, 10, .inl kd)), (qf, .inl (g.2 0, 10, .inl fi)), (qs, .inl (g.2 0, 10, .inl la))] U.heap ∧ GK g U)) (vp_Si Q) 0 0 (fun _ => False) := by
  refine Met.ofW (cc := cX1_lag) (maxL := 5) (ret := (some .int)) (by decide) rfl ?_
  intro p e s m args below meth c s₁ B hml hv'
  obtain ⟨rfl, hP, hG⟩ := hv'
  have S : CallFix p m c cX1_lag 5 s _ wsX1_lag RX1 := ⟨B.exec, B.bytes, hml, findClass_of_methodNamed B.named, atoms_spec (ws := wsX1_lag) B.pre⟩
  obtain ⟨hx, hb, hml, hown, hts⟩ := id S
  have hK := hG.1
  have hr := B.returns
  have hlocks := B.notSynchronized
  have hl := lv_entry ([.ref qG, .int p1, .int p2]) (n := 5) (Nat.le_of_ble_eq_true rfl)
  rw [lg_entry_eq]
  generalize (lg_sl ([.ref qG, .int p1, .int p2]) ++ List.replicate (5 - (lg_sl ([.ref qG, .int p1, .int p2])).length) Slot.unset).toArray = ls at hl ⊢
  have hl : lv_has ls 5 [(0, .ref qG), (1, .int p1), (2, .int p2)] := hl
  unfold vX1_lag at hv
  refine lv_aload_n hx hb dX1_lag_0 rfl (lv_at hl 0 rfl) ?_
  refine va_get (D := g.1) (ci := 1) (v := .ref qn) (C := RX1) (T := TX1) (N := 5) hx hb hts inX1_lag_1 hown hK hP 0 rfl rfl 0 (by decide) (hts (.fieldLink RX1 9 "RangeCodes$Leg" "numbers" "[I") (List.mem_of_getElem? (i := 1) rfl)) (fun _ h9 => h9) rfl dX1_lag_1 ?_
  refine lv_iconst (v := (0 : Int32)) hx hb dX1_lag_4 (by decide) ?_
  refine va_iald hx hb hK hP 1 0 rfl rfl (by unfold vp_in; decide) dX1_lag_5 ?_
  refine lv_aload_n hx hb dX1_lag_6 rfl (lv_at hl 0 rfl) ?_
  refine va_get (D := g.1) (ci := 1) (v := .ref qn) (C := RX1) (T := TX1) (N := 5) hx hb hts inX1_lag_1 hown hK hP 0 rfl rfl 0 (by decide) (hts (.fieldLink RX1 9 "RangeCodes$Leg" "numbers" "[I") (List.mem_of_getElem? (i := 1) rfl)) (fun _ h9 => h9) rfl dX1_lag_7 ?_
  refine lv_iconst (v := (1 : Int32)) hx hb dX1_lag_10 (by decide) ?_
  refine va_iald hx hb hK hP 1 0 rfl rfl (by unfold vp_in; decide) dX1_lag_11 ?_
  refine lv_iload_n hx hb dX1_lag_12 rfl (lv_at hl 2 rfl) ?_
  refine lv_imul hx hb dX1_lag_13 ?_
  refine lv_sipush (v := (256 : Int32)) hx hb dX1_lag_14 (by decide) ?_
  obtain ⟨ho_1, hv⟩ := hv
  refine vp_callSi (W.runS (As := [.int ((nu 1) * p2), .int (256 : Int32)]) (rest := [.int (nu 0)]) S (wJ9_floorDiv_7cf53 l g ((nu 1) * p2) (256 : Int32) (sJ9_floorDiv_7cf53 ((nu 1) * p2) (256 : Int32) ho_1)) (va_cwS 2 hts gX1_lag_J9_floorDiv_7cf53 rfl rfl rfl (by decide +kernel) ⟨Nat.le_of_ble_eq_true rfl, Nat.le_of_ble_eq_true rfl⟩) ⟨blindRO, fun U hU hW => ⟨rfl, by rw [hU]; exact hP.sub (ws' := []) [] rfl, hG.warm hW⟩⟩ rfl rfl hl.1 rfl (lv_room (Nat.le_of_ble_eq_true rfl)) dX1_lag_17 ⟨Nat.le_of_ble_eq_true rfl, Nat.le_of_ble_eq_true rfl⟩) (fun r_17 hr_17 => ?_)
  have hv := hv r_17 hr_17
  refine lv_iadd hx hb dX1_lag_20 ?_
  refine lv_istore_n (lv' := [(3, .int ((nu 0) + r_17)), (0, .ref qG), (1, .int p1), (2, .int p2)]) hx hb dX1_lag_21 rfl hl (by decide) rfl (fun ls hl => ?_)
  refine lv_iconst (v := (0 : Int32)) hx hb dX1_lag_22 (by decide) ?_
  refine lv_istore (lv' := [(4, .int (0 : Int32)), (3, .int ((nu 0) + r_17)), (0, .ref qG), (1, .int p1), (2, .int p2)]) hx hb dX1_lag_23 hl (by decide) rfl (fun ls hl => ?_)
  obtain ⟨nn, hv⟩ := hv
  exact kX1_lag_c25 S hr hlocks hG hP nn _ _ hv ls (lv_sub hl [2, 3, 1, 0] rfl)
abbrev preX1_lag (G : Lg) (i t : Nat) (mk : Int32) (nu kd fi la : Nat → Int32) (p1 p2 : Int32) : Prop := isG G mk nu kd fi la ∧ p1.toInt = (i : Int) ∧ p2.toInt = (t : Int) ∧ t ≤ 20000
abbrev postX1_lag (G : Lg) (i t : Nat) (_ : Int32) (_ _ _ _ : Nat → Int32) (_ _ r : Int32) : Prop := r.toInt = lagZ G i t
theorem sX1_lag_1 (G : Lg) (i t : Nat) (mk : Int32) (nu kd fi la : Nat → Int32) (p1 p2 : Int32) (h : preX1_lag G i t mk nu kd fi la p1 p2) (z : Int) (hz : -100000 ≤ z ∧ z ≤ 100000) (hzG : z + jmp G i (gm G) = lagZ G i t) : ∀ (n j : Nat) (x3 x4 : Int32), x3.toInt = z + jmp G i j → x4.toInt = (j : Int) → j ≤ gm G → gm G + 1 ≤ j + n → vX1_lag_c25 mk nu kd fi la p1 p2 (postX1_lag G i t mk nu kd fi la p1 p2) n x3 x4
  | 0, j, x3, x4, _, _, hi, hn => absurd hn (by omega)
  | n + 1, j, x3, x4, h3, h4, hj, hn => by
    obtain ⟨⟨ok, hm, hu, hk⟩, h1, h2, ht⟩ := id h
    have h10 := ok.2.2.2.2.2.2.1
    have hle := jmp_le G i j
    rw [vX1_lag_c25, q_le hm h4]
    refine ⟨fun hc => ?_, fun hc => ⟨q_in h4 (by omega), ?_⟩⟩
    · have : j = gm G := by omega
      subst this
      show x3.toInt = _
      rw [h3, hzG]
    · have hki := hk j (by omega)
      have h4s := q_1 h4 (by omega)
      have next : ∀ y : Int32, y.toInt = z + jmp G i (j + 1) → vX1_lag_c25 mk nu kd fi la p1 p2 (postX1_lag G i t mk nu kd fi la p1 p2) n y (x4 + (1 : Int32)) := fun y hy => sX1_lag_1 G i t mk nu kd fi la p1 p2 h z hz hzG n (j + 1) y _ hy h4s (by omega) (by omega)
      have side : ¬ (gf G j ≤ i ∧ gk G j = 1) → vX1_lag_c62 mk nu kd fi la p1 p2 (postX1_lag G i t mk nu kd fi la p1 p2) (vX1_lag_c25 mk nu kd fi la p1 p2 (postX1_lag G i t mk nu kd fi la p1 p2) n) x3 x4 := by
        intro hno
        refine ⟨q_in h4 (by omega), ?_⟩
        rw [q_cl h4, q_lt h1 hki.2.1]
        refine ⟨fun hb => next _ ?_, fun hb => ⟨q_in h4 (by omega), ?_⟩⟩
        · rw [jmp, if_neg (by omega), h3]; omega
        · rw [q_eq hki.1 z2]
          refine ⟨fun hd => next _ ?_, fun hd => next _ ?_⟩
          · rw [jmp, if_pos (by omega), if_neg (by omega), if_neg (by omega), h3]; omega
          · rw [jmp, if_pos (by omega), if_neg (by omega), if_pos (by omega), q_add h3 zm1 (by omega) (by omega)]; omega
      rw [q_cl h4, q_lt h1 hki.2.1]
      refine ⟨fun hb => side (by omega), fun hb => ⟨q_in h4 (by omega), ?_⟩⟩
      rw [q_eq hki.1 z1]
      refine ⟨fun hd => side (by omega), fun hd => next _ ?_⟩
      rw [jmp, if_pos (by omega), if_pos (by omega), q_add h3 z1 (by omega) (by omega)]; omega
theorem sX1_lag (G : Lg) (i t : Nat) (mk : Int32) (nu kd fi la : Nat → Int32) (p1 p2 : Int32) (h : preX1_lag G i t mk nu kd fi la p1 p2) : vX1_lag mk nu kd fi la p1 p2 (postX1_lag G i t mk nu kd fi la p1 p2) := by
  obtain ⟨⟨ok, hm, hu, hk⟩, h1, h2, ht⟩ := id h
  have hb := q_mulb (x := gn G 1) (y := (t : Int)) (b := 64) (c := 20000) ok.2.1.1 ok.2.1.2 (by omega) (by omega) (by omega)
  have e := q_mul (hu 1 (by omega)) h2 (by omega) (by omega)
  have o0 := ok.1
  refine ⟨⟨by decide, by decide, by show _ < ((nu 1) * p2).toInt; omega, by show ((nu 1) * p2).toInt < _; omega⟩, fun r hr => ⟨gm G + 1, ?_⟩⟩
  have hr : r.toInt = gn G 1 * t / 256 := by
    have hr : r.toInt = ((nu 1) * p2).toInt / (256 : Int32).toInt := hr
    rw [hr, e, z256]
  have hd : -5000 ≤ gn G 1 * t / 256 ∧ gn G 1 * t / 256 ≤ 5000 := by omega
  have hy2 : ((nu 0) + r).toInt = gn G 0 + gn G 1 * t / 256 := by
    exact q_add (hu 0 (by omega)) hr (by omega) (by omega)
  exact sX1_lag_1 G i t mk nu kd fi la p1 p2 h _ (by omega) rfl (gm G + 1) 0 _ 0 (by rw [hy2, jmp]; omega) rfl (by omega) (by omega)
theorem dX1_loses_0 : decode cX1_loses 0 = .ok (.iconst 0, 1) := by decide +kernel
theorem dX1_loses_1 : decode cX1_loses 1 = .ok (.istore_n 2, 1) := by decide +kernel
theorem dX1_loses_2 : decode cX1_loses 2 = .ok (.iload_n 2, 1) := by decide +kernel
theorem dX1_loses_3 : decode cX1_loses 3 = .ok (.aload_n 0, 1) := by decide +kernel
theorem dX1_loses_4 : decode cX1_loses 4 = .ok (.getfield 30, 3) := by decide +kernel
theorem dX1_loses_7 : decode cX1_loses 7 = .ok (.if_icmp .ge 41, 3) := by decide +kernel
theorem dX1_loses_10 : decode cX1_loses 10 = .ok (.aload_n 0, 1) := by decide +kernel
theorem dX1_loses_11 : decode cX1_loses 11 = .ok (.getfield 15, 3) := by decide +kernel
theorem dX1_loses_14 : decode cX1_loses 14 = .ok (.iload_n 2, 1) := by decide +kernel
theorem dX1_loses_15 : decode cX1_loses 15 = .ok (.iaload, 1) := by decide +kernel
theorem dX1_loses_16 : decode cX1_loses 16 = .ok (.iconst 3, 1) := by decide +kernel
theorem dX1_loses_17 : decode cX1_loses 17 = .ok (.if_icmp .ne 25, 3) := by decide +kernel
theorem dX1_loses_20 : decode cX1_loses 20 = .ok (.aload_n 0, 1) := by decide +kernel
theorem dX1_loses_21 : decode cX1_loses 21 = .ok (.getfield 18, 3) := by decide +kernel
theorem dX1_loses_24 : decode cX1_loses 24 = .ok (.iload_n 2, 1) := by decide +kernel
theorem dX1_loses_25 : decode cX1_loses 25 = .ok (.iaload, 1) := by decide +kernel
theorem dX1_loses_26 : decode cX1_loses 26 = .ok (.iload_n 1, 1) := by decide +kernel
theorem dX1_loses_27 : decode cX1_loses 27 = .ok (.if_icmp .gt 15, 3) := by decide +kernel
theorem dX1_loses_30 : decode cX1_loses 30 = .ok (.iload_n 1, 1) := by decide +kernel
theorem dX1_loses_31 : decode cX1_loses 31 = .ok (.aload_n 0, 1) := by decide +kernel
theorem dX1_loses_32 : decode cX1_loses 32 = .ok (.getfield 21, 3) := by decide +kernel
theorem dX1_loses_35 : decode cX1_loses 35 = .ok (.iload_n 2, 1) := by decide +kernel
theorem dX1_loses_36 : decode cX1_loses 36 = .ok (.iaload, 1) := by decide +kernel
theorem dX1_loses_37 : decode cX1_loses 37 = .ok (.if_icmp .gt 5, 3) := by decide +kernel
theorem dX1_loses_40 : decode cX1_loses 40 = .ok (.iconst 1, 1) := by decide +kernel
theorem dX1_loses_41 : decode cX1_loses 41 = .ok (.ireturn, 1) := by decide +kernel
theorem dX1_loses_42 : decode cX1_loses 42 = .ok (.iinc 2 1, 3) := by decide +kernel
theorem dX1_loses_45 : decode cX1_loses 45 = .ok (.goto (-43), 3) := by decide +kernel
theorem dX1_loses_48 : decode cX1_loses 48 = .ok (.iconst 0, 1) := by decide +kernel
theorem dX1_loses_49 : decode cX1_loses 49 = .ok (.ireturn, 1) := by decide +kernel
abbrev rmX1_loses : Room := { frames := 0, cells := 0, slots := 0, locals := 0 }
theorem inX1_loses_1 : ∀ w ∈ wsX10, w ∈ wsX1_loses := by decide +kernel
def vX1_loses_c2 (mk : Int32) (nu : Nat → Int32) (kd : Nat → Int32) (fi : Nat → Int32) (la : Nat → Int32) (p1 : Int32) (Q : Int32 → Prop) : Nat → Int32 → Prop
  | 0, _ => False
  | n + 1, x2 => ((mk ≤ x2 → (Q (0 : Int32))) ∧ (¬ mk ≤ x2 → (vp_in x2 10 ∧ ((¬ (kd x2.toNatClampNeg) = (3 : Int32) → (vX1_loses_c2 mk nu kd fi la p1 Q n (x2 + (1 : Int32)))) ∧ ((kd x2.toNatClampNeg) = (3 : Int32) → (vp_in x2 10 ∧ ((p1 < (fi x2.toNatClampNeg) → (vX1_loses_c2 mk nu kd fi la p1 Q n (x2 + (1 : Int32)))) ∧ (¬ p1 < (fi x2.toNatClampNeg) → (vp_in x2 10 ∧ (((la x2.toNatClampNeg) < p1 → (vX1_loses_c2 mk nu kd fi la p1 Q n (x2 + (1 : Int32)))) ∧ (¬ (la x2.toNatClampNeg) < p1 → (Q (1 : Int32)))))))))))))
set_option maxHeartbeats 4000000 in
set_option maxRecDepth 100000 in
theorem kX1_loses_c2 {p : Program} {l : Launch} {e : Env} {s : State} {m : MethodId} {args : Array Value} {below : List Frame} {meth : Method} {c : Code} {g : GP} {qG qn qk qf qs : Nat} {mk : Int32} {nu : Nat → Int32} {kd : Nat → Int32} {fi : Nat → Int32} {la : Nat → Int32} {p1 : Int32} {Q : Int32 → Prop} (S : CallFix p m c cX1_loses 3 s args wsX1_loses RX1) (hr : meth.sig.returnType = (some .boolean)) (hlocks : meth.locks = false) (hG : GK g s) (hP : va_P g.1 vwCl [(qG, .inr (1, [.ref qn, .ref qk, .ref qf, .ref qs, .int mk])), (qn, .inl (g.2 0, 6, .inl nu)), (qk, .inl (g.2 0, 10, .inl kd)), (qf, .inl (g.2 0, 10, .inl fi)), (qs, .inl (g.2 0, 10, .inl la))] s.heap) : ∀ (n : Nat), ∀ (x2 : Int32), vX1_loses_c2 mk nu kd fi la p1 Q n x2 → ∀ (ls : Array Slot), lv_has ls 3 [(0, .ref qG), (1, .int p1), (2, .int x2)] → W p l e (headSpec wsX1_loses rmX1_loses).room s m args below meth c s.heap [] 0 0 (MQ below (vp_Si Q) args s 0 0 (fun _ => False)) (F0 m 2 ls []) := by
  obtain ⟨hx, hb, hml, hown, hts⟩ := id S
  have hK := hG.1
  intro n
  induction n with
  | zero => intro x2 hv; exact hv.elim
  | succ n ih =>
    intro x2 hv ls hl
    refine lv_iload_n hx hb dX1_loses_2 rfl (lv_at hl 2 rfl) ?_
    refine lv_aload_n hx hb dX1_loses_3 rfl (lv_at hl 0 rfl) ?_
    refine va_get (D := g.1) (ci := 1) (v := .int mk) (C := RX1) (T := TX1) (N := 5) hx hb hts inX1_loses_1 hown hK hP 0 rfl rfl 4 (by decide) (hts (.fieldLink RX1 30 "RangeCodes$Leg" "marks" "I") (List.mem_of_getElem? (i := 1) rfl)) (fun _ h9 => h9) rfl dX1_loses_4 ?_
    obtain ⟨hvt, hvf⟩ := hv
    refine lv_icmp_ge (tgt := 48) hx hb dX1_loses_7 (by decide) (fun hc => ?_) (fun hc => ?_)
    · have hv := hvt hc
      refine lv_iconst (v := (0 : Int32)) hx hb dX1_loses_48 (by decide) ?_
      exact W.zret (v := (0 : Int32)) (ty := .boolean) hx hb hr rfl (fun t ht hW => ⟨_, rfl, hv, ht⟩) (fun _ h => by cases h) dX1_loses_49
    · have hv := hvf hc
      refine lv_aload_n hx hb dX1_loses_10 rfl (lv_at hl 0 rfl) ?_
      refine va_get (D := g.1) (ci := 1) (v := .ref qk) (C := RX1) (T := TX1) (N := 5) hx hb hts inX1_loses_1 hown hK hP 0 rfl rfl 1 (by decide) (hts (.fieldLink RX1 15 "RangeCodes$Leg" "kinds" "[I") (List.mem_of_getElem? (i := 2) rfl)) (fun _ h9 => h9) rfl dX1_loses_11 ?_
      refine lv_iload_n hx hb dX1_loses_14 rfl (lv_at hl 2 rfl) ?_
      obtain ⟨ho_1, hv⟩ := hv
      refine va_iald hx hb hK hP 2 0 rfl rfl ho_1 dX1_loses_15 ?_
      refine lv_iconst (v := (3 : Int32)) hx hb dX1_loses_16 (by decide) ?_
      obtain ⟨hvt, hvf⟩ := hv
      refine lv_icmp_ne (tgt := 42) hx hb dX1_loses_17 (by decide) (fun hc => ?_) (fun hc => ?_)
      · have hv := hvt hc
        refine lv_iinc (v := (x2 + (1 : Int32))) (lv' := [(2, .int (x2 + (1 : Int32))), (0, .ref qG), (1, .int p1)]) hx hb dX1_loses_42 hl (k := 2) rfl rfl (by decide) rfl (fun ls hl => ?_)
        refine lv_goto (tgt := 2) hx hb dX1_loses_45 (by decide) ?_
        exact ih _ hv ls (lv_sub hl [1, 2, 0] rfl)
      · have hv := hvf hc
        refine lv_aload_n hx hb dX1_loses_20 rfl (lv_at hl 0 rfl) ?_
        refine va_get (D := g.1) (ci := 1) (v := .ref qf) (C := RX1) (T := TX1) (N := 5) hx hb hts inX1_loses_1 hown hK hP 0 rfl rfl 2 (by decide) (hts (.fieldLink RX1 18 "RangeCodes$Leg" "firsts" "[I") (List.mem_of_getElem? (i := 3) rfl)) (fun _ h9 => h9) rfl dX1_loses_21 ?_
        refine lv_iload_n hx hb dX1_loses_24 rfl (lv_at hl 2 rfl) ?_
        obtain ⟨ho_2, hv⟩ := hv
        refine va_iald hx hb hK hP 3 0 rfl rfl ho_2 dX1_loses_25 ?_
        refine lv_iload_n hx hb dX1_loses_26 rfl (lv_at hl 1 rfl) ?_
        obtain ⟨hvt, hvf⟩ := hv
        refine lv_icmp_gt (tgt := 42) hx hb dX1_loses_27 (by decide) (fun hc => ?_) (fun hc => ?_)
        · have hv := hvt hc
          refine lv_iinc (v := (x2 + (1 : Int32))) (lv' := [(2, .int (x2 + (1 : Int32))), (0, .ref qG), (1, .int p1)]) hx hb dX1_loses_42 hl (k := 2) rfl rfl (by decide) rfl (fun ls hl => ?_)
          refine lv_goto (tgt := 2) hx hb dX1_loses_45 (by decide) ?_
          exact ih _ hv ls (lv_sub hl [1, 2, 0] rfl)
        · have hv := hvf hc
          refine lv_iload_n hx hb dX1_loses_30 rfl (lv_at hl 1 rfl) ?_
          refine lv_aload_n hx hb dX1_loses_31 rfl (lv_at hl 0 rfl) ?_
          refine va_get (D := g.1) (ci := 1) (v := .ref qs) (C := RX1) (T := TX1) (N := 5) hx hb hts inX1_loses_1 hown hK hP 0 rfl rfl 3 (by decide) (hts (.fieldLink RX1 21 "RangeCodes$Leg" "lasts" "[I") (List.mem_of_getElem? (i := 4) rfl)) (fun _ h9 => h9) rfl dX1_loses_32 ?_
          refine lv_iload_n hx hb dX1_loses_35 rfl (lv_at hl 2 rfl) ?_
          obtain ⟨ho_3, hv⟩ := hv
          refine va_iald hx hb hK hP 4 0 rfl rfl ho_3 dX1_loses_36 ?_
          obtain ⟨hvt, hvf⟩ := hv
          refine lv_icmp_gt (tgt := 42) hx hb dX1_loses_37 (by decide) (fun hc => ?_) (fun hc => ?_)
          · have hv := hvt hc
            refine lv_iinc (v := (x2 + (1 : Int32))) (lv' := [(2, .int (x2 + (1 : Int32))), (0, .ref qG), (1, .int p1)]) hx hb dX1_loses_42 hl (k := 2) rfl rfl (by decide) rfl (fun ls hl => ?_)
            refine lv_goto (tgt := 2) hx hb dX1_loses_45 (by decide) ?_
            exact ih _ hv ls (lv_sub hl [1, 2, 0] rfl)
          · have hv := hvf hc
            refine lv_iconst (v := (1 : Int32)) hx hb dX1_loses_40 (by decide) ?_
            exact W.zret (v := (1 : Int32)) (ty := .boolean) hx hb hr rfl (fun t ht hW => ⟨_, rfl, hv, ht⟩) (fun _ h => by cases h) dX1_loses_41
def vX1_loses (mk : Int32) (nu : Nat → Int32) (kd : Nat → Int32) (fi : Nat → Int32) (la : Nat → Int32) (p1 : Int32) (Q : Int32 → Prop) : Prop := (∃ nn, vX1_loses_c2 mk nu kd fi la p1 Q nn (0 : Int32))
set_option maxHeartbeats 4000000 in
set_option maxRecDepth 100000 in
theorem wX1_loses (l : Launch) (g : GP) (qG : Nat) (qn : Nat) (qk : Nat) (qf : Nat) (qs : Nat) (mk : Int32) (nu : Nat → Int32) (kd : Nat → Int32) (fi : Nat → Int32) (la : Nat → Int32) (p1 : Int32) {Q : Int32 → Prop} (hv : vX1_loses mk nu kd fi la p1 Q) : Met l yX1_loses wsX1_loses rmX1_loses (va_Pc [.ref qG, .int p1] (fun U => va_P g.1 vwCl [(qG, .inr (1, [.ref qn, .ref qk, .ref qf, .ref qs, .int mk])), (qn, .inl (g.2 0, 6, .inl nu)), (qk, .inl (g.2 0, 10, .inl kd)), (qf, .inl (g.2 0, 10, .inl fi)), (qs, .inl (g.2 0, 10, .inl la))] U.heap ∧ GK g U)) (vp_Si Q) 0 0 (fun _ => False) := by
  refine Met.ofW (cc := cX1_loses) (maxL := 3) (ret := (some .boolean)) (by decide) rfl ?_
  intro p e s m args below meth c s₁ B hml hv'
  obtain ⟨rfl, hP, hG⟩ := hv'
  have S : CallFix p m c cX1_loses 3 s _ wsX1_loses RX1 := ⟨B.exec, B.bytes, hml, findClass_of_methodNamed B.named, atoms_spec (ws := wsX1_loses) B.pre⟩
  obtain ⟨hx, hb, hml, hown, hts⟩ := id S
  have hK := hG.1
  have hr := B.returns
  have hlocks := B.notSynchronized
  have hl := lv_entry ([.ref qG, .int p1]) (n := 3) (Nat.le_of_ble_eq_true rfl)
  rw [lg_entry_eq]
  generalize (lg_sl ([.ref qG, .int p1]) ++ List.replicate (3 - (lg_sl ([.ref qG, .int p1])).length) Slot.unset).toArray = ls at hl ⊢
  have hl : lv_has ls 3 [(0, .ref qG), (1, .int p1)] := hl
  unfold vX1_loses at hv
  refine lv_iconst (v := (0 : Int32)) hx hb dX1_loses_0 (by decide) ?_
  refine lv_istore_n (lv' := [(2, .int (0 : Int32)), (0, .ref qG), (1, .int p1)]) hx hb dX1_loses_1 rfl hl (by decide) rfl (fun ls hl => ?_)
  obtain ⟨nn, hv⟩ := hv
  exact kX1_loses_c2 S hr hlocks hG hP nn _ hv ls (lv_sub hl [1, 2, 0] rfl)
abbrev preX1_loses (G : Lg) (i : Nat) (mk : Int32) (nu kd fi la : Nat → Int32) (p1 : Int32) : Prop := isG G mk nu kd fi la ∧ p1.toInt = (i : Int)
abbrev postX1_loses (G : Lg) (i : Nat) (_ : Int32) (_ _ _ _ : Nat → Int32) (_ r : Int32) : Prop := r = if losB G i (gm G) then 1 else 0
theorem losB_up (G : Lg) (i : Nat) {j : Nat} (h : losB G i j = true) : ∀ k, j ≤ k → losB G i k = true
  | 0, hk => by have : j = 0 := by omega
                subst this; exact h
  | k + 1, hk => by
    rcases Nat.lt_or_ge k j with z | z
    · have : j = k + 1 := by omega
      subst this; exact h
    · rw [losB, losB_up G i h k z]; rfl
theorem sX1_loses_1 (G : Lg) (i : Nat) (mk : Int32) (nu kd fi la : Nat → Int32) (p1 : Int32) (h : preX1_loses G i mk nu kd fi la p1) : ∀ (n j : Nat) (x2 : Int32), losB G i j = false → x2.toInt = (j : Int) → j ≤ gm G → gm G + 1 ≤ j + n → vX1_loses_c2 mk nu kd fi la p1 (postX1_loses G i mk nu kd fi la p1) n x2
  | 0, j, x2, _, _, hi, hn => absurd hn (by omega)
  | n + 1, j, x2, h2, h3, hi, hn => by
    obtain ⟨⟨ok, hm, hu, hk⟩, h1⟩ := id h
    have h10 := ok.2.2.2.2.2.2.1
    rw [vX1_loses_c2, q_le hm h3]
    refine ⟨fun hc => ?_, fun hc => ⟨q_in h3 (by omega), ?_⟩⟩
    · have : j = gm G := by omega
      subst this
      show _ = _
      rw [h2]; rfl
    · have hki := hk j (by omega)
      have h3s := q_1 h3 (by omega)
      have next : ¬ (gk G j = 3 ∧ gf G j ≤ i ∧ i ≤ gl G j) → vX1_loses_c2 mk nu kd fi la p1 (postX1_loses G i mk nu kd fi la p1) n (x2 + (1 : Int32)) := fun hno => by
        refine sX1_loses_1 G i mk nu kd fi la p1 h n (j + 1) _ ?_ h3s (by omega) (by omega)
        rw [losB, h2, Bool.false_or]
        cases hh : (decide (gk G j = 3) && decide (gf G j ≤ i) && decide (i ≤ gl G j)) with
        | false => rfl
        | true => simp at hh; exact absurd ⟨hh.1.1, hh.1.2, hh.2⟩ hno
      rw [q_cl h3, q_eq hki.1 z3]
      refine ⟨fun hb => next (by omega), fun hb => ⟨q_in h3 (by omega), ?_⟩⟩
      rw [q_lt h1 hki.2.1]
      refine ⟨fun hd => next (by omega), fun hd => ⟨q_in h3 (by omega), ?_⟩⟩
      rw [q_lt hki.2.2 h1]
      refine ⟨fun he => next (by omega), fun he => ?_⟩
      have ht : losB G i (j + 1) = true := by
        rw [losB]
        simp [show gk G j = 3 by omega, show gf G j ≤ i by omega, show i ≤ gl G j by omega]
      show _ = _
      rw [losB_up G i ht (gm G) (by omega)]; rfl
theorem sX1_loses (G : Lg) (i : Nat) (mk : Int32) (nu kd fi la : Nat → Int32) (p1 : Int32) (h : preX1_loses G i mk nu kd fi la p1) : vX1_loses mk nu kd fi la p1 (postX1_loses G i mk nu kd fi la p1) :=
  ⟨gm G + 1, sX1_loses_1 G i mk nu kd fi la p1 h (gm G + 1) 0 0 rfl rfl (by omega) (by omega)⟩
theorem dX1_flipsAt_0 : decode cX1_flipsAt 0 = .ok (.iconst 0, 1) := by decide +kernel
theorem dX1_flipsAt_1 : decode cX1_flipsAt 1 = .ok (.istore_n 2, 1) := by decide +kernel
theorem dX1_flipsAt_2 : decode cX1_flipsAt 2 = .ok (.iconst 0, 1) := by decide +kernel
theorem dX1_flipsAt_3 : decode cX1_flipsAt 3 = .ok (.istore_n 3, 1) := by decide +kernel
theorem dX1_flipsAt_4 : decode cX1_flipsAt 4 = .ok (.iload_n 3, 1) := by decide +kernel
theorem dX1_flipsAt_5 : decode cX1_flipsAt 5 = .ok (.aload_n 0, 1) := by decide +kernel
theorem dX1_flipsAt_6 : decode cX1_flipsAt 6 = .ok (.getfield 30, 3) := by decide +kernel
theorem dX1_flipsAt_9 : decode cX1_flipsAt 9 = .ok (.if_icmp .ge 32, 3) := by decide +kernel
theorem dX1_flipsAt_12 : decode cX1_flipsAt 12 = .ok (.aload_n 0, 1) := by decide +kernel
theorem dX1_flipsAt_13 : decode cX1_flipsAt 13 = .ok (.getfield 15, 3) := by decide +kernel
theorem dX1_flipsAt_16 : decode cX1_flipsAt 16 = .ok (.iload_n 3, 1) := by decide +kernel
theorem dX1_flipsAt_17 : decode cX1_flipsAt 17 = .ok (.iaload, 1) := by decide +kernel
theorem dX1_flipsAt_18 : decode cX1_flipsAt 18 = .ok (.ifCond .ne 17, 3) := by decide +kernel
theorem dX1_flipsAt_21 : decode cX1_flipsAt 21 = .ok (.aload_n 0, 1) := by decide +kernel
theorem dX1_flipsAt_22 : decode cX1_flipsAt 22 = .ok (.getfield 18, 3) := by decide +kernel
theorem dX1_flipsAt_25 : decode cX1_flipsAt 25 = .ok (.iload_n 3, 1) := by decide +kernel
theorem dX1_flipsAt_26 : decode cX1_flipsAt 26 = .ok (.iaload, 1) := by decide +kernel
theorem dX1_flipsAt_27 : decode cX1_flipsAt 27 = .ok (.iload_n 1, 1) := by decide +kernel
theorem dX1_flipsAt_28 : decode cX1_flipsAt 28 = .ok (.if_icmp .ne 7, 3) := by decide +kernel
theorem dX1_flipsAt_31 : decode cX1_flipsAt 31 = .ok (.iload_n 2, 1) := by decide +kernel
theorem dX1_flipsAt_32 : decode cX1_flipsAt 32 = .ok (.iconst 1, 1) := by decide +kernel
theorem dX1_flipsAt_33 : decode cX1_flipsAt 33 = .ok (.ixor, 1) := by decide +kernel
theorem dX1_flipsAt_34 : decode cX1_flipsAt 34 = .ok (.istore_n 2, 1) := by decide +kernel
theorem dX1_flipsAt_35 : decode cX1_flipsAt 35 = .ok (.iinc 3 1, 3) := by decide +kernel
theorem dX1_flipsAt_38 : decode cX1_flipsAt 38 = .ok (.goto (-34), 3) := by decide +kernel
theorem dX1_flipsAt_41 : decode cX1_flipsAt 41 = .ok (.iload_n 2, 1) := by decide +kernel
theorem dX1_flipsAt_42 : decode cX1_flipsAt 42 = .ok (.ireturn, 1) := by decide +kernel
abbrev rmX1_flipsAt : Room := { frames := 0, cells := 0, slots := 0, locals := 0 }
theorem inX1_flipsAt_1 : ∀ w ∈ wsX10, w ∈ wsX1_flipsAt := by decide +kernel
def vX1_flipsAt_c4 (mk : Int32) (nu : Nat → Int32) (kd : Nat → Int32) (fi : Nat → Int32) (la : Nat → Int32) (p1 : Int32) (Q : Int32 → Prop) : Nat → Int32 → Int32 → Prop
  | 0, _, _ => False
  | n + 1, x2, x3 => ((mk ≤ x3 → (Q x2)) ∧ (¬ mk ≤ x3 → (vp_in x3 10 ∧ ((¬ (kd x3.toNatClampNeg) = 0 → (vX1_flipsAt_c4 mk nu kd fi la p1 Q n x2 (x3 + (1 : Int32)))) ∧ ((kd x3.toNatClampNeg) = 0 → (vp_in x3 10 ∧ ((¬ (fi x3.toNatClampNeg) = p1 → (vX1_flipsAt_c4 mk nu kd fi la p1 Q n x2 (x3 + (1 : Int32)))) ∧ ((fi x3.toNatClampNeg) = p1 → (vX1_flipsAt_c4 mk nu kd fi la p1 Q n (x2 ^^^ (1 : Int32)) (x3 + (1 : Int32)))))))))))
set_option maxHeartbeats 4000000 in
set_option maxRecDepth 100000 in
theorem kX1_flipsAt_c4 {p : Program} {l : Launch} {e : Env} {s : State} {m : MethodId} {args : Array Value} {below : List Frame} {meth : Method} {c : Code} {g : GP} {qG qn qk qf qs : Nat} {mk : Int32} {nu : Nat → Int32} {kd : Nat → Int32} {fi : Nat → Int32} {la : Nat → Int32} {p1 : Int32} {Q : Int32 → Prop} (S : CallFix p m c cX1_flipsAt 4 s args wsX1_flipsAt RX1) (hr : meth.sig.returnType = (some .int)) (hlocks : meth.locks = false) (hG : GK g s) (hP : va_P g.1 vwCl [(qG, .inr (1, [.ref qn, .ref qk, .ref qf, .ref qs, .int mk])), (qn, .inl (g.2 0, 6, .inl nu)), (qk, .inl (g.2 0, 10, .inl kd)), (qf, .inl (g.2 0, 10, .inl fi)), (qs, .inl (g.2 0, 10, .inl la))] s.heap) : ∀ (n : Nat), ∀ (x2 : Int32) (x3 : Int32), vX1_flipsAt_c4 mk nu kd fi la p1 Q n x2 x3 → ∀ (ls : Array Slot), lv_has ls 4 [(0, .ref qG), (1, .int p1), (2, .int x2), (3, .int x3)] → W p l e (headSpec wsX1_flipsAt rmX1_flipsAt).room s m args below meth c s.heap [] 0 0 (MQ below (vp_Si Q) args s 0 0 (fun _ => False)) (F0 m 4 ls []) := by
  obtain ⟨hx, hb, hml, hown, hts⟩ := id S
  have hK := hG.1
  intro n
  induction n with
  | zero => intro x2 x3 hv; exact hv.elim
  | succ n ih =>
    intro x2 x3 hv ls hl
    refine lv_iload_n hx hb dX1_flipsAt_4 rfl (lv_at hl 3 rfl) ?_
    refine lv_aload_n hx hb dX1_flipsAt_5 rfl (lv_at hl 0 rfl) ?_
    refine va_get (D := g.1) (ci := 1) (v := .int mk) (C := RX1) (T := TX1) (N := 5) hx hb hts inX1_flipsAt_1 hown hK hP 0 rfl rfl 4 (by decide) (hts (.fieldLink RX1 30 "RangeCodes$Leg" "marks" "I") (List.mem_of_getElem? (i := 1) rfl)) (fun _ h9 => h9) rfl dX1_flipsAt_6 ?_
    obtain ⟨hvt, hvf⟩ := hv
    refine lv_icmp_ge (tgt := 41) hx hb dX1_flipsAt_9 (by decide) (fun hc => ?_) (fun hc => ?_)
    · have hv := hvt hc
      refine lv_iload_n hx hb dX1_flipsAt_41 rfl (lv_at hl 2 rfl) ?_
      exact W.iret (v := x2) hx hb hr (fun t ht hW => ⟨_, rfl, hv, ht⟩) (fun _ h => by cases h) dX1_flipsAt_42
    · have hv := hvf hc
      refine lv_aload_n hx hb dX1_flipsAt_12 rfl (lv_at hl 0 rfl) ?_
      refine va_get (D := g.1) (ci := 1) (v := .ref qk) (C := RX1) (T := TX1) (N := 5) hx hb hts inX1_flipsAt_1 hown hK hP 0 rfl rfl 1 (by decide) (hts (.fieldLink RX1 15 "RangeCodes$Leg" "kinds" "[I") (List.mem_of_getElem? (i := 2) rfl)) (fun _ h9 => h9) rfl dX1_flipsAt_13 ?_
      refine lv_iload_n hx hb dX1_flipsAt_16 rfl (lv_at hl 3 rfl) ?_
      obtain ⟨ho_1, hv⟩ := hv
      refine va_iald hx hb hK hP 2 0 rfl rfl ho_1 dX1_flipsAt_17 ?_
      obtain ⟨hvt, hvf⟩ := hv
      refine lv_if_ne (tgt := 35) hx hb dX1_flipsAt_18 (by decide) (fun hc => ?_) (fun hc => ?_)
      · have hv := hvt hc
        refine lv_iinc (v := (x3 + (1 : Int32))) (lv' := [(3, .int (x3 + (1 : Int32))), (0, .ref qG), (1, .int p1), (2, .int x2)]) hx hb dX1_flipsAt_35 hl (k := 3) rfl rfl (by decide) rfl (fun ls hl => ?_)
        refine lv_goto (tgt := 4) hx hb dX1_flipsAt_38 (by decide) ?_
        exact ih _ _ hv ls (lv_sub hl [1, 2, 3, 0] rfl)
      · have hv := hvf hc
        refine lv_aload_n hx hb dX1_flipsAt_21 rfl (lv_at hl 0 rfl) ?_
        refine va_get (D := g.1) (ci := 1) (v := .ref qf) (C := RX1) (T := TX1) (N := 5) hx hb hts inX1_flipsAt_1 hown hK hP 0 rfl rfl 2 (by decide) (hts (.fieldLink RX1 18 "RangeCodes$Leg" "firsts" "[I") (List.mem_of_getElem? (i := 3) rfl)) (fun _ h9 => h9) rfl dX1_flipsAt_22 ?_
        refine lv_iload_n hx hb dX1_flipsAt_25 rfl (lv_at hl 3 rfl) ?_
        obtain ⟨ho_2, hv⟩ := hv
        refine va_iald hx hb hK hP 3 0 rfl rfl ho_2 dX1_flipsAt_26 ?_
        refine lv_iload_n hx hb dX1_flipsAt_27 rfl (lv_at hl 1 rfl) ?_
        obtain ⟨hvt, hvf⟩ := hv
        refine lv_icmp_ne (tgt := 35) hx hb dX1_flipsAt_28 (by decide) (fun hc => ?_) (fun hc => ?_)
        · have hv := hvt hc
          refine lv_iinc (v := (x3 + (1 : Int32))) (lv' := [(3, .int (x3 + (1 : Int32))), (0, .ref qG), (1, .int p1), (2, .int x2)]) hx hb dX1_flipsAt_35 hl (k := 3) rfl rfl (by decide) rfl (fun ls hl => ?_)
          refine lv_goto (tgt := 4) hx hb dX1_flipsAt_38 (by decide) ?_
          exact ih _ _ hv ls (lv_sub hl [1, 2, 3, 0] rfl)
        · have hv := hvf hc
          refine lv_iload_n hx hb dX1_flipsAt_31 rfl (lv_at hl 2 rfl) ?_
          refine lv_iconst (v := (1 : Int32)) hx hb dX1_flipsAt_32 (by decide) ?_
          refine lv_ixor hx hb dX1_flipsAt_33 ?_
          refine lv_istore_n (lv' := [(2, .int (x2 ^^^ (1 : Int32))), (0, .ref qG), (1, .int p1), (3, .int x3)]) hx hb dX1_flipsAt_34 rfl hl (by decide) rfl (fun ls hl => ?_)
          refine lv_iinc (v := (x3 + (1 : Int32))) (lv' := [(3, .int (x3 + (1 : Int32))), (2, .int (x2 ^^^ (1 : Int32))), (0, .ref qG), (1, .int p1)]) hx hb dX1_flipsAt_35 hl (k := 3) rfl rfl (by decide) rfl (fun ls hl => ?_)
          refine lv_goto (tgt := 4) hx hb dX1_flipsAt_38 (by decide) ?_
          exact ih _ _ hv ls (lv_sub hl [2, 3, 1, 0] rfl)
def vX1_flipsAt (mk : Int32) (nu : Nat → Int32) (kd : Nat → Int32) (fi : Nat → Int32) (la : Nat → Int32) (p1 : Int32) (Q : Int32 → Prop) : Prop := (∃ nn, vX1_flipsAt_c4 mk nu kd fi la p1 Q nn (0 : Int32) (0 : Int32))
set_option maxHeartbeats 4000000 in
set_option maxRecDepth 100000 in
theorem wX1_flipsAt (l : Launch) (g : GP) (qG : Nat) (qn : Nat) (qk : Nat) (qf : Nat) (qs : Nat) (mk : Int32) (nu : Nat → Int32) (kd : Nat → Int32) (fi : Nat → Int32) (la : Nat → Int32) (p1 : Int32) {Q : Int32 → Prop} (hv : vX1_flipsAt mk nu kd fi la p1 Q) : Met l yX1_flipsAt wsX1_flipsAt rmX1_flipsAt (va_Pc [.ref qG, .int p1] (fun U => va_P g.1 vwCl [(qG, .inr (1, [.ref qn, .ref qk, .ref qf, .ref qs, .int mk])), (qn, .inl (g.2 0, 6, .inl nu)), (qk, .inl (g.2 0, 10, .inl kd)), (qf, .inl (g.2 0, 10, .inl fi)), (qs, .inl (g.2 0, 10, .inl la))] U.heap ∧ GK g U)) (vp_Si Q) 0 0 (fun _ => False) := by
  refine Met.ofW (cc := cX1_flipsAt) (maxL := 4) (ret := (some .int)) (by decide) rfl ?_
  intro p e s m args below meth c s₁ B hml hv'
  obtain ⟨rfl, hP, hG⟩ := hv'
  have S : CallFix p m c cX1_flipsAt 4 s _ wsX1_flipsAt RX1 := ⟨B.exec, B.bytes, hml, findClass_of_methodNamed B.named, atoms_spec (ws := wsX1_flipsAt) B.pre⟩
  obtain ⟨hx, hb, hml, hown, hts⟩ := id S
  have hK := hG.1
  have hr := B.returns
  have hlocks := B.notSynchronized
  have hl := lv_entry ([.ref qG, .int p1]) (n := 4) (Nat.le_of_ble_eq_true rfl)
  rw [lg_entry_eq]
  generalize (lg_sl ([.ref qG, .int p1]) ++ List.replicate (4 - (lg_sl ([.ref qG, .int p1])).length) Slot.unset).toArray = ls at hl ⊢
  have hl : lv_has ls 4 [(0, .ref qG), (1, .int p1)] := hl
  unfold vX1_flipsAt at hv
  refine lv_iconst (v := (0 : Int32)) hx hb dX1_flipsAt_0 (by decide) ?_
  refine lv_istore_n (lv' := [(2, .int (0 : Int32)), (0, .ref qG), (1, .int p1)]) hx hb dX1_flipsAt_1 rfl hl (by decide) rfl (fun ls hl => ?_)
  refine lv_iconst (v := (0 : Int32)) hx hb dX1_flipsAt_2 (by decide) ?_
  refine lv_istore_n (lv' := [(3, .int (0 : Int32)), (2, .int (0 : Int32)), (0, .ref qG), (1, .int p1)]) hx hb dX1_flipsAt_3 rfl hl (by decide) rfl (fun ls hl => ?_)
  obtain ⟨nn, hv⟩ := hv
  exact kX1_flipsAt_c4 S hr hlocks hG hP nn _ _ hv ls (lv_sub hl [2, 3, 1, 0] rfl)
abbrev preX1_flipsAt (G : Lg) (i : Nat) (mk : Int32) (nu kd fi la : Nat → Int32) (p1 : Int32) : Prop := isG G mk nu kd fi la ∧ p1.toInt = (i : Int)
abbrev postX1_flipsAt (G : Lg) (i : Nat) (_ : Int32) (_ _ _ _ : Nat → Int32) (_ r : Int32) : Prop := r = if fliB G i (gm G) then 1 else 0
theorem sX1_flipsAt_1 (G : Lg) (i : Nat) (mk : Int32) (nu kd fi la : Nat → Int32) (p1 : Int32) (h : preX1_flipsAt G i mk nu kd fi la p1) : ∀ (n j : Nat) (x2 x3 : Int32), (x2 = if fliB G i j then 1 else 0) → x3.toInt = (j : Int) → j ≤ gm G → gm G + 1 ≤ j + n → vX1_flipsAt_c4 mk nu kd fi la p1 (postX1_flipsAt G i mk nu kd fi la p1) n x2 x3
  | 0, j, x2, x3, _, _, hi, hn => absurd hn (by omega)
  | n + 1, j, x2, x3, h2, h3, hi, hn => by
    obtain ⟨⟨ok, hm, hu, hk⟩, h1⟩ := id h
    have h10 := ok.2.2.2.2.2.2.1
    rw [vX1_flipsAt_c4, q_le hm h3]
    refine ⟨fun hc => ?_, fun hc => ⟨q_in h3 (by omega), ?_⟩⟩
    · have : j = gm G := by omega
      subst this
      exact h2
    · have hki := hk j (by omega)
      have h3s := q_1 h3 (by omega)
      have next : ¬ (gk G j = 0 ∧ gf G j = i) → vX1_flipsAt_c4 mk nu kd fi la p1 (postX1_flipsAt G i mk nu kd fi la p1) n x2 (x3 + (1 : Int32)) := fun hno => by
        refine sX1_flipsAt_1 G i mk nu kd fi la p1 h n (j + 1) _ _ ?_ h3s (by omega) (by omega)
        have e : (decide (gk G j = 0) && decide (gf G j = i)) = false := by
          cases hh : (decide (gk G j = 0) && decide (gf G j = i)) with
          | false => rfl
          | true => simp at hh; exact absurd hh hno
        rw [fliB, e, Bool.xor_false]; exact h2
      rw [q_cl h3, q_eq hki.1 z0]
      refine ⟨fun hb => next (by omega), fun hb => ⟨q_in h3 (by omega), ?_⟩⟩
      rw [q_eq hki.2.1 h1]
      refine ⟨fun hd => next (by omega), fun hd => ?_⟩
      refine sX1_flipsAt_1 G i mk nu kd fi la p1 h n (j + 1) _ _ ?_ h3s (by omega) (by omega)
      have e : (decide (gk G j = 0) && decide (gf G j = i)) = true := by
        simp [show gk G j = 0 by omega, show gf G j = i by omega]
      rw [fliB, e, h2]
      cases fliB G i j <;> rfl
theorem sX1_flipsAt (G : Lg) (i : Nat) (mk : Int32) (nu kd fi la : Nat → Int32) (p1 : Int32) (h : preX1_flipsAt G i mk nu kd fi la p1) : vX1_flipsAt mk nu kd fi la p1 (postX1_flipsAt G i mk nu kd fi la p1) :=
  ⟨gm G + 1, sX1_flipsAt_1 G i mk nu kd fi la p1 h (gm G + 1) 0 0 0 rfl rfl (by omega) (by omega)⟩
theorem dX1_addMark_0 : decode cX1_addMark 0 = .ok (.aload_n 0, 1) := by decide +kernel
theorem dX1_addMark_1 : decode cX1_addMark 1 = .ok (.getfield 30, 3) := by decide +kernel
theorem dX1_addMark_4 : decode cX1_addMark 4 = .ok (.bipush 10, 2) := by decide +kernel
theorem dX1_addMark_6 : decode cX1_addMark 6 = .ok (.if_icmp .lt 5, 3) := by decide +kernel
theorem dX1_addMark_9 : decode cX1_addMark 9 = .ok (.iconst 0, 1) := by decide +kernel
theorem dX1_addMark_10 : decode cX1_addMark 10 = .ok (.ireturn, 1) := by decide +kernel
theorem dX1_addMark_11 : decode cX1_addMark 11 = .ok (.aload_n 0, 1) := by decide +kernel
theorem dX1_addMark_12 : decode cX1_addMark 12 = .ok (.getfield 15, 3) := by decide +kernel
theorem dX1_addMark_15 : decode cX1_addMark 15 = .ok (.aload_n 0, 1) := by decide +kernel
theorem dX1_addMark_16 : decode cX1_addMark 16 = .ok (.getfield 30, 3) := by decide +kernel
theorem dX1_addMark_19 : decode cX1_addMark 19 = .ok (.iload_n 1, 1) := by decide +kernel
theorem dX1_addMark_20 : decode cX1_addMark 20 = .ok (.iastore, 1) := by decide +kernel
theorem dX1_addMark_21 : decode cX1_addMark 21 = .ok (.aload_n 0, 1) := by decide +kernel
theorem dX1_addMark_22 : decode cX1_addMark 22 = .ok (.getfield 18, 3) := by decide +kernel
theorem dX1_addMark_25 : decode cX1_addMark 25 = .ok (.aload_n 0, 1) := by decide +kernel
theorem dX1_addMark_26 : decode cX1_addMark 26 = .ok (.getfield 30, 3) := by decide +kernel
theorem dX1_addMark_29 : decode cX1_addMark 29 = .ok (.iload_n 2, 1) := by decide +kernel
theorem dX1_addMark_30 : decode cX1_addMark 30 = .ok (.iastore, 1) := by decide +kernel
theorem dX1_addMark_31 : decode cX1_addMark 31 = .ok (.aload_n 0, 1) := by decide +kernel
theorem dX1_addMark_32 : decode cX1_addMark 32 = .ok (.getfield 21, 3) := by decide +kernel
theorem dX1_addMark_35 : decode cX1_addMark 35 = .ok (.aload_n 0, 1) := by decide +kernel
theorem dX1_addMark_36 : decode cX1_addMark 36 = .ok (.getfield 30, 3) := by decide +kernel
theorem dX1_addMark_39 : decode cX1_addMark 39 = .ok (.iload_n 3, 1) := by decide +kernel
theorem dX1_addMark_40 : decode cX1_addMark 40 = .ok (.iastore, 1) := by decide +kernel
theorem dX1_addMark_41 : decode cX1_addMark 41 = .ok (.aload_n 0, 1) := by decide +kernel
theorem dX1_addMark_42 : decode cX1_addMark 42 = .ok (.dup, 1) := by decide +kernel
theorem dX1_addMark_43 : decode cX1_addMark 43 = .ok (.getfield 30, 3) := by decide +kernel
theorem dX1_addMark_46 : decode cX1_addMark 46 = .ok (.iconst 1, 1) := by decide +kernel
theorem dX1_addMark_47 : decode cX1_addMark 47 = .ok (.iadd, 1) := by decide +kernel
theorem dX1_addMark_48 : decode cX1_addMark 48 = .ok (.putfield 30, 3) := by decide +kernel
theorem dX1_addMark_51 : decode cX1_addMark 51 = .ok (.iconst 1, 1) := by decide +kernel
theorem dX1_addMark_52 : decode cX1_addMark 52 = .ok (.ireturn, 1) := by decide +kernel
abbrev rmX1_addMark : Room := { frames := 0, cells := 0, slots := 0, locals := 0 }
theorem inX1_addMark_1 : ∀ w ∈ wsX10, w ∈ wsX1_addMark := by decide +kernel
def vX1_addMark (mk : Int32) (nu : Nat → Int32) (kd : Nat → Int32) (fi : Nat → Int32) (la : Nat → Int32) (p1 : Int32) (p2 : Int32) (p3 : Int32) (Q : Int32 → (Int32) → (Nat → Int32) → (Nat → Int32) → (Nat → Int32) → Prop) : Prop := ((mk < (10 : Int32) → (vp_in mk 10 ∧ (vp_in mk 10 ∧ (vp_in mk 10 ∧ (Q (1 : Int32) (mk + (1 : Int32)) (upd kd mk.toNatClampNeg p1) (upd fi mk.toNatClampNeg p2) (upd la mk.toNatClampNeg p3)))))) ∧ (¬ mk < (10 : Int32) → (Q (0 : Int32) mk kd fi la)))
set_option maxHeartbeats 4000000 in
set_option maxRecDepth 100000 in
theorem wX1_addMark (l : Launch) (g : GP) (qG : Nat) (qn : Nat) (qk : Nat) (qf : Nat) (qs : Nat) (sz : Nat) (mk : Int32) (nu : Nat → Int32) (kd : Nat → Int32) (fi : Nat → Int32) (la : Nat → Int32) (p1 : Int32) (p2 : Int32) (p3 : Int32) {Q : Int32 → (Int32) → (Nat → Int32) → (Nat → Int32) → (Nat → Int32) → Prop} (hv : vX1_addMark mk nu kd fi la p1 p2 p3 Q) : Met l yX1_addMark wsX1_addMark rmX1_addMark (va_Pc [.ref qG, .int p1, .int p2, .int p3] (fun U => U.heap.size = sz ∧ va_P g.1 vwCl [(qG, .inr (1, [.ref qn, .ref qk, .ref qf, .ref qs, .int mk])), (qn, .inl (g.2 0, 6, .inl nu)), (qk, .inl (g.2 0, 10, .inl kd)), (qf, .inl (g.2 0, 10, .inl fi)), (qs, .inl (g.2 0, 10, .inl la))] U.heap ∧ GK g U ∧ va_D (fun _ => True) [(qG, .inr (1, [.ref qn, .ref qk, .ref qf, .ref qs, .int mk])), (qn, .inl (g.2 0, 6, .inl nu)), (qk, .inl (g.2 0, 10, .inl kd)), (qf, .inl (g.2 0, 10, .inl fi)), (qs, .inl (g.2 0, 10, .inl la))])) (va_Qi (fun (r : Int32) (u : Int32 × (Nat → Int32) × (Nat → Int32) × (Nat → Int32)) => Q r u.1 u.2.1 u.2.2.1 u.2.2.2) (fun (u : Int32 × (Nat → Int32) × (Nat → Int32) × (Nat → Int32)) t => va_P g.1 vwCl [(qG, .inr (1, [.ref qn, .ref qk, .ref qf, .ref qs, .int u.1])), (qn, .inl (g.2 0, 6, .inl nu)), (qk, .inl (g.2 0, 10, .inl u.2.1)), (qf, .inl (g.2 0, 10, .inl u.2.2.1)), (qs, .inl (g.2 0, 10, .inl u.2.2.2))] t.heap ∧ va_D (va_A [(qG, .inr (1, [.ref qn, .ref qk, .ref qf, .ref qs, .int mk])), (qn, .inl (g.2 0, 6, .inl nu)), (qk, .inl (g.2 0, 10, .inl kd)), (qf, .inl (g.2 0, 10, .inl fi)), (qs, .inl (g.2 0, 10, .inl la))] sz) [(qG, .inr (1, [.ref qn, .ref qk, .ref qf, .ref qs, .int u.1])), (qn, .inl (g.2 0, 6, .inl nu)), (qk, .inl (g.2 0, 10, .inl u.2.1)), (qf, .inl (g.2 0, 10, .inl u.2.2.1)), (qs, .inl (g.2 0, 10, .inl u.2.2.2))]) (va_A [(qG, .inr (1, [.ref qn, .ref qk, .ref qf, .ref qs, .int mk])), (qn, .inl (g.2 0, 6, .inl nu)), (qk, .inl (g.2 0, 10, .inl kd)), (qf, .inl (g.2 0, 10, .inl fi)), (qs, .inl (g.2 0, 10, .inl la))] sz)) 0 0 (va_A [(qG, .inr (1, [.ref qn, .ref qk, .ref qf, .ref qs, .int mk])), (qn, .inl (g.2 0, 6, .inl nu)), (qk, .inl (g.2 0, 10, .inl kd)), (qf, .inl (g.2 0, 10, .inl fi)), (qs, .inl (g.2 0, 10, .inl la))] sz) := by
  refine Met.ofW (cc := cX1_addMark) (maxL := 4) (ret := (some .boolean)) (by decide) rfl ?_
  intro p e s m args below meth c s₁ B hml hv'
  obtain ⟨rfl, hsz, hP, hG, hD0⟩ := hv'
  have S : CallFix p m c cX1_addMark 4 s _ wsX1_addMark RX1 := ⟨B.exec, B.bytes, hml, findClass_of_methodNamed B.named, atoms_spec (ws := wsX1_addMark) B.pre⟩
  obtain ⟨hx, hb, hml, hown, hts⟩ := id S
  have hK := hG.1
  have hr := B.returns
  have hlocks := B.notSynchronized
  subst hsz
  have hD := hD0.self (sz := s.heap.size)
  generalize hAe : va_A [(qG, .inr (1, [.ref qn, .ref qk, .ref qf, .ref qs, .int mk])), (qn, .inl (g.2 0, 6, .inl nu)), (qk, .inl (g.2 0, 10, .inl kd)), (qf, .inl (g.2 0, 10, .inl fi)), (qs, .inl (g.2 0, 10, .inl la))] s.heap.size = A at hD ⊢
  have hA : ∀ q : Nat, s.heap.size ≤ q → A q := fun q h => by rw [← hAe]; exact Or.inr h
  have hS : va_S A s.heap s.heap [] := va_S.rf
  clear hD0 hAe
  have hl := lv_entry ([.ref qG, .int p1, .int p2, .int p3]) (n := 4) (Nat.le_of_ble_eq_true rfl)
  rw [lg_entry_eq]
  generalize (lg_sl ([.ref qG, .int p1, .int p2, .int p3]) ++ List.replicate (4 - (lg_sl ([.ref qG, .int p1, .int p2, .int p3])).length) Slot.unset).toArray = ls at hl ⊢
  have hl : lv_has ls 4 [(0, .ref qG), (1, .int p1), (2, .int p2), (3, .int p3)] := hl
  unfold vX1_addMark at hv
  refine lv_aload_n hx hb dX1_addMark_0 rfl (lv_at hl 0 rfl) ?_
  refine va_get (D := g.1) (ci := 1) (v := .int mk) (C := RX1) (T := TX1) (N := 5) hx hb hts inX1_addMark_1 hown hK hP 0 rfl rfl 4 (by decide) (hts (.fieldLink RX1 30 "RangeCodes$Leg" "marks" "I") (List.mem_of_getElem? (i := 1) rfl)) (fun _ h9 => h9) rfl dX1_addMark_1 ?_
  refine lv_bipush (v := (10 : Int32)) hx hb dX1_addMark_4 (by decide) ?_
  obtain ⟨hvt, hvf⟩ := hv
  refine lv_icmp_lt (tgt := 11) hx hb dX1_addMark_6 (by decide) (fun hc => ?_) (fun hc => ?_)
  · have hv := hvt hc
    refine lv_aload_n hx hb dX1_addMark_11 rfl (lv_at hl 0 rfl) ?_
    refine va_get (D := g.1) (ci := 1) (v := .ref qk) (C := RX1) (T := TX1) (N := 5) hx hb hts inX1_addMark_1 hown hK hP 0 rfl rfl 1 (by decide) (hts (.fieldLink RX1 15 "RangeCodes$Leg" "kinds" "[I") (List.mem_of_getElem? (i := 2) rfl)) (fun _ h9 => h9) rfl dX1_addMark_12 ?_
    refine lv_aload_n hx hb dX1_addMark_15 rfl (lv_at hl 0 rfl) ?_
    refine va_get (D := g.1) (ci := 1) (v := .int mk) (C := RX1) (T := TX1) (N := 5) hx hb hts inX1_addMark_1 hown hK hP 0 rfl rfl 4 (by decide) (hts (.fieldLink RX1 30 "RangeCodes$Leg" "marks" "I") (List.mem_of_getElem? (i := 1) rfl)) (fun _ h9 => h9) rfl dX1_addMark_16 ?_
    refine lv_iload_n hx hb dX1_addMark_19 rfl (lv_at hl 1 rfl) ?_
    obtain ⟨ho_1, hv⟩ := hv
    refine va_iast hx hb hK hP hD hS 2 0 rfl rfl ho_1 dX1_addMark_20 (fun H locs hP hD hS => ?_)
    have hP : va_P g.1 vwCl [(qG, .inr (1, [.ref qn, .ref qk, .ref qf, .ref qs, .int mk])), (qn, .inl (g.2 0, 6, .inl nu)), (qk, .inl (g.2 0, 10, .inl (upd kd mk.toNatClampNeg p1))), (qf, .inl (g.2 0, 10, .inl fi)), (qs, .inl (g.2 0, 10, .inl la))] H := hP
    have hD : va_D A [(qG, .inr (1, [.ref qn, .ref qk, .ref qf, .ref qs, .int mk])), (qn, .inl (g.2 0, 6, .inl nu)), (qk, .inl (g.2 0, 10, .inl (upd kd mk.toNatClampNeg p1))), (qf, .inl (g.2 0, 10, .inl fi)), (qs, .inl (g.2 0, 10, .inl la))] := hD
    refine lv_aload_n hx hb dX1_addMark_21 rfl (lv_at hl 0 rfl) ?_
    refine va_get (D := g.1) (ci := 1) (v := .ref qf) (C := RX1) (T := TX1) (N := 5) hx hb hts inX1_addMark_1 hown hK hP 0 rfl rfl 2 (by decide) (hts (.fieldLink RX1 18 "RangeCodes$Leg" "firsts" "[I") (List.mem_of_getElem? (i := 3) rfl)) (fun _ h9 => h9) rfl dX1_addMark_22 ?_
    refine lv_aload_n hx hb dX1_addMark_25 rfl (lv_at hl 0 rfl) ?_
    refine va_get (D := g.1) (ci := 1) (v := .int mk) (C := RX1) (T := TX1) (N := 5) hx hb hts inX1_addMark_1 hown hK hP 0 rfl rfl 4 (by decide) (hts (.fieldLink RX1 30 "RangeCodes$Leg" "marks" "I") (List.mem_of_getElem? (i := 1) rfl)) (fun _ h9 => h9) rfl dX1_addMark_26 ?_
    refine lv_iload_n hx hb dX1_addMark_29 rfl (lv_at hl 2 rfl) ?_
    obtain ⟨ho_2, hv⟩ := hv
    refine va_iast hx hb hK hP hD hS 3 0 rfl rfl ho_2 dX1_addMark_30 (fun H locs hP hD hS => ?_)
    have hP : va_P g.1 vwCl [(qG, .inr (1, [.ref qn, .ref qk, .ref qf, .ref qs, .int mk])), (qn, .inl (g.2 0, 6, .inl nu)), (qk, .inl (g.2 0, 10, .inl (upd kd mk.toNatClampNeg p1))), (qf, .inl (g.2 0, 10, .inl (upd fi mk.toNatClampNeg p2))), (qs, .inl (g.2 0, 10, .inl la))] H := hP
    have hD : va_D A [(qG, .inr (1, [.ref qn, .ref qk, .ref qf, .ref qs, .int mk])), (qn, .inl (g.2 0, 6, .inl nu)), (qk, .inl (g.2 0, 10, .inl (upd kd mk.toNatClampNeg p1))), (qf, .inl (g.2 0, 10, .inl (upd fi mk.toNatClampNeg p2))), (qs, .inl (g.2 0, 10, .inl la))] := hD
    refine lv_aload_n hx hb dX1_addMark_31 rfl (lv_at hl 0 rfl) ?_
    refine va_get (D := g.1) (ci := 1) (v := .ref qs) (C := RX1) (T := TX1) (N := 5) hx hb hts inX1_addMark_1 hown hK hP 0 rfl rfl 3 (by decide) (hts (.fieldLink RX1 21 "RangeCodes$Leg" "lasts" "[I") (List.mem_of_getElem? (i := 4) rfl)) (fun _ h9 => h9) rfl dX1_addMark_32 ?_
    refine lv_aload_n hx hb dX1_addMark_35 rfl (lv_at hl 0 rfl) ?_
    refine va_get (D := g.1) (ci := 1) (v := .int mk) (C := RX1) (T := TX1) (N := 5) hx hb hts inX1_addMark_1 hown hK hP 0 rfl rfl 4 (by decide) (hts (.fieldLink RX1 30 "RangeCodes$Leg" "marks" "I") (List.mem_of_getElem? (i := 1) rfl)) (fun _ h9 => h9) rfl dX1_addMark_36 ?_
    refine lv_iload_n hx hb dX1_addMark_39 rfl (lv_at hl 3 rfl) ?_
    obtain ⟨ho_3, hv⟩ := hv
    refine va_iast hx hb hK hP hD hS 4 0 rfl rfl ho_3 dX1_addMark_40 (fun H locs hP hD hS => ?_)
    have hP : va_P g.1 vwCl [(qG, .inr (1, [.ref qn, .ref qk, .ref qf, .ref qs, .int mk])), (qn, .inl (g.2 0, 6, .inl nu)), (qk, .inl (g.2 0, 10, .inl (upd kd mk.toNatClampNeg p1))), (qf, .inl (g.2 0, 10, .inl (upd fi mk.toNatClampNeg p2))), (qs, .inl (g.2 0, 10, .inl (upd la mk.toNatClampNeg p3)))] H := hP
    have hD : va_D A [(qG, .inr (1, [.ref qn, .ref qk, .ref qf, .ref qs, .int mk])), (qn, .inl (g.2 0, 6, .inl nu)), (qk, .inl (g.2 0, 10, .inl (upd kd mk.toNatClampNeg p1))), (qf, .inl (g.2 0, 10, .inl (upd fi mk.toNatClampNeg p2))), (qs, .inl (g.2 0, 10, .inl (upd la mk.toNatClampNeg p3)))] := hD
    refine lv_aload_n hx hb dX1_addMark_41 rfl (lv_at hl 0 rfl) ?_
    refine lv_dup hx hb dX1_addMark_42 rfl ?_
    refine va_get (D := g.1) (ci := 1) (v := .int mk) (C := RX1) (T := TX1) (N := 5) hx hb hts inX1_addMark_1 hown hK hP 0 rfl rfl 4 (by decide) (hts (.fieldLink RX1 30 "RangeCodes$Leg" "marks" "I") (List.mem_of_getElem? (i := 1) rfl)) (fun _ h9 => h9) rfl dX1_addMark_43 ?_
    refine lv_iconst (v := (1 : Int32)) hx hb dX1_addMark_46 (by decide) ?_
    refine lv_iadd hx hb dX1_addMark_47 ?_
    refine va_put (D := g.1) (ci := 1) (v := .int (mk + (1 : Int32))) (ty := .int) (C := RX1) (T := TX1) (N := 5) hx hb hts inX1_addMark_1 tyX1 tyX1_ok nmX1 hown hK hP hD hS 0 rfl rfl 4 (by decide) (hts (.fieldLink RX1 30 "RangeCodes$Leg" "marks" "I") (List.mem_of_getElem? (i := 1) rfl)) (fun _ h9 => h9) rfl (by decide +kernel) rfl rfl (Nat.le_of_ble_eq_true rfl) dX1_addMark_48 (fun H locs hP hD hS => ?_)
    have hP : va_P g.1 vwCl [(qG, .inr (1, [.ref qn, .ref qk, .ref qf, .ref qs, .int (mk + (1 : Int32))])), (qn, .inl (g.2 0, 6, .inl nu)), (qk, .inl (g.2 0, 10, .inl (upd kd mk.toNatClampNeg p1))), (qf, .inl (g.2 0, 10, .inl (upd fi mk.toNatClampNeg p2))), (qs, .inl (g.2 0, 10, .inl (upd la mk.toNatClampNeg p3)))] H := hP
    have hD : va_D A [(qG, .inr (1, [.ref qn, .ref qk, .ref qf, .ref qs, .int (mk + (1 : Int32))])), (qn, .inl (g.2 0, 6, .inl nu)), (qk, .inl (g.2 0, 10, .inl (upd kd mk.toNatClampNeg p1))), (qf, .inl (g.2 0, 10, .inl (upd fi mk.toNatClampNeg p2))), (qs, .inl (g.2 0, 10, .inl (upd la mk.toNatClampNeg p3)))] := hD
    refine lv_iconst (v := (1 : Int32)) hx hb dX1_addMark_51 (by decide) ?_
    have hP9 := hP.sub (ws' := [(qG, .inr (1, [.ref qn, .ref qk, .ref qf, .ref qs, .int (mk + (1 : Int32))])), (qn, .inl (g.2 0, 6, .inl nu)), (qk, .inl (g.2 0, 10, .inl (upd kd mk.toNatClampNeg p1))), (qf, .inl (g.2 0, 10, .inl (upd fi mk.toNatClampNeg p2))), (qs, .inl (g.2 0, 10, .inl (upd la mk.toNatClampNeg p3)))]) [0, 1, 2, 3, 4] rfl
    have hD9 := hD.sub (ws' := [(qG, .inr (1, [.ref qn, .ref qk, .ref qf, .ref qs, .int (mk + (1 : Int32))])), (qn, .inl (g.2 0, 6, .inl nu)), (qk, .inl (g.2 0, 10, .inl (upd kd mk.toNatClampNeg p1))), (qf, .inl (g.2 0, 10, .inl (upd fi mk.toNatClampNeg p2))), (qs, .inl (g.2 0, 10, .inl (upd la mk.toNatClampNeg p3)))]) [0, 1, 2, 3, 4] (by decide) rfl
    exact W.zret (v := (1 : Int32)) (ty := .boolean) hx hb hr rfl (fun t ht hW => ⟨⟨_, ((mk + (1 : Int32)), (upd kd mk.toNatClampNeg p1), (upd fi mk.toNatClampNeg p2), (upd la mk.toNatClampNeg p3)), rfl, hv, by rw [ht]; exact hP9, hD9⟩, hS.F ht⟩) hS.2.2 dX1_addMark_52
  · have hv := hvf hc
    refine lv_iconst (v := (0 : Int32)) hx hb dX1_addMark_9 (by decide) ?_
    have hP9 := hP.sub (ws' := [(qG, .inr (1, [.ref qn, .ref qk, .ref qf, .ref qs, .int mk])), (qn, .inl (g.2 0, 6, .inl nu)), (qk, .inl (g.2 0, 10, .inl kd)), (qf, .inl (g.2 0, 10, .inl fi)), (qs, .inl (g.2 0, 10, .inl la))]) [0, 1, 2, 3, 4] rfl
    have hD9 := hD.sub (ws' := [(qG, .inr (1, [.ref qn, .ref qk, .ref qf, .ref qs, .int mk])), (qn, .inl (g.2 0, 6, .inl nu)), (qk, .inl (g.2 0, 10, .inl kd)), (qf, .inl (g.2 0, 10, .inl fi)), (qs, .inl (g.2 0, 10, .inl la))]) [0, 1, 2, 3, 4] (by decide) rfl
    exact W.zret (v := (0 : Int32)) (ty := .boolean) hx hb hr rfl (fun t ht hW => ⟨⟨_, (mk, kd, fi, la), rfl, hv, by rw [ht]; exact hP9, hD9⟩, hS.F ht⟩) hS.2.2 dX1_addMark_10
abbrev preX1_addMark (mk : Int32) (_ _ _ _ : Nat → Int32) (_ _ _ : Int32) : Prop := 0 ≤ mk.toInt
abbrev postX1_addMark (mk : Int32) (_ kd fi la : Nat → Int32) (p1 p2 p3 : Int32) (r : Int32) (mk' : Int32) (kd' fi' la' : Nat → Int32) : Prop := (mk.toInt < 10 ∧ r = 1 ∧ mk'.toInt = mk.toInt + 1 ∧ kd' = upd kd mk.toInt.toNat p1 ∧ fi' = upd fi mk.toInt.toNat p2 ∧ la' = upd la mk.toInt.toNat p3) ∨ (10 ≤ mk.toInt ∧ r = 0 ∧ mk' = mk ∧ kd' = kd ∧ fi' = fi ∧ la' = la)
theorem sX1_addMark (mk : Int32) (nu kd fi la : Nat → Int32) (p1 p2 p3 : Int32) (h : preX1_addMark mk nu kd fi la p1 p2 p3) : vX1_addMark mk nu kd fi la p1 p2 p3 (postX1_addMark mk nu kd fi la p1 p2 p3) := by
  have hm : mk.toInt = (mk.toInt.toNat : Int) := by omega
  unfold vX1_addMark
  rw [fa_lt, z10]
  refine ⟨fun hc => ?_, fun hc => Or.inr ⟨by omega, rfl, rfl, rfl, rfl, rfl⟩⟩
  have hin : vp_in mk 10 := q_in hm (by omega)
  refine ⟨hin, hin, hin, Or.inl ⟨hc, rfl, q_add rfl z1 (by omega) (by omega), ?_, ?_, ?_⟩⟩ <;> rw [q_cl hm]
