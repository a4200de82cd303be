-- what is told by hand
def kpA (al al' : Nat → Int32) : Prop := ∀ k, (k = 2 ∨ k = 3 ∨ k = 4 ∨ 94 ≤ k) → al' k = al k
theorem kpA_rf (al : Nat → Int32) : kpA al al := fun _ _ => rfl
theorem kpA_up {al : Nat → Int32} {k : Nat} {v : Int32} (h : k = 0 ∨ k = 1 ∨ (5 ≤ k ∧ k < 94)) : kpA al (upd al k v) := fun j hj => upd_ne (by omega)
theorem kpA_tr {a b c : Nat → Int32} (h : kpA a b) (h2 : kpA b c) : kpA a c := fun k hk => by rw [h2 k hk, h k hk]
def trN (c : Nat → Bool) : Nat → Nat
  | 0 => 0
  | k + 1 => trN c k + if c k then 2 ^ k else 0
theorem trN_lt (c : Nat → Bool) : ∀ k, trN c k < 2 ^ k
  | 0 => by simp [trN]
  | k + 1 => by
    have := trN_lt c k
    rw [trN, Nat.pow_succ]; split <;> omega
theorem trN_bit (c : Nat → Bool) : ∀ k p, (trN c k).testBit p = (decide (p < k) && c p)
  | 0, p => by simp [trN]
  | k + 1, p => by
    have ih := trN_bit c k
    have hl := trN_lt c k
    rw [trN]
    by_cases hb : c k = true
    · rw [if_pos hb, Nat.add_comm, show 2 ^ k + trN c k = 2 ^ k * 1 + trN c k by omega, Nat.testBit_two_pow_mul_add _ hl]
      rcases Nat.lt_trichotomy p k with h | h | h
      · rw [if_pos h, ih]; simp [h, Nat.lt_succ_of_lt h]
      · subst h; simp [hb]
      · rw [if_neg (by omega)]
        have h1 : p - k ≠ 0 := by omega
        have h2 : ¬ p < k + 1 := by omega
        rw [Nat.testBit_lt_two_pow (Nat.one_lt_two_pow h1)]
        simp [h2]
    · rw [if_neg hb, Nat.add_zero, ih]
      rcases Nat.lt_trichotomy p k with h | h | h
      · simp [h, Nat.lt_succ_of_lt h]
      · subst h; simp [hb]
      · have h2 : ¬ p < k + 1 := by omega
        simp [h2, show ¬ p < k by omega]
/-- a row with each chip so much later -/
def trX (R L b : Nat) : Nat := trN (fun j => R.testBit ((j + L - b) % L)) L
theorem md_c {L x : Nat} (h : x < L + L) : x % L = if x < L then x else x - L := by
  split
  · exact Nat.mod_eq_of_lt (by assumption)
  · rw [Nat.mod_eq_sub_mod (by omega), Nat.mod_eq_of_lt (by omega)]
theorem nI_bits {x : Int32} {n : Nat} (hn : n < 2147483648) (h : ∀ i, i < 32 → bt x i = n.testBit i) : x.toInt = (n : Int) := by
  have e : x = nI n := b_ext (fun i hi => by rw [h i hi, bt_nI hi])
  rw [e, q_nI hn]
noncomputable section
def spLimit (lim : Nat) (n : Int) : Int := if (1 ≤ n ∧ n ≤ 9999) ∧ n ≠ (lim : Int) then 1 else 0
def nxLim (lim : Nat) (n : Int) : Nat := if 1 ≤ n ∧ n ≤ 9999 then n.toNat else lim
def spVote (T : Cd) (p v : Int) : Int := if (0 ≤ p ∧ p < (cn T : Int)) ∧ (1 ≤ v ∧ v ≤ 9) ∧ v ≠ (cV T p.toNat : Int) then 1 else 0
def nxVot (T : Cd) (p v : Int) : Cd := if (0 ≤ p ∧ p < (cn T : Int)) ∧ (1 ≤ v ∧ v ≤ 9) ∧ v ≠ (cV T p.toNat : Int) then wV T p.toNat v.toNat else T
/-- a leg without marks -/
def gC (G : Lg) : Lg := (G.1, 0, G.2.2)
def nxC0 (G0 : Lg) (l : Int) : Lg := if l = 0 then gC G0 else G0
def nxC1 (G1 : Lg) (l : Int) : Lg := if l = 1 then gC G1 else G1
def spClean (G0 G1 : Lg) (l : Int) : Int := if l = 0 ∨ l = 1 then (gm (pkG G0 G1 l.toNat) : Int) else -1
/-- a leg with one mark more -/
def gA (G : Lg) (k i j : Nat) : Lg := (G.1, gm G + 1, (fun q => if q = gm G then k else gk G q), (fun q => if q = gm G then i else gf G q), (fun q => if q = gm G then j else gl G q))
def nxM0 (G0 : Lg) (l k i : Int) : Lg := if l = 0 ∧ (0 ≤ k ∧ k ≤ 2) ∧ (0 ≤ i ∧ i ≤ 199) ∧ gm G0 < 10 then gA G0 k.toNat i.toNat i.toNat else G0
def nxM1 (G1 : Lg) (l k i : Int) : Lg := if l = 1 ∧ (0 ≤ k ∧ k ≤ 2) ∧ (0 ≤ i ∧ i ≤ 199) ∧ gm G1 < 10 then gA G1 k.toNat i.toNat i.toNat else G1
def spMark (G0 G1 : Lg) (l k i : Int) : Int := if (l = 0 ∨ l = 1) ∧ (0 ≤ k ∧ k ≤ 2) ∧ (0 ≤ i ∧ i ≤ 199) ∧ gm (pkG G0 G1 l.toNat) < 10 then (gm (pkG G0 G1 l.toNat) + 1 : Int) else -1
def wR (T : Cd) (p R : Nat) : Cd := (T.1, T.2.1, (fun q => if q = p then R else T.2.2.1 q), T.2.2.2)
def nxTurn (T : Cd) (p b : Int) : Cd := if (0 ≤ p ∧ p < (cn T : Int)) ∧ 1 ≤ b ∧ b < (cL T p.toNat : Int) then wR T p.toNat (trX (cR T p.toNat) (cL T p.toNat) b.toNat) else T
def spTurn (T : Cd) (p b : Int) : Int := if (0 ≤ p ∧ p < (cn T : Int)) ∧ 1 ≤ b ∧ b < (cL T p.toNat : Int) then 1 else 0
def swF (f : Nat → Nat) (a b q : Nat) : Nat := if q = b then f a else if q = a then f b else f q
def swT (T : Cd) (a b : Nat) : Cd := (T.1, swF T.2.1 a b, swF T.2.2.1 a b, swF T.2.2.2 a b)
def nxSwap (T : Cd) (p q : Int) : Cd := if (0 ≤ p ∧ p < (cn T : Int)) ∧ (0 ≤ q ∧ q < (cn T : Int)) ∧ p ≠ q then swT T p.toNat q.toNat else T
def spSwap (T : Cd) (p q : Int) : Int := if (0 ≤ p ∧ p < (cn T : Int)) ∧ (0 ≤ q ∧ q < (cn T : Int)) ∧ p ≠ q then 1 else 0
def okE (T : Cd) (lim f s : Nat) : Bool := decide (bcn s 13 = f) && decide (lim ≤ lcS T s (cn T))
def enF (T : Cd) (lim : Nat) : Nat := fa_first (fun f => decide (fa_first (okE T lim f) (2 ^ cn T) < 2 ^ cn T)) (cn T + 1)
def spEnough (T : Cd) (lim : Nat) (w : Int) : Int := if (w = 0 ∨ w = 1) ∧ enF T lim < cn T + 1 then (if w = 0 then (fa_first (okE T lim (enF T lim)) (2 ^ cn T) : Int) else (cn T : Int) - (enF T lim : Int)) else -1
def spCode (T : Cd) (lim nb : Nat) (w : Int) : Int := if w = 0 then (cn T : Int) else if w = 1 then (lcS T (2 ^ cn T - 1) (cn T) : Int) else if w = 2 then (lim : Int) else if w = 3 then (voS T (2 ^ cn T - 1) (cn T) : Int) else if w = 4 then (nb : Int) else -1
end
theorem isG_gC {G : Lg} {mk : Int32} {nu kd fi la : Nat → Int32} (h : isG G mk nu kd fi la) {x : Int32} (hx : x.toInt = 0) : isG (gC G) x nu kd fi la := by
  obtain ⟨ok, h2, h3, h4⟩ := h
  exact ⟨⟨ok.1, ok.2.1, ok.2.2.1, ok.2.2.2.1, ok.2.2.2.2.1, ok.2.2.2.2.2.1, Nat.zero_le _, fun j hj => absurd hj (Nat.not_lt_zero j)⟩, hx, h3, fun j hj => absurd hj (Nat.not_lt_zero j)⟩
theorem okG_gA {G : Lg} (ok : okG G) {k i j : Nat} (hm : gm G < 10) (hk : k ≤ 3) (hij : i ≤ j) (hj : j ≤ 199) (hkj : k ≠ 3 → j = i) : okG (gA G k i j) := by
  refine ⟨ok.1, ok.2.1, ok.2.2.1, ok.2.2.2.1, ok.2.2.2.2.1, ok.2.2.2.2.2.1, by show gm G + 1 ≤ 10; omega, fun q hq => ?_⟩
  have hq : q < gm G + 1 := hq
  show (if q = gm G then k else gk G q) ≤ 3 ∧ (if q = gm G then i else gf G q) ≤ (if q = gm G then j else gl G q) ∧ (if q = gm G then j else gl G q) ≤ 199 ∧ ((if q = gm G then k else gk G q) ≠ 3 → (if q = gm G then j else gl G q) = (if q = gm G then i else gf G q))
  by_cases e : q = gm G
  · simp only [if_pos e]; exact ⟨hk, hij, hj, hkj⟩
  · simp only [if_neg e]; exact ok.2.2.2.2.2.2.2 q (by omega)
theorem isG_gA {G : Lg} {mk : Int32} {nu kd fi la : Nat → Int32} (h : isG G mk nu kd fi la) {k i j : Nat} (hm : gm G < 10) (hk : k ≤ 3) (hij : i ≤ j) (hj : j ≤ 199) (hkj : k ≠ 3 → j = i) {mk' x y z : Int32} (hmk : mk'.toInt = mk.toInt + 1) (hx : x.toInt = (k : Int)) (hy : y.toInt = (i : Int)) (hz : z.toInt = (j : Int)) : isG (gA G k i j) mk' nu (upd kd mk.toInt.toNat x) (upd fi mk.toInt.toNat y) (upd la mk.toInt.toNat z) := by
  obtain ⟨ok, h2, h3, h4⟩ := h
  have e : mk.toInt.toNat = gm G := by omega
  refine ⟨okG_gA ok hm hk hij hj hkj, by rw [hmk, h2]; rfl, h3, fun q hq => ?_⟩
  have hq : q < gm G + 1 := hq
  show _ = ((if q = gm G then k else gk G q : Nat) : Int) ∧ _ = ((if q = gm G then i else gf G q : Nat) : Int) ∧ _ = ((if q = gm G then j else gl G q : Nat) : Int)
  rw [e]
  by_cases z2 : q = gm G
  · subst z2; simp only [if_pos rfl]; rw [upd_eq, upd_eq, upd_eq]; exact ⟨hx, hy, hz⟩
  · simp only [if_neg z2]; rw [upd_ne z2, upd_ne z2, upd_ne z2]; exact h4 q (by omega)
set_option maxRecDepth 20000 in
theorem ggX8_chip_X7_election : GoodIn wsX8_chip wsX7_election := goodIn_r _ [6, 7, 8, 9, 10, 5, 11, 12, 13, 14, 15, 16, 17, 18, 19, 20, 38, 39, 40, 41, 42, 43] (by decide +kernel) (by decide +kernel)
set_option maxRecDepth 20000 in
theorem gX8_chip_X7_election : GoodIn wsX8_chip (wsV RX8 169 RX7 yX7_election wsX7_election) := goodIn_app (goodIn_of _ (by decide +kernel)) ggX8_chip_X7_election
set_option maxRecDepth 20000 in
theorem ggX8_chip_X7_codeChip : GoodIn wsX8_chip wsX7_codeChip := goodIn_r _ [24, 12, 25, 26, 27, 28, 29, 38, 39, 40, 41, 42, 43] (by decide +kernel) (by decide +kernel)
set_option maxRecDepth 20000 in
theorem gX8_chip_X7_codeChip : GoodIn wsX8_chip (wsV RX8 195 RX7 yX7_codeChip wsX7_codeChip) := goodIn_app (goodIn_of _ (by decide +kernel)) ggX8_chip_X7_codeChip
theorem dX8_chip_0 : decode cX8_chip 0 = .ok (.aload_n 0, 1) := by decide +kernel
theorem dX8_chip_1 : decode cX8_chip 1 = .ok (.getfield 24, 3) := by decide +kernel
theorem dX8_chip_4 : decode cX8_chip 4 = .ok (.iload_n 1, 1) := by decide +kernel
theorem dX8_chip_5 : decode cX8_chip 5 = .ok (.aload_n 0, 1) := by decide +kernel
theorem dX8_chip_6 : decode cX8_chip 6 = .ok (.getfield 24, 3) := by decide +kernel
theorem dX8_chip_9 : decode cX8_chip 9 = .ok (.iconst (-1), 1) := by decide +kernel
theorem dX8_chip_10 : decode cX8_chip 10 = .ok (.iconst 0, 1) := by decide +kernel
theorem dX8_chip_11 : decode cX8_chip 11 = .ok (.invokevirtual 169, 3) := by decide +kernel
theorem dX8_chip_14 : decode cX8_chip 14 = .ok (.invokevirtual 195, 3) := by decide +kernel
theorem dX8_chip_17 : decode cX8_chip 17 = .ok (.ireturn, 1) := by decide +kernel
abbrev rmX8_chip : Room := { frames := 2, cells := 0, slots := 0, locals := 51 }
theorem inX8_chip_8 : ∀ w ∈ wsX80, w ∈ wsX8_chip := by decide +kernel
def vX8_chip (parts : Int32) (limit : Int32) (len : Nat → Int32) (row : Nat → Int32) (vot : Nat → Int32) (p1 : Int32) (Q : Int32 → Prop) : Prop := (∃ (T_11 : Cd) (T1_11 : Cd), preX7_election T_11 T1_11 parts limit vot (-1 : Int32) (0 : Int32) ∧ (∀ r_11 : Int32, postX7_election T_11 T1_11 parts limit vot (-1 : Int32) (0 : Int32) r_11 → (∃ (T_14 : Cd) (E_14 : Nat → Bool), preX7_codeChip T_14 E_14 parts limit len row p1 r_11 ∧ (∀ r_14 : Int32, postX7_codeChip T_14 E_14 parts limit len row p1 r_11 r_14 → (Q r_14)))))
set_option maxHeartbeats 4000000 in
set_option maxRecDepth 100000 in
theorem wX8_chip (l : Launch) (g : GP) (qX : Nat) (qP : Nat) (qI : Nat) (qt : Nat) (qd : Nat) (qe : Nat) (qsp : Nat) (qrk : Nat) (qty : Nat) (ql : Nat) (qr : Nat) (qv : Nat) (qg : Nat) (parts : Int32) (limit : Int32) (len : Nat → Int32) (row : Nat → Int32) (vot : Nat → Int32) (p1 : Int32) {Q : Int32 → Prop} (hv : vX8_chip parts limit len row vot p1 Q) : Met l yX8_chip wsX8_chip rmX8_chip (va_Pc [.ref qX, .int p1] (fun U => va_P g.1 vwCl [(qX, .inr (8, [.ref qP, .ref qI, .ref qt, .ref qd, .ref qe, .ref qsp, .ref qrk, .ref qty])), (qt, .inr (7, [.ref ql, .ref qr, .ref qv, .ref qg, .int parts, .int limit])), (ql, .inl (g.2 0, 5, .inl len)), (qr, .inl (g.2 0, 5, .inl row)), (qv, .inl (g.2 0, 5, .inl vot))] U.heap ∧ GK g U)) (vp_Si Q) 0 0 (fun _ => False) := by
  refine Met.ofW (cc := cX8_chip) (maxL := 2) (ret := (some .int)) (by decide) rfl ?_
  intro p e s m args below meth c s₁ B hml hv'
  obtain ⟨rfl, hP, hG⟩ := hv'
  have S : CallFix p m c cX8_chip 2 s _ wsX8_chip RX8 := ⟨B.exec, B.bytes, hml, findClass_of_methodNamed B.named, atoms_spec (ws := wsX8_chip) B.pre⟩
  obtain ⟨hx, hb, hml, hown, hts⟩ := id S
  have hK := hG.1
  have hr := B.returns
  have hlocks := B.notSynchronized
  have hl := lv_entry ([.ref qX, .int p1]) (n := 2) (Nat.le_of_ble_eq_true rfl)
  rw [lg_entry_eq]
  generalize (lg_sl ([.ref qX, .int p1]) ++ List.replicate (2 - (lg_sl ([.ref qX, .int p1])).length) Slot.unset).toArray = ls at hl ⊢
  have hl : lv_has ls 2 [(0, .ref qX), (1, .int p1)] := hl
  unfold vX8_chip at hv
  refine lv_aload_n hx hb dX8_chip_0 rfl (lv_at hl 0 rfl) ?_
  refine va_get (D := g.1) (ci := 8) (v := .ref qt) (C := RX8) (T := TX8) (N := 8) hx hb hts inX8_chip_8 hown hK hP 0 rfl rfl 2 (by decide) (hts (.fieldLink RX8 24 "RangeCodes" "told" "LRangeCodes$Told;") (List.mem_of_getElem? (i := 1) rfl)) (fun _ h9 => h9) rfl dX8_chip_1 ?_
  refine lv_iload_n hx hb dX8_chip_4 rfl (lv_at hl 1 rfl) ?_
  refine lv_aload_n hx hb dX8_chip_5 rfl (lv_at hl 0 rfl) ?_
  refine va_get (D := g.1) (ci := 8) (v := .ref qt) (C := RX8) (T := TX8) (N := 8) hx hb hts inX8_chip_8 hown hK hP 0 rfl rfl 2 (by decide) (hts (.fieldLink RX8 24 "RangeCodes" "told" "LRangeCodes$Told;") (List.mem_of_getElem? (i := 1) rfl)) (fun _ h9 => h9) rfl dX8_chip_6 ?_
  refine lv_iconst (v := (-1 : Int32)) hx hb dX8_chip_9 (by decide) ?_
  refine lv_iconst (v := (0 : Int32)) hx hb dX8_chip_10 (by decide) ?_
  obtain ⟨T_11, T1_11, ho_1, hv⟩ := hv
  refine vp_callSi (W.runV (As := [.int (-1 : Int32), .int (0 : Int32)]) (rest := [.int p1, .ref qt]) S (wX7_election l g qt ql qr qv qg parts limit vot (-1 : Int32) (0 : Int32) (sX7_election T_11 T1_11 parts limit vot (-1 : Int32) (0 : Int32) ho_1)) (cwV 2 hts gX8_chip_X7_election rfl rfl rfl (by decide +kernel) ⟨Nat.le_of_ble_eq_true rfl, Nat.le_of_ble_eq_true rfl⟩) ⟨blindRO, va_recv hK hP (ci := 7) (q0 := 1) rfl rfl, fun U hU hW => ⟨rfl, by rw [hU]; exact hP.sub (ws' := [(qt, .inr (7, [.ref ql, .ref qr, .ref qv, .ref qg, .int parts, .int limit])), (qv, .inl (g.2 0, 5, .inl vot))]) [1, 4] rfl, hG.warm hW⟩⟩ rfl rfl hl.1 rfl (lv_room (Nat.le_of_ble_eq_true rfl)) dX8_chip_11 ⟨Nat.le_of_ble_eq_true rfl, Nat.le_of_ble_eq_true rfl⟩) (fun r_11 hr_11 => ?_)
  have hv := hv r_11 hr_11
  obtain ⟨T_14, E_14, ho_2, hv⟩ := hv
  refine vp_callSi (W.runV (As := [.int p1, .int r_11]) (rest := []) S (wX7_codeChip l g qt ql qr qv qg parts limit len row p1 r_11 (sX7_codeChip T_14 E_14 parts limit len row p1 r_11 ho_2)) (cwV 2 hts gX8_chip_X7_codeChip rfl rfl rfl (by decide +kernel) ⟨Nat.le_of_ble_eq_true rfl, Nat.le_of_ble_eq_true rfl⟩) ⟨blindRO, va_recv hK hP (ci := 7) (q0 := 1) rfl rfl, fun U hU hW => ⟨rfl, by rw [hU]; exact hP.sub (ws' := [(qt, .inr (7, [.ref ql, .ref qr, .ref qv, .ref qg, .int parts, .int limit])), (ql, .inl (g.2 0, 5, .inl len)), (qr, .inl (g.2 0, 5, .inl row))]) [1, 2, 3] rfl, hG.warm hW⟩⟩ rfl rfl hl.1 rfl (lv_room (Nat.le_of_ble_eq_true rfl)) dX8_chip_14 ⟨Nat.le_of_ble_eq_true rfl, Nat.le_of_ble_eq_true rfl⟩) (fun r_14 hr_14 => ?_)
  have hv := hv r_14 hr_14
  exact W.iret (v := r_14) hx hb hr (fun t ht hW => ⟨_, rfl, hv, ht⟩) (fun _ h => by cases h) dX8_chip_17
abbrev preX8_chip (T : Cd) (G0 : Lg) (G1 : Lg) (lim : Nat) (parts : Int32) (limit : Int32) (len : Nat → Int32) (row : Nat → Int32) (vot : Nat → Int32) (p1 : Int32) : Prop := isN T parts ∧ isL T len ∧ isR T row ∧ isV T vot
abbrev postX8_chip (T : Cd) (G0 : Lg) (G1 : Lg) (lim : Nat) (parts : Int32) (limit : Int32) (len : Nat → Int32) (row : Nat → Int32) (vot : Nat → Int32) (p1 : Int32) (r : Int32) : Prop := r.toInt = if coB T p1.toInt then 1 else 0
theorem sX8_chip (T : Cd) (G0 : Lg) (G1 : Lg) (lim : Nat) (parts : Int32) (limit : Int32) (len : Nat → Int32) (row : Nat → Int32) (vot : Nat → Int32) (p1 : Int32) (H : preX8_chip T G0 G1 lim parts limit len row vot p1) : vX8_chip parts limit len row vot p1 (postX8_chip T G0 G1 lim parts limit len row vot p1) := by
  obtain ⟨hN, hL, hR, hV⟩ := H
  refine ⟨T, T, el_T hN hV, fun r hr => ⟨T, elB T, ⟨hN, hL, hR, hr⟩, fun r2 hr2 => ?_⟩⟩
  have hr2 : r2 = if elB T (chS T p1.toInt (cn T)) then 1 else 0 := hr2
  show r2.toInt = if elB T (chS T p1.toInt (cn T)) then 1 else 0
  rw [hr2]
  split <;> rfl
set_option maxRecDepth 20000 in
theorem ggX8_code_X7_allParts : GoodIn wsX8_code wsX7_allParts := goodIn_r _ [10, 11, 36, 37, 38, 39, 40, 41] (by decide +kernel) (by decide +kernel)
set_option maxRecDepth 20000 in
theorem gX8_code_X7_allParts : GoodIn wsX8_code (wsV RX8 149 RX7 yX7_allParts wsX7_allParts) := goodIn_app (goodIn_of _ (by decide +kernel)) ggX8_code_X7_allParts
set_option maxRecDepth 20000 in
theorem ggX8_code_X7_periodOf : GoodIn wsX8_code wsX7_periodOf := goodIn_r _ [15, 11, 16, 17, 18, 19, 20, 21, 22, 36, 37, 38, 39, 40, 41] (by decide +kernel) (by decide +kernel)
set_option maxRecDepth 20000 in
theorem gX8_code_X7_periodOf : GoodIn wsX8_code (wsV RX8 159 RX7 yX7_periodOf wsX7_periodOf) := goodIn_app (goodIn_of _ (by decide +kernel)) ggX8_code_X7_periodOf
set_option maxRecDepth 20000 in
theorem ggX8_code_X7_votesOf : GoodIn wsX8_code wsX7_votesOf := goodIn_r _ [26, 11, 27, 36, 37, 38, 39, 40, 41] (by decide +kernel) (by decide +kernel)
set_option maxRecDepth 20000 in
theorem gX8_code_X7_votesOf : GoodIn wsX8_code (wsV RX8 176 RX7 yX7_votesOf wsX7_votesOf) := goodIn_app (goodIn_of _ (by decide +kernel)) ggX8_code_X7_votesOf
theorem dX8_code_0 : decode cX8_code 0 = .ok (.iload_n 1, 1) := by decide +kernel
theorem dX8_code_1 : decode cX8_code 1 = .ok (.tableswitch 89 0 4 #[35, 43, 58, 66, 81], 35) := by decide +kernel
theorem dX8_code_36 : decode cX8_code 36 = .ok (.aload_n 0, 1) := by decide +kernel
theorem dX8_code_37 : decode cX8_code 37 = .ok (.getfield 24, 3) := by decide +kernel
theorem dX8_code_40 : decode cX8_code 40 = .ok (.getfield 96, 3) := by decide +kernel
theorem dX8_code_43 : decode cX8_code 43 = .ok (.ireturn, 1) := by decide +kernel
theorem dX8_code_44 : decode cX8_code 44 = .ok (.aload_n 0, 1) := by decide +kernel
theorem dX8_code_45 : decode cX8_code 45 = .ok (.getfield 24, 3) := by decide +kernel
theorem dX8_code_48 : decode cX8_code 48 = .ok (.aload_n 0, 1) := by decide +kernel
theorem dX8_code_49 : decode cX8_code 49 = .ok (.getfield 24, 3) := by decide +kernel
theorem dX8_code_52 : decode cX8_code 52 = .ok (.invokevirtual 149, 3) := by decide +kernel
theorem dX8_code_55 : decode cX8_code 55 = .ok (.invokevirtual 159, 3) := by decide +kernel
theorem dX8_code_58 : decode cX8_code 58 = .ok (.ireturn, 1) := by decide +kernel
theorem dX8_code_59 : decode cX8_code 59 = .ok (.aload_n 0, 1) := by decide +kernel
theorem dX8_code_60 : decode cX8_code 60 = .ok (.getfield 24, 3) := by decide +kernel
theorem dX8_code_63 : decode cX8_code 63 = .ok (.getfield 125, 3) := by decide +kernel
theorem dX8_code_66 : decode cX8_code 66 = .ok (.ireturn, 1) := by decide +kernel
theorem dX8_code_67 : decode cX8_code 67 = .ok (.aload_n 0, 1) := by decide +kernel
theorem dX8_code_68 : decode cX8_code 68 = .ok (.getfield 24, 3) := by decide +kernel
theorem dX8_code_71 : decode cX8_code 71 = .ok (.aload_n 0, 1) := by decide +kernel
theorem dX8_code_72 : decode cX8_code 72 = .ok (.getfield 24, 3) := by decide +kernel
theorem dX8_code_75 : decode cX8_code 75 = .ok (.invokevirtual 149, 3) := by decide +kernel
theorem dX8_code_78 : decode cX8_code 78 = .ok (.invokevirtual 176, 3) := by decide +kernel
theorem dX8_code_81 : decode cX8_code 81 = .ok (.ireturn, 1) := by decide +kernel
theorem dX8_code_82 : decode cX8_code 82 = .ok (.aload_n 0, 1) := by decide +kernel
theorem dX8_code_83 : decode cX8_code 83 = .ok (.getfield 10, 3) := by decide +kernel
theorem dX8_code_86 : decode cX8_code 86 = .ok (.getfield 74, 3) := by decide +kernel
theorem dX8_code_89 : decode cX8_code 89 = .ok (.ireturn, 1) := by decide +kernel
theorem dX8_code_90 : decode cX8_code 90 = .ok (.iconst (-1), 1) := by decide +kernel
theorem dX8_code_91 : decode cX8_code 91 = .ok (.ireturn, 1) := by decide +kernel
abbrev rmX8_code : Room := { frames := 3, cells := 0, slots := 0, locals := 75 }
theorem inX8_code_2 : ∀ w ∈ wsX20, w ∈ wsX8_code := by decide +kernel
theorem inX8_code_7 : ∀ w ∈ wsX70, w ∈ wsX8_code := by decide +kernel
theorem inX8_code_8 : ∀ w ∈ wsX80, w ∈ wsX8_code := by decide +kernel
def vX8_code (byt : Int32) (flt : Int32) (plc : Int32) (parts : Int32) (limit : Int32) (len : Nat → Int32) (vot : Nat → Int32) (p1 : Int32) (Q : Int32 → Prop) : Prop := ((p1 = (0 : Int32) → (Q parts)) ∧ ((p1 = (1 : Int32) → (∃ (T_52 : Cd), preX7_allParts T_52 parts limit ∧ (∀ r_52 : Int32, postX7_allParts T_52 parts limit r_52 → (∃ (T_55 : Cd) (s_55 : Nat), preX7_periodOf T_55 s_55 parts limit len r_52 ∧ (∀ r_55 : Int32, postX7_periodOf T_55 s_55 parts limit len r_52 r_55 → (Q r_55)))))) ∧ ((p1 = (2 : Int32) → (Q limit)) ∧ ((p1 = (3 : Int32) → (∃ (T_75 : Cd), preX7_allParts T_75 parts limit ∧ (∀ r_75 : Int32, postX7_allParts T_75 parts limit r_75 → (∃ (T_78 : Cd) (s_78 : Nat), preX7_votesOf T_78 s_78 parts limit vot r_75 ∧ (∀ r_78 : Int32, postX7_votesOf T_78 s_78 parts limit vot r_75 r_78 → (Q r_78)))))) ∧ ((p1 = (4 : Int32) → (Q byt)) ∧ (¬ p1 = (0 : Int32) → ¬ p1 = (1 : Int32) → ¬ p1 = (2 : Int32) → ¬ p1 = (3 : Int32) → ¬ p1 = (4 : Int32) → (Q (-1 : Int32))))))))
set_option maxHeartbeats 4000000 in
set_option maxRecDepth 100000 in
theorem wX8_code (l : Launch) (g : GP) (qX : Nat) (qP : Nat) (qI : Nat) (qt : Nat) (qd : Nat) (qe : Nat) (qsp : Nat) (qrk : Nat) (qty : Nat) (ql : Nat) (qr : Nat) (qv : Nat) (qg : Nat) (qtx : Nat) (byt : Int32) (flt : Int32) (plc : Int32) (parts : Int32) (limit : Int32) (len : Nat → Int32) (vot : Nat → Int32) (p1 : Int32) {Q : Int32 → Prop} (hv : vX8_code byt flt plc parts limit len vot p1 Q) : Met l yX8_code wsX8_code rmX8_code (va_Pc [.ref qX, .int p1] (fun U => va_P g.1 vwCl [(qX, .inr (8, [.ref qP, .ref qI, .ref qt, .ref qd, .ref qe, .ref qsp, .ref qrk, .ref qty])), (qP, .inr (2, [.ref qt, .ref qtx, .int byt, .int flt, .int plc])), (qt, .inr (7, [.ref ql, .ref qr, .ref qv, .ref qg, .int parts, .int limit])), (ql, .inl (g.2 0, 5, .inl len)), (qv, .inl (g.2 0, 5, .inl vot))] U.heap ∧ GK g U)) (vp_Si Q) 0 0 (fun _ => False) := by
  refine Met.ofW (cc := cX8_code) (maxL := 2) (ret := (some .int)) (by decide) rfl ?_
  intro p e s m args below meth c s₁ B hml hv'
  obtain ⟨rfl, hP, hG⟩ := hv'
  have S : CallFix p m c cX8_code 2 s _ wsX8_code RX8 := ⟨B.exec, B.bytes, hml, findClass_of_methodNamed B.named, atoms_spec (ws := wsX8_code) B.pre⟩
  obtain ⟨hx, hb, hml, hown, hts⟩ := id S
  have hK := hG.1
  have hr := B.returns
  have hlocks := B.notSynchronized
  have hl := lv_entry ([.ref qX, .int p1]) (n := 2) (Nat.le_of_ble_eq_true rfl)
  rw [lg_entry_eq]
  generalize (lg_sl ([.ref qX, .int p1]) ++ List.replicate (2 - (lg_sl ([.ref qX, .int p1])).length) Slot.unset).toArray = ls at hl ⊢
  have hl : lv_has ls 2 [(0, .ref qX), (1, .int p1)] := hl
  unfold vX8_code at hv
  refine lv_iload_n hx hb dX8_code_0 rfl (lv_at hl 1 rfl) ?_
  obtain ⟨hvc, hv⟩ := hv
  by_cases hs0 : p1 = (0 : Int32)
  · have hv := hvc hs0
    refine lv_tableIn (tgt := 36) hx hb dX8_code_1 (by rw [hs0]; decide) (by rw [hs0]; decide) (by rw [hs0]; rfl) (by decide) ?_
    refine lv_aload_n hx hb dX8_code_36 rfl (lv_at hl 0 rfl) ?_
    refine va_get (D := g.1) (ci := 8) (v := .ref qt) (C := RX8) (T := TX8) (N := 8) hx hb hts inX8_code_8 hown hK hP 0 rfl rfl 2 (by decide) (hts (.fieldLink RX8 24 "RangeCodes" "told" "LRangeCodes$Told;") (List.mem_of_getElem? (i := 1) rfl)) (fun _ h9 => h9) rfl dX8_code_37 ?_
    refine va_get (D := g.1) (ci := 7) (v := .int parts) (C := RX7) (T := TX7) (N := 6) hx hb hts inX8_code_7 hown hK hP 2 rfl rfl 4 (by decide) (hts (.fieldLink RX8 96 "RangeCodes$Told" "parts" "I") (List.mem_of_getElem? (i := 2) rfl)) (fun _ h9 => h9) rfl dX8_code_40 ?_
    exact W.iret (v := parts) hx hb hr (fun t ht hW => ⟨_, rfl, hv, ht⟩) (fun _ h => by cases h) dX8_code_43
  obtain ⟨hvc, hv⟩ := hv
  by_cases hs1 : p1 = (1 : Int32)
  · have hv := hvc hs1
    refine lv_tableIn (tgt := 44) hx hb dX8_code_1 (by rw [hs1]; decide) (by rw [hs1]; decide) (by rw [hs1]; rfl) (by decide) ?_
    refine lv_aload_n hx hb dX8_code_44 rfl (lv_at hl 0 rfl) ?_
    refine va_get (D := g.1) (ci := 8) (v := .ref qt) (C := RX8) (T := TX8) (N := 8) hx hb hts inX8_code_8 hown hK hP 0 rfl rfl 2 (by decide) (hts (.fieldLink RX8 24 "RangeCodes" "told" "LRangeCodes$Told;") (List.mem_of_getElem? (i := 1) rfl)) (fun _ h9 => h9) rfl dX8_code_45 ?_
    refine lv_aload_n hx hb dX8_code_48 rfl (lv_at hl 0 rfl) ?_
    refine va_get (D := g.1) (ci := 8) (v := .ref qt) (C := RX8) (T := TX8) (N := 8) hx hb hts inX8_code_8 hown hK hP 0 rfl rfl 2 (by decide) (hts (.fieldLink RX8 24 "RangeCodes" "told" "LRangeCodes$Told;") (List.mem_of_getElem? (i := 1) rfl)) (fun _ h9 => h9) rfl dX8_code_49 ?_
    obtain ⟨T_52, ho_1, hv⟩ := hv
    refine vp_callSi (W.runV (As := []) (rest := [.ref qt]) S (wX7_allParts l g qt ql qr qv qg parts limit (sX7_allParts T_52 parts limit ho_1)) (cwV 0 hts gX8_code_X7_allParts rfl rfl rfl (by decide +kernel) ⟨Nat.le_of_ble_eq_true rfl, Nat.le_of_ble_eq_true rfl⟩) ⟨blindRO, va_recv hK hP (ci := 7) (q0 := 2) rfl rfl, fun U hU hW => ⟨rfl, by rw [hU]; exact hP.sub (ws' := [(qt, .inr (7, [.ref ql, .ref qr, .ref qv, .ref qg, .int parts, .int limit]))]) [2] rfl, hG.warm hW⟩⟩ rfl rfl hl.1 rfl (lv_room (Nat.le_of_ble_eq_true rfl)) dX8_code_52 ⟨Nat.le_of_ble_eq_true rfl, Nat.le_of_ble_eq_true rfl⟩) (fun r_52 hr_52 => ?_)
    have hv := hv r_52 hr_52
    obtain ⟨T_55, s_55, ho_2, hv⟩ := hv
    refine vp_callSi (W.runV (As := [.int r_52]) (rest := []) S (wX7_periodOf l g qt ql qr qv qg parts limit len r_52 (sX7_periodOf T_55 s_55 parts limit len r_52 ho_2)) (cwV 1 hts gX8_code_X7_periodOf rfl rfl rfl (by decide +kernel) ⟨Nat.le_of_ble_eq_true rfl, Nat.le_of_ble_eq_true rfl⟩) ⟨blindRO, va_recv hK hP (ci := 7) (q0 := 2) rfl rfl, fun U hU hW => ⟨rfl, by rw [hU]; exact hP.sub (ws' := [(qt, .inr (7, [.ref ql, .ref qr, .ref qv, .ref qg, .int parts, .int limit])), (ql, .inl (g.2 0, 5, .inl len))]) [2, 3] rfl, hG.warm hW⟩⟩ rfl rfl hl.1 rfl (lv_room (Nat.le_of_ble_eq_true rfl)) dX8_code_55 ⟨Nat.le_of_ble_eq_true rfl, Nat.le_of_ble_eq_true rfl⟩) (fun r_55 hr_55 => ?_)
    have hv := hv r_55 hr_55
    exact W.iret (v := r_55) hx hb hr (fun t ht hW => ⟨_, rfl, hv, ht⟩) (fun _ h => by cases h) dX8_code_58
  obtain ⟨hvc, hv⟩ := hv
  by_cases hs2 : p1 = (2 : Int32)
  · have hv := hvc hs2
    refine lv_tableIn (tgt := 59) hx hb dX8_code_1 (by rw [hs2]; decide) (by rw [hs2]; decide) (by rw [hs2]; rfl) (by decide) ?_
    refine lv_aload_n hx hb dX8_code_59 rfl (lv_at hl 0 rfl) ?_
    refine va_get (D := g.1) (ci := 8) (v := .ref qt) (C := RX8) (T := TX8) (N := 8) hx hb hts inX8_code_8 hown hK hP 0 rfl rfl 2 (by decide) (hts (.fieldLink RX8 24 "RangeCodes" "told" "LRangeCodes$Told;") (List.mem_of_getElem? (i := 1) rfl)) (fun _ h9 => h9) rfl dX8_code_60 ?_
    refine va_get (D := g.1) (ci := 7) (v := .int limit) (C := RX7) (T := TX7) (N := 6) hx hb hts inX8_code_7 hown hK hP 2 rfl rfl 5 (by decide) (hts (.fieldLink RX8 125 "RangeCodes$Told" "limit" "I") (List.mem_of_getElem? (i := 3) rfl)) (fun _ h9 => h9) rfl dX8_code_63 ?_
    exact W.iret (v := limit) hx hb hr (fun t ht hW => ⟨_, rfl, hv, ht⟩) (fun _ h => by cases h) dX8_code_66
  obtain ⟨hvc, hv⟩ := hv
  by_cases hs3 : p1 = (3 : Int32)
  · have hv := hvc hs3
    refine lv_tableIn (tgt := 67) hx hb dX8_code_1 (by rw [hs3]; decide) (by rw [hs3]; decide) (by rw [hs3]; rfl) (by decide) ?_
    refine lv_aload_n hx hb dX8_code_67 rfl (lv_at hl 0 rfl) ?_
    refine va_get (D := g.1) (ci := 8) (v := .ref qt) (C := RX8) (T := TX8) (N := 8) hx hb hts inX8_code_8 hown hK hP 0 rfl rfl 2 (by decide) (hts (.fieldLink RX8 24 "RangeCodes" "told" "LRangeCodes$Told;") (List.mem_of_getElem? (i := 1) rfl)) (fun _ h9 => h9) rfl dX8_code_68 ?_
    refine lv_aload_n hx hb dX8_code_71 rfl (lv_at hl 0 rfl) ?_
    refine va_get (D := g.1) (ci := 8) (v := .ref qt) (C := RX8) (T := TX8) (N := 8) hx hb hts inX8_code_8 hown hK hP 0 rfl rfl 2 (by decide) (hts (.fieldLink RX8 24 "RangeCodes" "told" "LRangeCodes$Told;") (List.mem_of_getElem? (i := 1) rfl)) (fun _ h9 => h9) rfl dX8_code_72 ?_
    obtain ⟨T_75, ho_3, hv⟩ := hv
    refine vp_callSi (W.runV (As := []) (rest := [.ref qt]) S (wX7_allParts l g qt ql qr qv qg parts limit (sX7_allParts T_75 parts limit ho_3)) (cwV 0 hts gX8_code_X7_allParts rfl rfl rfl (by decide +kernel) ⟨Nat.le_of_ble_eq_true rfl, Nat.le_of_ble_eq_true rfl⟩) ⟨blindRO, va_recv hK hP (ci := 7) (q0 := 2) rfl rfl, fun U hU hW => ⟨rfl, by rw [hU]; exact hP.sub (ws' := [(qt, .inr (7, [.ref ql, .ref qr, .ref qv, .ref qg, .int parts, .int limit]))]) [2] rfl, hG.warm hW⟩⟩ rfl rfl hl.1 rfl (lv_room (Nat.le_of_ble_eq_true rfl)) dX8_code_75 ⟨Nat.le_of_ble_eq_true rfl, Nat.le_of_ble_eq_true rfl⟩) (fun r_75 hr_75 => ?_)
    have hv := hv r_75 hr_75
    obtain ⟨T_78, s_78, ho_4, hv⟩ := hv
    refine vp_callSi (W.runV (As := [.int r_75]) (rest := []) S (wX7_votesOf l g qt ql qr qv qg parts limit vot r_75 (sX7_votesOf T_78 s_78 parts limit vot r_75 ho_4)) (cwV 1 hts gX8_code_X7_votesOf rfl rfl rfl (by decide +kernel) ⟨Nat.le_of_ble_eq_true rfl, Nat.le_of_ble_eq_true rfl⟩) ⟨blindRO, va_recv hK hP (ci := 7) (q0 := 2) rfl rfl, fun U hU hW => ⟨rfl, by rw [hU]; exact hP.sub (ws' := [(qt, .inr (7, [.ref ql, .ref qr, .ref qv, .ref qg, .int parts, .int limit])), (qv, .inl (g.2 0, 5, .inl vot))]) [2, 4] rfl, hG.warm hW⟩⟩ rfl rfl hl.1 rfl (lv_room (Nat.le_of_ble_eq_true rfl)) dX8_code_78 ⟨Nat.le_of_ble_eq_true rfl, Nat.le_of_ble_eq_true rfl⟩) (fun r_78 hr_78 => ?_)
    have hv := hv r_78 hr_78
    exact W.iret (v := r_78) hx hb hr (fun t ht hW => ⟨_, rfl, hv, ht⟩) (fun _ h => by cases h) dX8_code_81
  obtain ⟨hvc, hv⟩ := hv
  by_cases hs4 : p1 = (4 : Int32)
  · have hv := hvc hs4
    refine lv_tableIn (tgt := 82) hx hb dX8_code_1 (by rw [hs4]; decide) (by rw [hs4]; decide) (by rw [hs4]; rfl) (by decide) ?_
    refine lv_aload_n hx hb dX8_code_82 rfl (lv_at hl 0 rfl) ?_
    refine va_get (D := g.1) (ci := 8) (v := .ref qP) (C := RX8) (T := TX8) (N := 8) hx hb hts inX8_code_8 hown hK hP 0 rfl rfl 0 (by decide) (hts (.fieldLink RX8 10 "RangeCodes" "now" "LRangeCodes$Page;") (List.mem_of_getElem? (i := 4) rfl)) (fun _ h9 => h9) rfl dX8_code_83 ?_
    refine va_get (D := g.1) (ci := 2) (v := .int byt) (C := RX2) (T := TX2) (N := 5) hx hb hts inX8_code_2 hown hK hP 1 rfl rfl 2 (by decide) (hts (.fieldLink RX8 74 "RangeCodes$Page" "bytes" "I") (List.mem_of_getElem? (i := 5) rfl)) (fun _ h9 => h9) rfl dX8_code_86 ?_
    exact W.iret (v := byt) hx hb hr (fun t ht hW => ⟨_, rfl, hv, ht⟩) (fun _ h => by cases h) dX8_code_89
  have hv := hv hs0 hs1 hs2 hs3 hs4
  have hsT : p1.toInt < 0 ∨ 4 < p1.toInt := by
    have ht0 := lv_neT (a := 0) hs0 (by decide)
    have ht1 := lv_neT (a := 1) hs1 (by decide)
    have ht2 := lv_neT (a := 2) hs2 (by decide)
    have ht3 := lv_neT (a := 3) hs3 (by decide)
    have ht4 := lv_neT (a := 4) hs4 (by decide)
    omega
  refine lv_tableOut (tgt := 90) hx hb dX8_code_1 hsT (by decide) ?_
  refine lv_iconst (v := (-1 : Int32)) hx hb dX8_code_90 (by decide) ?_
  exact W.iret (v := (-1 : Int32)) hx hb hr (fun t ht hW => ⟨_, rfl, hv, ht⟩) (fun _ h => by cases h) dX8_code_91
abbrev preX8_code (T : Cd) (G0 : Lg) (G1 : Lg) (lim : Nat) (byt : Int32) (flt : Int32) (plc : Int32) (parts : Int32) (limit : Int32) (len : Nat → Int32) (vot : Nat → Int32) (p1 : Int32) : Prop := isN T parts ∧ isL T len ∧ isV T vot ∧ limit.toInt = (lim : Int) ∧ 0 ≤ byt.toInt
abbrev postX8_code (T : Cd) (G0 : Lg) (G1 : Lg) (lim : Nat) (byt : Int32) (flt : Int32) (plc : Int32) (parts : Int32) (limit : Int32) (len : Nat → Int32) (vot : Nat → Int32) (p1 : Int32) (r : Int32) : Prop := r.toInt = spCode T lim byt.toInt.toNat p1.toInt
theorem sX8_code (T : Cd) (G0 : Lg) (G1 : Lg) (lim : Nat) (byt : Int32) (flt : Int32) (plc : Int32) (parts : Int32) (limit : Int32) (len : Nat → Int32) (vot : Nat → Int32) (p1 : Int32) (H : preX8_code T G0 G1 lim byt flt plc parts limit len vot p1) : vX8_code byt flt plc parts limit len vot p1 (postX8_code T G0 G1 lim byt flt plc parts limit len vot p1) := by
  obtain ⟨hN, hL, hV, hlim, hb⟩ := H
  unfold vX8_code postX8_code spCode
  simp only [fa_eq p1, z0, z1, z2, z3, z4]
  refine ⟨fun q => ?_, fun q => ⟨T, hN, fun r hr => ⟨T, 2 ^ cn T - 1, ⟨hN, hL, hr⟩, fun r2 hr2 => ?_⟩⟩, fun q => ?_, fun q => ⟨T, hN, fun r hr => ⟨T, 2 ^ cn T - 1, ⟨hN, hV, hr⟩, fun r2 hr2 => ?_⟩⟩, fun q => ?_, fun a b c d e => ?_⟩
  · rw [if_pos q]; exact hN.1
  · rw [if_neg (by omega), if_pos q]; exact hr2
  · rw [if_neg (by omega), if_neg (by omega), if_pos q]; exact hlim
  · rw [if_neg (by omega), if_neg (by omega), if_neg (by omega), if_pos q]; exact hr2
  · rw [if_neg (by omega), if_neg (by omega), if_neg (by omega), if_neg (by omega), if_pos q]; omega
  · rw [if_neg a, if_neg b, if_neg c, if_neg d, if_neg e]; rfl
set_option maxRecDepth 20000 in
theorem ggX8_enough_X7_allParts : GoodIn wsX8_enough wsX7_allParts := goodIn_r _ [8, 9, 36, 37, 38, 39, 40, 41] (by decide +kernel) (by decide +kernel)
set_option maxRecDepth 20000 in
theorem gX8_enough_X7_allParts : GoodIn wsX8_enough (wsV RX8 149 RX7 yX7_allParts wsX7_allParts) := goodIn_app (goodIn_of _ (by decide +kernel)) ggX8_enough_X7_allParts
set_option maxRecDepth 20000 in
theorem ggX8_enough_J6_bitCount_0f7a4 : GoodIn wsX8_enough wsJ6_bitCount_0f7a4 := goodIn_r _ [13, 14, 15, 16] (by decide +kernel) (by decide +kernel)
set_option maxRecDepth 20000 in
theorem gX8_enough_J6_bitCount_0f7a4 : GoodIn wsX8_enough (va_wsS RX8 153 yJ6_bitCount_0f7a4 wsJ6_bitCount_0f7a4) := goodIn_app (goodIn_of _ (by decide +kernel)) ggX8_enough_J6_bitCount_0f7a4
set_option maxRecDepth 20000 in
theorem ggX8_enough_X7_periodOf : GoodIn wsX8_enough wsX7_periodOf := goodIn_r _ [20, 9, 21, 22, 23, 24, 25, 26, 27, 36, 37, 38, 39, 40, 41] (by decide +kernel) (by decide +kernel)
set_option maxRecDepth 20000 in
theorem gX8_enough_X7_periodOf : GoodIn wsX8_enough (wsV RX8 159 RX7 yX7_periodOf wsX7_periodOf) := goodIn_app (goodIn_of _ (by decide +kernel)) ggX8_enough_X7_periodOf
theorem dX8_enough_0 : decode cX8_enough 0 = .ok (.iload_n 1, 1) := by decide +kernel
theorem dX8_enough_1 : decode cX8_enough 1 = .ok (.ifCond .eq 10, 3) := by decide +kernel
theorem dX8_enough_4 : decode cX8_enough 4 = .ok (.iload_n 1, 1) := by decide +kernel
theorem dX8_enough_5 : decode cX8_enough 5 = .ok (.iconst 1, 1) := by decide +kernel
theorem dX8_enough_6 : decode cX8_enough 6 = .ok (.if_icmp .eq 5, 3) := by decide +kernel
theorem dX8_enough_9 : decode cX8_enough 9 = .ok (.iconst (-1), 1) := by decide +kernel
theorem dX8_enough_10 : decode cX8_enough 10 = .ok (.ireturn, 1) := by decide +kernel
theorem dX8_enough_11 : decode cX8_enough 11 = .ok (.aload_n 0, 1) := by decide +kernel
theorem dX8_enough_12 : decode cX8_enough 12 = .ok (.getfield 24, 3) := by decide +kernel
theorem dX8_enough_15 : decode cX8_enough 15 = .ok (.invokevirtual 149, 3) := by decide +kernel
theorem dX8_enough_18 : decode cX8_enough 18 = .ok (.istore_n 2, 1) := by decide +kernel
theorem dX8_enough_19 : decode cX8_enough 19 = .ok (.iconst 0, 1) := by decide +kernel
theorem dX8_enough_20 : decode cX8_enough 20 = .ok (.istore_n 3, 1) := by decide +kernel
theorem dX8_enough_21 : decode cX8_enough 21 = .ok (.iload_n 3, 1) := by decide +kernel
theorem dX8_enough_22 : decode cX8_enough 22 = .ok (.aload_n 0, 1) := by decide +kernel
theorem dX8_enough_23 : decode cX8_enough 23 = .ok (.getfield 24, 3) := by decide +kernel
theorem dX8_enough_26 : decode cX8_enough 26 = .ok (.getfield 96, 3) := by decide +kernel
theorem dX8_enough_29 : decode cX8_enough 29 = .ok (.if_icmp .gt 71, 3) := by decide +kernel
theorem dX8_enough_32 : decode cX8_enough 32 = .ok (.iconst 0, 1) := by decide +kernel
theorem dX8_enough_33 : decode cX8_enough 33 = .ok (.istore 4, 2) := by decide +kernel
theorem dX8_enough_35 : decode cX8_enough 35 = .ok (.iload 4, 2) := by decide +kernel
theorem dX8_enough_37 : decode cX8_enough 37 = .ok (.iload_n 2, 1) := by decide +kernel
theorem dX8_enough_38 : decode cX8_enough 38 = .ok (.if_icmp .gt 56, 3) := by decide +kernel
theorem dX8_enough_41 : decode cX8_enough 41 = .ok (.iload 4, 2) := by decide +kernel
theorem dX8_enough_43 : decode cX8_enough 43 = .ok (.invokestatic 153, 3) := by decide +kernel
theorem dX8_enough_46 : decode cX8_enough 46 = .ok (.iload_n 3, 1) := by decide +kernel
theorem dX8_enough_47 : decode cX8_enough 47 = .ok (.if_icmp .ne 41, 3) := by decide +kernel
theorem dX8_enough_50 : decode cX8_enough 50 = .ok (.aload_n 0, 1) := by decide +kernel
theorem dX8_enough_51 : decode cX8_enough 51 = .ok (.getfield 24, 3) := by decide +kernel
theorem dX8_enough_54 : decode cX8_enough 54 = .ok (.iload 4, 2) := by decide +kernel
theorem dX8_enough_56 : decode cX8_enough 56 = .ok (.invokevirtual 159, 3) := by decide +kernel
theorem dX8_enough_59 : decode cX8_enough 59 = .ok (.aload_n 0, 1) := by decide +kernel
theorem dX8_enough_60 : decode cX8_enough 60 = .ok (.getfield 24, 3) := by decide +kernel
theorem dX8_enough_63 : decode cX8_enough 63 = .ok (.getfield 125, 3) := by decide +kernel
theorem dX8_enough_66 : decode cX8_enough 66 = .ok (.if_icmp .lt 22, 3) := by decide +kernel
theorem dX8_enough_69 : decode cX8_enough 69 = .ok (.iload_n 1, 1) := by decide +kernel
theorem dX8_enough_70 : decode cX8_enough 70 = .ok (.ifCond .ne 8, 3) := by decide +kernel
theorem dX8_enough_73 : decode cX8_enough 73 = .ok (.iload 4, 2) := by decide +kernel
theorem dX8_enough_75 : decode cX8_enough 75 = .ok (.goto 12, 3) := by decide +kernel
theorem dX8_enough_78 : decode cX8_enough 78 = .ok (.aload_n 0, 1) := by decide +kernel
theorem dX8_enough_79 : decode cX8_enough 79 = .ok (.getfield 24, 3) := by decide +kernel
theorem dX8_enough_82 : decode cX8_enough 82 = .ok (.getfield 96, 3) := by decide +kernel
theorem dX8_enough_85 : decode cX8_enough 85 = .ok (.iload_n 3, 1) := by decide +kernel
theorem dX8_enough_86 : decode cX8_enough 86 = .ok (.isub, 1) := by decide +kernel
theorem dX8_enough_87 : decode cX8_enough 87 = .ok (.ireturn, 1) := by decide +kernel
theorem dX8_enough_88 : decode cX8_enough 88 = .ok (.iinc 4 1, 3) := by decide +kernel
theorem dX8_enough_91 : decode cX8_enough 91 = .ok (.goto (-56), 3) := by decide +kernel
theorem dX8_enough_94 : decode cX8_enough 94 = .ok (.iinc 3 1, 3) := by decide +kernel
theorem dX8_enough_97 : decode cX8_enough 97 = .ok (.goto (-76), 3) := by decide +kernel
theorem dX8_enough_100 : decode cX8_enough 100 = .ok (.iconst (-1), 1) := by decide +kernel
theorem dX8_enough_101 : decode cX8_enough 101 = .ok (.ireturn, 1) := by decide +kernel
abbrev rmX8_enough : Room := { frames := 3, cells := 0, slots := 0, locals := 75 }
theorem inX8_enough_7 : ∀ w ∈ wsX70, w ∈ wsX8_enough := by decide +kernel
theorem inX8_enough_8 : ∀ w ∈ wsX80, w ∈ wsX8_enough := by decide +kernel
def vX8_enough_c35 (parts : Int32) (limit : Int32) (len : Nat → Int32) (p1 : Int32) (Q : Int32 → Prop) (K21 : Int32 → Int32 → Prop) : Nat → Int32 → Int32 → Int32 → Prop
  | 0, _, _, _ => False
  | n + 1, x2, x3, x4 => ((x2 < x4 → (K21 x2 (x3 + (1 : Int32)))) ∧ (¬ x2 < x4 → (∃ (s_43 : Nat), preJ6_bitCount_0f7a4 s_43 x4 ∧ (∀ r_43 : Int32, postJ6_bitCount_0f7a4 s_43 x4 r_43 → ((¬ r_43 = x3 → (vX8_enough_c35 parts limit len p1 Q K21 n x2 x3 (x4 + (1 : Int32)))) ∧ (r_43 = x3 → (∃ (T_56 : Cd) (s_56 : Nat), preX7_periodOf T_56 s_56 parts limit len x4 ∧ (∀ r_56 : Int32, postX7_periodOf T_56 s_56 parts limit len x4 r_56 → ((r_56 < limit → (vX8_enough_c35 parts limit len p1 Q K21 n x2 x3 (x4 + (1 : Int32)))) ∧ (¬ r_56 < limit → ((¬ p1 = 0 → (Q (parts - x3))) ∧ (p1 = 0 → (Q x4)))))))))))))
set_option maxHeartbeats 4000000 in
set_option maxRecDepth 100000 in
theorem kX8_enough_c35 {p : Program} {l : Launch} {e : Env} {s : State} {m : MethodId} {args : Array Value} {below : List Frame} {meth : Method} {c : Code} {g : GP} {qX : Nat} {qP : Nat} {qI : Nat} {qt : Nat} {qd : Nat} {qe : Nat} {qsp : Nat} {qrk : Nat} {qty : Nat} {ql : Nat} {qr : Nat} {qv : Nat} {qg : Nat} {parts : Int32} {limit : Int32} {len : Nat → Int32} {p1 : Int32} {Q : Int32 → Prop} {K21 : Int32 → Int32 → Prop} (S : CallFix p m c cX8_enough 5 s args wsX8_enough RX8) (hr : meth.sig.returnType = (some .int)) (hlocks : meth.locks = false) (hG : GK g s) (hP : va_P g.1 vwCl [(qX, .inr (8, [.ref qP, .ref qI, .ref qt, .ref qd, .ref qe, .ref qsp, .ref qrk, .ref qty])), (qt, .inr (7, [.ref ql, .ref qr, .ref qv, .ref qg, .int parts, .int limit])), (ql, .inl (g.2 0, 5, .inl len))] s.heap) (kk21 : ∀ (x2 : Int32) (x3 : Int32), K21 x2 x3 → ∀ (ls : Array Slot), lv_has ls 5 [(0, .ref qX), (1, .int p1), (2, .int x2), (3, .int x3)] → W p l e (headSpec wsX8_enough rmX8_enough).room s m args below meth c s.heap [] 0 0 (MQ below (vp_Si Q) args s 0 0 (fun _ => False)) (F0 m 21 ls [])) : ∀ (n : Nat), ∀ (x2 : Int32) (x3 : Int32) (x4 : Int32), vX8_enough_c35 parts limit len p1 Q K21 n x2 x3 x4 → ∀ (ls : Array Slot), lv_has ls 5 [(0, .ref qX), (1, .int p1), (2, .int x2), (3, .int x3), (4, .int x4)] → W p l e (headSpec wsX8_enough rmX8_enough).room s m args below meth c s.heap [] 0 0 (MQ below (vp_Si Q) args s 0 0 (fun _ => False)) (F0 m 35 ls []) := by
  obtain ⟨hx, hb, hml, hown, hts⟩ := id S
  have hK := hG.1
  intro n
  induction n with
  | zero => intro x2 x3 x4 hv; exact hv.elim
  | succ n ih =>
    intro x2 x3 x4 hv ls hl
    refine lv_iload hx hb dX8_enough_35 (lv_at hl 4 rfl) ?_
    refine lv_iload_n hx hb dX8_enough_37 rfl (lv_at hl 2 rfl) ?_
    obtain ⟨hvt, hvf⟩ := hv
    refine lv_icmp_gt (tgt := 94) hx hb dX8_enough_38 (by decide) (fun hc => ?_) (fun hc => ?_)
    · have hv := hvt hc
      refine lv_iinc (v := (x3 + (1 : Int32))) (lv' := [(3, .int (x3 + (1 : Int32))), (0, .ref qX), (1, .int p1), (2, .int x2), (4, .int x4)]) hx hb dX8_enough_94 hl (k := 3) rfl rfl (by decide) rfl (fun ls hl => ?_)
      refine lv_goto (tgt := 21) hx hb dX8_enough_97 (by decide) ?_
      exact kk21 _ _ hv ls (lv_sub hl [1, 2, 3, 0] rfl)
    · have hv := hvf hc
      refine lv_iload hx hb dX8_enough_41 (lv_at hl 4 rfl) ?_
      obtain ⟨s_43, ho_1, hv⟩ := hv
      refine vp_callSi (W.runS (As := [.int x4]) (rest := []) S (wJ6_bitCount_0f7a4 l g x4 (sJ6_bitCount_0f7a4 s_43 x4 ho_1)) (va_cwS 1 hts gX8_enough_J6_bitCount_0f7a4 rfl rfl rfl (by decide +kernel) ⟨Nat.le_of_ble_eq_true rfl, Nat.le_of_ble_eq_true rfl⟩) ⟨blindRO, fun U hU hW => ⟨rfl, by rw [hU]; exact hP.sub (ws' := []) [] rfl, hG.warm hW⟩⟩ rfl rfl hl.1 rfl (lv_room (Nat.le_of_ble_eq_true rfl)) dX8_enough_43 ⟨Nat.le_of_ble_eq_true rfl, Nat.le_of_ble_eq_true rfl⟩) (fun r_43 hr_43 => ?_)
      have hv := hv r_43 hr_43
      refine lv_iload_n hx hb dX8_enough_46 rfl (lv_at hl 3 rfl) ?_
      obtain ⟨hvt, hvf⟩ := hv
      refine lv_icmp_ne (tgt := 88) hx hb dX8_enough_47 (by decide) (fun hc => ?_) (fun hc => ?_)
      · have hv := hvt hc
        refine lv_iinc (v := (x4 + (1 : Int32))) (lv' := [(4, .int (x4 + (1 : Int32))), (0, .ref qX), (1, .int p1), (2, .int x2), (3, .int x3)]) hx hb dX8_enough_88 hl (k := 4) rfl rfl (by decide) rfl (fun ls hl => ?_)
        refine lv_goto (tgt := 35) hx hb dX8_enough_91 (by decide) ?_
        exact ih _ _ _ hv ls (lv_sub hl [1, 2, 3, 4, 0] rfl)
      · have hv := hvf hc
        refine lv_aload_n hx hb dX8_enough_50 rfl (lv_at hl 0 rfl) ?_
        refine va_get (D := g.1) (ci := 8) (v := .ref qt) (C := RX8) (T := TX8) (N := 8) hx hb hts inX8_enough_8 hown hK hP 0 rfl rfl 2 (by decide) (hts (.fieldLink RX8 24 "RangeCodes" "told" "LRangeCodes$Told;") (List.mem_of_getElem? (i := 1) rfl)) (fun _ h9 => h9) rfl dX8_enough_51 ?_
        refine lv_iload hx hb dX8_enough_54 (lv_at hl 4 rfl) ?_
        obtain ⟨T_56, s_56, ho_2, hv⟩ := hv
        refine vp_callSi (W.runV (As := [.int x4]) (rest := []) S (wX7_periodOf l g qt ql qr qv qg parts limit len x4 (sX7_periodOf T_56 s_56 parts limit len x4 ho_2)) (cwV 1 hts gX8_enough_X7_periodOf rfl rfl rfl (by decide +kernel) ⟨Nat.le_of_ble_eq_true rfl, Nat.le_of_ble_eq_true rfl⟩) ⟨blindRO, va_recv hK hP (ci := 7) (q0 := 1) rfl rfl, fun U hU hW => ⟨rfl, by rw [hU]; exact hP.sub (ws' := [(qt, .inr (7, [.ref ql, .ref qr, .ref qv, .ref qg, .int parts, .int limit])), (ql, .inl (g.2 0, 5, .inl len))]) [1, 2] rfl, hG.warm hW⟩⟩ rfl rfl hl.1 rfl (lv_room (Nat.le_of_ble_eq_true rfl)) dX8_enough_56 ⟨Nat.le_of_ble_eq_true rfl, Nat.le_of_ble_eq_true rfl⟩) (fun r_56 hr_56 => ?_)
        have hv := hv r_56 hr_56
        refine lv_aload_n hx hb dX8_enough_59 rfl (lv_at hl 0 rfl) ?_
        refine va_get (D := g.1) (ci := 8) (v := .ref qt) (C := RX8) (T := TX8) (N := 8) hx hb hts inX8_enough_8 hown hK hP 0 rfl rfl 2 (by decide) (hts (.fieldLink RX8 24 "RangeCodes" "told" "LRangeCodes$Told;") (List.mem_of_getElem? (i := 1) rfl)) (fun _ h9 => h9) rfl dX8_enough_60 ?_
        refine va_get (D := g.1) (ci := 7) (v := .int limit) (C := RX7) (T := TX7) (N := 6) hx hb hts inX8_enough_7 hown hK hP 1 rfl rfl 5 (by decide) (hts (.fieldLink RX8 125 "RangeCodes$Told" "limit" "I") (List.mem_of_getElem? (i := 3) rfl)) (fun _ h9 => h9) rfl dX8_enough_63 ?_
        obtain ⟨hvt, hvf⟩ := hv
        refine lv_icmp_lt (tgt := 88) hx hb dX8_enough_66 (by decide) (fun hc => ?_) (fun hc => ?_)
        · have hv := hvt hc
          refine lv_iinc (v := (x4 + (1 : Int32))) (lv' := [(4, .int (x4 + (1 : Int32))), (0, .ref qX), (1, .int p1), (2, .int x2), (3, .int x3)]) hx hb dX8_enough_88 hl (k := 4) rfl rfl (by decide) rfl (fun ls hl => ?_)
          refine lv_goto (tgt := 35) hx hb dX8_enough_91 (by decide) ?_
          exact ih _ _ _ hv ls (lv_sub hl [1, 2, 3, 4, 0] rfl)
        · have hv := hvf hc
          refine lv_iload_n hx hb dX8_enough_69 rfl (lv_at hl 1 rfl) ?_
          obtain ⟨hvt, hvf⟩ := hv
          refine lv_if_ne (tgt := 78) hx hb dX8_enough_70 (by decide) (fun hc => ?_) (fun hc => ?_)
          · have hv := hvt hc
            refine lv_aload_n hx hb dX8_enough_78 rfl (lv_at hl 0 rfl) ?_
            refine va_get (D := g.1) (ci := 8) (v := .ref qt) (C := RX8) (T := TX8) (N := 8) hx hb hts inX8_enough_8 hown hK hP 0 rfl rfl 2 (by decide) (hts (.fieldLink RX8 24 "RangeCodes" "told" "LRangeCodes$Told;") (List.mem_of_getElem? (i := 1) rfl)) (fun _ h9 => h9) rfl dX8_enough_79 ?_
            refine va_get (D := g.1) (ci := 7) (v := .int parts) (C := RX7) (T := TX7) (N := 6) hx hb hts inX8_enough_7 hown hK hP 1 rfl rfl 4 (by decide) (hts (.fieldLink RX8 96 "RangeCodes$Told" "parts" "I") (List.mem_of_getElem? (i := 2) rfl)) (fun _ h9 => h9) rfl dX8_enough_82 ?_
            refine lv_iload_n hx hb dX8_enough_85 rfl (lv_at hl 3 rfl) ?_
            refine lv_isub hx hb dX8_enough_86 ?_
            exact W.iret (v := (parts - x3)) hx hb hr (fun t ht hW => ⟨_, rfl, hv, ht⟩) (fun _ h => by cases h) dX8_enough_87
          · have hv := hvf hc
            refine lv_iload hx hb dX8_enough_73 (lv_at hl 4 rfl) ?_
            refine lv_goto (tgt := 87) hx hb dX8_enough_75 (by decide) ?_
            exact W.iret (v := x4) hx hb hr (fun t ht hW => ⟨_, rfl, hv, ht⟩) (fun _ h => by cases h) dX8_enough_87
def vX8_enough_c21 (parts : Int32) (limit : Int32) (len : Nat → Int32) (p1 : Int32) (Q : Int32 → Prop) : Nat → Int32 → Int32 → Prop
  | 0, _, _ => False
  | n + 1, x2, x3 => ((parts < x3 → (Q (-1 : Int32))) ∧ (¬ parts < x3 → (∃ nn, vX8_enough_c35 parts limit len p1 Q (vX8_enough_c21 parts limit len p1 Q n) nn x2 x3 (0 : Int32))))
set_option maxHeartbeats 4000000 in
set_option maxRecDepth 100000 in
theorem kX8_enough_c21 {p : Program} {l : Launch} {e : Env} {s : State} {m : MethodId} {args : Array Value} {below : List Frame} {meth : Method} {c : Code} {g : GP} {qX : Nat} {qP : Nat} {qI : Nat} {qt : Nat} {qd : Nat} {qe : Nat} {qsp : Nat} {qrk : Nat} {qty : Nat} {ql : Nat} {qr : Nat} {qv : Nat} {qg : Nat} {parts : Int32} {limit : Int32} {len : Nat → Int32} {p1 : Int32} {Q : Int32 → Prop} (S : CallFix p m c cX8_enough 5 s args wsX8_enough RX8) (hr : meth.sig.returnType = (some .int)) (hlocks : meth.locks = false) (hG : GK g s) (hP : va_P g.1 vwCl [(qX, .inr (8, [.ref qP, .ref qI, .ref qt, .ref qd, .ref qe, .ref qsp, .ref qrk, .ref qty])), (qt, .inr (7, [.ref ql, .ref qr, .ref qv, .ref qg, .int parts, .int limit])), (ql, .inl (g.2 0, 5, .inl len))] s.heap) : ∀ (n : Nat), ∀ (x2 : Int32) (x3 : Int32), vX8_enough_c21 parts limit len p1 Q n x2 x3 → ∀ (ls : Array Slot), lv_has ls 5 [(0, .ref qX), (1, .int p1), (2, .int x2), (3, .int x3)] → W p l e (headSpec wsX8_enough rmX8_enough).room s m args below meth c s.heap [] 0 0 (MQ below (vp_Si Q) args s 0 0 (fun _ => False)) (F0 m 21 ls []) := by
  obtain ⟨hx, hb, hml, hown, hts⟩ := id S
  have hK := hG.1
  intro n
  induction n with
  | zero => intro x2 x3 hv; exact hv.elim
  | succ n ih =>
    intro x2 x3 hv ls hl
    refine lv_iload_n hx hb dX8_enough_21 rfl (lv_at hl 3 rfl) ?_
    refine lv_aload_n hx hb dX8_enough_22 rfl (lv_at hl 0 rfl) ?_
    refine va_get (D := g.1) (ci := 8) (v := .ref qt) (C := RX8) (T := TX8) (N := 8) hx hb hts inX8_enough_8 hown hK hP 0 rfl rfl 2 (by decide) (hts (.fieldLink RX8 24 "RangeCodes" "told" "LRangeCodes$Told;") (List.mem_of_getElem? (i := 1) rfl)) (fun _ h9 => h9) rfl dX8_enough_23 ?_
    refine va_get (D := g.1) (ci := 7) (v := .int parts) (C := RX7) (T := TX7) (N := 6) hx hb hts inX8_enough_7 hown hK hP 1 rfl rfl 4 (by decide) (hts (.fieldLink RX8 96 "RangeCodes$Told" "parts" "I") (List.mem_of_getElem? (i := 2) rfl)) (fun _ h9 => h9) rfl dX8_enough_26 ?_
    obtain ⟨hvt, hvf⟩ := hv
    refine lv_icmp_gt (tgt := 100) hx hb dX8_enough_29 (by decide) (fun hc => ?_) (fun hc => ?_)
    · have hv := hvt hc
      refine lv_iconst (v := (-1 : Int32)) hx hb dX8_enough_100 (by decide) ?_
      exact W.iret (v := (-1 : Int32)) hx hb hr (fun t ht hW => ⟨_, rfl, hv, ht⟩) (fun _ h => by cases h) dX8_enough_101
    · have hv := hvf hc
      refine lv_iconst (v := (0 : Int32)) hx hb dX8_enough_32 (by decide) ?_
      refine lv_istore (lv' := [(4, .int (0 : Int32)), (0, .ref qX), (1, .int p1), (2, .int x2), (3, .int x3)]) hx hb dX8_enough_33 hl (by decide) rfl (fun ls hl => ?_)
      obtain ⟨nn, hv⟩ := hv
      exact kX8_enough_c35 S hr hlocks hG hP ih nn _ _ _ hv ls (lv_sub hl [1, 2, 3, 4, 0] rfl)
def vX8_enough (parts : Int32) (limit : Int32) (len : Nat → Int32) (p1 : Int32) (Q : Int32 → Prop) : Prop := ((p1 = 0 → (∃ (T_15 : Cd), preX7_allParts T_15 parts limit ∧ (∀ r_15 : Int32, postX7_allParts T_15 parts limit r_15 → (∃ nn, vX8_enough_c21 parts limit len p1 Q nn r_15 (0 : Int32))))) ∧ (¬ p1 = 0 → ((p1 = (1 : Int32) → (∃ (T_15 : Cd), preX7_allParts T_15 parts limit ∧ (∀ r_15 : Int32, postX7_allParts T_15 parts limit r_15 → (∃ nn, vX8_enough_c21 parts limit len p1 Q nn r_15 (0 : Int32))))) ∧ (¬ p1 = (1 : Int32) → (Q (-1 : Int32))))))
set_option maxHeartbeats 4000000 in
set_option maxRecDepth 100000 in
theorem wX8_enough (l : Launch) (g : GP) (qX : Nat) (qP : Nat) (qI : Nat) (qt : Nat) (qd : Nat) (qe : Nat) (qsp : Nat) (qrk : Nat) (qty : Nat) (ql : Nat) (qr : Nat) (qv : Nat) (qg : Nat) (parts : Int32) (limit : Int32) (len : Nat → Int32) (p1 : Int32) {Q : Int32 → Prop} (hv : vX8_enough parts limit len p1 Q) : Met l yX8_enough wsX8_enough rmX8_enough (va_Pc [.ref qX, .int p1] (fun U => va_P g.1 vwCl [(qX, .inr (8, [.ref qP, .ref qI, .ref qt, .ref qd, .ref qe, .ref qsp, .ref qrk, .ref qty])), (qt, .inr (7, [.ref ql, .ref qr, .ref qv, .ref qg, .int parts, .int limit])), (ql, .inl (g.2 0, 5, .inl len))] U.heap ∧ GK g U)) (vp_Si Q) 0 0 (fun _ => False) := by
  refine Met.ofW (cc := cX8_enough) (maxL := 5) (ret := (some .int)) (by decide) rfl ?_
  intro p e s m args below meth c s₁ B hml hv'
  obtain ⟨rfl, hP, hG⟩ := hv'
  have S : CallFix p m c cX8_enough 5 s _ wsX8_enough RX8 := ⟨B.exec, B.bytes, hml, findClass_of_methodNamed B.named, atoms_spec (ws := wsX8_enough) B.pre⟩
  obtain ⟨hx, hb, hml, hown, hts⟩ := id S
  have hK := hG.1
  have hr := B.returns
  have hlocks := B.notSynchronized
  have hl := lv_entry ([.ref qX, .int p1]) (n := 5) (Nat.le_of_ble_eq_true rfl)
  rw [lg_entry_eq]
  generalize (lg_sl ([.ref qX, .int p1]) ++ List.replicate (5 - (lg_sl ([.ref qX, .int p1])).length) Slot.unset).toArray = ls at hl ⊢
  have hl : lv_has ls 5 [(0, .ref qX), (1, .int p1)] := hl
  unfold vX8_enough at hv
  refine lv_iload_n hx hb dX8_enough_0 rfl (lv_at hl 1 rfl) ?_
  obtain ⟨hvt, hvf⟩ := hv
  refine lv_if_eq (tgt := 11) hx hb dX8_enough_1 (by decide) (fun hc => ?_) (fun hc => ?_)
  · have hv := hvt hc
    refine lv_aload_n hx hb dX8_enough_11 rfl (lv_at hl 0 rfl) ?_
    refine va_get (D := g.1) (ci := 8) (v := .ref qt) (C := RX8) (T := TX8) (N := 8) hx hb hts inX8_enough_8 hown hK hP 0 rfl rfl 2 (by decide) (hts (.fieldLink RX8 24 "RangeCodes" "told" "LRangeCodes$Told;") (List.mem_of_getElem? (i := 1) rfl)) (fun _ h9 => h9) rfl dX8_enough_12 ?_
    obtain ⟨T_15, ho_1, hv⟩ := hv
    refine vp_callSi (W.runV (As := []) (rest := []) S (wX7_allParts l g qt ql qr qv qg parts limit (sX7_allParts T_15 parts limit ho_1)) (cwV 0 hts gX8_enough_X7_allParts rfl rfl rfl (by decide +kernel) ⟨Nat.le_of_ble_eq_true rfl, Nat.le_of_ble_eq_true rfl⟩) ⟨blindRO, va_recv hK hP (ci := 7) (q0 := 1) rfl rfl, fun U hU hW => ⟨rfl, by rw [hU]; exact hP.sub (ws' := [(qt, .inr (7, [.ref ql, .ref qr, .ref qv, .ref qg, .int parts, .int limit]))]) [1] rfl, hG.warm hW⟩⟩ rfl rfl hl.1 rfl (lv_room (Nat.le_of_ble_eq_true rfl)) dX8_enough_15 ⟨Nat.le_of_ble_eq_true rfl, Nat.le_of_ble_eq_true rfl⟩) (fun r_15 hr_15 => ?_)
    have hv := hv r_15 hr_15
    refine lv_istore_n (lv' := [(2, .int r_15), (0, .ref qX), (1, .int p1)]) hx hb dX8_enough_18 rfl hl (by decide) rfl (fun ls hl => ?_)
    refine lv_iconst (v := (0 : Int32)) hx hb dX8_enough_19 (by decide) ?_
    refine lv_istore_n (lv' := [(3, .int (0 : Int32)), (2, .int r_15), (0, .ref qX), (1, .int p1)]) hx hb dX8_enough_20 rfl hl (by decide) rfl (fun ls hl => ?_)
    obtain ⟨nn, hv⟩ := hv
    exact kX8_enough_c21 S hr hlocks hG hP nn _ _ hv ls (lv_sub hl [2, 3, 1, 0] rfl)
  · have hv := hvf hc
    refine lv_iload_n hx hb dX8_enough_4 rfl (lv_at hl 1 rfl) ?_
    refine lv_iconst (v := (1 : Int32)) hx hb dX8_enough_5 (by decide) ?_
    obtain ⟨hvt, hvf⟩ := hv
    refine lv_icmp_eq (tgt := 11) hx hb dX8_enough_6 (by decide) (fun hc => ?_) (fun hc => ?_)
    · have hv := hvt hc
      refine lv_aload_n hx hb dX8_enough_11 rfl (lv_at hl 0 rfl) ?_
      refine va_get (D := g.1) (ci := 8) (v := .ref qt) (C := RX8) (T := TX8) (N := 8) hx hb hts inX8_enough_8 hown hK hP 0 rfl rfl 2 (by decide) (hts (.fieldLink RX8 24 "RangeCodes" "told" "LRangeCodes$Told;") (List.mem_of_getElem? (i := 1) rfl)) (fun _ h9 => h9) rfl dX8_enough_12 ?_
      obtain ⟨T_15, ho_2, hv⟩ := hv
      refine vp_callSi (W.runV (As := []) (rest := []) S (wX7_allParts l g qt ql qr qv qg parts limit (sX7_allParts T_15 parts limit ho_2)) (cwV 0 hts gX8_enough_X7_allParts rfl rfl rfl (by decide +kernel) ⟨Nat.le_of_ble_eq_true rfl, Nat.le_of_ble_eq_true rfl⟩) ⟨blindRO, va_recv hK hP (ci := 7) (q0 := 1) rfl rfl, fun U hU hW => ⟨rfl, by rw [hU]; exact hP.sub (ws' := [(qt, .inr (7, [.ref ql, .ref qr, .ref qv, .ref qg, .int parts, .int limit]))]) [1] rfl, hG.warm hW⟩⟩ rfl rfl hl.1 rfl (lv_room (Nat.le_of_ble_eq_true rfl)) dX8_enough_15 ⟨Nat.le_of_ble_eq_true rfl, Nat.le_of_ble_eq_true rfl⟩) (fun r_15 hr_15 => ?_)
      have hv := hv r_15 hr_15
      refine lv_istore_n (lv' := [(2, .int r_15), (0, .ref qX), (1, .int p1)]) hx hb dX8_enough_18 rfl hl (by decide) rfl (fun ls hl => ?_)
      refine lv_iconst (v := (0 : Int32)) hx hb dX8_enough_19 (by decide) ?_
      refine lv_istore_n (lv' := [(3, .int (0 : Int32)), (2, .int r_15), (0, .ref qX), (1, .int p1)]) hx hb dX8_enough_20 rfl hl (by decide) rfl (fun ls hl => ?_)
      obtain ⟨nn, hv⟩ := hv
      exact kX8_enough_c21 S hr hlocks hG hP nn _ _ hv ls (lv_sub hl [2, 3, 1, 0] rfl)
    · have hv := hvf hc
      refine lv_iconst (v := (-1 : Int32)) hx hb dX8_enough_9 (by decide) ?_
      exact W.iret (v := (-1 : Int32)) hx hb hr (fun t ht hW => ⟨_, rfl, hv, ht⟩) (fun _ h => by cases h) dX8_enough_10
theorem bc_n : ∀ n, n ≤ 5 → ∀ s, s < 2 ^ n → bcn s 13 ≤ n := by decide
theorem sX8_enough_35 (T : Cd) (G0 : Lg) (G1 : Lg) (lim : Nat) (parts : Int32) (limit : Int32) (len : Nat → Int32) (p1 : Int32) (hN : isN T parts) (hL : isL T len) (hlim : limit.toInt = (lim : Int)) (Q : Int32 → Prop) (K : Int32 → Int32 → Prop) (f : Nat) (x2 x3 : Int32) (h2 : x2.toInt = ((2 ^ cn T - 1 : Nat) : Int)) (h3 : x3.toInt = (f : Int)) (hf : f ≤ cn T) (hQ : ∀ r : Int32, fa_first (okE T lim f) (2 ^ cn T) < 2 ^ cn T → r.toInt = (if p1.toInt = 0 then (fa_first (okE T lim f) (2 ^ cn T) : Int) else (cn T : Int) - (f : Int)) → Q r) (hK : ¬ fa_first (okE T lim f) (2 ^ cn T) < 2 ^ cn T → K x2 (x3 + (1 : Int32))) : ∀ (n i : Nat) (x4 : Int32), x4.toInt = (i : Int) → (∀ j, j < i → okE T lim f j = false) → i ≤ 2 ^ cn T → 2 ^ cn T + 1 ≤ i + n → vX8_enough_c35 parts limit len p1 Q K n x2 x3 x4
  | 0, i, x4, _, _, hi, hn => absurd hn (by omega)
  | n + 1, i, x4, h4, hb, hi, hn => by
    have hn5 := hN.2
    have hp := p32_le hn5
    have hp1 := Nat.two_pow_pos (cn T)
    rw [vX8_enough_c35, q_lt h2 h4]
    refine ⟨fun hc => hK ?_, fun hc => ⟨i, ⟨h4, by omega⟩, fun r hr => ?_⟩⟩
    · have : i = 2 ^ cn T := by omega
      subst this
      rw [ff_none hb]; omega
    · have hi2 : i < 2 ^ cn T := by omega
      have hr : r.toInt = ((bcn i 13 : Nat) : Int) := hr
      have h4s := q_1 h4 (by omega)
      have next : okE T lim f i = false → vX8_enough_c35 parts limit len p1 Q K n x2 x3 (x4 + (1 : Int32)) := fun hf2 => sX8_enough_35 T G0 G1 lim parts limit len p1 hN hL hlim Q K f x2 x3 h2 h3 hf hQ hK n (i + 1) _ h4s (fun j hj => by
        by_cases e : j = i
        · subst e; exact hf2
        · exact hb j (by omega)) (by omega) (by omega)
      rw [q_eq hr h3]
      refine ⟨fun hq => next ?_, fun hq => ⟨T, i, ⟨hN, hL, h4⟩, fun r2 hr2 => ?_⟩⟩
      · unfold okE; rw [decide_eq_false (by omega)]; rfl
      · have hr2 : r2.toInt = ((lcS T i (cn T) : Nat) : Int) := hr2
        rw [q_lt hr2 hlim]
        refine ⟨fun hz => next ?_, fun hz => ?_⟩
        · unfold okE; rw [decide_eq_false (p := lim ≤ lcS T i (cn T)) (by omega), Bool.and_false]
        · have ht : okE T lim f i = true := by unfold okE; rw [decide_eq_true (by omega), decide_eq_true (by omega)]; rfl
          have hff := ff_eq hi2 ht hb
          rw [fa_eq p1, z0]
          refine ⟨fun q => hQ _ (by omega) ?_, fun q => hQ _ (by omega) ?_⟩
          · rw [if_neg q]; exact q_sub hN.1 h3 (by omega) (by omega)
          · rw [if_pos q, hff]; exact h4
theorem sX8_enough_21 (T : Cd) (G0 : Lg) (G1 : Lg) (lim : Nat) (parts : Int32) (limit : Int32) (len : Nat → Int32) (p1 : Int32) (hN : isN T parts) (hL : isL T len) (hlim : limit.toInt = (lim : Int)) (hw : p1.toInt = 0 ∨ p1.toInt = 1) (Q : Int32 → Prop) (hQ : ∀ r : Int32, r.toInt = spEnough T lim p1.toInt → Q r) (x2 : Int32) (h2 : x2.toInt = ((2 ^ cn T - 1 : Nat) : Int)) : ∀ (n f : Nat) (x3 : Int32), x3.toInt = (f : Int) → (∀ j, j < f → ¬ fa_first (okE T lim j) (2 ^ cn T) < 2 ^ cn T) → f ≤ cn T + 1 → cn T + 2 ≤ f + n → vX8_enough_c21 parts limit len p1 Q n x2 x3
  | 0, f, x3, _, _, hi, hn => absurd hn (by omega)
  | n + 1, f, x3, h3, hb, hi, hn => by
    have hn5 := hN.2
    have hp := p32_le hn5
    have hp1 := Nat.two_pow_pos (cn T)
    rw [vX8_enough_c21, q_lt hN.1 h3]
    refine ⟨fun hc => hQ _ ?_, fun hc => ⟨2 ^ cn T + 1, sX8_enough_35 T G0 G1 lim parts limit len p1 hN hL hlim Q _ f x2 x3 h2 h3 (by omega) (fun r hlt hr => hQ _ ?_) (fun hno => ?_) _ 0 0 rfl (fun j hj => absurd hj (by omega)) (by omega) (by omega)⟩⟩
    · have : f = cn T + 1 := by omega
      subst this
      unfold spEnough enF
      rw [if_neg (fun q => by rw [ff_none (fun j hj => decide_eq_false (hb j hj))] at q; omega)]; rfl
    · have he : enF T lim = f := ff_eq (by omega) (decide_eq_true hlt) (fun j hj => decide_eq_false (hb j hj))
      unfold spEnough
      rw [he, if_pos ⟨hw, by omega⟩]; exact hr
    · exact sX8_enough_21 T G0 G1 lim parts limit len p1 hN hL hlim hw Q hQ x2 h2 n (f + 1) _ (q_1 h3 (by omega)) (fun j hj => by
        by_cases e : j = f
        · subst e; exact hno
        · exact hb j (by omega)) (by omega) (by omega)
abbrev preX8_enough (T : Cd) (G0 : Lg) (G1 : Lg) (lim : Nat) (parts : Int32) (limit : Int32) (len : Nat → Int32) (p1 : Int32) : Prop := isN T parts ∧ isL T len ∧ limit.toInt = (lim : Int)
abbrev postX8_enough (T : Cd) (G0 : Lg) (G1 : Lg) (lim : Nat) (parts : Int32) (limit : Int32) (len : Nat → Int32) (p1 : Int32) (r : Int32) : Prop := r.toInt = spEnough T lim p1.toInt
theorem sX8_enough (T : Cd) (G0 : Lg) (G1 : Lg) (lim : Nat) (parts : Int32) (limit : Int32) (len : Nat → Int32) (p1 : Int32) (H : preX8_enough T G0 G1 lim parts limit len p1) : vX8_enough parts limit len p1 (postX8_enough T G0 G1 lim parts limit len p1) := by
  obtain ⟨hN, hL, hlim⟩ := H
  have go : (p1.toInt = 0 ∨ p1.toInt = 1) → (∃ (T_15 : Cd), preX7_allParts T_15 parts limit ∧ (∀ r_15 : Int32, postX7_allParts T_15 parts limit r_15 → (∃ nn, vX8_enough_c21 parts limit len p1 (postX8_enough T G0 G1 lim parts limit len p1) nn r_15 (0 : Int32)))) := fun hw =>
    ⟨T, hN, fun r hr => ⟨cn T + 2, sX8_enough_21 T G0 G1 lim parts limit len p1 hN hL hlim hw _ (fun r2 h => h) r hr _ 0 0 rfl (fun j hj => absurd hj (by omega)) (by omega) (by omega)⟩⟩
  unfold vX8_enough
  rw [fa_eq p1, z0, fa_eq p1, z1]
  refine ⟨fun q => go (Or.inl q), fun q => ⟨fun q1 => go (Or.inr q1), fun q1 => ?_⟩⟩
  show (-1 : Int32).toInt = spEnough T lim p1.toInt
  unfold spEnough
  rw [if_neg (fun z => by omega)]; rfl
theorem dX8_fault_0 : decode cX8_fault 0 = .ok (.iload_n 1, 1) := by decide +kernel
theorem dX8_fault_1 : decode cX8_fault 1 = .ok (.ifCond .eq 13, 3) := by decide +kernel
theorem dX8_fault_4 : decode cX8_fault 4 = .ok (.aload_n 0, 1) := by decide +kernel
theorem dX8_fault_5 : decode cX8_fault 5 = .ok (.getfield 10, 3) := by decide +kernel
theorem dX8_fault_8 : decode cX8_fault 8 = .ok (.getfield 89, 3) := by decide +kernel
theorem dX8_fault_11 : decode cX8_fault 11 = .ok (.goto 10, 3) := by decide +kernel
theorem dX8_fault_14 : decode cX8_fault 14 = .ok (.aload_n 0, 1) := by decide +kernel
theorem dX8_fault_15 : decode cX8_fault 15 = .ok (.getfield 10, 3) := by decide +kernel
theorem dX8_fault_18 : decode cX8_fault 18 = .ok (.getfield 85, 3) := by decide +kernel
theorem dX8_fault_21 : decode cX8_fault 21 = .ok (.ireturn, 1) := by decide +kernel
abbrev rmX8_fault : Room := { frames := 0, cells := 0, slots := 0, locals := 0 }
theorem inX8_fault_2 : ∀ w ∈ wsX20, w ∈ wsX8_fault := by decide +kernel
theorem inX8_fault_8 : ∀ w ∈ wsX80, w ∈ wsX8_fault := by decide +kernel
def vX8_fault (byt : Int32) (flt : Int32) (plc : Int32) (p1 : Int32) (Q : Int32 → Prop) : Prop := ((p1 = 0 → (Q flt)) ∧ (¬ p1 = 0 → (Q plc)))
set_option maxHeartbeats 4000000 in
set_option maxRecDepth 100000 in
theorem wX8_fault (l : Launch) (g : GP) (qX : Nat) (qP : Nat) (qI : Nat) (qt : Nat) (qd : Nat) (qe : Nat) (qsp : Nat) (qrk : Nat) (qty : Nat) (qtx : Nat) (byt : Int32) (flt : Int32) (plc : Int32) (p1 : Int32) {Q : Int32 → Prop} (hv : vX8_fault byt flt plc p1 Q) : Met l yX8_fault wsX8_fault rmX8_fault (va_Pc [.ref qX, .int p1] (fun U => va_P g.1 vwCl [(qX, .inr (8, [.ref qP, .ref qI, .ref qt, .ref qd, .ref qe, .ref qsp, .ref qrk, .ref qty])), (qP, .inr (2, [.ref qt, .ref qtx, .int byt, .int flt, .int plc]))] U.heap ∧ GK g U)) (vp_Si Q) 0 0 (fun _ => False) := by
  refine Met.ofW (cc := cX8_fault) (maxL := 2) (ret := (some .int)) (by decide) rfl ?_
  intro p e s m args below meth c s₁ B hml hv'
  obtain ⟨rfl, hP, hG⟩ := hv'
  have S : CallFix p m c cX8_fault 2 s _ wsX8_fault RX8 := ⟨B.exec, B.bytes, hml, findClass_of_methodNamed B.named, atoms_spec (ws := wsX8_fault) B.pre⟩
  obtain ⟨hx, hb, hml, hown, hts⟩ := id S
  have hK := hG.1
  have hr := B.returns
  have hlocks := B.notSynchronized
  have hl := lv_entry ([.ref qX, .int p1]) (n := 2) (Nat.le_of_ble_eq_true rfl)
  rw [lg_entry_eq]
  generalize (lg_sl ([.ref qX, .int p1]) ++ List.replicate (2 - (lg_sl ([.ref qX, .int p1])).length) Slot.unset).toArray = ls at hl ⊢
  have hl : lv_has ls 2 [(0, .ref qX), (1, .int p1)] := hl
  unfold vX8_fault at hv
  refine lv_iload_n hx hb dX8_fault_0 rfl (lv_at hl 1 rfl) ?_
  obtain ⟨hvt, hvf⟩ := hv
  refine lv_if_eq (tgt := 14) hx hb dX8_fault_1 (by decide) (fun hc => ?_) (fun hc => ?_)
  · have hv := hvt hc
    refine lv_aload_n hx hb dX8_fault_14 rfl (lv_at hl 0 rfl) ?_
    refine va_get (D := g.1) (ci := 8) (v := .ref qP) (C := RX8) (T := TX8) (N := 8) hx hb hts inX8_fault_8 hown hK hP 0 rfl rfl 0 (by decide) (hts (.fieldLink RX8 10 "RangeCodes" "now" "LRangeCodes$Page;") (List.mem_of_getElem? (i := 1) rfl)) (fun _ h9 => h9) rfl dX8_fault_15 ?_
    refine va_get (D := g.1) (ci := 2) (v := .int flt) (C := RX2) (T := TX2) (N := 5) hx hb hts inX8_fault_2 hown hK hP 1 rfl rfl 3 (by decide) (hts (.fieldLink RX8 85 "RangeCodes$Page" "fault" "I") (List.mem_of_getElem? (i := 3) rfl)) (fun _ h9 => h9) rfl dX8_fault_18 ?_
    exact W.iret (v := flt) hx hb hr (fun t ht hW => ⟨_, rfl, hv, ht⟩) (fun _ h => by cases h) dX8_fault_21
  · have hv := hvf hc
    refine lv_aload_n hx hb dX8_fault_4 rfl (lv_at hl 0 rfl) ?_
    refine va_get (D := g.1) (ci := 8) (v := .ref qP) (C := RX8) (T := TX8) (N := 8) hx hb hts inX8_fault_8 hown hK hP 0 rfl rfl 0 (by decide) (hts (.fieldLink RX8 10 "RangeCodes" "now" "LRangeCodes$Page;") (List.mem_of_getElem? (i := 1) rfl)) (fun _ h9 => h9) rfl dX8_fault_5 ?_
    refine va_get (D := g.1) (ci := 2) (v := .int plc) (C := RX2) (T := TX2) (N := 5) hx hb hts inX8_fault_2 hown hK hP 1 rfl rfl 4 (by decide) (hts (.fieldLink RX8 89 "RangeCodes$Page" "place" "I") (List.mem_of_getElem? (i := 2) rfl)) (fun _ h9 => h9) rfl dX8_fault_8 ?_
    refine lv_goto (tgt := 21) hx hb dX8_fault_11 (by decide) ?_
    exact W.iret (v := plc) hx hb hr (fun t ht hW => ⟨_, rfl, hv, ht⟩) (fun _ h => by cases h) dX8_fault_21
abbrev preX8_fault  (byt : Int32) (flt : Int32) (plc : Int32) (p1 : Int32) : Prop := True
abbrev postX8_fault  (byt : Int32) (flt : Int32) (plc : Int32) (p1 : Int32) (r : Int32) : Prop := r = if p1.toInt = 0 then flt else plc
theorem sX8_fault  (byt : Int32) (flt : Int32) (plc : Int32) (p1 : Int32) (H : preX8_fault  byt flt plc p1) : vX8_fault byt flt plc p1 (postX8_fault  byt flt plc p1) := by
  unfold vX8_fault postX8_fault
  rw [fa_eq p1, z0]
  exact ⟨fun q => by rw [if_pos q], fun q => by rw [if_neg q]⟩
theorem dX8_limit_0 : decode cX8_limit 0 = .ok (.iload_n 1, 1) := by decide +kernel
theorem dX8_limit_1 : decode cX8_limit 1 = .ok (.iconst 1, 1) := by decide +kernel
theorem dX8_limit_2 : decode cX8_limit 2 = .ok (.if_icmp .lt 21, 3) := by decide +kernel
theorem dX8_limit_5 : decode cX8_limit 5 = .ok (.iload_n 1, 1) := by decide +kernel
theorem dX8_limit_6 : decode cX8_limit 6 = .ok (.sipush 9999, 3) := by decide +kernel
theorem dX8_limit_9 : decode cX8_limit 9 = .ok (.if_icmp .gt 14, 3) := by decide +kernel
theorem dX8_limit_12 : decode cX8_limit 12 = .ok (.iload_n 1, 1) := by decide +kernel
theorem dX8_limit_13 : decode cX8_limit 13 = .ok (.aload_n 0, 1) := by decide +kernel
theorem dX8_limit_14 : decode cX8_limit 14 = .ok (.getfield 24, 3) := by decide +kernel
theorem dX8_limit_17 : decode cX8_limit 17 = .ok (.getfield 125, 3) := by decide +kernel
theorem dX8_limit_20 : decode cX8_limit 20 = .ok (.if_icmp .ne 5, 3) := by decide +kernel
theorem dX8_limit_23 : decode cX8_limit 23 = .ok (.iconst 0, 1) := by decide +kernel
theorem dX8_limit_24 : decode cX8_limit 24 = .ok (.ireturn, 1) := by decide +kernel
theorem dX8_limit_25 : decode cX8_limit 25 = .ok (.aload_n 0, 1) := by decide +kernel
theorem dX8_limit_26 : decode cX8_limit 26 = .ok (.getfield 24, 3) := by decide +kernel
theorem dX8_limit_29 : decode cX8_limit 29 = .ok (.iload_n 1, 1) := by decide +kernel
theorem dX8_limit_30 : decode cX8_limit 30 = .ok (.putfield 125, 3) := by decide +kernel
theorem dX8_limit_33 : decode cX8_limit 33 = .ok (.iconst 1, 1) := by decide +kernel
theorem dX8_limit_34 : decode cX8_limit 34 = .ok (.ireturn, 1) := by decide +kernel
abbrev rmX8_limit : Room := { frames := 0, cells := 0, slots := 0, locals := 0 }
theorem inX8_limit_7 : ∀ w ∈ wsX70, w ∈ wsX8_limit := by decide +kernel
theorem inX8_limit_8 : ∀ w ∈ wsX80, w ∈ wsX8_limit := by decide +kernel
def vX8_limit (parts : Int32) (limit : Int32) (p1 : Int32) (Q : Int32 → (Int32) → Prop) : Prop := ((p1 < (1 : Int32) → (Q (0 : Int32) limit)) ∧ (¬ p1 < (1 : Int32) → (((9999 : Int32) < p1 → (Q (0 : Int32) limit)) ∧ (¬ (9999 : Int32) < p1 → ((¬ p1 = limit → (Q (1 : Int32) p1)) ∧ (p1 = limit → (Q (0 : Int32) limit)))))))
set_option maxHeartbeats 4000000 in
set_option maxRecDepth 100000 in
theorem wX8_limit (l : Launch) (g : GP) (qX : Nat) (qP : Nat) (qI : Nat) (qt : Nat) (qd : Nat) (qe : Nat) (qsp : Nat) (qrk : Nat) (qty : Nat) (ql : Nat) (qr : Nat) (qv : Nat) (qg : Nat) (sz : Nat) (parts : Int32) (limit : Int32) (p1 : Int32) {Q : Int32 → (Int32) → Prop} (hv : vX8_limit parts limit p1 Q) : Met l yX8_limit wsX8_limit rmX8_limit (va_Pc [.ref qX, .int p1] (fun U => U.heap.size = sz ∧ va_P g.1 vwCl [(qX, .inr (8, [.ref qP, .ref qI, .ref qt, .ref qd, .ref qe, .ref qsp, .ref qrk, .ref qty])), (qt, .inr (7, [.ref ql, .ref qr, .ref qv, .ref qg, .int parts, .int limit]))] U.heap ∧ GK g U ∧ va_D (fun _ => True) [(qX, .inr (8, [.ref qP, .ref qI, .ref qt, .ref qd, .ref qe, .ref qsp, .ref qrk, .ref qty])), (qt, .inr (7, [.ref ql, .ref qr, .ref qv, .ref qg, .int parts, .int limit]))])) (va_Qi (fun (r : Int32) (u : Int32) => Q r u) (fun (u : Int32) t => va_P g.1 vwCl [(qX, .inr (8, [.ref qP, .ref qI, .ref qt, .ref qd, .ref qe, .ref qsp, .ref qrk, .ref qty])), (qt, .inr (7, [.ref ql, .ref qr, .ref qv, .ref qg, .int parts, .int u]))] t.heap ∧ va_D (va_A [(qX, .inr (8, [.ref qP, .ref qI, .ref qt, .ref qd, .ref qe, .ref qsp, .ref qrk, .ref qty])), (qt, .inr (7, [.ref ql, .ref qr, .ref qv, .ref qg, .int parts, .int limit]))] sz) [(qX, .inr (8, [.ref qP, .ref qI, .ref qt, .ref qd, .ref qe, .ref qsp, .ref qrk, .ref qty])), (qt, .inr (7, [.ref ql, .ref qr, .ref qv, .ref qg, .int parts, .int u]))]) (va_A [(qX, .inr (8, [.ref qP, .ref qI, .ref qt, .ref qd, .ref qe, .ref qsp, .ref qrk, .ref qty])), (qt, .inr (7, [.ref ql, .ref qr, .ref qv, .ref qg, .int parts, .int limit]))] sz)) 0 0 (va_A [(qX, .inr (8, [.ref qP, .ref qI, .ref qt, .ref qd, .ref qe, .ref qsp, .ref qrk, .ref qty])), (qt, .inr (7, [.ref ql, .ref qr, .ref qv, .ref qg, .int parts, .int limit]))] sz) := by
  refine Met.ofW (cc := cX8_limit) (maxL := 2) (ret := (some .boolean)) (by decide) rfl ?_
  intro p e s m args below meth c s₁ B hml hv'
  obtain ⟨rfl, hsz, hP, hG, hD0⟩ := hv'
  have S : CallFix p m c cX8_limit 2 s _ wsX8_limit RX8 := ⟨B.exec, B.bytes, hml, findClass_of_methodNamed B.named, atoms_spec (ws := wsX8_limit) B.pre⟩
  obtain ⟨hx, hb, hml, hown, hts⟩ := id S
  have hK := hG.1
  have hr := B.returns
  have hlocks := B.notSynchronized
  subst hsz
  have hD := hD0.self (sz := s.heap.size)
  generalize hAe : va_A [(qX, .inr (8, [.ref qP, .ref qI, .ref qt, .ref qd, .ref qe, .ref qsp, .ref qrk, .ref qty])), (qt, .inr (7, [.ref ql, .ref qr, .ref qv, .ref qg, .int parts, .int limit]))] s.heap.size = A at hD ⊢
  have hA : ∀ q : Nat, s.heap.size ≤ q → A q := fun q h => by rw [← hAe]; exact Or.inr h
  have hS : va_S A s.heap s.heap [] := va_S.rf
  clear hD0 hAe
  have hl := lv_entry ([.ref qX, .int p1]) (n := 2) (Nat.le_of_ble_eq_true rfl)
  rw [lg_entry_eq]
  generalize (lg_sl ([.ref qX, .int p1]) ++ List.replicate (2 - (lg_sl ([.ref qX, .int p1])).length) Slot.unset).toArray = ls at hl ⊢
  have hl : lv_has ls 2 [(0, .ref qX), (1, .int p1)] := hl
  unfold vX8_limit at hv
  refine lv_iload_n hx hb dX8_limit_0 rfl (lv_at hl 1 rfl) ?_
  refine lv_iconst (v := (1 : Int32)) hx hb dX8_limit_1 (by decide) ?_
  obtain ⟨hvt, hvf⟩ := hv
  refine lv_icmp_lt (tgt := 23) hx hb dX8_limit_2 (by decide) (fun hc => ?_) (fun hc => ?_)
  · have hv := hvt hc
    refine lv_iconst (v := (0 : Int32)) hx hb dX8_limit_23 (by decide) ?_
    have hP9 := hP.sub (ws' := [(qX, .inr (8, [.ref qP, .ref qI, .ref qt, .ref qd, .ref qe, .ref qsp, .ref qrk, .ref qty])), (qt, .inr (7, [.ref ql, .ref qr, .ref qv, .ref qg, .int parts, .int limit]))]) [0, 1] rfl
    have hD9 := hD.sub (ws' := [(qX, .inr (8, [.ref qP, .ref qI, .ref qt, .ref qd, .ref qe, .ref qsp, .ref qrk, .ref qty])), (qt, .inr (7, [.ref ql, .ref qr, .ref qv, .ref qg, .int parts, .int limit]))]) [0, 1] (by decide) rfl
    exact W.zret (v := (0 : Int32)) (ty := .boolean) hx hb hr rfl (fun t ht hW => ⟨⟨_, (limit), rfl, hv, by rw [ht]; exact hP9, hD9⟩, hS.F ht⟩) hS.2.2 dX8_limit_24
  · have hv := hvf hc
    refine lv_iload_n hx hb dX8_limit_5 rfl (lv_at hl 1 rfl) ?_
    refine lv_sipush (v := (9999 : Int32)) hx hb dX8_limit_6 (by decide) ?_
    obtain ⟨hvt, hvf⟩ := hv
    refine lv_icmp_gt (tgt := 23) hx hb dX8_limit_9 (by decide) (fun hc => ?_) (fun hc => ?_)
    · have hv := hvt hc
      refine lv_iconst (v := (0 : Int32)) hx hb dX8_limit_23 (by decide) ?_
      have hP9 := hP.sub (ws' := [(qX, .inr (8, [.ref qP, .ref qI, .ref qt, .ref qd, .ref qe, .ref qsp, .ref qrk, .ref qty])), (qt, .inr (7, [.ref ql, .ref qr, .ref qv, .ref qg, .int parts, .int limit]))]) [0, 1] rfl
      have hD9 := hD.sub (ws' := [(qX, .inr (8, [.ref qP, .ref qI, .ref qt, .ref qd, .ref qe, .ref qsp, .ref qrk, .ref qty])), (qt, .inr (7, [.ref ql, .ref qr, .ref qv, .ref qg, .int parts, .int limit]))]) [0, 1] (by decide) rfl
      exact W.zret (v := (0 : Int32)) (ty := .boolean) hx hb hr rfl (fun t ht hW => ⟨⟨_, (limit), rfl, hv, by rw [ht]; exact hP9, hD9⟩, hS.F ht⟩) hS.2.2 dX8_limit_24
    · have hv := hvf hc
      refine lv_iload_n hx hb dX8_limit_12 rfl (lv_at hl 1 rfl) ?_
      refine lv_aload_n hx hb dX8_limit_13 rfl (lv_at hl 0 rfl) ?_
      refine va_get (D := g.1) (ci := 8) (v := .ref qt) (C := RX8) (T := TX8) (N := 8) hx hb hts inX8_limit_8 hown hK hP 0 rfl rfl 2 (by decide) (hts (.fieldLink RX8 24 "RangeCodes" "told" "LRangeCodes$Told;") (List.mem_of_getElem? (i := 1) rfl)) (fun _ h9 => h9) rfl dX8_limit_14 ?_
      refine va_get (D := g.1) (ci := 7) (v := .int limit) (C := RX7) (T := TX7) (N := 6) hx hb hts inX8_limit_7 hown hK hP 1 rfl rfl 5 (by decide) (hts (.fieldLink RX8 125 "RangeCodes$Told" "limit" "I") (List.mem_of_getElem? (i := 2) rfl)) (fun _ h9 => h9) rfl dX8_limit_17 ?_
      obtain ⟨hvt, hvf⟩ := hv
      refine lv_icmp_ne (tgt := 25) hx hb dX8_limit_20 (by decide) (fun hc => ?_) (fun hc => ?_)
      · have hv := hvt hc
        refine lv_aload_n hx hb dX8_limit_25 rfl (lv_at hl 0 rfl) ?_
        refine va_get (D := g.1) (ci := 8) (v := .ref qt) (C := RX8) (T := TX8) (N := 8) hx hb hts inX8_limit_8 hown hK hP 0 rfl rfl 2 (by decide) (hts (.fieldLink RX8 24 "RangeCodes" "told" "LRangeCodes$Told;") (List.mem_of_getElem? (i := 1) rfl)) (fun _ h9 => h9) rfl dX8_limit_26 ?_
        refine lv_iload_n hx hb dX8_limit_29 rfl (lv_at hl 1 rfl) ?_
        refine va_put (D := g.1) (ci := 7) (v := .int p1) (ty := .int) (C := RX7) (T := TX7) (N := 6) hx hb hts inX8_limit_7 tyX7 tyX7_ok nmX7 hown hK hP hD hS 1 rfl rfl 5 (by decide) (hts (.fieldLink RX8 125 "RangeCodes$Told" "limit" "I") (List.mem_of_getElem? (i := 2) rfl)) (fun _ h9 => h9) rfl (by decide +kernel) rfl rfl (Nat.le_of_ble_eq_true rfl) dX8_limit_30 (fun H locs hP hD hS => ?_)
        have hP : va_P g.1 vwCl [(qX, .inr (8, [.ref qP, .ref qI, .ref qt, .ref qd, .ref qe, .ref qsp, .ref qrk, .ref qty])), (qt, .inr (7, [.ref ql, .ref qr, .ref qv, .ref qg, .int parts, .int p1]))] H := hP
        have hD : va_D A [(qX, .inr (8, [.ref qP, .ref qI, .ref qt, .ref qd, .ref qe, .ref qsp, .ref qrk, .ref qty])), (qt, .inr (7, [.ref ql, .ref qr, .ref qv, .ref qg, .int parts, .int p1]))] := hD
        refine lv_iconst (v := (1 : Int32)) hx hb dX8_limit_33 (by decide) ?_
        have hP9 := hP.sub (ws' := [(qX, .inr (8, [.ref qP, .ref qI, .ref qt, .ref qd, .ref qe, .ref qsp, .ref qrk, .ref qty])), (qt, .inr (7, [.ref ql, .ref qr, .ref qv, .ref qg, .int parts, .int p1]))]) [0, 1] rfl
        have hD9 := hD.sub (ws' := [(qX, .inr (8, [.ref qP, .ref qI, .ref qt, .ref qd, .ref qe, .ref qsp, .ref qrk, .ref qty])), (qt, .inr (7, [.ref ql, .ref qr, .ref qv, .ref qg, .int parts, .int p1]))]) [0, 1] (by decide) rfl
        exact W.zret (v := (1 : Int32)) (ty := .boolean) hx hb hr rfl (fun t ht hW => ⟨⟨_, (p1), rfl, hv, by rw [ht]; exact hP9, hD9⟩, hS.F ht⟩) hS.2.2 dX8_limit_34
      · have hv := hvf hc
        refine lv_iconst (v := (0 : Int32)) hx hb dX8_limit_23 (by decide) ?_
        have hP9 := hP.sub (ws' := [(qX, .inr (8, [.ref qP, .ref qI, .ref qt, .ref qd, .ref qe, .ref qsp, .ref qrk, .ref qty])), (qt, .inr (7, [.ref ql, .ref qr, .ref qv, .ref qg, .int parts, .int limit]))]) [0, 1] rfl
        have hD9 := hD.sub (ws' := [(qX, .inr (8, [.ref qP, .ref qI, .ref qt, .ref qd, .ref qe, .ref qsp, .ref qrk, .ref qty])), (qt, .inr (7, [.ref ql, .ref qr, .ref qv, .ref qg, .int parts, .int limit]))]) [0, 1] (by decide) rfl
        exact W.zret (v := (0 : Int32)) (ty := .boolean) hx hb hr rfl (fun t ht hW => ⟨⟨_, (limit), rfl, hv, by rw [ht]; exact hP9, hD9⟩, hS.F ht⟩) hS.2.2 dX8_limit_24
abbrev preX8_limit (T : Cd) (G0 : Lg) (G1 : Lg) (lim : Nat) (parts : Int32) (limit : Int32) (p1 : Int32) : Prop := limit.toInt = (lim : Int)
abbrev postX8_limit (T : Cd) (G0 : Lg) (G1 : Lg) (lim : Nat) (parts : Int32) (limit : Int32) (p1 : Int32) (r : Int32) (limit' : Int32) : Prop := r.toInt = spLimit lim p1.toInt ∧ limit'.toInt = (nxLim lim p1.toInt : Int)
theorem sX8_limit (T : Cd) (G0 : Lg) (G1 : Lg) (lim : Nat) (parts : Int32) (limit : Int32) (p1 : Int32) (H : preX8_limit T G0 G1 lim parts limit p1) : vX8_limit parts limit p1 (postX8_limit T G0 G1 lim parts limit p1) := by
  unfold vX8_limit postX8_limit spLimit nxLim
  have H : limit.toInt = (lim : Int) := H
  rw [fa_lt p1, z1, fa_lt _ p1, z9999, fa_eq p1, H]
  refine ⟨fun a => ⟨?_, ?_⟩, fun a => ⟨fun b => ⟨?_, ?_⟩, fun b => ⟨fun c => ⟨?_, ?_⟩, fun c => ⟨?_, ?_⟩⟩⟩⟩
  · rw [if_neg (fun q => by omega)]; first | done | rfl
  · rw [if_neg (fun q => by omega)]; first | done | exact H
  · rw [if_neg (fun q => by omega)]; first | done | rfl
  · rw [if_neg (fun q => by omega)]; first | done | exact H
  · rw [if_pos ⟨by omega, c⟩]; first | done | rfl
  · rw [if_pos (by omega)]; first | done | omega
  · rw [if_neg (fun q => q.2 c)]; first | done | rfl
  · rw [if_pos (by omega)]; first | done | omega
set_option maxRecDepth 20000 in
theorem ggX8_vote_X7_hasPart : GoodIn wsX8_vote wsX7_hasPart := goodIn_r _ [7, 8, 17, 18, 19, 20, 21, 22] (by decide +kernel) (by decide +kernel)
set_option maxRecDepth 20000 in
theorem gX8_vote_X7_hasPart : GoodIn wsX8_vote (wsV RX8 119 RX7 yX7_hasPart wsX7_hasPart) := goodIn_app (goodIn_of _ (by decide +kernel)) ggX8_vote_X7_hasPart
theorem dX8_vote_0 : decode cX8_vote 0 = .ok (.aload_n 0, 1) := by decide +kernel
theorem dX8_vote_1 : decode cX8_vote 1 = .ok (.getfield 24, 3) := by decide +kernel
theorem dX8_vote_4 : decode cX8_vote 4 = .ok (.iload_n 1, 1) := by decide +kernel
theorem dX8_vote_5 : decode cX8_vote 5 = .ok (.invokevirtual 119, 3) := by decide +kernel
theorem dX8_vote_8 : decode cX8_vote 8 = .ok (.ifCond .eq 27, 3) := by decide +kernel
theorem dX8_vote_11 : decode cX8_vote 11 = .ok (.iload_n 2, 1) := by decide +kernel
theorem dX8_vote_12 : decode cX8_vote 12 = .ok (.iconst 1, 1) := by decide +kernel
theorem dX8_vote_13 : decode cX8_vote 13 = .ok (.if_icmp .lt 22, 3) := by decide +kernel
theorem dX8_vote_16 : decode cX8_vote 16 = .ok (.iload_n 2, 1) := by decide +kernel
theorem dX8_vote_17 : decode cX8_vote 17 = .ok (.bipush 9, 2) := by decide +kernel
theorem dX8_vote_19 : decode cX8_vote 19 = .ok (.if_icmp .gt 16, 3) := by decide +kernel
theorem dX8_vote_22 : decode cX8_vote 22 = .ok (.iload_n 2, 1) := by decide +kernel
theorem dX8_vote_23 : decode cX8_vote 23 = .ok (.aload_n 0, 1) := by decide +kernel
theorem dX8_vote_24 : decode cX8_vote 24 = .ok (.getfield 24, 3) := by decide +kernel
theorem dX8_vote_27 : decode cX8_vote 27 = .ok (.getfield 122, 3) := by decide +kernel
theorem dX8_vote_30 : decode cX8_vote 30 = .ok (.iload_n 1, 1) := by decide +kernel
theorem dX8_vote_31 : decode cX8_vote 31 = .ok (.iaload, 1) := by decide +kernel
theorem dX8_vote_32 : decode cX8_vote 32 = .ok (.if_icmp .ne 5, 3) := by decide +kernel
theorem dX8_vote_35 : decode cX8_vote 35 = .ok (.iconst 0, 1) := by decide +kernel
theorem dX8_vote_36 : decode cX8_vote 36 = .ok (.ireturn, 1) := by decide +kernel
theorem dX8_vote_37 : decode cX8_vote 37 = .ok (.aload_n 0, 1) := by decide +kernel
theorem dX8_vote_38 : decode cX8_vote 38 = .ok (.getfield 24, 3) := by decide +kernel
theorem dX8_vote_41 : decode cX8_vote 41 = .ok (.getfield 122, 3) := by decide +kernel
theorem dX8_vote_44 : decode cX8_vote 44 = .ok (.iload_n 1, 1) := by decide +kernel
theorem dX8_vote_45 : decode cX8_vote 45 = .ok (.iload_n 2, 1) := by decide +kernel
theorem dX8_vote_46 : decode cX8_vote 46 = .ok (.iastore, 1) := by decide +kernel
theorem dX8_vote_47 : decode cX8_vote 47 = .ok (.iconst 1, 1) := by decide +kernel
theorem dX8_vote_48 : decode cX8_vote 48 = .ok (.ireturn, 1) := by decide +kernel
abbrev rmX8_vote : Room := { frames := 1, cells := 0, slots := 0, locals := 21 }
theorem inX8_vote_7 : ∀ w ∈ wsX70, w ∈ wsX8_vote := by decide +kernel
theorem inX8_vote_8 : ∀ w ∈ wsX80, w ∈ wsX8_vote := by decide +kernel
def vX8_vote (parts : Int32) (limit : Int32) (vot : Nat → Int32) (p1 : Int32) (p2 : Int32) (Q : Int32 → (Nat → Int32) → Prop) : Prop := (preX7_hasPart parts limit p1 ∧ (∀ r_5 : Int32, postX7_hasPart parts limit p1 r_5 → ((r_5 = 0 → (Q (0 : Int32) vot)) ∧ (¬ r_5 = 0 → ((p2 < (1 : Int32) → (Q (0 : Int32) vot)) ∧ (¬ p2 < (1 : Int32) → (((9 : Int32) < p2 → (Q (0 : Int32) vot)) ∧ (¬ (9 : Int32) < p2 → (vp_in p1 5 ∧ ((¬ p2 = (vot p1.toNatClampNeg) → (vp_in p1 5 ∧ (Q (1 : Int32) (upd vot p1.toNatClampNeg p2)))) ∧ (p2 = (vot p1.toNatClampNeg) → (Q (0 : Int32) vot))))))))))))
set_option maxHeartbeats 4000000 in
set_option maxRecDepth 100000 in
theorem wX8_vote (l : Launch) (g : GP) (qX : Nat) (qP : Nat) (qI : Nat) (qt : Nat) (qd : Nat) (qe : Nat) (qsp : Nat) (qrk : Nat) (qty : Nat) (ql : Nat) (qr : Nat) (qv : Nat) (qg : Nat) (sz : Nat) (parts : Int32) (limit : Int32) (vot : Nat → Int32) (p1 : Int32) (p2 : Int32) {Q : Int32 → (Nat → Int32) → Prop} (hv : vX8_vote parts limit vot p1 p2 Q) : Met l yX8_vote wsX8_vote rmX8_vote (va_Pc [.ref qX, .int p1, .int p2] (fun U => U.heap.size = sz ∧ va_P g.1 vwCl [(qX, .inr (8, [.ref qP, .ref qI, .ref qt, .ref qd, .ref qe, .ref qsp, .ref qrk, .ref qty])), (qt, .inr (7, [.ref ql, .ref qr, .ref qv, .ref qg, .int parts, .int limit])), (qv, .inl (g.2 0, 5, .inl vot))] U.heap ∧ GK g U ∧ va_D (fun _ => True) [(qX, .inr (8, [.ref qP, .ref qI, .ref qt, .ref qd, .ref qe, .ref qsp, .ref qrk, .ref qty])), (qt, .inr (7, [.ref ql, .ref qr, .ref qv, .ref qg, .int parts, .int limit])), (qv, .inl (g.2 0, 5, .inl vot))])) (va_Qi (fun (r : Int32) (u : (Nat → Int32)) => Q r u) (fun (u : (Nat → Int32)) t => va_P g.1 vwCl [(qX, .inr (8, [.ref qP, .ref qI, .ref qt, .ref qd, .ref qe, .ref qsp, .ref qrk, .ref qty])), (qt, .inr (7, [.ref ql, .ref qr, .ref qv, .ref qg, .int parts, .int limit])), (qv, .inl (g.2 0, 5, .inl u))] t.heap ∧ va_D (va_A [(qX, .inr (8, [.ref qP, .ref qI, .ref qt, .ref qd, .ref qe, .ref qsp, .ref qrk, .ref qty])), (qt, .inr (7, [.ref ql, .ref qr, .ref qv, .ref qg, .int parts, .int limit])), (qv, .inl (g.2 0, 5, .inl vot))] sz) [(qX, .inr (8, [.ref qP, .ref qI, .ref qt, .ref qd, .ref qe, .ref qsp, .ref qrk, .ref qty])), (qt, .inr (7, [.ref ql, .ref qr, .ref qv, .ref qg, .int parts, .int limit])), (qv, .inl (g.2 0, 5, .inl u))]) (va_A [(qX, .inr (8, [.ref qP, .ref qI, .ref qt, .ref qd, .ref qe, .ref qsp, .ref qrk, .ref qty])), (qt, .inr (7, [.ref ql, .ref qr, .ref qv, .ref qg, .int parts, .int limit])), (qv, .inl (g.2 0, 5, .inl vot))] sz)) 0 0 (va_A [(qX, .inr (8, [.ref qP, .ref qI, .ref qt, .ref qd, .ref qe, .ref qsp, .ref qrk, .ref qty])), (qt, .inr (7, [.ref ql, .ref qr, .ref qv, .ref qg, .int parts, .int limit])), (qv, .inl (g.2 0, 5, .inl vot))] sz) := by
  refine Met.ofW (cc := cX8_vote) (maxL := 3) (ret := (some .boolean)) (by decide) rfl ?_
  intro p e s m args below meth c s₁ B hml hv'
  obtain ⟨rfl, hsz, hP, hG, hD0⟩ := hv'
  have S : CallFix p m c cX8_vote 3 s _ wsX8_vote RX8 := ⟨B.exec, B.bytes, hml, findClass_of_methodNamed B.named, atoms_spec (ws := wsX8_vote) B.pre⟩
  obtain ⟨hx, hb, hml, hown, hts⟩ := id S
  have hK := hG.1
  have hr := B.returns
  have hlocks := B.notSynchronized
  subst hsz
  have hD := hD0.self (sz := s.heap.size)
  generalize hAe : va_A [(qX, .inr (8, [.ref qP, .ref qI, .ref qt, .ref qd, .ref qe, .ref qsp, .ref qrk, .ref qty])), (qt, .inr (7, [.ref ql, .ref qr, .ref qv, .ref qg, .int parts, .int limit])), (qv, .inl (g.2 0, 5, .inl vot))] s.heap.size = A at hD ⊢
  have hA : ∀ q : Nat, s.heap.size ≤ q → A q := fun q h => by rw [← hAe]; exact Or.inr h
  have hS : va_S A s.heap s.heap [] := va_S.rf
  clear hD0 hAe
  have hl := lv_entry ([.ref qX, .int p1, .int p2]) (n := 3) (Nat.le_of_ble_eq_true rfl)
  rw [lg_entry_eq]
  generalize (lg_sl ([.ref qX, .int p1, .int p2]) ++ List.replicate (3 - (lg_sl ([.ref qX, .int p1, .int p2])).length) Slot.unset).toArray = ls at hl ⊢
  have hl : lv_has ls 3 [(0, .ref qX), (1, .int p1), (2, .int p2)] := hl
  unfold vX8_vote at hv
  refine lv_aload_n hx hb dX8_vote_0 rfl (lv_at hl 0 rfl) ?_
  refine va_get (D := g.1) (ci := 8) (v := .ref qt) (C := RX8) (T := TX8) (N := 8) hx hb hts inX8_vote_8 hown hK hP 0 rfl rfl 2 (by decide) (hts (.fieldLink RX8 24 "RangeCodes" "told" "LRangeCodes$Told;") (List.mem_of_getElem? (i := 1) rfl)) (fun _ h9 => h9) rfl dX8_vote_1 ?_
  refine lv_iload_n hx hb dX8_vote_4 rfl (lv_at hl 1 rfl) ?_
  obtain ⟨ho_1, hv⟩ := hv
  refine vp_callSi (W.runV (As := [.int p1]) (rest := []) S (wX7_hasPart l g qt ql qr qv qg parts limit p1 (sX7_hasPart parts limit p1 ho_1)) (cwV 1 hts gX8_vote_X7_hasPart rfl rfl rfl (by decide +kernel) ⟨Nat.le_of_ble_eq_true rfl, Nat.le_of_ble_eq_true rfl⟩) ⟨blindRO, va_recv hK hP (ci := 7) (q0 := 1) rfl rfl, fun U hU hW => ⟨rfl, by rw [hU]; exact hP.sub (ws' := [(qt, .inr (7, [.ref ql, .ref qr, .ref qv, .ref qg, .int parts, .int limit]))]) [1] rfl, hG.warm hW⟩⟩ rfl rfl hl.1 rfl (lv_room (Nat.le_of_ble_eq_true rfl)) dX8_vote_5 ⟨Nat.le_of_ble_eq_true rfl, Nat.le_of_ble_eq_true rfl⟩) (fun r_5 hr_5 => ?_)
  have hv := hv r_5 hr_5
  obtain ⟨hvt, hvf⟩ := hv
  refine lv_if_eq (tgt := 35) hx hb dX8_vote_8 (by decide) (fun hc => ?_) (fun hc => ?_)
  · have hv := hvt hc
    refine lv_iconst (v := (0 : Int32)) hx hb dX8_vote_35 (by decide) ?_
    have hP9 := hP.sub (ws' := [(qX, .inr (8, [.ref qP, .ref qI, .ref qt, .ref qd, .ref qe, .ref qsp, .ref qrk, .ref qty])), (qt, .inr (7, [.ref ql, .ref qr, .ref qv, .ref qg, .int parts, .int limit])), (qv, .inl (g.2 0, 5, .inl vot))]) [0, 1, 2] rfl
    have hD9 := hD.sub (ws' := [(qX, .inr (8, [.ref qP, .ref qI, .ref qt, .ref qd, .ref qe, .ref qsp, .ref qrk, .ref qty])), (qt, .inr (7, [.ref ql, .ref qr, .ref qv, .ref qg, .int parts, .int limit])), (qv, .inl (g.2 0, 5, .inl vot))]) [0, 1, 2] (by decide) rfl
    exact W.zret (v := (0 : Int32)) (ty := .boolean) hx hb hr rfl (fun t ht hW => ⟨⟨_, (vot), rfl, hv, by rw [ht]; exact hP9, hD9⟩, hS.F ht⟩) hS.2.2 dX8_vote_36
  · have hv := hvf hc
    refine lv_iload_n hx hb dX8_vote_11 rfl (lv_at hl 2 rfl) ?_
    refine lv_iconst (v := (1 : Int32)) hx hb dX8_vote_12 (by decide) ?_
    obtain ⟨hvt, hvf⟩ := hv
    refine lv_icmp_lt (tgt := 35) hx hb dX8_vote_13 (by decide) (fun hc => ?_) (fun hc => ?_)
    · have hv := hvt hc
      refine lv_iconst (v := (0 : Int32)) hx hb dX8_vote_35 (by decide) ?_
      have hP9 := hP.sub (ws' := [(qX, .inr (8, [.ref qP, .ref qI, .ref qt, .ref qd, .ref qe, .ref qsp, .ref qrk, .ref qty])), (qt, .inr (7, [.ref ql, .ref qr, .ref qv, .ref qg, .int parts, .int limit])), (qv, .inl (g.2 0, 5, .inl vot))]) [0, 1, 2] rfl
      have hD9 := hD.sub (ws' := [(qX, .inr (8, [.ref qP, .ref qI, .ref qt, .ref qd, .ref qe, .ref qsp, .ref qrk, .ref qty])), (qt, .inr (7, [.ref ql, .ref qr, .ref qv, .ref qg, .int parts, .int limit])), (qv, .inl (g.2 0, 5, .inl vot))]) [0, 1, 2] (by decide) rfl
      exact W.zret (v := (0 : Int32)) (ty := .boolean) hx hb hr rfl (fun t ht hW => ⟨⟨_, (vot), rfl, hv, by rw [ht]; exact hP9, hD9⟩, hS.F ht⟩) hS.2.2 dX8_vote_36
    · have hv := hvf hc
      refine lv_iload_n hx hb dX8_vote_16 rfl (lv_at hl 2 rfl) ?_
      refine lv_bipush (v := (9 : Int32)) hx hb dX8_vote_17 (by decide) ?_
      obtain ⟨hvt, hvf⟩ := hv
      refine lv_icmp_gt (tgt := 35) hx hb dX8_vote_19 (by decide) (fun hc => ?_) (fun hc => ?_)
      · have hv := hvt hc
        refine lv_iconst (v := (0 : Int32)) hx hb dX8_vote_35 (by decide) ?_
        have hP9 := hP.sub (ws' := [(qX, .inr (8, [.ref qP, .ref qI, .ref qt, .ref qd, .ref qe, .ref qsp, .ref qrk, .ref qty])), (qt, .inr (7, [.ref ql, .ref qr, .ref qv, .ref qg, .int parts, .int limit])), (qv, .inl (g.2 0, 5, .inl vot))]) [0, 1, 2] rfl
        have hD9 := hD.sub (ws' := [(qX, .inr (8, [.ref qP, .ref qI, .ref qt, .ref qd, .ref qe, .ref qsp, .ref qrk, .ref qty])), (qt, .inr (7, [.ref ql, .ref qr, .ref qv, .ref qg, .int parts, .int limit])), (qv, .inl (g.2 0, 5, .inl vot))]) [0, 1, 2] (by decide) rfl
        exact W.zret (v := (0 : Int32)) (ty := .boolean) hx hb hr rfl (fun t ht hW => ⟨⟨_, (vot), rfl, hv, by rw [ht]; exact hP9, hD9⟩, hS.F ht⟩) hS.2.2 dX8_vote_36
      · have hv := hvf hc
        refine lv_iload_n hx hb dX8_vote_22 rfl (lv_at hl 2 rfl) ?_
        refine lv_aload_n hx hb dX8_vote_23 rfl (lv_at hl 0 rfl) ?_
        refine va_get (D := g.1) (ci := 8) (v := .ref qt) (C := RX8) (T := TX8) (N := 8) hx hb hts inX8_vote_8 hown hK hP 0 rfl rfl 2 (by decide) (hts (.fieldLink RX8 24 "RangeCodes" "told" "LRangeCodes$Told;") (List.mem_of_getElem? (i := 1) rfl)) (fun _ h9 => h9) rfl dX8_vote_24 ?_
        refine va_get (D := g.1) (ci := 7) (v := .ref qv) (C := RX7) (T := TX7) (N := 6) hx hb hts inX8_vote_7 hown hK hP 1 rfl rfl 2 (by decide) (hts (.fieldLink RX8 122 "RangeCodes$Told" "votes" "[I") (List.mem_of_getElem? (i := 2) rfl)) (fun _ h9 => h9) rfl dX8_vote_27 ?_
        refine lv_iload_n hx hb dX8_vote_30 rfl (lv_at hl 1 rfl) ?_
        obtain ⟨ho_2, hv⟩ := hv
        refine va_iald hx hb hK hP 2 0 rfl rfl ho_2 dX8_vote_31 ?_
        obtain ⟨hvt, hvf⟩ := hv
        refine lv_icmp_ne (tgt := 37) hx hb dX8_vote_32 (by decide) (fun hc => ?_) (fun hc => ?_)
        · have hv := hvt hc
          refine lv_aload_n hx hb dX8_vote_37 rfl (lv_at hl 0 rfl) ?_
          refine va_get (D := g.1) (ci := 8) (v := .ref qt) (C := RX8) (T := TX8) (N := 8) hx hb hts inX8_vote_8 hown hK hP 0 rfl rfl 2 (by decide) (hts (.fieldLink RX8 24 "RangeCodes" "told" "LRangeCodes$Told;") (List.mem_of_getElem? (i := 1) rfl)) (fun _ h9 => h9) rfl dX8_vote_38 ?_
          refine va_get (D := g.1) (ci := 7) (v := .ref qv) (C := RX7) (T := TX7) (N := 6) hx hb hts inX8_vote_7 hown hK hP 1 rfl rfl 2 (by decide) (hts (.fieldLink RX8 122 "RangeCodes$Told" "votes" "[I") (List.mem_of_getElem? (i := 2) rfl)) (fun _ h9 => h9) rfl dX8_vote_41 ?_
          refine lv_iload_n hx hb dX8_vote_44 rfl (lv_at hl 1 rfl) ?_
          refine lv_iload_n hx hb dX8_vote_45 rfl (lv_at hl 2 rfl) ?_
          obtain ⟨ho_3, hv⟩ := hv
          refine va_iast hx hb hK hP hD hS 2 0 rfl rfl ho_3 dX8_vote_46 (fun H locs hP hD hS => ?_)
          have hP : va_P g.1 vwCl [(qX, .inr (8, [.ref qP, .ref qI, .ref qt, .ref qd, .ref qe, .ref qsp, .ref qrk, .ref qty])), (qt, .inr (7, [.ref ql, .ref qr, .ref qv, .ref qg, .int parts, .int limit])), (qv, .inl (g.2 0, 5, .inl (upd vot p1.toNatClampNeg p2)))] H := hP
          have hD : va_D A [(qX, .inr (8, [.ref qP, .ref qI, .ref qt, .ref qd, .ref qe, .ref qsp, .ref qrk, .ref qty])), (qt, .inr (7, [.ref ql, .ref qr, .ref qv, .ref qg, .int parts, .int limit])), (qv, .inl (g.2 0, 5, .inl (upd vot p1.toNatClampNeg p2)))] := hD
          refine lv_iconst (v := (1 : Int32)) hx hb dX8_vote_47 (by decide) ?_
          have hP9 := hP.sub (ws' := [(qX, .inr (8, [.ref qP, .ref qI, .ref qt, .ref qd, .ref qe, .ref qsp, .ref qrk, .ref qty])), (qt, .inr (7, [.ref ql, .ref qr, .ref qv, .ref qg, .int parts, .int limit])), (qv, .inl (g.2 0, 5, .inl (upd vot p1.toNatClampNeg p2)))]) [0, 1, 2] rfl
          have hD9 := hD.sub (ws' := [(qX, .inr (8, [.ref qP, .ref qI, .ref qt, .ref qd, .ref qe, .ref qsp, .ref qrk, .ref qty])), (qt, .inr (7, [.ref ql, .ref qr, .ref qv, .ref qg, .int parts, .int limit])), (qv, .inl (g.2 0, 5, .inl (upd vot p1.toNatClampNeg p2)))]) [0, 1, 2] (by decide) rfl
          exact W.zret (v := (1 : Int32)) (ty := .boolean) hx hb hr rfl (fun t ht hW => ⟨⟨_, ((upd vot p1.toNatClampNeg p2)), rfl, hv, by rw [ht]; exact hP9, hD9⟩, hS.F ht⟩) hS.2.2 dX8_vote_48
        · have hv := hvf hc
          refine lv_iconst (v := (0 : Int32)) hx hb dX8_vote_35 (by decide) ?_
          have hP9 := hP.sub (ws' := [(qX, .inr (8, [.ref qP, .ref qI, .ref qt, .ref qd, .ref qe, .ref qsp, .ref qrk, .ref qty])), (qt, .inr (7, [.ref ql, .ref qr, .ref qv, .ref qg, .int parts, .int limit])), (qv, .inl (g.2 0, 5, .inl vot))]) [0, 1, 2] rfl
          have hD9 := hD.sub (ws' := [(qX, .inr (8, [.ref qP, .ref qI, .ref qt, .ref qd, .ref qe, .ref qsp, .ref qrk, .ref qty])), (qt, .inr (7, [.ref ql, .ref qr, .ref qv, .ref qg, .int parts, .int limit])), (qv, .inl (g.2 0, 5, .inl vot))]) [0, 1, 2] (by decide) rfl
          exact W.zret (v := (0 : Int32)) (ty := .boolean) hx hb hr rfl (fun t ht hW => ⟨⟨_, (vot), rfl, hv, by rw [ht]; exact hP9, hD9⟩, hS.F ht⟩) hS.2.2 dX8_vote_36
abbrev preX8_vote (T : Cd) (G0 : Lg) (G1 : Lg) (lim : Nat) (parts : Int32) (limit : Int32) (vot : Nat → Int32) (p1 : Int32) (p2 : Int32) : Prop := isN T parts ∧ isV T vot
abbrev postX8_vote (T : Cd) (G0 : Lg) (G1 : Lg) (lim : Nat) (parts : Int32) (limit : Int32) (vot : Nat → Int32) (p1 : Int32) (p2 : Int32) (r : Int32) (vot' : Nat → Int32) : Prop := r.toInt = spVote T p1.toInt p2.toInt ∧ isV (nxVot T p1.toInt p2.toInt) vot'
theorem sX8_vote (T : Cd) (G0 : Lg) (G1 : Lg) (lim : Nat) (parts : Int32) (limit : Int32) (vot : Nat → Int32) (p1 : Int32) (p2 : Int32) (H : preX8_vote T G0 G1 lim parts limit vot p1 p2) : vX8_vote parts limit vot p1 p2 (postX8_vote T G0 G1 lim parts limit vot p1 p2) := by
  obtain ⟨hN, hV⟩ := H
  have hn5 := hN.2
  unfold postX8_vote spVote nxVot
  refine ⟨trivial, fun r hr => ?_⟩
  have hr : r = if 0 ≤ p1.toInt ∧ p1.toInt < (cn T : Int) then 1 else 0 := by rw [← hN.1]; exact hr
  rw [hr, q_if1, fa_lt p2, z1, fa_lt _ p2, z9]
  have no : ¬ ((0 ≤ p1.toInt ∧ p1.toInt < (cn T : Int)) ∧ (1 ≤ p2.toInt ∧ p2.toInt ≤ 9) ∧ p2.toInt ≠ (cV T p1.toInt.toNat : Int)) → (0 : Int32).toInt = (if ((0 ≤ p1.toInt ∧ p1.toInt < (cn T : Int)) ∧ (1 ≤ p2.toInt ∧ p2.toInt ≤ 9) ∧ p2.toInt ≠ (cV T p1.toInt.toNat : Int)) then 1 else 0) ∧ isV (if ((0 ≤ p1.toInt ∧ p1.toInt < (cn T : Int)) ∧ (1 ≤ p2.toInt ∧ p2.toInt ≤ 9) ∧ p2.toInt ≠ (cV T p1.toInt.toNat : Int)) then wV T p1.toInt.toNat p2.toInt.toNat else T) vot := fun q => by
    rw [if_neg q, if_neg q]; exact ⟨rfl, hV⟩
  refine ⟨fun a => ?_, fun a => ⟨fun b => ?_, fun b => ⟨fun c => ?_, fun c => ?_⟩⟩⟩
  · exact no (fun q => a q.1)
  · exact no (fun q => by omega)
  · exact no (fun q => by omega)
  · have a := Decidable.not_not.mp a
    have e : p1.toInt = (p1.toInt.toNat : Int) := by omega
    have hv := hV p1.toInt.toNat (by omega)
    refine ⟨q_in e (by omega), ?_⟩
    rw [q_cl e, fa_eq p2, hv.1]
    refine ⟨fun d => ⟨q_in e (by omega), ?_⟩, fun d => ?_⟩
    · have hc : ((0 ≤ p1.toInt ∧ p1.toInt < (cn T : Int)) ∧ (1 ≤ p2.toInt ∧ p2.toInt ≤ 9) ∧ p2.toInt ≠ (cV T p1.toInt.toNat : Int)) := ⟨a, ⟨by omega, by omega⟩, d⟩
      rw [if_pos hc, if_pos hc]
      refine ⟨rfl, fun q hq => ?_⟩
      show (upd vot _ _ q).toInt = ((if q = p1.toInt.toNat then p2.toInt.toNat else cV T q : Nat) : Int) ∧ (if q = p1.toInt.toNat then p2.toInt.toNat else cV T q) ≤ 9
      by_cases z : q = p1.toInt.toNat
      · subst z; rw [upd_eq, if_pos rfl]; omega
      · rw [upd_ne z, if_neg z]; exact hV q hq
    · exact no (fun q => q.2.2 d)
set_option maxRecDepth 20000 in
theorem ggX8_clean_X8_isLeg : GoodIn wsX8_clean wsX8_isLeg := goodIn_r _ [7] (by decide +kernel) (by decide +kernel)
set_option maxRecDepth 20000 in
theorem gX8_clean_X8_isLeg : GoodIn wsX8_clean (va_wsS RX8 99 yX8_isLeg wsX8_isLeg) := goodIn_app (goodIn_of _ (by decide +kernel)) ggX8_clean_X8_isLeg
theorem dX8_clean_0 : decode cX8_clean 0 = .ok (.iload_n 1, 1) := by decide +kernel
theorem dX8_clean_1 : decode cX8_clean 1 = .ok (.invokestatic 99, 3) := by decide +kernel
theorem dX8_clean_4 : decode cX8_clean 4 = .ok (.ifCond .ne 5, 3) := by decide +kernel
theorem dX8_clean_7 : decode cX8_clean 7 = .ok (.iconst (-1), 1) := by decide +kernel
theorem dX8_clean_8 : decode cX8_clean 8 = .ok (.ireturn, 1) := by decide +kernel
theorem dX8_clean_9 : decode cX8_clean 9 = .ok (.aload_n 0, 1) := by decide +kernel
theorem dX8_clean_10 : decode cX8_clean 10 = .ok (.getfield 24, 3) := by decide +kernel
theorem dX8_clean_13 : decode cX8_clean 13 = .ok (.getfield 103, 3) := by decide +kernel
theorem dX8_clean_16 : decode cX8_clean 16 = .ok (.iload_n 1, 1) := by decide +kernel
theorem dX8_clean_17 : decode cX8_clean 17 = .ok (.aaload, 1) := by decide +kernel
theorem dX8_clean_18 : decode cX8_clean 18 = .ok (.astore_n 2, 1) := by decide +kernel
theorem dX8_clean_19 : decode cX8_clean 19 = .ok (.aload_n 2, 1) := by decide +kernel
theorem dX8_clean_20 : decode cX8_clean 20 = .ok (.getfield 132, 3) := by decide +kernel
theorem dX8_clean_23 : decode cX8_clean 23 = .ok (.istore_n 3, 1) := by decide +kernel
theorem dX8_clean_24 : decode cX8_clean 24 = .ok (.aload_n 2, 1) := by decide +kernel
theorem dX8_clean_25 : decode cX8_clean 25 = .ok (.iconst 0, 1) := by decide +kernel
theorem dX8_clean_26 : decode cX8_clean 26 = .ok (.putfield 132, 3) := by decide +kernel
theorem dX8_clean_29 : decode cX8_clean 29 = .ok (.iload_n 3, 1) := by decide +kernel
theorem dX8_clean_30 : decode cX8_clean 30 = .ok (.ireturn, 1) := by decide +kernel
abbrev rmX8_clean : Room := { frames := 1, cells := 0, slots := 0, locals := 20 }
theorem inX8_clean_1 : ∀ w ∈ wsX10, w ∈ wsX8_clean := by decide +kernel
theorem inX8_clean_7 : ∀ w ∈ wsX70, w ∈ wsX8_clean := by decide +kernel
theorem inX8_clean_8 : ∀ w ∈ wsX80, w ∈ wsX8_clean := by decide +kernel
def vX8_clean (parts : Int32) (limit : Int32) (mk0 : Int32) (nu0 : Nat → Int32) (kd0 : Nat → Int32) (fi0 : Nat → Int32) (la0 : Nat → Int32) (mk1 : Int32) (nu1 : Nat → Int32) (kd1 : Nat → Int32) (fi1 : Nat → Int32) (la1 : Nat → Int32) (p1 : Int32) (Q : Int32 → (Int32) → (Int32) → Prop) : Prop := (preX8_isLeg p1 ∧ (∀ r_1 : Int32, postX8_isLeg p1 r_1 → ((¬ r_1 = 0 → (vp_in p1 2 ∧ ((p1 = nI 0 → (Q mk0 (0 : Int32) mk1)) ∧ (p1 = nI 1 → (Q mk1 mk0 (0 : Int32)))))) ∧ (r_1 = 0 → (Q (-1 : Int32) mk0 mk1)))))
set_option maxHeartbeats 4000000 in
set_option maxRecDepth 100000 in
theorem wX8_clean (l : Launch) (g : GP) (qX : Nat) (qP : Nat) (qI : Nat) (qt : Nat) (qd : Nat) (qe : Nat) (qsp : Nat) (qrk : Nat) (qty : Nat) (ql : Nat) (qr : Nat) (qv : Nat) (qg : Nat) (qG0 : Nat) (qn0 : Nat) (qk0 : Nat) (qf0 : Nat) (qs0 : Nat) (qG1 : Nat) (qn1 : Nat) (qk1 : Nat) (qf1 : Nat) (qs1 : Nat) (sz : Nat) (parts : Int32) (limit : Int32) (mk0 : Int32) (nu0 : Nat → Int32) (kd0 : Nat → Int32) (fi0 : Nat → Int32) (la0 : Nat → Int32) (mk1 : Int32) (nu1 : Nat → Int32) (kd1 : Nat → Int32) (fi1 : Nat → Int32) (la1 : Nat → Int32) (p1 : Int32) {Q : Int32 → (Int32) → (Int32) → Prop} (hv : vX8_clean parts limit mk0 nu0 kd0 fi0 la0 mk1 nu1 kd1 fi1 la1 p1 Q) : Met l yX8_clean wsX8_clean rmX8_clean (va_Pc [.ref qX, .int p1] (fun U => U.heap.size = sz ∧ va_P g.1 vwCl [(qX, .inr (8, [.ref qP, .ref qI, .ref qt, .ref qd, .ref qe, .ref qsp, .ref qrk, .ref qty])), (qt, .inr (7, [.ref ql, .ref qr, .ref qv, .ref qg, .int parts, .int limit])), (qg, .inl (g.2 4, 2, .inr (.inr (.inr (.inr (lgC qG0 qG1)))))), (qG0, .inr (1, [.ref qn0, .ref qk0, .ref qf0, .ref qs0, .int mk0])), (qn0, .inl (g.2 0, 6, .inl nu0)), (qk0, .inl (g.2 0, 10, .inl kd0)), (qf0, .inl (g.2 0, 10, .inl fi0)), (qs0, .inl (g.2 0, 10, .inl la0)), (qG1, .inr (1, [.ref qn1, .ref qk1, .ref qf1, .ref qs1, .int mk1])), (qn1, .inl (g.2 0, 6, .inl nu1)), (qk1, .inl (g.2 0, 10, .inl kd1)), (qf1, .inl (g.2 0, 10, .inl fi1)), (qs1, .inl (g.2 0, 10, .inl la1))] U.heap ∧ GK g U ∧ va_D (fun _ => True) [(qX, .inr (8, [.ref qP, .ref qI, .ref qt, .ref qd, .ref qe, .ref qsp, .ref qrk, .ref qty])), (qt, .inr (7, [.ref ql, .ref qr, .ref qv, .ref qg, .int parts, .int limit])), (qg, .inl (g.2 4, 2, .inr (.inr (.inr (.inr (lgC qG0 qG1)))))), (qG0, .inr (1, [.ref qn0, .ref qk0, .ref qf0, .ref qs0, .int mk0])), (qn0, .inl (g.2 0, 6, .inl nu0)), (qk0, .inl (g.2 0, 10, .inl kd0)), (qf0, .inl (g.2 0, 10, .inl fi0)), (qs0, .inl (g.2 0, 10, .inl la0)), (qG1, .inr (1, [.ref qn1, .ref qk1, .ref qf1, .ref qs1, .int mk1])), (qn1, .inl (g.2 0, 6, .inl nu1)), (qk1, .inl (g.2 0, 10, .inl kd1)), (qf1, .inl (g.2 0, 10, .inl fi1)), (qs1, .inl (g.2 0, 10, .inl la1))])) (va_Qi (fun (r : Int32) (u : Int32 × Int32) => Q r u.1 u.2) (fun (u : Int32 × Int32) t => va_P g.1 vwCl [(qX, .inr (8, [.ref qP, .ref qI, .ref qt, .ref qd, .ref qe, .ref qsp, .ref qrk, .ref qty])), (qt, .inr (7, [.ref ql, .ref qr, .ref qv, .ref qg, .int parts, .int limit])), (qg, .inl (g.2 4, 2, .inr (.inr (.inr (.inr (lgC qG0 qG1)))))), (qG0, .inr (1, [.ref qn0, .ref qk0, .ref qf0, .ref qs0, .int u.1])), (qn0, .inl (g.2 0, 6, .inl nu0)), (qk0, .inl (g.2 0, 10, .inl kd0)), (qf0, .inl (g.2 0, 10, .inl fi0)), (qs0, .inl (g.2 0, 10, .inl la0)), (qG1, .inr (1, [.ref qn1, .ref qk1, .ref qf1, .ref qs1, .int u.2])), (qn1, .inl (g.2 0, 6, .inl nu1)), (qk1, .inl (g.2 0, 10, .inl kd1)), (qf1, .inl (g.2 0, 10, .inl fi1)), (qs1, .inl (g.2 0, 10, .inl la1))] t.heap ∧ va_D (va_A [(qX, .inr (8, [.ref qP, .ref qI, .ref qt, .ref qd, .ref qe, .ref qsp, .ref qrk, .ref qty])), (qt, .inr (7, [.ref ql, .ref qr, .ref qv, .ref qg, .int parts, .int limit])), (qg, .inl (g.2 4, 2, .inr (.inr (.inr (.inr (lgC qG0 qG1)))))), (qG0, .inr (1, [.ref qn0, .ref qk0, .ref qf0, .ref qs0, .int mk0])), (qn0, .inl (g.2 0, 6, .inl nu0)), (qk0, .inl (g.2 0, 10, .inl kd0)), (qf0, .inl (g.2 0, 10, .inl fi0)), (qs0, .inl (g.2 0, 10, .inl la0)), (qG1, .inr (1, [.ref qn1, .ref qk1, .ref qf1, .ref qs1, .int mk1])), (qn1, .inl (g.2 0, 6, .inl nu1)), (qk1, .inl (g.2 0, 10, .inl kd1)), (qf1, .inl (g.2 0, 10, .inl fi1)), (qs1, .inl (g.2 0, 10, .inl la1))] sz) [(qX, .inr (8, [.ref qP, .ref qI, .ref qt, .ref qd, .ref qe, .ref qsp, .ref qrk, .ref qty])), (qt, .inr (7, [.ref ql, .ref qr, .ref qv, .ref qg, .int parts, .int limit])), (qg, .inl (g.2 4, 2, .inr (.inr (.inr (.inr (lgC qG0 qG1)))))), (qG0, .inr (1, [.ref qn0, .ref qk0, .ref qf0, .ref qs0, .int u.1])), (qn0, .inl (g.2 0, 6, .inl nu0)), (qk0, .inl (g.2 0, 10, .inl kd0)), (qf0, .inl (g.2 0, 10, .inl fi0)), (qs0, .inl (g.2 0, 10, .inl la0)), (qG1, .inr (1, [.ref qn1, .ref qk1, .ref qf1, .ref qs1, .int u.2])), (qn1, .inl (g.2 0, 6, .inl nu1)), (qk1, .inl (g.2 0, 10, .inl kd1)), (qf1, .inl (g.2 0, 10, .inl fi1)), (qs1, .inl (g.2 0, 10, .inl la1))]) (va_A [(qX, .inr (8, [.ref qP, .ref qI, .ref qt, .ref qd, .ref qe, .ref qsp, .ref qrk, .ref qty])), (qt, .inr (7, [.ref ql, .ref qr, .ref qv, .ref qg, .int parts, .int limit])), (qg, .inl (g.2 4, 2, .inr (.inr (.inr (.inr (lgC qG0 qG1)))))), (qG0, .inr (1, [.ref qn0, .ref qk0, .ref qf0, .ref qs0, .int mk0])), (qn0, .inl (g.2 0, 6, .inl nu0)), (qk0, .inl (g.2 0, 10, .inl kd0)), (qf0, .inl (g.2 0, 10, .inl fi0)), (qs0, .inl (g.2 0, 10, .inl la0)), (qG1, .inr (1, [.ref qn1, .ref qk1, .ref qf1, .ref qs1, .int mk1])), (qn1, .inl (g.2 0, 6, .inl nu1)), (qk1, .inl (g.2 0, 10, .inl kd1)), (qf1, .inl (g.2 0, 10, .inl fi1)), (qs1, .inl (g.2 0, 10, .inl la1))] sz)) 0 0 (va_A [(qX, .inr (8, [.ref qP, .ref qI, .ref qt, .ref qd, .ref qe, .ref qsp, .ref qrk, .ref qty])), (qt, .inr (7, [.ref ql, .ref qr, .ref qv, .ref qg, .int parts, .int limit])), (qg, .inl (g.2 4, 2, .inr (.inr (.inr (.inr (lgC qG0 qG1)))))), (qG0, .inr (1, [.ref qn0, .ref qk0, .ref qf0, .ref qs0, .int mk0])), (qn0, .inl (g.2 0, 6, .inl nu0)), (qk0, .inl (g.2 0, 10, .inl kd0)), (qf0, .inl (g.2 0, 10, .inl fi0)), (qs0, .inl (g.2 0, 10, .inl la0)), (qG1, .inr (1, [.ref qn1, .ref qk1, .ref qf1, .ref qs1, .int mk1])), (qn1, .inl (g.2 0, 6, .inl nu1)), (qk1, .inl (g.2 0, 10, .inl kd1)), (qf1, .inl (g.2 0, 10, .inl fi1)), (qs1, .inl (g.2 0, 10, .inl la1))] sz) := by
  refine Met.ofW (cc := cX8_clean) (maxL := 4) (ret := (some .int)) (by decide) rfl ?_
  intro p e s m args below meth c s₁ B hml hv'
  obtain ⟨rfl, hsz, hP, hG, hD0⟩ := hv'
  have S : CallFix p m c cX8_clean 4 s _ wsX8_clean RX8 := ⟨B.exec, B.bytes, hml, findClass_of_methodNamed B.named, atoms_spec (ws := wsX8_clean) B.pre⟩
  obtain ⟨hx, hb, hml, hown, hts⟩ := id S
  have hK := hG.1
  have hr := B.returns
  have hlocks := B.notSynchronized
  subst hsz
  have hD := hD0.self (sz := s.heap.size)
  generalize hAe : va_A [(qX, .inr (8, [.ref qP, .ref qI, .ref qt, .ref qd, .ref qe, .ref qsp, .ref qrk, .ref qty])), (qt, .inr (7, [.ref ql, .ref qr, .ref qv, .ref qg, .int parts, .int limit])), (qg, .inl (g.2 4, 2, .inr (.inr (.inr (.inr (lgC qG0 qG1)))))), (qG0, .inr (1, [.ref qn0, .ref qk0, .ref qf0, .ref qs0, .int mk0])), (qn0, .inl (g.2 0, 6, .inl nu0)), (qk0, .inl (g.2 0, 10, .inl kd0)), (qf0, .inl (g.2 0, 10, .inl fi0)), (qs0, .inl (g.2 0, 10, .inl la0)), (qG1, .inr (1, [.ref qn1, .ref qk1, .ref qf1, .ref qs1, .int mk1])), (qn1, .inl (g.2 0, 6, .inl nu1)), (qk1, .inl (g.2 0, 10, .inl kd1)), (qf1, .inl (g.2 0, 10, .inl fi1)), (qs1, .inl (g.2 0, 10, .inl la1))] s.heap.size = A at hD ⊢
  have hA : ∀ q : Nat, s.heap.size ≤ q → A q := fun q h => by rw [← hAe]; exact Or.inr h
  have hS : va_S A s.heap s.heap [] := va_S.rf
  clear hD0 hAe
  have hl := lv_entry ([.ref qX, .int p1]) (n := 4) (Nat.le_of_ble_eq_true rfl)
  rw [lg_entry_eq]
  generalize (lg_sl ([.ref qX, .int p1]) ++ List.replicate (4 - (lg_sl ([.ref qX, .int p1])).length) Slot.unset).toArray = ls at hl ⊢
  have hl : lv_has ls 4 [(0, .ref qX), (1, .int p1)] := hl
  unfold vX8_clean at hv
  refine lv_iload_n hx hb dX8_clean_0 rfl (lv_at hl 1 rfl) ?_
  obtain ⟨ho_1, hv⟩ := hv
  refine vp_callSi (W.runS (As := [.int p1]) (rest := []) S (wX8_isLeg l g p1 (sX8_isLeg p1 ho_1)) (va_cwS 1 hts gX8_clean_X8_isLeg rfl rfl rfl (by decide +kernel) ⟨Nat.le_of_ble_eq_true rfl, Nat.le_of_ble_eq_true rfl⟩) ⟨blindRO, fun U hU hW => ⟨rfl, by rw [hU]; exact hP.sub (ws' := []) [] rfl, hG.warm hW⟩⟩ rfl rfl hl.1 rfl (lv_room (Nat.le_of_ble_eq_true rfl)) dX8_clean_1 ⟨Nat.le_of_ble_eq_true rfl, Nat.le_of_ble_eq_true rfl⟩) (fun r_1 hr_1 => ?_)
  have hv := hv r_1 hr_1
  obtain ⟨hvt, hvf⟩ := hv
  refine lv_if_ne (tgt := 9) hx hb dX8_clean_4 (by decide) (fun hc => ?_) (fun hc => ?_)
  · have hv := hvt hc
    refine lv_aload_n hx hb dX8_clean_9 rfl (lv_at hl 0 rfl) ?_
    refine va_get (D := g.1) (ci := 8) (v := .ref qt) (C := RX8) (T := TX8) (N := 8) hx hb hts inX8_clean_8 hown hK hP 0 rfl rfl 2 (by decide) (hts (.fieldLink RX8 24 "RangeCodes" "told" "LRangeCodes$Told;") (List.mem_of_getElem? (i := 1) rfl)) (fun _ h9 => h9) rfl dX8_clean_10 ?_
    refine va_get (D := g.1) (ci := 7) (v := .ref qg) (C := RX7) (T := TX7) (N := 6) hx hb hts inX8_clean_7 hown hK hP 1 rfl rfl 3 (by decide) (hts (.fieldLink RX8 103 "RangeCodes$Told" "legs" "[LRangeCodes$Leg;") (List.mem_of_getElem? (i := 2) rfl)) (fun _ h9 => h9) rfl dX8_clean_13 ?_
    refine lv_iload_n hx hb dX8_clean_16 rfl (lv_at hl 1 rfl) ?_
    obtain ⟨ho_2, hv⟩ := hv
    obtain ⟨hv0, hv1⟩ := hv
    rcases two_in ho_2 with hg | hg
    · have hv := hv0 hg
      refine va_ldG hx hb hK hP 2 4 0 rfl rfl hg (by decide) (by decide) rfl dX8_clean_17 ?_
      refine lv_astore_n (lv' := [(2, .ref qG0), (0, .ref qX), (1, .int p1)]) hx hb dX8_clean_18 rfl hl (by decide) rfl (fun ls hl => ?_)
      refine lv_aload_n hx hb dX8_clean_19 rfl (lv_at hl 0 rfl) ?_
      refine va_get (D := g.1) (ci := 1) (v := .int mk0) (C := RX1) (T := TX1) (N := 5) hx hb hts inX8_clean_1 hown hK hP 3 rfl rfl 4 (by decide) (hts (.fieldLink RX8 132 "RangeCodes$Leg" "marks" "I") (List.mem_of_getElem? (i := 3) rfl)) (fun _ h9 => h9) rfl dX8_clean_20 ?_
      refine lv_istore_n (lv' := [(3, .int mk0), (2, .ref qG0), (0, .ref qX), (1, .int p1)]) hx hb dX8_clean_23 rfl hl (by decide) rfl (fun ls hl => ?_)
      refine lv_aload_n hx hb dX8_clean_24 rfl (lv_at hl 1 rfl) ?_
      refine lv_iconst (v := (0 : Int32)) hx hb dX8_clean_25 (by decide) ?_
      refine va_put (D := g.1) (ci := 1) (v := .int (0 : Int32)) (ty := .int) (C := RX1) (T := TX1) (N := 5) hx hb hts inX8_clean_1 tyX1 tyX1_ok nmX1 hown hK hP hD hS 3 rfl rfl 4 (by decide) (hts (.fieldLink RX8 132 "RangeCodes$Leg" "marks" "I") (List.mem_of_getElem? (i := 3) rfl)) (fun _ h9 => h9) rfl (by decide +kernel) rfl rfl (Nat.le_of_ble_eq_true rfl) dX8_clean_26 (fun H locs hP hD hS => ?_)
      have hP : va_P g.1 vwCl [(qX, .inr (8, [.ref qP, .ref qI, .ref qt, .ref qd, .ref qe, .ref qsp, .ref qrk, .ref qty])), (qt, .inr (7, [.ref ql, .ref qr, .ref qv, .ref qg, .int parts, .int limit])), (qg, .inl (g.2 4, 2, .inr (.inr (.inr (.inr (lgC qG0 qG1)))))), (qG0, .inr (1, [.ref qn0, .ref qk0, .ref qf0, .ref qs0, .int (0 : Int32)])), (qn0, .inl (g.2 0, 6, .inl nu0)), (qk0, .inl (g.2 0, 10, .inl kd0)), (qf0, .inl (g.2 0, 10, .inl fi0)), (qs0, .inl (g.2 0, 10, .inl la0)), (qG1, .inr (1, [.ref qn1, .ref qk1, .ref qf1, .ref qs1, .int mk1])), (qn1, .inl (g.2 0, 6, .inl nu1)), (qk1, .inl (g.2 0, 10, .inl kd1)), (qf1, .inl (g.2 0, 10, .inl fi1)), (qs1, .inl (g.2 0, 10, .inl la1))] H := hP
      have hD : va_D A [(qX, .inr (8, [.ref qP, .ref qI, .ref qt, .ref qd, .ref qe, .ref qsp, .ref qrk, .ref qty])), (qt, .inr (7, [.ref ql, .ref qr, .ref qv, .ref qg, .int parts, .int limit])), (qg, .inl (g.2 4, 2, .inr (.inr (.inr (.inr (lgC qG0 qG1)))))), (qG0, .inr (1, [.ref qn0, .ref qk0, .ref qf0, .ref qs0, .int (0 : Int32)])), (qn0, .inl (g.2 0, 6, .inl nu0)), (qk0, .inl (g.2 0, 10, .inl kd0)), (qf0, .inl (g.2 0, 10, .inl fi0)), (qs0, .inl (g.2 0, 10, .inl la0)), (qG1, .inr (1, [.ref qn1, .ref qk1, .ref qf1, .ref qs1, .int mk1])), (qn1, .inl (g.2 0, 6, .inl nu1)), (qk1, .inl (g.2 0, 10, .inl kd1)), (qf1, .inl (g.2 0, 10, .inl fi1)), (qs1, .inl (g.2 0, 10, .inl la1))] := hD
      refine lv_iload_n hx hb dX8_clean_29 rfl (lv_at hl 0 rfl) ?_
      have hP9 := hP.sub (ws' := [(qX, .inr (8, [.ref qP, .ref qI, .ref qt, .ref qd, .ref qe, .ref qsp, .ref qrk, .ref qty])), (qt, .inr (7, [.ref ql, .ref qr, .ref qv, .ref qg, .int parts, .int limit])), (qg, .inl (g.2 4, 2, .inr (.inr (.inr (.inr (lgC qG0 qG1)))))), (qG0, .inr (1, [.ref qn0, .ref qk0, .ref qf0, .ref qs0, .int (0 : Int32)])), (qn0, .inl (g.2 0, 6, .inl nu0)), (qk0, .inl (g.2 0, 10, .inl kd0)), (qf0, .inl (g.2 0, 10, .inl fi0)), (qs0, .inl (g.2 0, 10, .inl la0)), (qG1, .inr (1, [.ref qn1, .ref qk1, .ref qf1, .ref qs1, .int mk1])), (qn1, .inl (g.2 0, 6, .inl nu1)), (qk1, .inl (g.2 0, 10, .inl kd1)), (qf1, .inl (g.2 0, 10, .inl fi1)), (qs1, .inl (g.2 0, 10, .inl la1))]) [0, 1, 2, 3, 4, 5, 6, 7, 8, 9, 10, 11, 12] rfl
      have hD9 := hD.sub (ws' := [(qX, .inr (8, [.ref qP, .ref qI, .ref qt, .ref qd, .ref qe, .ref qsp, .ref qrk, .ref qty])), (qt, .inr (7, [.ref ql, .ref qr, .ref qv, .ref qg, .int parts, .int limit])), (qg, .inl (g.2 4, 2, .inr (.inr (.inr (.inr (lgC qG0 qG1)))))), (qG0, .inr (1, [.ref qn0, .ref qk0, .ref qf0, .ref qs0, .int (0 : Int32)])), (qn0, .inl (g.2 0, 6, .inl nu0)), (qk0, .inl (g.2 0, 10, .inl kd0)), (qf0, .inl (g.2 0, 10, .inl fi0)), (qs0, .inl (g.2 0, 10, .inl la0)), (qG1, .inr (1, [.ref qn1, .ref qk1, .ref qf1, .ref qs1, .int mk1])), (qn1, .inl (g.2 0, 6, .inl nu1)), (qk1, .inl (g.2 0, 10, .inl kd1)), (qf1, .inl (g.2 0, 10, .inl fi1)), (qs1, .inl (g.2 0, 10, .inl la1))]) [0, 1, 2, 3, 4, 5, 6, 7, 8, 9, 10, 11, 12] (by decide) rfl
      exact W.iret (v := mk0) hx hb hr (fun t ht hW => ⟨⟨_, ((0 : Int32), mk1), rfl, hv, by rw [ht]; exact hP9, hD9⟩, hS.F ht⟩) hS.2.2 dX8_clean_30
    · have hv := hv1 hg
      refine va_ldG hx hb hK hP 2 4 1 rfl rfl hg (by decide) (by decide) rfl dX8_clean_17 ?_
      refine lv_astore_n (lv' := [(2, .ref qG1), (0, .ref qX), (1, .int p1)]) hx hb dX8_clean_18 rfl hl (by decide) rfl (fun ls hl => ?_)
      refine lv_aload_n hx hb dX8_clean_19 rfl (lv_at hl 0 rfl) ?_
      refine va_get (D := g.1) (ci := 1) (v := .int mk1) (C := RX1) (T := TX1) (N := 5) hx hb hts inX8_clean_1 hown hK hP 8 rfl rfl 4 (by decide) (hts (.fieldLink RX8 132 "RangeCodes$Leg" "marks" "I") (List.mem_of_getElem? (i := 3) rfl)) (fun _ h9 => h9) rfl dX8_clean_20 ?_
      refine lv_istore_n (lv' := [(3, .int mk1), (2, .ref qG1), (0, .ref qX), (1, .int p1)]) hx hb dX8_clean_23 rfl hl (by decide) rfl (fun ls hl => ?_)
      refine lv_aload_n hx hb dX8_clean_24 rfl (lv_at hl 1 rfl) ?_
      refine lv_iconst (v := (0 : Int32)) hx hb dX8_clean_25 (by decide) ?_
      refine va_put (D := g.1) (ci := 1) (v := .int (0 : Int32)) (ty := .int) (C := RX1) (T := TX1) (N := 5) hx hb hts inX8_clean_1 tyX1 tyX1_ok nmX1 hown hK hP hD hS 8 rfl rfl 4 (by decide) (hts (.fieldLink RX8 132 "RangeCodes$Leg" "marks" "I") (List.mem_of_getElem? (i := 3) rfl)) (fun _ h9 => h9) rfl (by decide +kernel) rfl rfl (Nat.le_of_ble_eq_true rfl) dX8_clean_26 (fun H locs hP hD hS => ?_)
      have hP : va_P g.1 vwCl [(qX, .inr (8, [.ref qP, .ref qI, .ref qt, .ref qd, .ref qe, .ref qsp, .ref qrk, .ref qty])), (qt, .inr (7, [.ref ql, .ref qr, .ref qv, .ref qg, .int parts, .int limit])), (qg, .inl (g.2 4, 2, .inr (.inr (.inr (.inr (lgC qG0 qG1)))))), (qG0, .inr (1, [.ref qn0, .ref qk0, .ref qf0, .ref qs0, .int mk0])), (qn0, .inl (g.2 0, 6, .inl nu0)), (qk0, .inl (g.2 0, 10, .inl kd0)), (qf0, .inl (g.2 0, 10, .inl fi0)), (qs0, .inl (g.2 0, 10, .inl la0)), (qG1, .inr (1, [.ref qn1, .ref qk1, .ref qf1, .ref qs1, .int (0 : Int32)])), (qn1, .inl (g.2 0, 6, .inl nu1)), (qk1, .inl (g.2 0, 10, .inl kd1)), (qf1, .inl (g.2 0, 10, .inl fi1)), (qs1, .inl (g.2 0, 10, .inl la1))] H := hP
      have hD : va_D A [(qX, .inr (8, [.ref qP, .ref qI, .ref qt, .ref qd, .ref qe, .ref qsp, .ref qrk, .ref qty])), (qt, .inr (7, [.ref ql, .ref qr, .ref qv, .ref qg, .int parts, .int limit])), (qg, .inl (g.2 4, 2, .inr (.inr (.inr (.inr (lgC qG0 qG1)))))), (qG0, .inr (1, [.ref qn0, .ref qk0, .ref qf0, .ref qs0, .int mk0])), (qn0, .inl (g.2 0, 6, .inl nu0)), (qk0, .inl (g.2 0, 10, .inl kd0)), (qf0, .inl (g.2 0, 10, .inl fi0)), (qs0, .inl (g.2 0, 10, .inl la0)), (qG1, .inr (1, [.ref qn1, .ref qk1, .ref qf1, .ref qs1, .int (0 : Int32)])), (qn1, .inl (g.2 0, 6, .inl nu1)), (qk1, .inl (g.2 0, 10, .inl kd1)), (qf1, .inl (g.2 0, 10, .inl fi1)), (qs1, .inl (g.2 0, 10, .inl la1))] := hD
      refine lv_iload_n hx hb dX8_clean_29 rfl (lv_at hl 0 rfl) ?_
      have hP9 := hP.sub (ws' := [(qX, .inr (8, [.ref qP, .ref qI, .ref qt, .ref qd, .ref qe, .ref qsp, .ref qrk, .ref qty])), (qt, .inr (7, [.ref ql, .ref qr, .ref qv, .ref qg, .int parts, .int limit])), (qg, .inl (g.2 4, 2, .inr (.inr (.inr (.inr (lgC qG0 qG1)))))), (qG0, .inr (1, [.ref qn0, .ref qk0, .ref qf0, .ref qs0, .int mk0])), (qn0, .inl (g.2 0, 6, .inl nu0)), (qk0, .inl (g.2 0, 10, .inl kd0)), (qf0, .inl (g.2 0, 10, .inl fi0)), (qs0, .inl (g.2 0, 10, .inl la0)), (qG1, .inr (1, [.ref qn1, .ref qk1, .ref qf1, .ref qs1, .int (0 : Int32)])), (qn1, .inl (g.2 0, 6, .inl nu1)), (qk1, .inl (g.2 0, 10, .inl kd1)), (qf1, .inl (g.2 0, 10, .inl fi1)), (qs1, .inl (g.2 0, 10, .inl la1))]) [0, 1, 2, 3, 4, 5, 6, 7, 8, 9, 10, 11, 12] rfl
      have hD9 := hD.sub (ws' := [(qX, .inr (8, [.ref qP, .ref qI, .ref qt, .ref qd, .ref qe, .ref qsp, .ref qrk, .ref qty])), (qt, .inr (7, [.ref ql, .ref qr, .ref qv, .ref qg, .int parts, .int limit])), (qg, .inl (g.2 4, 2, .inr (.inr (.inr (.inr (lgC qG0 qG1)))))), (qG0, .inr (1, [.ref qn0, .ref qk0, .ref qf0, .ref qs0, .int mk0])), (qn0, .inl (g.2 0, 6, .inl nu0)), (qk0, .inl (g.2 0, 10, .inl kd0)), (qf0, .inl (g.2 0, 10, .inl fi0)), (qs0, .inl (g.2 0, 10, .inl la0)), (qG1, .inr (1, [.ref qn1, .ref qk1, .ref qf1, .ref qs1, .int (0 : Int32)])), (qn1, .inl (g.2 0, 6, .inl nu1)), (qk1, .inl (g.2 0, 10, .inl kd1)), (qf1, .inl (g.2 0, 10, .inl fi1)), (qs1, .inl (g.2 0, 10, .inl la1))]) [0, 1, 2, 3, 4, 5, 6, 7, 8, 9, 10, 11, 12] (by decide) rfl
      exact W.iret (v := mk1) hx hb hr (fun t ht hW => ⟨⟨_, (mk0, (0 : Int32)), rfl, hv, by rw [ht]; exact hP9, hD9⟩, hS.F ht⟩) hS.2.2 dX8_clean_30
  · have hv := hvf hc
    refine lv_iconst (v := (-1 : Int32)) hx hb dX8_clean_7 (by decide) ?_
    have hP9 := hP.sub (ws' := [(qX, .inr (8, [.ref qP, .ref qI, .ref qt, .ref qd, .ref qe, .ref qsp, .ref qrk, .ref qty])), (qt, .inr (7, [.ref ql, .ref qr, .ref qv, .ref qg, .int parts, .int limit])), (qg, .inl (g.2 4, 2, .inr (.inr (.inr (.inr (lgC qG0 qG1)))))), (qG0, .inr (1, [.ref qn0, .ref qk0, .ref qf0, .ref qs0, .int mk0])), (qn0, .inl (g.2 0, 6, .inl nu0)), (qk0, .inl (g.2 0, 10, .inl kd0)), (qf0, .inl (g.2 0, 10, .inl fi0)), (qs0, .inl (g.2 0, 10, .inl la0)), (qG1, .inr (1, [.ref qn1, .ref qk1, .ref qf1, .ref qs1, .int mk1])), (qn1, .inl (g.2 0, 6, .inl nu1)), (qk1, .inl (g.2 0, 10, .inl kd1)), (qf1, .inl (g.2 0, 10, .inl fi1)), (qs1, .inl (g.2 0, 10, .inl la1))]) [0, 1, 2, 3, 4, 5, 6, 7, 8, 9, 10, 11, 12] rfl
    have hD9 := hD.sub (ws' := [(qX, .inr (8, [.ref qP, .ref qI, .ref qt, .ref qd, .ref qe, .ref qsp, .ref qrk, .ref qty])), (qt, .inr (7, [.ref ql, .ref qr, .ref qv, .ref qg, .int parts, .int limit])), (qg, .inl (g.2 4, 2, .inr (.inr (.inr (.inr (lgC qG0 qG1)))))), (qG0, .inr (1, [.ref qn0, .ref qk0, .ref qf0, .ref qs0, .int mk0])), (qn0, .inl (g.2 0, 6, .inl nu0)), (qk0, .inl (g.2 0, 10, .inl kd0)), (qf0, .inl (g.2 0, 10, .inl fi0)), (qs0, .inl (g.2 0, 10, .inl la0)), (qG1, .inr (1, [.ref qn1, .ref qk1, .ref qf1, .ref qs1, .int mk1])), (qn1, .inl (g.2 0, 6, .inl nu1)), (qk1, .inl (g.2 0, 10, .inl kd1)), (qf1, .inl (g.2 0, 10, .inl fi1)), (qs1, .inl (g.2 0, 10, .inl la1))]) [0, 1, 2, 3, 4, 5, 6, 7, 8, 9, 10, 11, 12] (by decide) rfl
    exact W.iret (v := (-1 : Int32)) hx hb hr (fun t ht hW => ⟨⟨_, (mk0, mk1), rfl, hv, by rw [ht]; exact hP9, hD9⟩, hS.F ht⟩) hS.2.2 dX8_clean_8
abbrev preX8_clean (T : Cd) (G0 : Lg) (G1 : Lg) (lim : Nat) (parts : Int32) (limit : Int32) (mk0 : Int32) (nu0 : Nat → Int32) (kd0 : Nat → Int32) (fi0 : Nat → Int32) (la0 : Nat → Int32) (mk1 : Int32) (nu1 : Nat → Int32) (kd1 : Nat → Int32) (fi1 : Nat → Int32) (la1 : Nat → Int32) (p1 : Int32) : Prop := isG G0 mk0 nu0 kd0 fi0 la0 ∧ isG G1 mk1 nu1 kd1 fi1 la1
abbrev postX8_clean (T : Cd) (G0 : Lg) (G1 : Lg) (lim : Nat) (parts : Int32) (limit : Int32) (mk0 : Int32) (nu0 : Nat → Int32) (kd0 : Nat → Int32) (fi0 : Nat → Int32) (la0 : Nat → Int32) (mk1 : Int32) (nu1 : Nat → Int32) (kd1 : Nat → Int32) (fi1 : Nat → Int32) (la1 : Nat → Int32) (p1 : Int32) (r : Int32) (mk0' : Int32) (mk1' : Int32) : Prop := r.toInt = spClean G0 G1 p1.toInt ∧ isG (nxC0 G0 p1.toInt) mk0' nu0 kd0 fi0 la0 ∧ isG (nxC1 G1 p1.toInt) mk1' nu1 kd1 fi1 la1
theorem sX8_clean (T : Cd) (G0 : Lg) (G1 : Lg) (lim : Nat) (parts : Int32) (limit : Int32) (mk0 : Int32) (nu0 : Nat → Int32) (kd0 : Nat → Int32) (fi0 : Nat → Int32) (la0 : Nat → Int32) (mk1 : Int32) (nu1 : Nat → Int32) (kd1 : Nat → Int32) (fi1 : Nat → Int32) (la1 : Nat → Int32) (p1 : Int32) (H : preX8_clean T G0 G1 lim parts limit mk0 nu0 kd0 fi0 la0 mk1 nu1 kd1 fi1 la1 p1) : vX8_clean parts limit mk0 nu0 kd0 fi0 la0 mk1 nu1 kd1 fi1 la1 p1 (postX8_clean T G0 G1 lim parts limit mk0 nu0 kd0 fi0 la0 mk1 nu1 kd1 fi1 la1 p1) := by
  obtain ⟨hG0, hG1⟩ := H
  unfold postX8_clean spClean nxC0 nxC1
  refine ⟨trivial, fun r hr => ?_⟩
  have hr : r = if p1.toInt = 0 ∨ p1.toInt = 1 then 1 else 0 := hr
  rw [hr, q_if1]
  refine ⟨fun hc => ?_, fun hc => ?_⟩
  · have hc := Decidable.not_not.mp hc
    refine ⟨q_in (n := p1.toInt.toNat) (by omega) (by omega), fun e => ?_, fun e => ?_⟩
    · have e2 := nI_leg (by omega) e
      have hg : pkG G0 G1 p1.toInt.toNat = G0 := by rw [e2.2]; rfl
      rw [if_pos hc, hg, if_pos (by have := e2.1; omega), if_neg (by have := e2.1; omega)]
      exact ⟨hG0.2.1, isG_gC hG0 rfl, hG1⟩
    · have e2 := nI_leg (by omega) e
      have hg : pkG G0 G1 p1.toInt.toNat = G1 := by rw [e2.2]; rfl
      rw [if_pos hc, hg, if_neg (by have := e2.1; omega), if_pos (by have := e2.1; omega)]
      exact ⟨hG1.2.1, hG0, isG_gC hG1 rfl⟩
  · rw [if_neg hc, if_neg (by omega), if_neg (by omega)]
    exact ⟨rfl, hG0, hG1⟩
set_option maxRecDepth 20000 in
theorem ggX8_mark_X8_isLeg : GoodIn wsX8_mark wsX8_isLeg := goodIn_r _ [7] (by decide +kernel) (by decide +kernel)
set_option maxRecDepth 20000 in
theorem gX8_mark_X8_isLeg : GoodIn wsX8_mark (va_wsS RX8 99 yX8_isLeg wsX8_isLeg) := goodIn_app (goodIn_of _ (by decide +kernel)) ggX8_mark_X8_isLeg
set_option maxRecDepth 20000 in
theorem ggX8_mark_X1_addMark : GoodIn wsX8_mark wsX1_addMark := goodIn_r _ [12, 13, 14, 15, 16, 31, 32, 33, 34, 35] (by decide +kernel) (by decide +kernel)
set_option maxRecDepth 20000 in
theorem gX8_mark_X1_addMark : GoodIn wsX8_mark (wsV RX8 128 RX1 yX1_addMark wsX1_addMark) := goodIn_app (goodIn_of _ (by decide +kernel)) ggX8_mark_X1_addMark
theorem dX8_mark_0 : decode cX8_mark 0 = .ok (.iload_n 1, 1) := by decide +kernel
theorem dX8_mark_1 : decode cX8_mark 1 = .ok (.invokestatic 99, 3) := by decide +kernel
theorem dX8_mark_4 : decode cX8_mark 4 = .ok (.ifCond .eq 23, 3) := by decide +kernel
theorem dX8_mark_7 : decode cX8_mark 7 = .ok (.iload_n 2, 1) := by decide +kernel
theorem dX8_mark_8 : decode cX8_mark 8 = .ok (.ifCond .lt 19, 3) := by decide +kernel
theorem dX8_mark_11 : decode cX8_mark 11 = .ok (.iload_n 2, 1) := by decide +kernel
theorem dX8_mark_12 : decode cX8_mark 12 = .ok (.iconst 2, 1) := by decide +kernel
theorem dX8_mark_13 : decode cX8_mark 13 = .ok (.if_icmp .gt 14, 3) := by decide +kernel
theorem dX8_mark_16 : decode cX8_mark 16 = .ok (.iload_n 3, 1) := by decide +kernel
theorem dX8_mark_17 : decode cX8_mark 17 = .ok (.ifCond .lt 10, 3) := by decide +kernel
theorem dX8_mark_20 : decode cX8_mark 20 = .ok (.iload_n 3, 1) := by decide +kernel
theorem dX8_mark_21 : decode cX8_mark 21 = .ok (.sipush 200, 3) := by decide +kernel
theorem dX8_mark_24 : decode cX8_mark 24 = .ok (.if_icmp .lt 5, 3) := by decide +kernel
theorem dX8_mark_27 : decode cX8_mark 27 = .ok (.iconst (-1), 1) := by decide +kernel
theorem dX8_mark_28 : decode cX8_mark 28 = .ok (.ireturn, 1) := by decide +kernel
theorem dX8_mark_29 : decode cX8_mark 29 = .ok (.aload_n 0, 1) := by decide +kernel
theorem dX8_mark_30 : decode cX8_mark 30 = .ok (.getfield 24, 3) := by decide +kernel
theorem dX8_mark_33 : decode cX8_mark 33 = .ok (.getfield 103, 3) := by decide +kernel
theorem dX8_mark_36 : decode cX8_mark 36 = .ok (.iload_n 1, 1) := by decide +kernel
theorem dX8_mark_37 : decode cX8_mark 37 = .ok (.aaload, 1) := by decide +kernel
theorem dX8_mark_38 : decode cX8_mark 38 = .ok (.astore 4, 2) := by decide +kernel
theorem dX8_mark_40 : decode cX8_mark 40 = .ok (.aload 4, 2) := by decide +kernel
theorem dX8_mark_42 : decode cX8_mark 42 = .ok (.iload_n 2, 1) := by decide +kernel
theorem dX8_mark_43 : decode cX8_mark 43 = .ok (.iload_n 3, 1) := by decide +kernel
theorem dX8_mark_44 : decode cX8_mark 44 = .ok (.iload_n 3, 1) := by decide +kernel
theorem dX8_mark_45 : decode cX8_mark 45 = .ok (.invokevirtual 128, 3) := by decide +kernel
theorem dX8_mark_48 : decode cX8_mark 48 = .ok (.ifCond .eq 11, 3) := by decide +kernel
theorem dX8_mark_51 : decode cX8_mark 51 = .ok (.aload 4, 2) := by decide +kernel
theorem dX8_mark_53 : decode cX8_mark 53 = .ok (.getfield 132, 3) := by decide +kernel
theorem dX8_mark_56 : decode cX8_mark 56 = .ok (.goto 4, 3) := by decide +kernel
theorem dX8_mark_59 : decode cX8_mark 59 = .ok (.iconst (-1), 1) := by decide +kernel
theorem dX8_mark_60 : decode cX8_mark 60 = .ok (.ireturn, 1) := by decide +kernel
abbrev rmX8_mark : Room := { frames := 1, cells := 0, slots := 0, locals := 23 }
theorem inX8_mark_1 : ∀ w ∈ wsX10, w ∈ wsX8_mark := by decide +kernel
theorem inX8_mark_7 : ∀ w ∈ wsX70, w ∈ wsX8_mark := by decide +kernel
theorem inX8_mark_8 : ∀ w ∈ wsX80, w ∈ wsX8_mark := by decide +kernel
def vX8_mark (parts : Int32) (limit : Int32) (mk0 : Int32) (nu0 : Nat → Int32) (kd0 : Nat → Int32) (fi0 : Nat → Int32) (la0 : Nat → Int32) (mk1 : Int32) (nu1 : Nat → Int32) (kd1 : Nat → Int32) (fi1 : Nat → Int32) (la1 : Nat → Int32) (p1 : Int32) (p2 : Int32) (p3 : Int32) (Q : Int32 → (Int32) → (Nat → Int32) → (Nat → Int32) → (Nat → Int32) → (Int32) → (Nat → Int32) → (Nat → Int32) → (Nat → Int32) → Prop) : Prop := (preX8_isLeg p1 ∧ (∀ r_1 : Int32, postX8_isLeg p1 r_1 → ((r_1 = 0 → (Q (-1 : Int32) mk0 kd0 fi0 la0 mk1 kd1 fi1 la1)) ∧ (¬ r_1 = 0 → ((p2 < 0 → (Q (-1 : Int32) mk0 kd0 fi0 la0 mk1 kd1 fi1 la1)) ∧ (¬ p2 < 0 → (((2 : Int32) < p2 → (Q (-1 : Int32) mk0 kd0 fi0 la0 mk1 kd1 fi1 la1)) ∧ (¬ (2 : Int32) < p2 → ((p3 < 0 → (Q (-1 : Int32) mk0 kd0 fi0 la0 mk1 kd1 fi1 la1)) ∧ (¬ p3 < 0 → ((p3 < (200 : Int32) → (vp_in p1 2 ∧ ((p1 = nI 0 → (preX1_addMark mk0 nu0 kd0 fi0 la0 p2 p3 p3 ∧ (∀ (r_45 : Int32) (mk_45 : Int32) (kd_45 : Nat → Int32) (fi_45 : Nat → Int32) (la_45 : Nat → Int32), postX1_addMark mk0 nu0 kd0 fi0 la0 p2 p3 p3 r_45 mk_45 kd_45 fi_45 la_45 → ((r_45 = 0 → (Q (-1 : Int32) mk_45 kd_45 fi_45 la_45 mk1 kd1 fi1 la1)) ∧ (¬ r_45 = 0 → (Q mk_45 mk_45 kd_45 fi_45 la_45 mk1 kd1 fi1 la1)))))) ∧ (p1 = nI 1 → (preX1_addMark mk1 nu1 kd1 fi1 la1 p2 p3 p3 ∧ (∀ (r_45 : Int32) (mk_45 : Int32) (kd_45 : Nat → Int32) (fi_45 : Nat → Int32) (la_45 : Nat → Int32), postX1_addMark mk1 nu1 kd1 fi1 la1 p2 p3 p3 r_45 mk_45 kd_45 fi_45 la_45 → ((r_45 = 0 → (Q (-1 : Int32) mk0 kd0 fi0 la0 mk_45 kd_45 fi_45 la_45)) ∧ (¬ r_45 = 0 → (Q mk_45 mk0 kd0 fi0 la0 mk_45 kd_45 fi_45 la_45))))))))) ∧ (¬ p3 < (200 : Int32) → (Q (-1 : Int32) mk0 kd0 fi0 la0 mk1 kd1 fi1 la1)))))))))))))
set_option maxHeartbeats 4000000 in
set_option maxRecDepth 100000 in
theorem wX8_mark (l : Launch) (g : GP) (qX : Nat) (qP : Nat) (qI : Nat) (qt : Nat) (qd : Nat) (qe : Nat) (qsp : Nat) (qrk : Nat) (qty : Nat) (ql : Nat) (qr : Nat) (qv : Nat) (qg : Nat) (qG0 : Nat) (qn0 : Nat) (qk0 : Nat) (qf0 : Nat) (qs0 : Nat) (qG1 : Nat) (qn1 : Nat) (qk1 : Nat) (qf1 : Nat) (qs1 : Nat) (sz : Nat) (parts : Int32) (limit : Int32) (mk0 : Int32) (nu0 : Nat → Int32) (kd0 : Nat → Int32) (fi0 : Nat → Int32) (la0 : Nat → Int32) (mk1 : Int32) (nu1 : Nat → Int32) (kd1 : Nat → Int32) (fi1 : Nat → Int32) (la1 : Nat → Int32) (p1 : Int32) (p2 : Int32) (p3 : Int32) {Q : Int32 → (Int32) → (Nat → Int32) → (Nat → Int32) → (Nat → Int32) → (Int32) → (Nat → Int32) → (Nat → Int32) → (Nat → Int32) → Prop} (hv : vX8_mark parts limit mk0 nu0 kd0 fi0 la0 mk1 nu1 kd1 fi1 la1 p1 p2 p3 Q) : Met l yX8_mark wsX8_mark rmX8_mark (va_Pc [.ref qX, .int p1, .int p2, .int p3] (fun U => U.heap.size = sz ∧ va_P g.1 vwCl [(qX, .inr (8, [.ref qP, .ref qI, .ref qt, .ref qd, .ref qe, .ref qsp, .ref qrk, .ref qty])), (qt, .inr (7, [.ref ql, .ref qr, .ref qv, .ref qg, .int parts, .int limit])), (qg, .inl (g.2 4, 2, .inr (.inr (.inr (.inr (lgC qG0 qG1)))))), (qG0, .inr (1, [.ref qn0, .ref qk0, .ref qf0, .ref qs0, .int mk0])), (qn0, .inl (g.2 0, 6, .inl nu0)), (qk0, .inl (g.2 0, 10, .inl kd0)), (qf0, .inl (g.2 0, 10, .inl fi0)), (qs0, .inl (g.2 0, 10, .inl la0)), (qG1, .inr (1, [.ref qn1, .ref qk1, .ref qf1, .ref qs1, .int mk1])), (qn1, .inl (g.2 0, 6, .inl nu1)), (qk1, .inl (g.2 0, 10, .inl kd1)), (qf1, .inl (g.2 0, 10, .inl fi1)), (qs1, .inl (g.2 0, 10, .inl la1))] U.heap ∧ GK g U ∧ va_D (fun _ => True) [(qX, .inr (8, [.ref qP, .ref qI, .ref qt, .ref qd, .ref qe, .ref qsp, .ref qrk, .ref qty])), (qt, .inr (7, [.ref ql, .ref qr, .ref qv, .ref qg, .int parts, .int limit])), (qg, .inl (g.2 4, 2, .inr (.inr (.inr (.inr (lgC qG0 qG1)))))), (qG0, .inr (1, [.ref qn0, .ref qk0, .ref qf0, .ref qs0, .int mk0])), (qn0, .inl (g.2 0, 6, .inl nu0)), (qk0, .inl (g.2 0, 10, .inl kd0)), (qf0, .inl (g.2 0, 10, .inl fi0)), (qs0, .inl (g.2 0, 10, .inl la0)), (qG1, .inr (1, [.ref qn1, .ref qk1, .ref qf1, .ref qs1, .int mk1])), (qn1, .inl (g.2 0, 6, .inl nu1)), (qk1, .inl (g.2 0, 10, .inl kd1)), (qf1, .inl (g.2 0, 10, .inl fi1)), (qs1, .inl (g.2 0, 10, .inl la1))])) (va_Qi (fun (r : Int32) (u : Int32 × (Nat → Int32) × (Nat → Int32) × (Nat → Int32) × Int32 × (Nat → Int32) × (Nat → Int32) × (Nat → Int32)) => Q r u.1 u.2.1 u.2.2.1 u.2.2.2.1 u.2.2.2.2.1 u.2.2.2.2.2.1 u.2.2.2.2.2.2.1 u.2.2.2.2.2.2.2) (fun (u : Int32 × (Nat → Int32) × (Nat → Int32) × (Nat → Int32) × Int32 × (Nat → Int32) × (Nat → Int32) × (Nat → Int32)) t => va_P g.1 vwCl [(qX, .inr (8, [.ref qP, .ref qI, .ref qt, .ref qd, .ref qe, .ref qsp, .ref qrk, .ref qty])), (qt, .inr (7, [.ref ql, .ref qr, .ref qv, .ref qg, .int parts, .int limit])), (qg, .inl (g.2 4, 2, .inr (.inr (.inr (.inr (lgC qG0 qG1)))))), (qG0, .inr (1, [.ref qn0, .ref qk0, .ref qf0, .ref qs0, .int u.1])), (qn0, .inl (g.2 0, 6, .inl nu0)), (qk0, .inl (g.2 0, 10, .inl u.2.1)), (qf0, .inl (g.2 0, 10, .inl u.2.2.1)), (qs0, .inl (g.2 0, 10, .inl u.2.2.2.1)), (qG1, .inr (1, [.ref qn1, .ref qk1, .ref qf1, .ref qs1, .int u.2.2.2.2.1])), (qn1, .inl (g.2 0, 6, .inl nu1)), (qk1, .inl (g.2 0, 10, .inl u.2.2.2.2.2.1)), (qf1, .inl (g.2 0, 10, .inl u.2.2.2.2.2.2.1)), (qs1, .inl (g.2 0, 10, .inl u.2.2.2.2.2.2.2))] t.heap ∧ va_D (va_A [(qX, .inr (8, [.ref qP, .ref qI, .ref qt, .ref qd, .ref qe, .ref qsp, .ref qrk, .ref qty])), (qt, .inr (7, [.ref ql, .ref qr, .ref qv, .ref qg, .int parts, .int limit])), (qg, .inl (g.2 4, 2, .inr (.inr (.inr (.inr (lgC qG0 qG1)))))), (qG0, .inr (1, [.ref qn0, .ref qk0, .ref qf0, .ref qs0, .int mk0])), (qn0, .inl (g.2 0, 6, .inl nu0)), (qk0, .inl (g.2 0, 10, .inl kd0)), (qf0, .inl (g.2 0, 10, .inl fi0)), (qs0, .inl (g.2 0, 10, .inl la0)), (qG1, .inr (1, [.ref qn1, .ref qk1, .ref qf1, .ref qs1, .int mk1])), (qn1, .inl (g.2 0, 6, .inl nu1)), (qk1, .inl (g.2 0, 10, .inl kd1)), (qf1, .inl (g.2 0, 10, .inl fi1)), (qs1, .inl (g.2 0, 10, .inl la1))] sz) [(qX, .inr (8, [.ref qP, .ref qI, .ref qt, .ref qd, .ref qe, .ref qsp, .ref qrk, .ref qty])), (qt, .inr (7, [.ref ql, .ref qr, .ref qv, .ref qg, .int parts, .int limit])), (qg, .inl (g.2 4, 2, .inr (.inr (.inr (.inr (lgC qG0 qG1)))))), (qG0, .inr (1, [.ref qn0, .ref qk0, .ref qf0, .ref qs0, .int u.1])), (qn0, .inl (g.2 0, 6, .inl nu0)), (qk0, .inl (g.2 0, 10, .inl u.2.1)), (qf0, .inl (g.2 0, 10, .inl u.2.2.1)), (qs0, .inl (g.2 0, 10, .inl u.2.2.2.1)), (qG1, .inr (1, [.ref qn1, .ref qk1, .ref qf1, .ref qs1, .int u.2.2.2.2.1])), (qn1, .inl (g.2 0, 6, .inl nu1)), (qk1, .inl (g.2 0, 10, .inl u.2.2.2.2.2.1)), (qf1, .inl (g.2 0, 10, .inl u.2.2.2.2.2.2.1)), (qs1, .inl (g.2 0, 10, .inl u.2.2.2.2.2.2.2))]) (va_A [(qX, .inr (8, [.ref qP, .ref qI, .ref qt, .ref qd, .ref qe, .ref qsp, .ref qrk, .ref qty])), (qt, .inr (7, [.ref ql, .ref qr, .ref qv, .ref qg, .int parts, .int limit])), (qg, .inl (g.2 4, 2, .inr (.inr (.inr (.inr (lgC qG0 qG1)))))), (qG0, .inr (1, [.ref qn0, .ref qk0, .ref qf0, .ref qs0, .int mk0])), (qn0, .inl (g.2 0, 6, .inl nu0)), (qk0, .inl (g.2 0, 10, .inl kd0)), (qf0, .inl (g.2 0, 10, .inl fi0)), (qs0, .inl (g.2 0, 10, .inl la0)), (qG1, .inr (1, [.ref qn1, .ref qk1, .ref qf1, .ref qs1, .int mk1])), (qn1, .inl (g.2 0, 6, .inl nu1)), (qk1, .inl (g.2 0, 10, .inl kd1)), (qf1, .inl (g.2 0, 10, .inl fi1)), (qs1, .inl (g.2 0, 10, .inl la1))] sz)) 0 0 (va_A [(qX, .inr (8, [.ref qP, .ref qI, .ref qt, .ref qd, .ref qe, .ref qsp, .ref qrk, .ref qty])), (qt, .inr (7, [.ref ql, .ref qr, .ref qv, .ref qg, .int parts, .int limit])), (qg, .inl (g.2 4, 2, .inr (.inr (.inr (.inr (lgC qG0 qG1)))))), (qG0, .inr (1, [.ref qn0, .ref qk0, .ref qf0, .ref qs0, .int mk0])), (qn0, .inl (g.2 0, 6, .inl nu0)), (qk0, .inl (g.2 0, 10, .inl kd0)), (qf0, .inl (g.2 0, 10, .inl fi0)), (qs0, .inl (g.2 0, 10, .inl la0)), (qG1, .inr (1, [.ref qn1, .ref qk1, .ref qf1, .ref qs1, .int mk1])), (qn1, .inl (g.2 0, 6, .inl nu1)), (qk1, .inl (g.2 0, 10, .inl kd1)), (qf1, .inl (g.2 0, 10, .inl fi1)), (qs1, .inl (g.2 0, 10, .inl la1))] sz) := by
  refine Met.ofW (cc := cX8_mark) (maxL := 5) (ret := (some .int)) (by decide) rfl ?_
  intro p e s m args below meth c s₁ B hml hv'
  obtain ⟨rfl, hsz, hP, hG, hD0⟩ := hv'
  have S : CallFix p m c cX8_mark 5 s _ wsX8_mark RX8 := ⟨B.exec, B.bytes, hml, findClass_of_methodNamed B.named, atoms_spec (ws := wsX8_mark) B.pre⟩
  obtain ⟨hx, hb, hml, hown, hts⟩ := id S
  have hK := hG.1
  have hr := B.returns
  have hlocks := B.notSynchronized
  subst hsz
  have hD := hD0.self (sz := s.heap.size)
  generalize hAe : va_A [(qX, .inr (8, [.ref qP, .ref qI, .ref qt, .ref qd, .ref qe, .ref qsp, .ref qrk, .ref qty])), (qt, .inr (7, [.ref ql, .ref qr, .ref qv, .ref qg, .int parts, .int limit])), (qg, .inl (g.2 4, 2, .inr (.inr (.inr (.inr (lgC qG0 qG1)))))), (qG0, .inr (1, [.ref qn0, .ref qk0, .ref qf0, .ref qs0, .int mk0])), (qn0, .inl (g.2 0, 6, .inl nu0)), (qk0, .inl (g.2 0, 10, .inl kd0)), (qf0, .inl (g.2 0, 10, .inl fi0)), (qs0, .inl (g.2 0, 10, .inl la0)), (qG1, .inr (1, [.ref qn1, .ref qk1, .ref qf1, .ref qs1, .int mk1])), (qn1, .inl (g.2 0, 6, .inl nu1)), (qk1, .inl (g.2 0, 10, .inl kd1)), (qf1, .inl (g.2 0, 10, .inl fi1)), (qs1, .inl (g.2 0, 10, .inl la1))] s.heap.size = A at hD ⊢
  have hA : ∀ q : Nat, s.heap.size ≤ q → A q := fun q h => by rw [← hAe]; exact Or.inr h
  have hS : va_S A s.heap s.heap [] := va_S.rf
  clear hD0 hAe
  have hl := lv_entry ([.ref qX, .int p1, .int p2, .int p3]) (n := 5) (Nat.le_of_ble_eq_true rfl)
  rw [lg_entry_eq]
  generalize (lg_sl ([.ref qX, .int p1, .int p2, .int p3]) ++ List.replicate (5 - (lg_sl ([.ref qX, .int p1, .int p2, .int p3])).length) Slot.unset).toArray = ls at hl ⊢
  have hl : lv_has ls 5 [(0, .ref qX), (1, .int p1), (2, .int p2), (3, .int p3)] := hl
  unfold vX8_mark at hv
  refine lv_iload_n hx hb dX8_mark_0 rfl (lv_at hl 1 rfl) ?_
  obtain ⟨ho_1, hv⟩ := hv
  refine vp_callSi (W.runS (As := [.int p1]) (rest := []) S (wX8_isLeg l g p1 (sX8_isLeg p1 ho_1)) (va_cwS 1 hts gX8_mark_X8_isLeg rfl rfl rfl (by decide +kernel) ⟨Nat.le_of_ble_eq_true rfl, Nat.le_of_ble_eq_true rfl⟩) ⟨blindRO, fun U hU hW => ⟨rfl, by rw [hU]; exact hP.sub (ws' := []) [] rfl, hG.warm hW⟩⟩ rfl rfl hl.1 rfl (lv_room (Nat.le_of_ble_eq_true rfl)) dX8_mark_1 ⟨Nat.le_of_ble_eq_true rfl, Nat.le_of_ble_eq_true rfl⟩) (fun r_1 hr_1 => ?_)
  have hv := hv r_1 hr_1
  obtain ⟨hvt, hvf⟩ := hv
  refine lv_if_eq (tgt := 27) hx hb dX8_mark_4 (by decide) (fun hc => ?_) (fun hc => ?_)
  · have hv := hvt hc
    refine lv_iconst (v := (-1 : Int32)) hx hb dX8_mark_27 (by decide) ?_
    have hP9 := hP.sub (ws' := [(qX, .inr (8, [.ref qP, .ref qI, .ref qt, .ref qd, .ref qe, .ref qsp, .ref qrk, .ref qty])), (qt, .inr (7, [.ref ql, .ref qr, .ref qv, .ref qg, .int parts, .int limit])), (qg, .inl (g.2 4, 2, .inr (.inr (.inr (.inr (lgC qG0 qG1)))))), (qG0, .inr (1, [.ref qn0, .ref qk0, .ref qf0, .ref qs0, .int mk0])), (qn0, .inl (g.2 0, 6, .inl nu0)), (qk0, .inl (g.2 0, 10, .inl kd0)), (qf0, .inl (g.2 0, 10, .inl fi0)), (qs0, .inl (g.2 0, 10, .inl la0)), (qG1, .inr (1, [.ref qn1, .ref qk1, .ref qf1, .ref qs1, .int mk1])), (qn1, .inl (g.2 0, 6, .inl nu1)), (qk1, .inl (g.2 0, 10, .inl kd1)), (qf1, .inl (g.2 0, 10, .inl fi1)), (qs1, .inl (g.2 0, 10, .inl la1))]) [0, 1, 2, 3, 4, 5, 6, 7, 8, 9, 10, 11, 12] rfl
    have hD9 := hD.sub (ws' := [(qX, .inr (8, [.ref qP, .ref qI, .ref qt, .ref qd, .ref qe, .ref qsp, .ref qrk, .ref qty])), (qt, .inr (7, [.ref ql, .ref qr, .ref qv, .ref qg, .int parts, .int limit])), (qg, .inl (g.2 4, 2, .inr (.inr (.inr (.inr (lgC qG0 qG1)))))), (qG0, .inr (1, [.ref qn0, .ref qk0, .ref qf0, .ref qs0, .int mk0])), (qn0, .inl (g.2 0, 6, .inl nu0)), (qk0, .inl (g.2 0, 10, .inl kd0)), (qf0, .inl (g.2 0, 10, .inl fi0)), (qs0, .inl (g.2 0, 10, .inl la0)), (qG1, .inr (1, [.ref qn1, .ref qk1, .ref qf1, .ref qs1, .int mk1])), (qn1, .inl (g.2 0, 6, .inl nu1)), (qk1, .inl (g.2 0, 10, .inl kd1)), (qf1, .inl (g.2 0, 10, .inl fi1)), (qs1, .inl (g.2 0, 10, .inl la1))]) [0, 1, 2, 3, 4, 5, 6, 7, 8, 9, 10, 11, 12] (by decide) rfl
    exact W.iret (v := (-1 : Int32)) hx hb hr (fun t ht hW => ⟨⟨_, (mk0, kd0, fi0, la0, mk1, kd1, fi1, la1), rfl, hv, by rw [ht]; exact hP9, hD9⟩, hS.F ht⟩) hS.2.2 dX8_mark_28
  · have hv := hvf hc
    refine lv_iload_n hx hb dX8_mark_7 rfl (lv_at hl 2 rfl) ?_
    obtain ⟨hvt, hvf⟩ := hv
    refine lv_if_lt (tgt := 27) hx hb dX8_mark_8 (by decide) (fun hc => ?_) (fun hc => ?_)
    · have hv := hvt hc
      refine lv_iconst (v := (-1 : Int32)) hx hb dX8_mark_27 (by decide) ?_
      have hP9 := hP.sub (ws' := [(qX, .inr (8, [.ref qP, .ref qI, .ref qt, .ref qd, .ref qe, .ref qsp, .ref qrk, .ref qty])), (qt, .inr (7, [.ref ql, .ref qr, .ref qv, .ref qg, .int parts, .int limit])), (qg, .inl (g.2 4, 2, .inr (.inr (.inr (.inr (lgC qG0 qG1)))))), (qG0, .inr (1, [.ref qn0, .ref qk0, .ref qf0, .ref qs0, .int mk0])), (qn0, .inl (g.2 0, 6, .inl nu0)), (qk0, .inl (g.2 0, 10, .inl kd0)), (qf0, .inl (g.2 0, 10, .inl fi0)), (qs0, .inl (g.2 0, 10, .inl la0)), (qG1, .inr (1, [.ref qn1, .ref qk1, .ref qf1, .ref qs1, .int mk1])), (qn1, .inl (g.2 0, 6, .inl nu1)), (qk1, .inl (g.2 0, 10, .inl kd1)), (qf1, .inl (g.2 0, 10, .inl fi1)), (qs1, .inl (g.2 0, 10, .inl la1))]) [0, 1, 2, 3, 4, 5, 6, 7, 8, 9, 10, 11, 12] rfl
      have hD9 := hD.sub (ws' := [(qX, .inr (8, [.ref qP, .ref qI, .ref qt, .ref qd, .ref qe, .ref qsp, .ref qrk, .ref qty])), (qt, .inr (7, [.ref ql, .ref qr, .ref qv, .ref qg, .int parts, .int limit])), (qg, .inl (g.2 4, 2, .inr (.inr (.inr (.inr (lgC qG0 qG1)))))), (qG0, .inr (1, [.ref qn0, .ref qk0, .ref qf0, .ref qs0, .int mk0])), (qn0, .inl (g.2 0, 6, .inl nu0)), (qk0, .inl (g.2 0, 10, .inl kd0)), (qf0, .inl (g.2 0, 10, .inl fi0)), (qs0, .inl (g.2 0, 10, .inl la0)), (qG1, .inr (1, [.ref qn1, .ref qk1, .ref qf1, .ref qs1, .int mk1])), (qn1, .inl (g.2 0, 6, .inl nu1)), (qk1, .inl (g.2 0, 10, .inl kd1)), (qf1, .inl (g.2 0, 10, .inl fi1)), (qs1, .inl (g.2 0, 10, .inl la1))]) [0, 1, 2, 3, 4, 5, 6, 7, 8, 9, 10, 11, 12] (by decide) rfl
      exact W.iret (v := (-1 : Int32)) hx hb hr (fun t ht hW => ⟨⟨_, (mk0, kd0, fi0, la0, mk1, kd1, fi1, la1), rfl, hv, by rw [ht]; exact hP9, hD9⟩, hS.F ht⟩) hS.2.2 dX8_mark_28
    · have hv := hvf hc
      refine lv_iload_n hx hb dX8_mark_11 rfl (lv_at hl 2 rfl) ?_
      refine lv_iconst (v := (2 : Int32)) hx hb dX8_mark_12 (by decide) ?_
      obtain ⟨hvt, hvf⟩ := hv
      refine lv_icmp_gt (tgt := 27) hx hb dX8_mark_13 (by decide) (fun hc => ?_) (fun hc => ?_)
      · have hv := hvt hc
        refine lv_iconst (v := (-1 : Int32)) hx hb dX8_mark_27 (by decide) ?_
        have hP9 := hP.sub (ws' := [(qX, .inr (8, [.ref qP, .ref qI, .ref qt, .ref qd, .ref qe, .ref qsp, .ref qrk, .ref qty])), (qt, .inr (7, [.ref ql, .ref qr, .ref qv, .ref qg, .int parts, .int limit])), (qg, .inl (g.2 4, 2, .inr (.inr (.inr (.inr (lgC qG0 qG1)))))), (qG0, .inr (1, [.ref qn0, .ref qk0, .ref qf0, .ref qs0, .int mk0])), (qn0, .inl (g.2 0, 6, .inl nu0)), (qk0, .inl (g.2 0, 10, .inl kd0)), (qf0, .inl (g.2 0, 10, .inl fi0)), (qs0, .inl (g.2 0, 10, .inl la0)), (qG1, .inr (1, [.ref qn1, .ref qk1, .ref qf1, .ref qs1, .int mk1])), (qn1, .inl (g.2 0, 6, .inl nu1)), (qk1, .inl (g.2 0, 10, .inl kd1)), (qf1, .inl (g.2 0, 10, .inl fi1)), (qs1, .inl (g.2 0, 10, .inl la1))]) [0, 1, 2, 3, 4, 5, 6, 7, 8, 9, 10, 11, 12] rfl
        have hD9 := hD.sub (ws' := [(qX, .inr (8, [.ref qP, .ref qI, .ref qt, .ref qd, .ref qe, .ref qsp, .ref qrk, .ref qty])), (qt, .inr (7, [.ref ql, .ref qr, .ref qv, .ref qg, .int parts, .int limit])), (qg, .inl (g.2 4, 2, .inr (.inr (.inr (.inr (lgC qG0 qG1)))))), (qG0, .inr (1, [.ref qn0, .ref qk0, .ref qf0, .ref qs0, .int mk0])), (qn0, .inl (g.2 0, 6, .inl nu0)), (qk0, .inl (g.2 0, 10, .inl kd0)), (qf0, .inl (g.2 0, 10, .inl fi0)), (qs0, .inl (g.2 0, 10, .inl la0)), (qG1, .inr (1, [.ref qn1, .ref qk1, .ref qf1, .ref qs1, .int mk1])), (qn1, .inl (g.2 0, 6, .inl nu1)), (qk1, .inl (g.2 0, 10, .inl kd1)), (qf1, .inl (g.2 0, 10, .inl fi1)), (qs1, .inl (g.2 0, 10, .inl la1))]) [0, 1, 2, 3, 4, 5, 6, 7, 8, 9, 10, 11, 12] (by decide) rfl
        exact W.iret (v := (-1 : Int32)) hx hb hr (fun t ht hW => ⟨⟨_, (mk0, kd0, fi0, la0, mk1, kd1, fi1, la1), rfl, hv, by rw [ht]; exact hP9, hD9⟩, hS.F ht⟩) hS.2.2 dX8_mark_28
      · have hv := hvf hc
        refine lv_iload_n hx hb dX8_mark_16 rfl (lv_at hl 3 rfl) ?_
        obtain ⟨hvt, hvf⟩ := hv
        refine lv_if_lt (tgt := 27) hx hb dX8_mark_17 (by decide) (fun hc => ?_) (fun hc => ?_)
        · have hv := hvt hc
          refine lv_iconst (v := (-1 : Int32)) hx hb dX8_mark_27 (by decide) ?_
          have hP9 := hP.sub (ws' := [(qX, .inr (8, [.ref qP, .ref qI, .ref qt, .ref qd, .ref qe, .ref qsp, .ref qrk, .ref qty])), (qt, .inr (7, [.ref ql, .ref qr, .ref qv, .ref qg, .int parts, .int limit])), (qg, .inl (g.2 4, 2, .inr (.inr (.inr (.inr (lgC qG0 qG1)))))), (qG0, .inr (1, [.ref qn0, .ref qk0, .ref qf0, .ref qs0, .int mk0])), (qn0, .inl (g.2 0, 6, .inl nu0)), (qk0, .inl (g.2 0, 10, .inl kd0)), (qf0, .inl (g.2 0, 10, .inl fi0)), (qs0, .inl (g.2 0, 10, .inl la0)), (qG1, .inr (1, [.ref qn1, .ref qk1, .ref qf1, .ref qs1, .int mk1])), (qn1, .inl (g.2 0, 6, .inl nu1)), (qk1, .inl (g.2 0, 10, .inl kd1)), (qf1, .inl (g.2 0, 10, .inl fi1)), (qs1, .inl (g.2 0, 10, .inl la1))]) [0, 1, 2, 3, 4, 5, 6, 7, 8, 9, 10, 11, 12] rfl
          have hD9 := hD.sub (ws' := [(qX, .inr (8, [.ref qP, .ref qI, .ref qt, .ref qd, .ref qe, .ref qsp, .ref qrk, .ref qty])), (qt, .inr (7, [.ref ql, .ref qr, .ref qv, .ref qg, .int parts, .int limit])), (qg, .inl (g.2 4, 2, .inr (.inr (.inr (.inr (lgC qG0 qG1)))))), (qG0, .inr (1, [.ref qn0, .ref qk0, .ref qf0, .ref qs0, .int mk0])), (qn0, .inl (g.2 0, 6, .inl nu0)), (qk0, .inl (g.2 0, 10, .inl kd0)), (qf0, .inl (g.2 0, 10, .inl fi0)), (qs0, .inl (g.2 0, 10, .inl la0)), (qG1, .inr (1, [.ref qn1, .ref qk1, .ref qf1, .ref qs1, .int mk1])), (qn1, .inl (g.2 0, 6, .inl nu1)), (qk1, .inl (g.2 0, 10, .inl kd1)), (qf1, .inl (g.2 0, 10, .inl fi1)), (qs1, .inl (g.2 0, 10, .inl la1))]) [0, 1, 2, 3, 4, 5, 6, 7, 8, 9, 10, 11, 12] (by decide) rfl
          exact W.iret (v := (-1 : Int32)) hx hb hr (fun t ht hW => ⟨⟨_, (mk0, kd0, fi0, la0, mk1, kd1, fi1, la1), rfl, hv, by rw [ht]; exact hP9, hD9⟩, hS.F ht⟩) hS.2.2 dX8_mark_28
        · have hv := hvf hc
          refine lv_iload_n hx hb dX8_mark_20 rfl (lv_at hl 3 rfl) ?_
          refine lv_sipush (v := (200 : Int32)) hx hb dX8_mark_21 (by decide) ?_
          obtain ⟨hvt, hvf⟩ := hv
          refine lv_icmp_lt (tgt := 29) hx hb dX8_mark_24 (by decide) (fun hc => ?_) (fun hc => ?_)
          · have hv := hvt hc
            refine lv_aload_n hx hb dX8_mark_29 rfl (lv_at hl 0 rfl) ?_
            refine va_get (D := g.1) (ci := 8) (v := .ref qt) (C := RX8) (T := TX8) (N := 8) hx hb hts inX8_mark_8 hown hK hP 0 rfl rfl 2 (by decide) (hts (.fieldLink RX8 24 "RangeCodes" "told" "LRangeCodes$Told;") (List.mem_of_getElem? (i := 1) rfl)) (fun _ h9 => h9) rfl dX8_mark_30 ?_
            refine va_get (D := g.1) (ci := 7) (v := .ref qg) (C := RX7) (T := TX7) (N := 6) hx hb hts inX8_mark_7 hown hK hP 1 rfl rfl 3 (by decide) (hts (.fieldLink RX8 103 "RangeCodes$Told" "legs" "[LRangeCodes$Leg;") (List.mem_of_getElem? (i := 2) rfl)) (fun _ h9 => h9) rfl dX8_mark_33 ?_
            refine lv_iload_n hx hb dX8_mark_36 rfl (lv_at hl 1 rfl) ?_
            obtain ⟨ho_2, hv⟩ := hv
            obtain ⟨hv0, hv1⟩ := hv
            rcases two_in ho_2 with hg | hg
            · have hv := hv0 hg
              refine va_ldG hx hb hK hP 2 4 0 rfl rfl hg (by decide) (by decide) rfl dX8_mark_37 ?_
              refine lv_astore (lv' := [(4, .ref qG0), (0, .ref qX), (1, .int p1), (2, .int p2), (3, .int p3)]) hx hb dX8_mark_38 hl (by decide) rfl (fun ls hl => ?_)
              refine lv_aload hx hb dX8_mark_40 (lv_at hl 0 rfl) ?_
              refine lv_iload_n hx hb dX8_mark_42 rfl (lv_at hl 3 rfl) ?_
              refine lv_iload_n hx hb dX8_mark_43 rfl (lv_at hl 4 rfl) ?_
              refine lv_iload_n hx hb dX8_mark_44 rfl (lv_at hl 4 rfl) ?_
              obtain ⟨ho_3, hv⟩ := hv
              have hPc := hP.sub (ws' := [(qG0, .inr (1, [.ref qn0, .ref qk0, .ref qf0, .ref qs0, .int mk0])), (qn0, .inl (g.2 0, 6, .inl nu0)), (qk0, .inl (g.2 0, 10, .inl kd0)), (qf0, .inl (g.2 0, 10, .inl fi0)), (qs0, .inl (g.2 0, 10, .inl la0))]) [3, 4, 5, 6, 7] rfl
              have hDc := hD.sub (ws' := [(qG0, .inr (1, [.ref qn0, .ref qk0, .ref qf0, .ref qs0, .int mk0])), (qn0, .inl (g.2 0, 6, .inl nu0)), (qk0, .inl (g.2 0, 10, .inl kd0)), (qf0, .inl (g.2 0, 10, .inl fi0)), (qs0, .inl (g.2 0, 10, .inl la0))]) [3, 4, 5, 6, 7] (by decide) rfl
              have hFc := va_free (wc := [(qG0, .inr (1, [.ref qn0, .ref qk0, .ref qf0, .ref qs0, .int mk0])), (qn0, .inl (g.2 0, 6, .inl nu0)), (qk0, .inl (g.2 0, 10, .inl kd0)), (qf0, .inl (g.2 0, 10, .inl fi0)), (qs0, .inl (g.2 0, 10, .inl la0))]) hD hS hA [3, 4, 5, 6, 7] rfl
              refine va_calli (va_runV (As := [.int p2, .int p3, .int p3]) (rest := []) S (wX1_addMark l g qG0 qn0 qk0 qf0 qs0 s.heap.size mk0 nu0 kd0 fi0 la0 p2 p3 p3 (sX1_addMark mk0 nu0 kd0 fi0 la0 p2 p3 p3 ho_3)) (cwV 3 hts gX8_mark_X1_addMark rfl rfl rfl (by decide +kernel) ⟨Nat.le_of_ble_eq_true rfl, Nat.le_of_ble_eq_true rfl⟩) ⟨blindRW, va_recv hK hP (ci := 1) (q0 := 3) rfl rfl, fun U hU hW => ⟨rfl, by rw [hU], by rw [hU]; exact hPc, hG.warm hW, hDc.weaken (fun _ _ _ _ => trivial)⟩⟩ rfl rfl hl.1 rfl (lv_room (Nat.le_of_ble_eq_true rfl)) dX8_mark_45 ⟨Nat.le_of_ble_eq_true rfl, Nat.le_of_ble_eq_true rfl⟩) hS (fun q _ h => hFc q h) hFc (fun r_45 u t H1 locs ht hvm hw hB hz1 hk1 hS => ?_)
              obtain ⟨mk_45, kd_45, fi_45, la_45⟩ := u
              obtain ⟨hP1, hD1⟩ := hB
              rw [ht] at hP1
              have hv := hv r_45 mk_45 kd_45 fi_45 la_45 hw
              obtain ⟨hP, hD⟩ := va_join (wr := [(qX, .inr (8, [.ref qP, .ref qI, .ref qt, .ref qd, .ref qe, .ref qsp, .ref qrk, .ref qty])), (qt, .inr (7, [.ref ql, .ref qr, .ref qv, .ref qg, .int parts, .int limit])), (qg, .inl (g.2 4, 2, .inr (.inr (.inr (.inr (lgC qG0 qG1)))))), (qG1, .inr (1, [.ref qn1, .ref qk1, .ref qf1, .ref qs1, .int mk1])), (qn1, .inl (g.2 0, 6, .inl nu1)), (qk1, .inl (g.2 0, 10, .inl kd1)), (qf1, .inl (g.2 0, 10, .inl fi1)), (qs1, .inl (g.2 0, 10, .inl la1))]) (w1 := [(qG0, .inr (1, [.ref qn0, .ref qk0, .ref qf0, .ref qs0, .int mk_45])), (qn0, .inl (g.2 0, 6, .inl nu0)), (qk0, .inl (g.2 0, 10, .inl kd_45)), (qf0, .inl (g.2 0, 10, .inl fi_45)), (qs0, .inl (g.2 0, 10, .inl la_45))]) hP hD [3, 4, 5, 6, 7] [0, 1, 2, 8, 9, 10, 11, 12] rfl rfl (by decide) (by decide) hk1 hFc hP1 hD1
              clear hP1 hD1 hPc hDc hFc hk1
              generalize H1 = H at hP hS ⊢
              have hP : va_P g.1 vwCl [(qX, .inr (8, [.ref qP, .ref qI, .ref qt, .ref qd, .ref qe, .ref qsp, .ref qrk, .ref qty])), (qt, .inr (7, [.ref ql, .ref qr, .ref qv, .ref qg, .int parts, .int limit])), (qg, .inl (g.2 4, 2, .inr (.inr (.inr (.inr (lgC qG0 qG1)))))), (qG1, .inr (1, [.ref qn1, .ref qk1, .ref qf1, .ref qs1, .int mk1])), (qn1, .inl (g.2 0, 6, .inl nu1)), (qk1, .inl (g.2 0, 10, .inl kd1)), (qf1, .inl (g.2 0, 10, .inl fi1)), (qs1, .inl (g.2 0, 10, .inl la1)), (qG0, .inr (1, [.ref qn0, .ref qk0, .ref qf0, .ref qs0, .int mk_45])), (qn0, .inl (g.2 0, 6, .inl nu0)), (qk0, .inl (g.2 0, 10, .inl kd_45)), (qf0, .inl (g.2 0, 10, .inl fi_45)), (qs0, .inl (g.2 0, 10, .inl la_45))] H := hP
              have hD : va_D A [(qX, .inr (8, [.ref qP, .ref qI, .ref qt, .ref qd, .ref qe, .ref qsp, .ref qrk, .ref qty])), (qt, .inr (7, [.ref ql, .ref qr, .ref qv, .ref qg, .int parts, .int limit])), (qg, .inl (g.2 4, 2, .inr (.inr (.inr (.inr (lgC qG0 qG1)))))), (qG1, .inr (1, [.ref qn1, .ref qk1, .ref qf1, .ref qs1, .int mk1])), (qn1, .inl (g.2 0, 6, .inl nu1)), (qk1, .inl (g.2 0, 10, .inl kd1)), (qf1, .inl (g.2 0, 10, .inl fi1)), (qs1, .inl (g.2 0, 10, .inl la1)), (qG0, .inr (1, [.ref qn0, .ref qk0, .ref qf0, .ref qs0, .int mk_45])), (qn0, .inl (g.2 0, 6, .inl nu0)), (qk0, .inl (g.2 0, 10, .inl kd_45)), (qf0, .inl (g.2 0, 10, .inl fi_45)), (qs0, .inl (g.2 0, 10, .inl la_45))] := hD
              obtain ⟨hvt, hvf⟩ := hv
              refine lv_if_eq (tgt := 59) hx hb dX8_mark_48 (by decide) (fun hc => ?_) (fun hc => ?_)
              · have hv := hvt hc
                refine lv_iconst (v := (-1 : Int32)) hx hb dX8_mark_59 (by decide) ?_
                have hP9 := hP.sub (ws' := [(qX, .inr (8, [.ref qP, .ref qI, .ref qt, .ref qd, .ref qe, .ref qsp, .ref qrk, .ref qty])), (qt, .inr (7, [.ref ql, .ref qr, .ref qv, .ref qg, .int parts, .int limit])), (qg, .inl (g.2 4, 2, .inr (.inr (.inr (.inr (lgC qG0 qG1)))))), (qG0, .inr (1, [.ref qn0, .ref qk0, .ref qf0, .ref qs0, .int mk_45])), (qn0, .inl (g.2 0, 6, .inl nu0)), (qk0, .inl (g.2 0, 10, .inl kd_45)), (qf0, .inl (g.2 0, 10, .inl fi_45)), (qs0, .inl (g.2 0, 10, .inl la_45)), (qG1, .inr (1, [.ref qn1, .ref qk1, .ref qf1, .ref qs1, .int mk1])), (qn1, .inl (g.2 0, 6, .inl nu1)), (qk1, .inl (g.2 0, 10, .inl kd1)), (qf1, .inl (g.2 0, 10, .inl fi1)), (qs1, .inl (g.2 0, 10, .inl la1))]) [0, 1, 2, 8, 9, 10, 11, 12, 3, 4, 5, 6, 7] rfl
                have hD9 := hD.sub (ws' := [(qX, .inr (8, [.ref qP, .ref qI, .ref qt, .ref qd, .ref qe, .ref qsp, .ref qrk, .ref qty])), (qt, .inr (7, [.ref ql, .ref qr, .ref qv, .ref qg, .int parts, .int limit])), (qg, .inl (g.2 4, 2, .inr (.inr (.inr (.inr (lgC qG0 qG1)))))), (qG0, .inr (1, [.ref qn0, .ref qk0, .ref qf0, .ref qs0, .int mk_45])), (qn0, .inl (g.2 0, 6, .inl nu0)), (qk0, .inl (g.2 0, 10, .inl kd_45)), (qf0, .inl (g.2 0, 10, .inl fi_45)), (qs0, .inl (g.2 0, 10, .inl la_45)), (qG1, .inr (1, [.ref qn1, .ref qk1, .ref qf1, .ref qs1, .int mk1])), (qn1, .inl (g.2 0, 6, .inl nu1)), (qk1, .inl (g.2 0, 10, .inl kd1)), (qf1, .inl (g.2 0, 10, .inl fi1)), (qs1, .inl (g.2 0, 10, .inl la1))]) [0, 1, 2, 8, 9, 10, 11, 12, 3, 4, 5, 6, 7] (by decide) rfl
                exact W.iret (v := (-1 : Int32)) hx hb hr (fun t ht hW => ⟨⟨_, (mk_45, kd_45, fi_45, la_45, mk1, kd1, fi1, la1), rfl, hv, by rw [ht]; exact hP9, hD9⟩, hS.F ht⟩) hS.2.2 dX8_mark_60
              · have hv := hvf hc
                refine lv_aload hx hb dX8_mark_51 (lv_at hl 0 rfl) ?_
                refine va_get (D := g.1) (ci := 1) (v := .int mk_45) (C := RX1) (T := TX1) (N := 5) hx hb hts inX8_mark_1 hown hK hP 8 rfl rfl 4 (by decide) (hts (.fieldLink RX8 132 "RangeCodes$Leg" "marks" "I") (List.mem_of_getElem? (i := 3) rfl)) (fun _ h9 => h9) rfl dX8_mark_53 ?_
                refine lv_goto (tgt := 60) hx hb dX8_mark_56 (by decide) ?_
                have hP9 := hP.sub (ws' := [(qX, .inr (8, [.ref qP, .ref qI, .ref qt, .ref qd, .ref qe, .ref qsp, .ref qrk, .ref qty])), (qt, .inr (7, [.ref ql, .ref qr, .ref qv, .ref qg, .int parts, .int limit])), (qg, .inl (g.2 4, 2, .inr (.inr (.inr (.inr (lgC qG0 qG1)))))), (qG0, .inr (1, [.ref qn0, .ref qk0, .ref qf0, .ref qs0, .int mk_45])), (qn0, .inl (g.2 0, 6, .inl nu0)), (qk0, .inl (g.2 0, 10, .inl kd_45)), (qf0, .inl (g.2 0, 10, .inl fi_45)), (qs0, .inl (g.2 0, 10, .inl la_45)), (qG1, .inr (1, [.ref qn1, .ref qk1, .ref qf1, .ref qs1, .int mk1])), (qn1, .inl (g.2 0, 6, .inl nu1)), (qk1, .inl (g.2 0, 10, .inl kd1)), (qf1, .inl (g.2 0, 10, .inl fi1)), (qs1, .inl (g.2 0, 10, .inl la1))]) [0, 1, 2, 8, 9, 10, 11, 12, 3, 4, 5, 6, 7] rfl
                have hD9 := hD.sub (ws' := [(qX, .inr (8, [.ref qP, .ref qI, .ref qt, .ref qd, .ref qe, .ref qsp, .ref qrk, .ref qty])), (qt, .inr (7, [.ref ql, .ref qr, .ref qv, .ref qg, .int parts, .int limit])), (qg, .inl (g.2 4, 2, .inr (.inr (.inr (.inr (lgC qG0 qG1)))))), (qG0, .inr (1, [.ref qn0, .ref qk0, .ref qf0, .ref qs0, .int mk_45])), (qn0, .inl (g.2 0, 6, .inl nu0)), (qk0, .inl (g.2 0, 10, .inl kd_45)), (qf0, .inl (g.2 0, 10, .inl fi_45)), (qs0, .inl (g.2 0, 10, .inl la_45)), (qG1, .inr (1, [.ref qn1, .ref qk1, .ref qf1, .ref qs1, .int mk1])), (qn1, .inl (g.2 0, 6, .inl nu1)), (qk1, .inl (g.2 0, 10, .inl kd1)), (qf1, .inl (g.2 0, 10, .inl fi1)), (qs1, .inl (g.2 0, 10, .inl la1))]) [0, 1, 2, 8, 9, 10, 11, 12, 3, 4, 5, 6, 7] (by decide) rfl
                exact W.iret (v := mk_45) hx hb hr (fun t ht hW => ⟨⟨_, (mk_45, kd_45, fi_45, la_45, mk1, kd1, fi1, la1), rfl, hv, by rw [ht]; exact hP9, hD9⟩, hS.F ht⟩) hS.2.2 dX8_mark_60
            · have hv := hv1 hg
              refine va_ldG hx hb hK hP 2 4 1 rfl rfl hg (by decide) (by decide) rfl dX8_mark_37 ?_
              refine lv_astore (lv' := [(4, .ref qG1), (0, .ref qX), (1, .int p1), (2, .int p2), (3, .int p3)]) hx hb dX8_mark_38 hl (by decide) rfl (fun ls hl => ?_)
              refine lv_aload hx hb dX8_mark_40 (lv_at hl 0 rfl) ?_
              refine lv_iload_n hx hb dX8_mark_42 rfl (lv_at hl 3 rfl) ?_
              refine lv_iload_n hx hb dX8_mark_43 rfl (lv_at hl 4 rfl) ?_
              refine lv_iload_n hx hb dX8_mark_44 rfl (lv_at hl 4 rfl) ?_
              obtain ⟨ho_4, hv⟩ := hv
              have hPc := hP.sub (ws' := [(qG1, .inr (1, [.ref qn1, .ref qk1, .ref qf1, .ref qs1, .int mk1])), (qn1, .inl (g.2 0, 6, .inl nu1)), (qk1, .inl (g.2 0, 10, .inl kd1)), (qf1, .inl (g.2 0, 10, .inl fi1)), (qs1, .inl (g.2 0, 10, .inl la1))]) [8, 9, 10, 11, 12] rfl
              have hDc := hD.sub (ws' := [(qG1, .inr (1, [.ref qn1, .ref qk1, .ref qf1, .ref qs1, .int mk1])), (qn1, .inl (g.2 0, 6, .inl nu1)), (qk1, .inl (g.2 0, 10, .inl kd1)), (qf1, .inl (g.2 0, 10, .inl fi1)), (qs1, .inl (g.2 0, 10, .inl la1))]) [8, 9, 10, 11, 12] (by decide) rfl
              have hFc := va_free (wc := [(qG1, .inr (1, [.ref qn1, .ref qk1, .ref qf1, .ref qs1, .int mk1])), (qn1, .inl (g.2 0, 6, .inl nu1)), (qk1, .inl (g.2 0, 10, .inl kd1)), (qf1, .inl (g.2 0, 10, .inl fi1)), (qs1, .inl (g.2 0, 10, .inl la1))]) hD hS hA [8, 9, 10, 11, 12] rfl
              refine va_calli (va_runV (As := [.int p2, .int p3, .int p3]) (rest := []) S (wX1_addMark l g qG1 qn1 qk1 qf1 qs1 s.heap.size mk1 nu1 kd1 fi1 la1 p2 p3 p3 (sX1_addMark mk1 nu1 kd1 fi1 la1 p2 p3 p3 ho_4)) (cwV 3 hts gX8_mark_X1_addMark rfl rfl rfl (by decide +kernel) ⟨Nat.le_of_ble_eq_true rfl, Nat.le_of_ble_eq_true rfl⟩) ⟨blindRW, va_recv hK hP (ci := 1) (q0 := 8) rfl rfl, fun U hU hW => ⟨rfl, by rw [hU], by rw [hU]; exact hPc, hG.warm hW, hDc.weaken (fun _ _ _ _ => trivial)⟩⟩ rfl rfl hl.1 rfl (lv_room (Nat.le_of_ble_eq_true rfl)) dX8_mark_45 ⟨Nat.le_of_ble_eq_true rfl, Nat.le_of_ble_eq_true rfl⟩) hS (fun q _ h => hFc q h) hFc (fun r_45 u t H1 locs ht hvm hw hB hz1 hk1 hS => ?_)
              obtain ⟨mk_45, kd_45, fi_45, la_45⟩ := u
              obtain ⟨hP1, hD1⟩ := hB
              rw [ht] at hP1
              have hv := hv r_45 mk_45 kd_45 fi_45 la_45 hw
              obtain ⟨hP, hD⟩ := va_join (wr := [(qX, .inr (8, [.ref qP, .ref qI, .ref qt, .ref qd, .ref qe, .ref qsp, .ref qrk, .ref qty])), (qt, .inr (7, [.ref ql, .ref qr, .ref qv, .ref qg, .int parts, .int limit])), (qg, .inl (g.2 4, 2, .inr (.inr (.inr (.inr (lgC qG0 qG1)))))), (qG0, .inr (1, [.ref qn0, .ref qk0, .ref qf0, .ref qs0, .int mk0])), (qn0, .inl (g.2 0, 6, .inl nu0)), (qk0, .inl (g.2 0, 10, .inl kd0)), (qf0, .inl (g.2 0, 10, .inl fi0)), (qs0, .inl (g.2 0, 10, .inl la0))]) (w1 := [(qG1, .inr (1, [.ref qn1, .ref qk1, .ref qf1, .ref qs1, .int mk_45])), (qn1, .inl (g.2 0, 6, .inl nu1)), (qk1, .inl (g.2 0, 10, .inl kd_45)), (qf1, .inl (g.2 0, 10, .inl fi_45)), (qs1, .inl (g.2 0, 10, .inl la_45))]) hP hD [8, 9, 10, 11, 12] [0, 1, 2, 3, 4, 5, 6, 7] rfl rfl (by decide) (by decide) hk1 hFc hP1 hD1
              clear hP1 hD1 hPc hDc hFc hk1
              generalize H1 = H at hP hS ⊢
              have hP : va_P g.1 vwCl [(qX, .inr (8, [.ref qP, .ref qI, .ref qt, .ref qd, .ref qe, .ref qsp, .ref qrk, .ref qty])), (qt, .inr (7, [.ref ql, .ref qr, .ref qv, .ref qg, .int parts, .int limit])), (qg, .inl (g.2 4, 2, .inr (.inr (.inr (.inr (lgC qG0 qG1)))))), (qG0, .inr (1, [.ref qn0, .ref qk0, .ref qf0, .ref qs0, .int mk0])), (qn0, .inl (g.2 0, 6, .inl nu0)), (qk0, .inl (g.2 0, 10, .inl kd0)), (qf0, .inl (g.2 0, 10, .inl fi0)), (qs0, .inl (g.2 0, 10, .inl la0)), (qG1, .inr (1, [.ref qn1, .ref qk1, .ref qf1, .ref qs1, .int mk_45])), (qn1, .inl (g.2 0, 6, .inl nu1)), (qk1, .inl (g.2 0, 10, .inl kd_45)), (qf1, .inl (g.2 0, 10, .inl fi_45)), (qs1, .inl (g.2 0, 10, .inl la_45))] H := hP
              have hD : va_D A [(qX, .inr (8, [.ref qP, .ref qI, .ref qt, .ref qd, .ref qe, .ref qsp, .ref qrk, .ref qty])), (qt, .inr (7, [.ref ql, .ref qr, .ref qv, .ref qg, .int parts, .int limit])), (qg, .inl (g.2 4, 2, .inr (.inr (.inr (.inr (lgC qG0 qG1)))))), (qG0, .inr (1, [.ref qn0, .ref qk0, .ref qf0, .ref qs0, .int mk0])), (qn0, .inl (g.2 0, 6, .inl nu0)), (qk0, .inl (g.2 0, 10, .inl kd0)), (qf0, .inl (g.2 0, 10, .inl fi0)), (qs0, .inl (g.2 0, 10, .inl la0)), (qG1, .inr (1, [.ref qn1, .ref qk1, .ref qf1, .ref qs1, .int mk_45])), (qn1, .inl (g.2 0, 6, .inl nu1)), (qk1, .inl (g.2 0, 10, .inl kd_45)), (qf1, .inl (g.2 0, 10, .inl fi_45)), (qs1, .inl (g.2 0, 10, .inl la_45))] := hD
              obtain ⟨hvt, hvf⟩ := hv
              refine lv_if_eq (tgt := 59) hx hb dX8_mark_48 (by decide) (fun hc => ?_) (fun hc => ?_)
              · have hv := hvt hc
                refine lv_iconst (v := (-1 : Int32)) hx hb dX8_mark_59 (by decide) ?_
                have hP9 := hP.sub (ws' := [(qX, .inr (8, [.ref qP, .ref qI, .ref qt, .ref qd, .ref qe, .ref qsp, .ref qrk, .ref qty])), (qt, .inr (7, [.ref ql, .ref qr, .ref qv, .ref qg, .int parts, .int limit])), (qg, .inl (g.2 4, 2, .inr (.inr (.inr (.inr (lgC qG0 qG1)))))), (qG0, .inr (1, [.ref qn0, .ref qk0, .ref qf0, .ref qs0, .int mk0])), (qn0, .inl (g.2 0, 6, .inl nu0)), (qk0, .inl (g.2 0, 10, .inl kd0)), (qf0, .inl (g.2 0, 10, .inl fi0)), (qs0, .inl (g.2 0, 10, .inl la0)), (qG1, .inr (1, [.ref qn1, .ref qk1, .ref qf1, .ref qs1, .int mk_45])), (qn1, .inl (g.2 0, 6, .inl nu1)), (qk1, .inl (g.2 0, 10, .inl kd_45)), (qf1, .inl (g.2 0, 10, .inl fi_45)), (qs1, .inl (g.2 0, 10, .inl la_45))]) [0, 1, 2, 3, 4, 5, 6, 7, 8, 9, 10, 11, 12] rfl
                have hD9 := hD.sub (ws' := [(qX, .inr (8, [.ref qP, .ref qI, .ref qt, .ref qd, .ref qe, .ref qsp, .ref qrk, .ref qty])), (qt, .inr (7, [.ref ql, .ref qr, .ref qv, .ref qg, .int parts, .int limit])), (qg, .inl (g.2 4, 2, .inr (.inr (.inr (.inr (lgC qG0 qG1)))))), (qG0, .inr (1, [.ref qn0, .ref qk0, .ref qf0, .ref qs0, .int mk0])), (qn0, .inl (g.2 0, 6, .inl nu0)), (qk0, .inl (g.2 0, 10, .inl kd0)), (qf0, .inl (g.2 0, 10, .inl fi0)), (qs0, .inl (g.2 0, 10, .inl la0)), (qG1, .inr (1, [.ref qn1, .ref qk1, .ref qf1, .ref qs1, .int mk_45])), (qn1, .inl (g.2 0, 6, .inl nu1)), (qk1, .inl (g.2 0, 10, .inl kd_45)), (qf1, .inl (g.2 0, 10, .inl fi_45)), (qs1, .inl (g.2 0, 10, .inl la_45))]) [0, 1, 2, 3, 4, 5, 6, 7, 8, 9, 10, 11, 12] (by decide) rfl
                exact W.iret (v := (-1 : Int32)) hx hb hr (fun t ht hW => ⟨⟨_, (mk0, kd0, fi0, la0, mk_45, kd_45, fi_45, la_45), rfl, hv, by rw [ht]; exact hP9, hD9⟩, hS.F ht⟩) hS.2.2 dX8_mark_60
              · have hv := hvf hc
                refine lv_aload hx hb dX8_mark_51 (lv_at hl 0 rfl) ?_
                refine va_get (D := g.1) (ci := 1) (v := .int mk_45) (C := RX1) (T := TX1) (N := 5) hx hb hts inX8_mark_1 hown hK hP 8 rfl rfl 4 (by decide) (hts (.fieldLink RX8 132 "RangeCodes$Leg" "marks" "I") (List.mem_of_getElem? (i := 3) rfl)) (fun _ h9 => h9) rfl dX8_mark_53 ?_
                refine lv_goto (tgt := 60) hx hb dX8_mark_56 (by decide) ?_
                have hP9 := hP.sub (ws' := [(qX, .inr (8, [.ref qP, .ref qI, .ref qt, .ref qd, .ref qe, .ref qsp, .ref qrk, .ref qty])), (qt, .inr (7, [.ref ql, .ref qr, .ref qv, .ref qg, .int parts, .int limit])), (qg, .inl (g.2 4, 2, .inr (.inr (.inr (.inr (lgC qG0 qG1)))))), (qG0, .inr (1, [.ref qn0, .ref qk0, .ref qf0, .ref qs0, .int mk0])), (qn0, .inl (g.2 0, 6, .inl nu0)), (qk0, .inl (g.2 0, 10, .inl kd0)), (qf0, .inl (g.2 0, 10, .inl fi0)), (qs0, .inl (g.2 0, 10, .inl la0)), (qG1, .inr (1, [.ref qn1, .ref qk1, .ref qf1, .ref qs1, .int mk_45])), (qn1, .inl (g.2 0, 6, .inl nu1)), (qk1, .inl (g.2 0, 10, .inl kd_45)), (qf1, .inl (g.2 0, 10, .inl fi_45)), (qs1, .inl (g.2 0, 10, .inl la_45))]) [0, 1, 2, 3, 4, 5, 6, 7, 8, 9, 10, 11, 12] rfl
                have hD9 := hD.sub (ws' := [(qX, .inr (8, [.ref qP, .ref qI, .ref qt, .ref qd, .ref qe, .ref qsp, .ref qrk, .ref qty])), (qt, .inr (7, [.ref ql, .ref qr, .ref qv, .ref qg, .int parts, .int limit])), (qg, .inl (g.2 4, 2, .inr (.inr (.inr (.inr (lgC qG0 qG1)))))), (qG0, .inr (1, [.ref qn0, .ref qk0, .ref qf0, .ref qs0, .int mk0])), (qn0, .inl (g.2 0, 6, .inl nu0)), (qk0, .inl (g.2 0, 10, .inl kd0)), (qf0, .inl (g.2 0, 10, .inl fi0)), (qs0, .inl (g.2 0, 10, .inl la0)), (qG1, .inr (1, [.ref qn1, .ref qk1, .ref qf1, .ref qs1, .int mk_45])), (qn1, .inl (g.2 0, 6, .inl nu1)), (qk1, .inl (g.2 0, 10, .inl kd_45)), (qf1, .inl (g.2 0, 10, .inl fi_45)), (qs1, .inl (g.2 0, 10, .inl la_45))]) [0, 1, 2, 3, 4, 5, 6, 7, 8, 9, 10, 11, 12] (by decide) rfl
                exact W.iret (v := mk_45) hx hb hr (fun t ht hW => ⟨⟨_, (mk0, kd0, fi0, la0, mk_45, kd_45, fi_45, la_45), rfl, hv, by rw [ht]; exact hP9, hD9⟩, hS.F ht⟩) hS.2.2 dX8_mark_60
          · have hv := hvf hc
            refine lv_iconst (v := (-1 : Int32)) hx hb dX8_mark_27 (by decide) ?_
            have hP9 := hP.sub (ws' := [(qX, .inr (8, [.ref qP, .ref qI, .ref qt, .ref qd, .ref qe, .ref qsp, .ref qrk, .ref qty])), (qt, .inr (7, [.ref ql, .ref qr, .ref qv, .ref qg, .int parts, .int limit])), (qg, .inl (g.2 4, 2, .inr (.inr (.inr (.inr (lgC qG0 qG1)))))), (qG0, .inr (1, [.ref qn0, .ref qk0, .ref qf0, .ref qs0, .int mk0])), (qn0, .inl (g.2 0, 6, .inl nu0)), (qk0, .inl (g.2 0, 10, .inl kd0)), (qf0, .inl (g.2 0, 10, .inl fi0)), (qs0, .inl (g.2 0, 10, .inl la0)), (qG1, .inr (1, [.ref qn1, .ref qk1, .ref qf1, .ref qs1, .int mk1])), (qn1, .inl (g.2 0, 6, .inl nu1)), (qk1, .inl (g.2 0, 10, .inl kd1)), (qf1, .inl (g.2 0, 10, .inl fi1)), (qs1, .inl (g.2 0, 10, .inl la1))]) [0, 1, 2, 3, 4, 5, 6, 7, 8, 9, 10, 11, 12] rfl
            have hD9 := hD.sub (ws' := [(qX, .inr (8, [.ref qP, .ref qI, .ref qt, .ref qd, .ref qe, .ref qsp, .ref qrk, .ref qty])), (qt, .inr (7, [.ref ql, .ref qr, .ref qv, .ref qg, .int parts, .int limit])), (qg, .inl (g.2 4, 2, .inr (.inr (.inr (.inr (lgC qG0 qG1)))))), (qG0, .inr (1, [.ref qn0, .ref qk0, .ref qf0, .ref qs0, .int mk0])), (qn0, .inl (g.2 0, 6, .inl nu0)), (qk0, .inl (g.2 0, 10, .inl kd0)), (qf0, .inl (g.2 0, 10, .inl fi0)), (qs0, .inl (g.2 0, 10, .inl la0)), (qG1, .inr (1, [.ref qn1, .ref qk1, .ref qf1, .ref qs1, .int mk1])), (qn1, .inl (g.2 0, 6, .inl nu1)), (qk1, .inl (g.2 0, 10, .inl kd1)), (qf1, .inl (g.2 0, 10, .inl fi1)), (qs1, .inl (g.2 0, 10, .inl la1))]) [0, 1, 2, 3, 4, 5, 6, 7, 8, 9, 10, 11, 12] (by decide) rfl
            exact W.iret (v := (-1 : Int32)) hx hb hr (fun t ht hW => ⟨⟨_, (mk0, kd0, fi0, la0, mk1, kd1, fi1, la1), rfl, hv, by rw [ht]; exact hP9, hD9⟩, hS.F ht⟩) hS.2.2 dX8_mark_28
abbrev preX8_mark (T : Cd) (G0 : Lg) (G1 : Lg) (lim : Nat) (parts : Int32) (limit : Int32) (mk0 : Int32) (nu0 : Nat → Int32) (kd0 : Nat → Int32) (fi0 : Nat → Int32) (la0 : Nat → Int32) (mk1 : Int32) (nu1 : Nat → Int32) (kd1 : Nat → Int32) (fi1 : Nat → Int32) (la1 : Nat → Int32) (p1 : Int32) (p2 : Int32) (p3 : Int32) : Prop := isG G0 mk0 nu0 kd0 fi0 la0 ∧ isG G1 mk1 nu1 kd1 fi1 la1
abbrev postX8_mark (T : Cd) (G0 : Lg) (G1 : Lg) (lim : Nat) (parts : Int32) (limit : Int32) (mk0 : Int32) (nu0 : Nat → Int32) (kd0 : Nat → Int32) (fi0 : Nat → Int32) (la0 : Nat → Int32) (mk1 : Int32) (nu1 : Nat → Int32) (kd1 : Nat → Int32) (fi1 : Nat → Int32) (la1 : Nat → Int32) (p1 : Int32) (p2 : Int32) (p3 : Int32) (r : Int32) (mk0' : Int32) (kd0' : Nat → Int32) (fi0' : Nat → Int32) (la0' : Nat → Int32) (mk1' : Int32) (kd1' : Nat → Int32) (fi1' : Nat → Int32) (la1' : Nat → Int32) : Prop := r.toInt = spMark G0 G1 p1.toInt p2.toInt p3.toInt ∧ isG (nxM0 G0 p1.toInt p2.toInt p3.toInt) mk0' nu0 kd0' fi0' la0' ∧ isG (nxM1 G1 p1.toInt p2.toInt p3.toInt) mk1' nu1 kd1' fi1' la1'
theorem sX8_mark (T : Cd) (G0 : Lg) (G1 : Lg) (lim : Nat) (parts : Int32) (limit : Int32) (mk0 : Int32) (nu0 : Nat → Int32) (kd0 : Nat → Int32) (fi0 : Nat → Int32) (la0 : Nat → Int32) (mk1 : Int32) (nu1 : Nat → Int32) (kd1 : Nat → Int32) (fi1 : Nat → Int32) (la1 : Nat → Int32) (p1 : Int32) (p2 : Int32) (p3 : Int32) (H : preX8_mark T G0 G1 lim parts limit mk0 nu0 kd0 fi0 la0 mk1 nu1 kd1 fi1 la1 p1 p2 p3) : vX8_mark parts limit mk0 nu0 kd0 fi0 la0 mk1 nu1 kd1 fi1 la1 p1 p2 p3 (postX8_mark T G0 G1 lim parts limit mk0 nu0 kd0 fi0 la0 mk1 nu1 kd1 fi1 la1 p1 p2 p3) := by
  obtain ⟨hG0, hG1⟩ := H
  refine ⟨trivial, fun r hr => ?_⟩
  have hr : r = if p1.toInt = 0 ∨ p1.toInt = 1 then 1 else 0 := hr
  rw [hr, q_if1, fa_lt p2, z0, fa_lt _ p2, z2, fa_lt p3, z0, fa_lt p3, z200]
  have no : ¬ ((p1.toInt = 0 ∨ p1.toInt = 1) ∧ (0 ≤ p2.toInt ∧ p2.toInt ≤ 2) ∧ (0 ≤ p3.toInt ∧ p3.toInt ≤ 199) ∧ gm (pkG G0 G1 p1.toInt.toNat) < 10) → (-1 : Int32).toInt = spMark G0 G1 p1.toInt p2.toInt p3.toInt ∧ isG (nxM0 G0 p1.toInt p2.toInt p3.toInt) mk0 nu0 kd0 fi0 la0 ∧ isG (nxM1 G1 p1.toInt p2.toInt p3.toInt) mk1 nu1 kd1 fi1 la1 := fun q => by
    unfold spMark nxM0 nxM1
    rw [if_neg q, if_neg (fun z => q ⟨Or.inl z.1, z.2.1, z.2.2.1, by rw [show p1.toInt.toNat = 0 by omega]; exact z.2.2.2⟩), if_neg (fun z => q ⟨Or.inr z.1, z.2.1, z.2.2.1, by rw [show p1.toInt.toNat = 1 by omega]; exact z.2.2.2⟩)]
    exact ⟨rfl, hG0, hG1⟩
  refine ⟨fun a => no (fun q => a q.1), fun a => ⟨fun b => no (fun q => by omega), fun b => ⟨fun c => no (fun q => by omega), fun c => ⟨fun d => no (fun q => by omega), fun d => ⟨fun f => ?_, fun f => no (fun q => by omega)⟩⟩⟩⟩⟩
  have a := Decidable.not_not.mp a
  refine ⟨q_in (n := p1.toInt.toNat) (by omega) (by omega), fun e => ⟨by show 0 ≤ mk0.toInt; have := hG0.2.1; omega, fun r2 mk kd fi la hq => ?_⟩, fun e => ⟨by show 0 ≤ mk1.toInt; have := hG1.2.1; omega, fun r2 mk kd fi la hq => ?_⟩⟩
  · have e2 := nI_leg (by omega) e
    have hg : pkG G0 G1 p1.toInt.toNat = G0 := by rw [e2.2]; rfl
    have hm := hG0.2.1
    rcases hq with ⟨q1, q2, q3, q4, q5, q6⟩ | ⟨q1, q2, q3, q4, q5, q6⟩
    · subst q2 q4 q5 q6
      refine ⟨fun z => absurd z (by decide), fun _ => ?_⟩
      unfold postX8_mark spMark nxM0 nxM1
      rw [hg, if_pos ⟨a, ⟨by omega, by omega⟩, ⟨by omega, by omega⟩, by omega⟩, if_pos ⟨by have := e2.1; omega, ⟨by omega, by omega⟩, ⟨by omega, by omega⟩, by omega⟩, if_neg (fun z => by have := e2.1; omega)]
      exact ⟨by rw [q3, hm], isG_gA hG0 (by omega) (by omega) (Nat.le_refl _) (by omega) (fun _ => rfl) q3 (by omega) (by omega) (by omega), hG1⟩
    · subst q2 q3 q4 q5 q6
      exact ⟨fun _ => no (fun z => by rw [hg] at z; omega), fun z => absurd rfl z⟩
  · have e2 := nI_leg (by omega) e
    have hg : pkG G0 G1 p1.toInt.toNat = G1 := by rw [e2.2]; rfl
    have hm := hG1.2.1
    rcases hq with ⟨q1, q2, q3, q4, q5, q6⟩ | ⟨q1, q2, q3, q4, q5, q6⟩
    · subst q2 q4 q5 q6
      refine ⟨fun z => absurd z (by decide), fun _ => ?_⟩
      unfold postX8_mark spMark nxM0 nxM1
      rw [hg, if_pos ⟨a, ⟨by omega, by omega⟩, ⟨by omega, by omega⟩, by omega⟩, if_neg (fun z => by have := e2.1; omega), if_pos ⟨by have := e2.1; omega, ⟨by omega, by omega⟩, ⟨by omega, by omega⟩, by omega⟩]
      exact ⟨by rw [q3, hm], hG0, isG_gA hG1 (by omega) (by omega) (Nat.le_refl _) (by omega) (fun _ => rfl) q3 (by omega) (by omega) (by omega)⟩
    · subst q2 q3 q4 q5 q6
      exact ⟨fun _ => no (fun z => by rw [hg] at z; omega), fun z => absurd rfl z⟩
theorem dX8_turned_0 : decode cX8_turned 0 = .ok (.iconst 1, 1) := by decide +kernel
theorem dX8_turned_1 : decode cX8_turned 1 = .ok (.iload_n 1, 1) := by decide +kernel
theorem dX8_turned_2 : decode cX8_turned 2 = .ok (.ishl, 1) := by decide +kernel
theorem dX8_turned_3 : decode cX8_turned 3 = .ok (.iconst 1, 1) := by decide +kernel
theorem dX8_turned_4 : decode cX8_turned 4 = .ok (.isub, 1) := by decide +kernel
theorem dX8_turned_5 : decode cX8_turned 5 = .ok (.istore_n 3, 1) := by decide +kernel
theorem dX8_turned_6 : decode cX8_turned 6 = .ok (.iload_n 0, 1) := by decide +kernel
theorem dX8_turned_7 : decode cX8_turned 7 = .ok (.iload_n 2, 1) := by decide +kernel
theorem dX8_turned_8 : decode cX8_turned 8 = .ok (.ishl, 1) := by decide +kernel
theorem dX8_turned_9 : decode cX8_turned 9 = .ok (.iload_n 0, 1) := by decide +kernel
theorem dX8_turned_10 : decode cX8_turned 10 = .ok (.iload_n 1, 1) := by decide +kernel
theorem dX8_turned_11 : decode cX8_turned 11 = .ok (.iload_n 2, 1) := by decide +kernel
theorem dX8_turned_12 : decode cX8_turned 12 = .ok (.isub, 1) := by decide +kernel
theorem dX8_turned_13 : decode cX8_turned 13 = .ok (.iushr, 1) := by decide +kernel
theorem dX8_turned_14 : decode cX8_turned 14 = .ok (.ior, 1) := by decide +kernel
theorem dX8_turned_15 : decode cX8_turned 15 = .ok (.iload_n 3, 1) := by decide +kernel
theorem dX8_turned_16 : decode cX8_turned 16 = .ok (.iand, 1) := by decide +kernel
theorem dX8_turned_17 : decode cX8_turned 17 = .ok (.ireturn, 1) := by decide +kernel
abbrev rmX8_turned : Room := { frames := 0, cells := 0, slots := 0, locals := 0 }
def vX8_turned (p1 : Int32) (p2 : Int32) (p3 : Int32) (Q : Int32 → Prop) : Prop := (∀ y_5 : Int32, y_5 = (((1 : Int32) <<< (p2 &&& 31)) - (1 : Int32)) → (Q (((p1 <<< (p3 &&& 31)) ||| ((p1.toUInt32 >>> ((p2 - p3).toUInt32 &&& Int32.toUInt32 31)).toInt32)) &&& y_5)))
set_option maxHeartbeats 4000000 in
set_option maxRecDepth 100000 in
theorem wX8_turned (l : Launch) (g : GP)  (p1 : Int32) (p2 : Int32) (p3 : Int32) {Q : Int32 → Prop} (hv : vX8_turned p1 p2 p3 Q) : Met l yX8_turned wsX8_turned rmX8_turned (va_Pc [.int p1, .int p2, .int p3] (fun U => va_P g.1 vwCl [] U.heap ∧ GK g U)) (vp_Si Q) 0 0 (fun _ => False) := by
  refine Met.ofW (cc := cX8_turned) (maxL := 4) (ret := (some .int)) (by decide) rfl ?_
  intro p e s m args below meth c s₁ B hml hv'
  obtain ⟨rfl, hP, hG⟩ := hv'
  have S : CallFix p m c cX8_turned 4 s _ wsX8_turned RX8 := ⟨B.exec, B.bytes, hml, findClass_of_methodNamed B.named, atoms_spec (ws := wsX8_turned) B.pre⟩
  obtain ⟨hx, hb, hml, hown, hts⟩ := id S
  have hK := hG.1
  have hr := B.returns
  have hlocks := B.notSynchronized
  have hl := lv_entry ([.int p1, .int p2, .int p3]) (n := 4) (Nat.le_of_ble_eq_true rfl)
  rw [lg_entry_eq]
  generalize (lg_sl ([.int p1, .int p2, .int p3]) ++ List.replicate (4 - (lg_sl ([.int p1, .int p2, .int p3])).length) Slot.unset).toArray = ls at hl ⊢
  have hl : lv_has ls 4 [(0, .int p1), (1, .int p2), (2, .int p3)] := hl
  unfold vX8_turned at hv
  refine lv_iconst (v := (1 : Int32)) hx hb dX8_turned_0 (by decide) ?_
  refine lv_iload_n hx hb dX8_turned_1 rfl (lv_at hl 1 rfl) ?_
  refine lv_ishl hx hb dX8_turned_2 ?_
  refine lv_iconst (v := (1 : Int32)) hx hb dX8_turned_3 (by decide) ?_
  refine lv_isub hx hb dX8_turned_4 ?_
  refine lv_topi (fun y_5 ey_5 => ?_)
  have hv := hv y_5 ey_5
  refine lv_istore_n (lv' := [(3, .int y_5), (0, .int p1), (1, .int p2), (2, .int p3)]) hx hb dX8_turned_5 rfl hl (by decide) rfl (fun ls hl => ?_)
  refine lv_iload_n hx hb dX8_turned_6 rfl (lv_at hl 1 rfl) ?_
  refine lv_iload_n hx hb dX8_turned_7 rfl (lv_at hl 3 rfl) ?_
  refine lv_ishl hx hb dX8_turned_8 ?_
  refine lv_iload_n hx hb dX8_turned_9 rfl (lv_at hl 1 rfl) ?_
  refine lv_iload_n hx hb dX8_turned_10 rfl (lv_at hl 2 rfl) ?_
  refine lv_iload_n hx hb dX8_turned_11 rfl (lv_at hl 3 rfl) ?_
  refine lv_isub hx hb dX8_turned_12 ?_
  refine lv_iushr (v := ((p1.toUInt32 >>> ((p2 - p3).toUInt32 &&& Int32.toUInt32 31)).toInt32)) hx hb dX8_turned_13 rfl ?_
  refine lv_ior hx hb dX8_turned_14 ?_
  refine lv_iload_n hx hb dX8_turned_15 rfl (lv_at hl 0 rfl) ?_
  refine lv_iand hx hb dX8_turned_16 ?_
  exact W.iret (v := (((p1 <<< (p3 &&& 31)) ||| ((p1.toUInt32 >>> ((p2 - p3).toUInt32 &&& Int32.toUInt32 31)).toInt32)) &&& y_5)) hx hb hr (fun t ht hW => ⟨_, rfl, hv, ht⟩) (fun _ h => by cases h) dX8_turned_17
abbrev preX8_turned (p1 p2 p3 : Int32) : Prop := 0 ≤ p1.toInt ∧ 2 ≤ p2.toInt ∧ p2.toInt ≤ 13 ∧ p1.toInt.toNat < 2 ^ p2.toInt.toNat ∧ 0 ≤ p3.toInt ∧ p3.toInt < p2.toInt
abbrev postX8_turned (p1 p2 p3 r : Int32) : Prop := r.toInt = (trX p1.toInt.toNat p2.toInt.toNat p3.toInt.toNat : Int)
theorem p13_le {k : Nat} (h : k ≤ 13) : 2 ^ k ≤ 8192 := Nat.pow_le_pow_right (n := 2) (by decide) h
theorem sX8_turned (p1 p2 p3 : Int32) (H : preX8_turned p1 p2 p3) : vX8_turned p1 p2 p3 (postX8_turned p1 p2 p3) := by
  obtain ⟨h1, h2, h2b, hR, h3, h3b⟩ := H
  intro y hy
  obtain ⟨R, eR⟩ : ∃ R : Nat, p1.toInt = (R : Int) := ⟨p1.toInt.toNat, by omega⟩
  obtain ⟨L, eL⟩ : ∃ L : Nat, p2.toInt = (L : Int) := ⟨p2.toInt.toNat, by omega⟩
  obtain ⟨b, eb⟩ : ∃ b : Nat, p3.toInt = (b : Int) := ⟨p3.toInt.toNat, by omega⟩
  have tR : p1.toInt.toNat = R := by omega
  have tL : p2.toInt.toNat = L := by omega
  have tb : p3.toInt.toNat = b := by omega
  rw [tR, tL] at hR
  have hp := p13_le (k := L) (by omega)
  have hp1 := Nat.two_pow_pos L
  have ht := trN_lt (fun j => R.testBit ((j + L - b) % L)) L
  show _ = (trX p1.toInt.toNat p2.toInt.toNat p3.toInt.toNat : Int)
  rw [tR, tL, tb]
  have hy2 : y.toInt = ((2 ^ L - 1 : Nat) : Int) := by
    have e1 := q_shlN (x := 1) (a := 1) rfl eL (by omega) (by omega)
    rw [hy]; exact q_subN (b := 1) (by rw [e1, Nat.one_mul]) rfl (by omega) (by omega)
  have ey : y = nI (2 ^ L - 1) := q_eqN hy2
  have e1 : p1 = nI R := q_eqN eR
  have e3 : p3 = nI b := q_eqN eb
  have e23 : p2 - p3 = nI (L - b) := q_eqN (q_subN eL eb (by omega) (by omega))
  refine nI_bits (by show trN _ L < _; omega) (fun i hi => ?_)
  rw [b_and, b_or, e23, e3, b_shl b (by omega) p1 hi, b_ushr (L - b) (by omega) p1 i, ey, bt_nI hi, Nat.testBit_two_pow_sub_one]
  show _ = (trN (fun j => R.testBit ((j + L - b) % L)) L).testBit i
  rw [trN_bit]
  by_cases hiL : i < L
  · rw [decide_eq_true hiL, Bool.and_true, Bool.true_and]
    have hm := md_c (L := L) (x := i + L - b) (by omega)
    by_cases hib : b ≤ i
    · rw [decide_eq_true hib, Bool.true_and]
      have hz : bt p1 (L - b + i) = false := by
        by_cases h32 : L - b + i < 32
        · rw [e1, bt_nI h32]; exact Nat.testBit_lt_two_pow (Nat.lt_of_lt_of_le hR (Nat.pow_le_pow_right (by decide) (by omega)))
        · exact b_big (by omega)
      rw [hz, Bool.or_false, e1, bt_nI (by omega)]
      show R.testBit (i - b) = R.testBit ((i + L - b) % L)
      rw [hm, if_neg (by omega), show i + L - b - L = i - b by omega]
    · rw [decide_eq_false hib, Bool.false_and, Bool.false_or, e1, bt_nI (by omega)]
      show R.testBit (L - b + i) = R.testBit ((i + L - b) % L)
      rw [hm, if_pos (by omega), show i + L - b = L - b + i by omega]
  · rw [decide_eq_false hiL, Bool.and_false, Bool.false_and]
set_option maxRecDepth 20000 in
theorem ggX8_turn_X7_hasPart : GoodIn wsX8_turn wsX7_hasPart := goodIn_r _ [8, 9, 22, 23, 24, 25, 26, 27] (by decide +kernel) (by decide +kernel)
set_option maxRecDepth 20000 in
theorem gX8_turn_X7_hasPart : GoodIn wsX8_turn (wsV RX8 119 RX7 yX7_hasPart wsX7_hasPart) := goodIn_app (goodIn_of _ (by decide +kernel)) ggX8_turn_X7_hasPart
set_option maxRecDepth 20000 in
theorem ggX8_turn_X8_turned : GoodIn wsX8_turn wsX8_turned := goodIn_r _ [13] (by decide +kernel) (by decide +kernel)
set_option maxRecDepth 20000 in
theorem gX8_turn_X8_turned : GoodIn wsX8_turn (va_wsS RX8 141 yX8_turned wsX8_turned) := goodIn_app (goodIn_of _ (by decide +kernel)) ggX8_turn_X8_turned
theorem dX8_turn_0 : decode cX8_turn 0 = .ok (.aload_n 0, 1) := by decide +kernel
theorem dX8_turn_1 : decode cX8_turn 1 = .ok (.getfield 24, 3) := by decide +kernel
theorem dX8_turn_4 : decode cX8_turn 4 = .ok (.iload_n 1, 1) := by decide +kernel
theorem dX8_turn_5 : decode cX8_turn 5 = .ok (.invokevirtual 119, 3) := by decide +kernel
theorem dX8_turn_8 : decode cX8_turn 8 = .ok (.ifCond .eq 21, 3) := by decide +kernel
theorem dX8_turn_11 : decode cX8_turn 11 = .ok (.iload_n 2, 1) := by decide +kernel
theorem dX8_turn_12 : decode cX8_turn 12 = .ok (.iconst 1, 1) := by decide +kernel
theorem dX8_turn_13 : decode cX8_turn 13 = .ok (.if_icmp .lt 16, 3) := by decide +kernel
theorem dX8_turn_16 : decode cX8_turn 16 = .ok (.iload_n 2, 1) := by decide +kernel
theorem dX8_turn_17 : decode cX8_turn 17 = .ok (.aload_n 0, 1) := by decide +kernel
theorem dX8_turn_18 : decode cX8_turn 18 = .ok (.getfield 24, 3) := by decide +kernel
theorem dX8_turn_21 : decode cX8_turn 21 = .ok (.getfield 135, 3) := by decide +kernel
theorem dX8_turn_24 : decode cX8_turn 24 = .ok (.iload_n 1, 1) := by decide +kernel
theorem dX8_turn_25 : decode cX8_turn 25 = .ok (.iaload, 1) := by decide +kernel
theorem dX8_turn_26 : decode cX8_turn 26 = .ok (.if_icmp .lt 5, 3) := by decide +kernel
theorem dX8_turn_29 : decode cX8_turn 29 = .ok (.iconst 0, 1) := by decide +kernel
theorem dX8_turn_30 : decode cX8_turn 30 = .ok (.ireturn, 1) := by decide +kernel
theorem dX8_turn_31 : decode cX8_turn 31 = .ok (.aload_n 0, 1) := by decide +kernel
theorem dX8_turn_32 : decode cX8_turn 32 = .ok (.getfield 24, 3) := by decide +kernel
theorem dX8_turn_35 : decode cX8_turn 35 = .ok (.getfield 138, 3) := by decide +kernel
theorem dX8_turn_38 : decode cX8_turn 38 = .ok (.iload_n 1, 1) := by decide +kernel
theorem dX8_turn_39 : decode cX8_turn 39 = .ok (.aload_n 0, 1) := by decide +kernel
theorem dX8_turn_40 : decode cX8_turn 40 = .ok (.getfield 24, 3) := by decide +kernel
theorem dX8_turn_43 : decode cX8_turn 43 = .ok (.getfield 138, 3) := by decide +kernel
theorem dX8_turn_46 : decode cX8_turn 46 = .ok (.iload_n 1, 1) := by decide +kernel
theorem dX8_turn_47 : decode cX8_turn 47 = .ok (.iaload, 1) := by decide +kernel
theorem dX8_turn_48 : decode cX8_turn 48 = .ok (.aload_n 0, 1) := by decide +kernel
theorem dX8_turn_49 : decode cX8_turn 49 = .ok (.getfield 24, 3) := by decide +kernel
theorem dX8_turn_52 : decode cX8_turn 52 = .ok (.getfield 135, 3) := by decide +kernel
theorem dX8_turn_55 : decode cX8_turn 55 = .ok (.iload_n 1, 1) := by decide +kernel
theorem dX8_turn_56 : decode cX8_turn 56 = .ok (.iaload, 1) := by decide +kernel
theorem dX8_turn_57 : decode cX8_turn 57 = .ok (.iload_n 2, 1) := by decide +kernel
theorem dX8_turn_58 : decode cX8_turn 58 = .ok (.invokestatic 141, 3) := by decide +kernel
theorem dX8_turn_61 : decode cX8_turn 61 = .ok (.iastore, 1) := by decide +kernel
theorem dX8_turn_62 : decode cX8_turn 62 = .ok (.iconst 1, 1) := by decide +kernel
theorem dX8_turn_63 : decode cX8_turn 63 = .ok (.ireturn, 1) := by decide +kernel
abbrev rmX8_turn : Room := { frames := 1, cells := 0, slots := 0, locals := 23 }
theorem inX8_turn_7 : ∀ w ∈ wsX70, w ∈ wsX8_turn := by decide +kernel
theorem inX8_turn_8 : ∀ w ∈ wsX80, w ∈ wsX8_turn := by decide +kernel
def vX8_turn (parts : Int32) (limit : Int32) (len : Nat → Int32) (row : Nat → Int32) (p1 : Int32) (p2 : Int32) (Q : Int32 → (Nat → Int32) → Prop) : Prop := (preX7_hasPart parts limit p1 ∧ (∀ r_5 : Int32, postX7_hasPart parts limit p1 r_5 → ((r_5 = 0 → (Q (0 : Int32) row)) ∧ (¬ r_5 = 0 → ((p2 < (1 : Int32) → (Q (0 : Int32) row)) ∧ (¬ p2 < (1 : Int32) → (vp_in p1 5 ∧ ((p2 < (len p1.toNatClampNeg) → (vp_in p1 5 ∧ (vp_in p1 5 ∧ (preX8_turned (row p1.toNatClampNeg) (len p1.toNatClampNeg) p2 ∧ (∀ r_58 : Int32, postX8_turned (row p1.toNatClampNeg) (len p1.toNatClampNeg) p2 r_58 → (vp_in p1 5 ∧ (Q (1 : Int32) (upd row p1.toNatClampNeg r_58)))))))) ∧ (¬ p2 < (len p1.toNatClampNeg) → (Q (0 : Int32) row))))))))))
set_option maxHeartbeats 4000000 in
set_option maxRecDepth 100000 in
theorem wX8_turn (l : Launch) (g : GP) (qX : Nat) (qP : Nat) (qI : Nat) (qt : Nat) (qd : Nat) (qe : Nat) (qsp : Nat) (qrk : Nat) (qty : Nat) (ql : Nat) (qr : Nat) (qv : Nat) (qg : Nat) (sz : Nat) (parts : Int32) (limit : Int32) (len : Nat → Int32) (row : Nat → Int32) (p1 : Int32) (p2 : Int32) {Q : Int32 → (Nat → Int32) → Prop} (hv : vX8_turn parts limit len row p1 p2 Q) : Met l yX8_turn wsX8_turn rmX8_turn (va_Pc [.ref qX, .int p1, .int p2] (fun U => U.heap.size = sz ∧ va_P g.1 vwCl [(qX, .inr (8, [.ref qP, .ref qI, .ref qt, .ref qd, .ref qe, .ref qsp, .ref qrk, .ref qty])), (qt, .inr (7, [.ref ql, .ref qr, .ref qv, .ref qg, .int parts, .int limit])), (ql, .inl (g.2 0, 5, .inl len)), (qr, .inl (g.2 0, 5, .inl row))] U.heap ∧ GK g U ∧ va_D (fun _ => True) [(qX, .inr (8, [.ref qP, .ref qI, .ref qt, .ref qd, .ref qe, .ref qsp, .ref qrk, .ref qty])), (qt, .inr (7, [.ref ql, .ref qr, .ref qv, .ref qg, .int parts, .int limit])), (ql, .inl (g.2 0, 5, .inl len)), (qr, .inl (g.2 0, 5, .inl row))])) (va_Qi (fun (r : Int32) (u : (Nat → Int32)) => Q r u) (fun (u : (Nat → Int32)) t => va_P g.1 vwCl [(qX, .inr (8, [.ref qP, .ref qI, .ref qt, .ref qd, .ref qe, .ref qsp, .ref qrk, .ref qty])), (qt, .inr (7, [.ref ql, .ref qr, .ref qv, .ref qg, .int parts, .int limit])), (ql, .inl (g.2 0, 5, .inl len)), (qr, .inl (g.2 0, 5, .inl u))] t.heap ∧ va_D (va_A [(qX, .inr (8, [.ref qP, .ref qI, .ref qt, .ref qd, .ref qe, .ref qsp, .ref qrk, .ref qty])), (qt, .inr (7, [.ref ql, .ref qr, .ref qv, .ref qg, .int parts, .int limit])), (ql, .inl (g.2 0, 5, .inl len)), (qr, .inl (g.2 0, 5, .inl row))] sz) [(qX, .inr (8, [.ref qP, .ref qI, .ref qt, .ref qd, .ref qe, .ref qsp, .ref qrk, .ref qty])), (qt, .inr (7, [.ref ql, .ref qr, .ref qv, .ref qg, .int parts, .int limit])), (ql, .inl (g.2 0, 5, .inl len)), (qr, .inl (g.2 0, 5, .inl u))]) (va_A [(qX, .inr (8, [.ref qP, .ref qI, .ref qt, .ref qd, .ref qe, .ref qsp, .ref qrk, .ref qty])), (qt, .inr (7, [.ref ql, .ref qr, .ref qv, .ref qg, .int parts, .int limit])), (ql, .inl (g.2 0, 5, .inl len)), (qr, .inl (g.2 0, 5, .inl row))] sz)) 0 0 (va_A [(qX, .inr (8, [.ref qP, .ref qI, .ref qt, .ref qd, .ref qe, .ref qsp, .ref qrk, .ref qty])), (qt, .inr (7, [.ref ql, .ref qr, .ref qv, .ref qg, .int parts, .int limit])), (ql, .inl (g.2 0, 5, .inl len)), (qr, .inl (g.2 0, 5, .inl row))] sz) := by
  refine Met.ofW (cc := cX8_turn) (maxL := 3) (ret := (some .boolean)) (by decide) rfl ?_
  intro p e s m args below meth c s₁ B hml hv'
  obtain ⟨rfl, hsz, hP, hG, hD0⟩ := hv'
  have S : CallFix p m c cX8_turn 3 s _ wsX8_turn RX8 := ⟨B.exec, B.bytes, hml, findClass_of_methodNamed B.named, atoms_spec (ws := wsX8_turn) B.pre⟩
  obtain ⟨hx, hb, hml, hown, hts⟩ := id S
  have hK := hG.1
  have hr := B.returns
  have hlocks := B.notSynchronized
  subst hsz
  have hD := hD0.self (sz := s.heap.size)
  generalize hAe : va_A [(qX, .inr (8, [.ref qP, .ref qI, .ref qt, .ref qd, .ref qe, .ref qsp, .ref qrk, .ref qty])), (qt, .inr (7, [.ref ql, .ref qr, .ref qv, .ref qg, .int parts, .int limit])), (ql, .inl (g.2 0, 5, .inl len)), (qr, .inl (g.2 0, 5, .inl row))] s.heap.size = A at hD ⊢
  have hA : ∀ q : Nat, s.heap.size ≤ q → A q := fun q h => by rw [← hAe]; exact Or.inr h
  have hS : va_S A s.heap s.heap [] := va_S.rf
  clear hD0 hAe
  have hl := lv_entry ([.ref qX, .int p1, .int p2]) (n := 3) (Nat.le_of_ble_eq_true rfl)
  rw [lg_entry_eq]
  generalize (lg_sl ([.ref qX, .int p1, .int p2]) ++ List.replicate (3 - (lg_sl ([.ref qX, .int p1, .int p2])).length) Slot.unset).toArray = ls at hl ⊢
  have hl : lv_has ls 3 [(0, .ref qX), (1, .int p1), (2, .int p2)] := hl
  unfold vX8_turn at hv
  refine lv_aload_n hx hb dX8_turn_0 rfl (lv_at hl 0 rfl) ?_
  refine va_get (D := g.1) (ci := 8) (v := .ref qt) (C := RX8) (T := TX8) (N := 8) hx hb hts inX8_turn_8 hown hK hP 0 rfl rfl 2 (by decide) (hts (.fieldLink RX8 24 "RangeCodes" "told" "LRangeCodes$Told;") (List.mem_of_getElem? (i := 1) rfl)) (fun _ h9 => h9) rfl dX8_turn_1 ?_
  refine lv_iload_n hx hb dX8_turn_4 rfl (lv_at hl 1 rfl) ?_
  obtain ⟨ho_1, hv⟩ := hv
  refine vp_callSi (W.runV (As := [.int p1]) (rest := []) S (wX7_hasPart l g qt ql qr qv qg parts limit p1 (sX7_hasPart parts limit p1 ho_1)) (cwV 1 hts gX8_turn_X7_hasPart rfl rfl rfl (by decide +kernel) ⟨Nat.le_of_ble_eq_true rfl, Nat.le_of_ble_eq_true rfl⟩) ⟨blindRO, va_recv hK hP (ci := 7) (q0 := 1) rfl rfl, fun U hU hW => ⟨rfl, by rw [hU]; exact hP.sub (ws' := [(qt, .inr (7, [.ref ql, .ref qr, .ref qv, .ref qg, .int parts, .int limit]))]) [1] rfl, hG.warm hW⟩⟩ rfl rfl hl.1 rfl (lv_room (Nat.le_of_ble_eq_true rfl)) dX8_turn_5 ⟨Nat.le_of_ble_eq_true rfl, Nat.le_of_ble_eq_true rfl⟩) (fun r_5 hr_5 => ?_)
  have hv := hv r_5 hr_5
  obtain ⟨hvt, hvf⟩ := hv
  refine lv_if_eq (tgt := 29) hx hb dX8_turn_8 (by decide) (fun hc => ?_) (fun hc => ?_)
  · have hv := hvt hc
    refine lv_iconst (v := (0 : Int32)) hx hb dX8_turn_29 (by decide) ?_
    have hP9 := hP.sub (ws' := [(qX, .inr (8, [.ref qP, .ref qI, .ref qt, .ref qd, .ref qe, .ref qsp, .ref qrk, .ref qty])), (qt, .inr (7, [.ref ql, .ref qr, .ref qv, .ref qg, .int parts, .int limit])), (ql, .inl (g.2 0, 5, .inl len)), (qr, .inl (g.2 0, 5, .inl row))]) [0, 1, 2, 3] rfl
    have hD9 := hD.sub (ws' := [(qX, .inr (8, [.ref qP, .ref qI, .ref qt, .ref qd, .ref qe, .ref qsp, .ref qrk, .ref qty])), (qt, .inr (7, [.ref ql, .ref qr, .ref qv, .ref qg, .int parts, .int limit])), (ql, .inl (g.2 0, 5, .inl len)), (qr, .inl (g.2 0, 5, .inl row))]) [0, 1, 2, 3] (by decide) rfl
    exact W.zret (v := (0 : Int32)) (ty := .boolean) hx hb hr rfl (fun t ht hW => ⟨⟨_, (row), rfl, hv, by rw [ht]; exact hP9, hD9⟩, hS.F ht⟩) hS.2.2 dX8_turn_30
  · have hv := hvf hc
    refine lv_iload_n hx hb dX8_turn_11 rfl (lv_at hl 2 rfl) ?_
    refine lv_iconst (v := (1 : Int32)) hx hb dX8_turn_12 (by decide) ?_
    obtain ⟨hvt, hvf⟩ := hv
    refine lv_icmp_lt (tgt := 29) hx hb dX8_turn_13 (by decide) (fun hc => ?_) (fun hc => ?_)
    · have hv := hvt hc
      refine lv_iconst (v := (0 : Int32)) hx hb dX8_turn_29 (by decide) ?_
      have hP9 := hP.sub (ws' := [(qX, .inr (8, [.ref qP, .ref qI, .ref qt, .ref qd, .ref qe, .ref qsp, .ref qrk, .ref qty])), (qt, .inr (7, [.ref ql, .ref qr, .ref qv, .ref qg, .int parts, .int limit])), (ql, .inl (g.2 0, 5, .inl len)), (qr, .inl (g.2 0, 5, .inl row))]) [0, 1, 2, 3] rfl
      have hD9 := hD.sub (ws' := [(qX, .inr (8, [.ref qP, .ref qI, .ref qt, .ref qd, .ref qe, .ref qsp, .ref qrk, .ref qty])), (qt, .inr (7, [.ref ql, .ref qr, .ref qv, .ref qg, .int parts, .int limit])), (ql, .inl (g.2 0, 5, .inl len)), (qr, .inl (g.2 0, 5, .inl row))]) [0, 1, 2, 3] (by decide) rfl
      exact W.zret (v := (0 : Int32)) (ty := .boolean) hx hb hr rfl (fun t ht hW => ⟨⟨_, (row), rfl, hv, by rw [ht]; exact hP9, hD9⟩, hS.F ht⟩) hS.2.2 dX8_turn_30
    · have hv := hvf hc
      refine lv_iload_n hx hb dX8_turn_16 rfl (lv_at hl 2 rfl) ?_
      refine lv_aload_n hx hb dX8_turn_17 rfl (lv_at hl 0 rfl) ?_
      refine va_get (D := g.1) (ci := 8) (v := .ref qt) (C := RX8) (T := TX8) (N := 8) hx hb hts inX8_turn_8 hown hK hP 0 rfl rfl 2 (by decide) (hts (.fieldLink RX8 24 "RangeCodes" "told" "LRangeCodes$Told;") (List.mem_of_getElem? (i := 1) rfl)) (fun _ h9 => h9) rfl dX8_turn_18 ?_
      refine va_get (D := g.1) (ci := 7) (v := .ref ql) (C := RX7) (T := TX7) (N := 6) hx hb hts inX8_turn_7 hown hK hP 1 rfl rfl 0 (by decide) (hts (.fieldLink RX8 135 "RangeCodes$Told" "lengths" "[I") (List.mem_of_getElem? (i := 2) rfl)) (fun _ h9 => h9) rfl dX8_turn_21 ?_
      refine lv_iload_n hx hb dX8_turn_24 rfl (lv_at hl 1 rfl) ?_
      obtain ⟨ho_2, hv⟩ := hv
      refine va_iald hx hb hK hP 2 0 rfl rfl ho_2 dX8_turn_25 ?_
      obtain ⟨hvt, hvf⟩ := hv
      refine lv_icmp_lt (tgt := 31) hx hb dX8_turn_26 (by decide) (fun hc => ?_) (fun hc => ?_)
      · have hv := hvt hc
        refine lv_aload_n hx hb dX8_turn_31 rfl (lv_at hl 0 rfl) ?_
        refine va_get (D := g.1) (ci := 8) (v := .ref qt) (C := RX8) (T := TX8) (N := 8) hx hb hts inX8_turn_8 hown hK hP 0 rfl rfl 2 (by decide) (hts (.fieldLink RX8 24 "RangeCodes" "told" "LRangeCodes$Told;") (List.mem_of_getElem? (i := 1) rfl)) (fun _ h9 => h9) rfl dX8_turn_32 ?_
        refine va_get (D := g.1) (ci := 7) (v := .ref qr) (C := RX7) (T := TX7) (N := 6) hx hb hts inX8_turn_7 hown hK hP 1 rfl rfl 1 (by decide) (hts (.fieldLink RX8 138 "RangeCodes$Told" "rows" "[I") (List.mem_of_getElem? (i := 3) rfl)) (fun _ h9 => h9) rfl dX8_turn_35 ?_
        refine lv_iload_n hx hb dX8_turn_38 rfl (lv_at hl 1 rfl) ?_
        refine lv_aload_n hx hb dX8_turn_39 rfl (lv_at hl 0 rfl) ?_
        refine va_get (D := g.1) (ci := 8) (v := .ref qt) (C := RX8) (T := TX8) (N := 8) hx hb hts inX8_turn_8 hown hK hP 0 rfl rfl 2 (by decide) (hts (.fieldLink RX8 24 "RangeCodes" "told" "LRangeCodes$Told;") (List.mem_of_getElem? (i := 1) rfl)) (fun _ h9 => h9) rfl dX8_turn_40 ?_
        refine va_get (D := g.1) (ci := 7) (v := .ref qr) (C := RX7) (T := TX7) (N := 6) hx hb hts inX8_turn_7 hown hK hP 1 rfl rfl 1 (by decide) (hts (.fieldLink RX8 138 "RangeCodes$Told" "rows" "[I") (List.mem_of_getElem? (i := 3) rfl)) (fun _ h9 => h9) rfl dX8_turn_43 ?_
        refine lv_iload_n hx hb dX8_turn_46 rfl (lv_at hl 1 rfl) ?_
        obtain ⟨ho_3, hv⟩ := hv
        refine va_iald hx hb hK hP 3 0 rfl rfl ho_3 dX8_turn_47 ?_
        refine lv_aload_n hx hb dX8_turn_48 rfl (lv_at hl 0 rfl) ?_
        refine va_get (D := g.1) (ci := 8) (v := .ref qt) (C := RX8) (T := TX8) (N := 8) hx hb hts inX8_turn_8 hown hK hP 0 rfl rfl 2 (by decide) (hts (.fieldLink RX8 24 "RangeCodes" "told" "LRangeCodes$Told;") (List.mem_of_getElem? (i := 1) rfl)) (fun _ h9 => h9) rfl dX8_turn_49 ?_
        refine va_get (D := g.1) (ci := 7) (v := .ref ql) (C := RX7) (T := TX7) (N := 6) hx hb hts inX8_turn_7 hown hK hP 1 rfl rfl 0 (by decide) (hts (.fieldLink RX8 135 "RangeCodes$Told" "lengths" "[I") (List.mem_of_getElem? (i := 2) rfl)) (fun _ h9 => h9) rfl dX8_turn_52 ?_
        refine lv_iload_n hx hb dX8_turn_55 rfl (lv_at hl 1 rfl) ?_
        obtain ⟨ho_4, hv⟩ := hv
        refine va_iald hx hb hK hP 2 0 rfl rfl ho_4 dX8_turn_56 ?_
        refine lv_iload_n hx hb dX8_turn_57 rfl (lv_at hl 2 rfl) ?_
        obtain ⟨ho_5, hv⟩ := hv
        refine vp_callSi (W.runS (As := [.int (row p1.toNatClampNeg), .int (len p1.toNatClampNeg), .int p2]) (rest := [.int p1, .ref qr]) S (wX8_turned l g (row p1.toNatClampNeg) (len p1.toNatClampNeg) p2 (sX8_turned (row p1.toNatClampNeg) (len p1.toNatClampNeg) p2 ho_5)) (va_cwS 3 hts gX8_turn_X8_turned rfl rfl rfl (by decide +kernel) ⟨Nat.le_of_ble_eq_true rfl, Nat.le_of_ble_eq_true rfl⟩) ⟨blindRO, fun U hU hW => ⟨rfl, by rw [hU]; exact hP.sub (ws' := []) [] rfl, hG.warm hW⟩⟩ rfl rfl hl.1 rfl (lv_room (Nat.le_of_ble_eq_true rfl)) dX8_turn_58 ⟨Nat.le_of_ble_eq_true rfl, Nat.le_of_ble_eq_true rfl⟩) (fun r_58 hr_58 => ?_)
        have hv := hv r_58 hr_58
        obtain ⟨ho_6, hv⟩ := hv
        refine va_iast hx hb hK hP hD hS 3 0 rfl rfl ho_6 dX8_turn_61 (fun H locs hP hD hS => ?_)
        have hP : va_P g.1 vwCl [(qX, .inr (8, [.ref qP, .ref qI, .ref qt, .ref qd, .ref qe, .ref qsp, .ref qrk, .ref qty])), (qt, .inr (7, [.ref ql, .ref qr, .ref qv, .ref qg, .int parts, .int limit])), (ql, .inl (g.2 0, 5, .inl len)), (qr, .inl (g.2 0, 5, .inl (upd row p1.toNatClampNeg r_58)))] H := hP
        have hD : va_D A [(qX, .inr (8, [.ref qP, .ref qI, .ref qt, .ref qd, .ref qe, .ref qsp, .ref qrk, .ref qty])), (qt, .inr (7, [.ref ql, .ref qr, .ref qv, .ref qg, .int parts, .int limit])), (ql, .inl (g.2 0, 5, .inl len)), (qr, .inl (g.2 0, 5, .inl (upd row p1.toNatClampNeg r_58)))] := hD
        refine lv_iconst (v := (1 : Int32)) hx hb dX8_turn_62 (by decide) ?_
        have hP9 := hP.sub (ws' := [(qX, .inr (8, [.ref qP, .ref qI, .ref qt, .ref qd, .ref qe, .ref qsp, .ref qrk, .ref qty])), (qt, .inr (7, [.ref ql, .ref qr, .ref qv, .ref qg, .int parts, .int limit])), (ql, .inl (g.2 0, 5, .inl len)), (qr, .inl (g.2 0, 5, .inl (upd row p1.toNatClampNeg r_58)))]) [0, 1, 2, 3] rfl
        have hD9 := hD.sub (ws' := [(qX, .inr (8, [.ref qP, .ref qI, .ref qt, .ref qd, .ref qe, .ref qsp, .ref qrk, .ref qty])), (qt, .inr (7, [.ref ql, .ref qr, .ref qv, .ref qg, .int parts, .int limit])), (ql, .inl (g.2 0, 5, .inl len)), (qr, .inl (g.2 0, 5, .inl (upd row p1.toNatClampNeg r_58)))]) [0, 1, 2, 3] (by decide) rfl
        exact W.zret (v := (1 : Int32)) (ty := .boolean) hx hb hr rfl (fun t ht hW => ⟨⟨_, ((upd row p1.toNatClampNeg r_58)), rfl, hv, by rw [ht]; exact hP9, hD9⟩, hS.F ht⟩) hS.2.2 dX8_turn_63
      · have hv := hvf hc
        refine lv_iconst (v := (0 : Int32)) hx hb dX8_turn_29 (by decide) ?_
        have hP9 := hP.sub (ws' := [(qX, .inr (8, [.ref qP, .ref qI, .ref qt, .ref qd, .ref qe, .ref qsp, .ref qrk, .ref qty])), (qt, .inr (7, [.ref ql, .ref qr, .ref qv, .ref qg, .int parts, .int limit])), (ql, .inl (g.2 0, 5, .inl len)), (qr, .inl (g.2 0, 5, .inl row))]) [0, 1, 2, 3] rfl
        have hD9 := hD.sub (ws' := [(qX, .inr (8, [.ref qP, .ref qI, .ref qt, .ref qd, .ref qe, .ref qsp, .ref qrk, .ref qty])), (qt, .inr (7, [.ref ql, .ref qr, .ref qv, .ref qg, .int parts, .int limit])), (ql, .inl (g.2 0, 5, .inl len)), (qr, .inl (g.2 0, 5, .inl row))]) [0, 1, 2, 3] (by decide) rfl
        exact W.zret (v := (0 : Int32)) (ty := .boolean) hx hb hr rfl (fun t ht hW => ⟨⟨_, (row), rfl, hv, by rw [ht]; exact hP9, hD9⟩, hS.F ht⟩) hS.2.2 dX8_turn_30
theorem isR_wR {T : Cd} {row : Nat → Int32} (h : isR T row) {p : Nat} (hp : p < cn T) {R : Nat} (hR : R < 2 ^ cL T p) {x : Int32} (hx : x.toInt = (R : Int)) : isR (wR T p R) (upd row p x) := fun q hq => by
  show (upd row p x q).toInt = ((if q = p then R else cR T q : Nat) : Int) ∧ (if q = p then R else cR T q) < 2 ^ cL T q
  by_cases z : q = p
  · subst z; rw [upd_eq, if_pos rfl]; exact ⟨hx, hR⟩
  · rw [upd_ne z, if_neg z]; exact h q hq
abbrev preX8_turn (T : Cd) (G0 : Lg) (G1 : Lg) (lim : Nat) (parts : Int32) (limit : Int32) (len : Nat → Int32) (row : Nat → Int32) (p1 : Int32) (p2 : Int32) : Prop := isN T parts ∧ isL T len ∧ isR T row
abbrev postX8_turn (T : Cd) (G0 : Lg) (G1 : Lg) (lim : Nat) (parts : Int32) (limit : Int32) (len : Nat → Int32) (row : Nat → Int32) (p1 : Int32) (p2 : Int32) (r : Int32) (row' : Nat → Int32) : Prop := r.toInt = spTurn T p1.toInt p2.toInt ∧ isR (nxTurn T p1.toInt p2.toInt) row'
theorem sX8_turn (T : Cd) (G0 : Lg) (G1 : Lg) (lim : Nat) (parts : Int32) (limit : Int32) (len : Nat → Int32) (row : Nat → Int32) (p1 : Int32) (p2 : Int32) (H : preX8_turn T G0 G1 lim parts limit len row p1 p2) : vX8_turn parts limit len row p1 p2 (postX8_turn T G0 G1 lim parts limit len row p1 p2) := by
  obtain ⟨hN, hL, hR⟩ := H
  have hn5 := hN.2
  refine ⟨trivial, fun r hr => ?_⟩
  have hr : r = if 0 ≤ p1.toInt ∧ p1.toInt < (cn T : Int) then 1 else 0 := by rw [← hN.1]; exact hr
  rw [hr, q_if1, fa_lt p2, z1]
  have no : ¬ ((0 ≤ p1.toInt ∧ p1.toInt < (cn T : Int)) ∧ 1 ≤ p2.toInt ∧ p2.toInt < (cL T p1.toInt.toNat : Int)) → (0 : Int32).toInt = spTurn T p1.toInt p2.toInt ∧ isR (nxTurn T p1.toInt p2.toInt) row := fun q => by
    unfold spTurn nxTurn
    rw [if_neg q, if_neg q]; exact ⟨rfl, hR⟩
  refine ⟨fun a => no (fun q => a q.1), fun a => ⟨fun b => no (fun q => by omega), fun b => ?_⟩⟩
  have a := Decidable.not_not.mp a
  have e : p1.toInt = (p1.toInt.toNat : Int) := by omega
  have hp : p1.toInt.toNat < cn T := by omega
  have hl := hL _ hp
  have hr := hR _ hp
  rw [q_cl e]
  refine ⟨q_in e (by omega), ?_⟩
  rw [fa_lt p2, hl.1]
  refine ⟨fun c => ⟨q_in e (by omega), q_in e (by omega), ⟨by omega, by omega, by omega, ?_, by omega, by omega⟩, fun r2 hr2 => ⟨q_in e (by omega), ?_⟩⟩, fun c => no (fun q => by omega)⟩
  · rw [hl.1, hr.1, Int.toNat_natCast, Int.toNat_natCast]; exact hr.2
  · have hr2 : r2.toInt = (trX (row p1.toInt.toNat).toInt.toNat (len p1.toInt.toNat).toInt.toNat p2.toInt.toNat : Int) := hr2
    rw [hl.1, hr.1, Int.toNat_natCast, Int.toNat_natCast] at hr2
    have hc : (0 ≤ p1.toInt ∧ p1.toInt < (cn T : Int)) ∧ 1 ≤ p2.toInt ∧ p2.toInt < (cL T p1.toInt.toNat : Int) := ⟨a, by omega, c⟩
    unfold postX8_turn spTurn nxTurn
    rw [if_pos hc, if_pos hc]
    exact ⟨rfl, isR_wR hR hp (trN_lt _ _) hr2⟩
theorem dX8_swapIn_0 : decode cX8_swapIn 0 = .ok (.aload_n 0, 1) := by decide +kernel
theorem dX8_swapIn_1 : decode cX8_swapIn 1 = .ok (.iload_n 1, 1) := by decide +kernel
theorem dX8_swapIn_2 : decode cX8_swapIn 2 = .ok (.iaload, 1) := by decide +kernel
theorem dX8_swapIn_3 : decode cX8_swapIn 3 = .ok (.istore_n 3, 1) := by decide +kernel
theorem dX8_swapIn_4 : decode cX8_swapIn 4 = .ok (.aload_n 0, 1) := by decide +kernel
theorem dX8_swapIn_5 : decode cX8_swapIn 5 = .ok (.iload_n 1, 1) := by decide +kernel
theorem dX8_swapIn_6 : decode cX8_swapIn 6 = .ok (.aload_n 0, 1) := by decide +kernel
theorem dX8_swapIn_7 : decode cX8_swapIn 7 = .ok (.iload_n 2, 1) := by decide +kernel
theorem dX8_swapIn_8 : decode cX8_swapIn 8 = .ok (.iaload, 1) := by decide +kernel
theorem dX8_swapIn_9 : decode cX8_swapIn 9 = .ok (.iastore, 1) := by decide +kernel
theorem dX8_swapIn_10 : decode cX8_swapIn 10 = .ok (.aload_n 0, 1) := by decide +kernel
theorem dX8_swapIn_11 : decode cX8_swapIn 11 = .ok (.iload_n 2, 1) := by decide +kernel
theorem dX8_swapIn_12 : decode cX8_swapIn 12 = .ok (.iload_n 3, 1) := by decide +kernel
theorem dX8_swapIn_13 : decode cX8_swapIn 13 = .ok (.iastore, 1) := by decide +kernel
theorem dX8_swapIn_14 : decode cX8_swapIn 14 = .ok (.return_, 1) := by decide +kernel
abbrev rmX8_swapIn : Room := { frames := 0, cells := 0, slots := 0, locals := 0 }
def vX8_swapIn (fA : Nat → Int32) (p2 : Int32) (p3 : Int32) (Q : (Nat → Int32) → Prop) : Prop := (vp_in p2 5 ∧ (vp_in p3 5 ∧ (vp_in p2 5 ∧ (vp_in p3 5 ∧ (Q (upd (upd fA p2.toNatClampNeg (fA p3.toNatClampNeg)) p3.toNatClampNeg (fA p2.toNatClampNeg)))))))
set_option maxHeartbeats 4000000 in
set_option maxRecDepth 100000 in
theorem wX8_swapIn (l : Launch) (g : GP) (qa : Nat) (sz : Nat) (fA : Nat → Int32) (p2 : Int32) (p3 : Int32) {Q : (Nat → Int32) → Prop} (hv : vX8_swapIn fA p2 p3 Q) : Met l yX8_swapIn wsX8_swapIn rmX8_swapIn (va_Pc [.ref qa, .int p2, .int p3] (fun U => U.heap.size = sz ∧ va_P g.1 vwCl [(qa, .inl (g.2 0, 5, .inl fA))] U.heap ∧ GK g U ∧ va_D (fun _ => True) [(qa, .inl (g.2 0, 5, .inl fA))])) (va_Qv (fun (u : (Nat → Int32)) => Q u) (fun (u : (Nat → Int32)) t => va_P g.1 vwCl [(qa, .inl (g.2 0, 5, .inl u))] t.heap ∧ va_D (va_A [(qa, .inl (g.2 0, 5, .inl fA))] sz) [(qa, .inl (g.2 0, 5, .inl u))]) (va_A [(qa, .inl (g.2 0, 5, .inl fA))] sz)) 0 0 (va_A [(qa, .inl (g.2 0, 5, .inl fA))] sz) := by
  refine Met.ofW (cc := cX8_swapIn) (maxL := 4) (ret := none) (by decide) rfl ?_
  intro p e s m args below meth c s₁ B hml hv'
  obtain ⟨rfl, hsz, hP, hG, hD0⟩ := hv'
  have S : CallFix p m c cX8_swapIn 4 s _ wsX8_swapIn RX8 := ⟨B.exec, B.bytes, hml, findClass_of_methodNamed B.named, atoms_spec (ws := wsX8_swapIn) B.pre⟩
  obtain ⟨hx, hb, hml, hown, hts⟩ := id S
  have hK := hG.1
  have hr := B.returns
  have hlocks := B.notSynchronized
  subst hsz
  have hD := hD0.self (sz := s.heap.size)
  generalize hAe : va_A [(qa, .inl (g.2 0, 5, .inl fA))] s.heap.size = A at hD ⊢
  have hA : ∀ q : Nat, s.heap.size ≤ q → A q := fun q h => by rw [← hAe]; exact Or.inr h
  have hS : va_S A s.heap s.heap [] := va_S.rf
  clear hD0 hAe
  have hl := lv_entry ([.ref qa, .int p2, .int p3]) (n := 4) (Nat.le_of_ble_eq_true rfl)
  rw [lg_entry_eq]
  generalize (lg_sl ([.ref qa, .int p2, .int p3]) ++ List.replicate (4 - (lg_sl ([.ref qa, .int p2, .int p3])).length) Slot.unset).toArray = ls at hl ⊢
  have hl : lv_has ls 4 [(0, .ref qa), (1, .int p2), (2, .int p3)] := hl
  unfold vX8_swapIn at hv
  refine lv_aload_n hx hb dX8_swapIn_0 rfl (lv_at hl 0 rfl) ?_
  refine lv_iload_n hx hb dX8_swapIn_1 rfl (lv_at hl 1 rfl) ?_
  obtain ⟨ho_1, hv⟩ := hv
  refine va_iald hx hb hK hP 0 0 rfl rfl ho_1 dX8_swapIn_2 ?_
  refine lv_istore_n (lv' := [(3, .int (fA p2.toNatClampNeg)), (0, .ref qa), (1, .int p2), (2, .int p3)]) hx hb dX8_swapIn_3 rfl hl (by decide) rfl (fun ls hl => ?_)
  refine lv_aload_n hx hb dX8_swapIn_4 rfl (lv_at hl 1 rfl) ?_
  refine lv_iload_n hx hb dX8_swapIn_5 rfl (lv_at hl 2 rfl) ?_
  refine lv_aload_n hx hb dX8_swapIn_6 rfl (lv_at hl 1 rfl) ?_
  refine lv_iload_n hx hb dX8_swapIn_7 rfl (lv_at hl 3 rfl) ?_
  obtain ⟨ho_2, hv⟩ := hv
  refine va_iald hx hb hK hP 0 0 rfl rfl ho_2 dX8_swapIn_8 ?_
  obtain ⟨ho_3, hv⟩ := hv
  refine va_iast hx hb hK hP hD hS 0 0 rfl rfl ho_3 dX8_swapIn_9 (fun H locs hP hD hS => ?_)
  have hP : va_P g.1 vwCl [(qa, .inl (g.2 0, 5, .inl (upd fA p2.toNatClampNeg (fA p3.toNatClampNeg))))] H := hP
  have hD : va_D A [(qa, .inl (g.2 0, 5, .inl (upd fA p2.toNatClampNeg (fA p3.toNatClampNeg))))] := hD
  refine lv_aload_n hx hb dX8_swapIn_10 rfl (lv_at hl 1 rfl) ?_
  refine lv_iload_n hx hb dX8_swapIn_11 rfl (lv_at hl 3 rfl) ?_
  refine lv_iload_n hx hb dX8_swapIn_12 rfl (lv_at hl 0 rfl) ?_
  obtain ⟨ho_4, hv⟩ := hv
  refine va_iast hx hb hK hP hD hS 0 0 rfl rfl ho_4 dX8_swapIn_13 (fun H locs hP hD hS => ?_)
  have hP : va_P g.1 vwCl [(qa, .inl (g.2 0, 5, .inl (upd (upd fA p2.toNatClampNeg (fA p3.toNatClampNeg)) p3.toNatClampNeg (fA p2.toNatClampNeg))))] H := hP
  have hD : va_D A [(qa, .inl (g.2 0, 5, .inl (upd (upd fA p2.toNatClampNeg (fA p3.toNatClampNeg)) p3.toNatClampNeg (fA p2.toNatClampNeg))))] := hD
  have hP9 := hP.sub (ws' := [(qa, .inl (g.2 0, 5, .inl (upd (upd fA p2.toNatClampNeg (fA p3.toNatClampNeg)) p3.toNatClampNeg (fA p2.toNatClampNeg))))]) [0] rfl
  have hD9 := hD.sub (ws' := [(qa, .inl (g.2 0, 5, .inl (upd (upd fA p2.toNatClampNeg (fA p3.toNatClampNeg)) p3.toNatClampNeg (fA p2.toNatClampNeg))))]) [0] (by decide) rfl
  exact W.vret hx hb hr (fun t ht hW => ⟨⟨((upd (upd fA p2.toNatClampNeg (fA p3.toNatClampNeg)) p3.toNatClampNeg (fA p2.toNatClampNeg))), rfl, hv, by rw [ht]; exact hP9, hD9⟩, hS.F ht⟩) hS.2.2 dX8_swapIn_14
abbrev preX8_swapIn (a : Nat) (b : Nat) (fA : Nat → Int32) (p2 : Int32) (p3 : Int32) : Prop := p2.toInt = (a : Int) ∧ a < 5 ∧ p3.toInt = (b : Int) ∧ b < 5
abbrev postX8_swapIn (a : Nat) (b : Nat) (fA : Nat → Int32) (p2 : Int32) (p3 : Int32) (fA' : Nat → Int32) : Prop := fA' = upd (upd fA a (fA b)) b (fA a)
theorem sX8_swapIn (a : Nat) (b : Nat) (fA : Nat → Int32) (p2 : Int32) (p3 : Int32) (H : preX8_swapIn a b fA p2 p3) : vX8_swapIn fA p2 p3 (postX8_swapIn a b fA p2 p3) := by
  obtain ⟨h1, h2, h3, h4⟩ := H
  unfold vX8_swapIn
  rw [q_cl h1, q_cl h3]
  exact ⟨q_in h1 h2, q_in h3 h4, q_in h1 h2, q_in h3 h4, rfl⟩
set_option maxRecDepth 20000 in
theorem ggX8_swap_X7_hasPart : GoodIn wsX8_swap wsX7_hasPart := goodIn_r _ [9, 10, 23, 24, 25, 26, 27, 28] (by decide +kernel) (by decide +kernel)
set_option maxRecDepth 20000 in
theorem gX8_swap_X7_hasPart : GoodIn wsX8_swap (wsV RX8 119 RX7 yX7_hasPart wsX7_hasPart) := goodIn_app (goodIn_of _ (by decide +kernel)) ggX8_swap_X7_hasPart
set_option maxRecDepth 20000 in
theorem ggX8_swap_X8_swapIn : GoodIn wsX8_swap wsX8_swapIn := goodIn_r _ [14] (by decide +kernel) (by decide +kernel)
set_option maxRecDepth 20000 in
theorem gX8_swap_X8_swapIn : GoodIn wsX8_swap (va_wsS RX8 145 yX8_swapIn wsX8_swapIn) := goodIn_app (goodIn_of _ (by decide +kernel)) ggX8_swap_X8_swapIn
theorem dX8_swap_0 : decode cX8_swap 0 = .ok (.aload_n 0, 1) := by decide +kernel
theorem dX8_swap_1 : decode cX8_swap 1 = .ok (.getfield 24, 3) := by decide +kernel
theorem dX8_swap_4 : decode cX8_swap 4 = .ok (.iload_n 1, 1) := by decide +kernel
theorem dX8_swap_5 : decode cX8_swap 5 = .ok (.invokevirtual 119, 3) := by decide +kernel
theorem dX8_swap_8 : decode cX8_swap 8 = .ok (.ifCond .eq 19, 3) := by decide +kernel
theorem dX8_swap_11 : decode cX8_swap 11 = .ok (.aload_n 0, 1) := by decide +kernel
theorem dX8_swap_12 : decode cX8_swap 12 = .ok (.getfield 24, 3) := by decide +kernel
theorem dX8_swap_15 : decode cX8_swap 15 = .ok (.iload_n 2, 1) := by decide +kernel
theorem dX8_swap_16 : decode cX8_swap 16 = .ok (.invokevirtual 119, 3) := by decide +kernel
theorem dX8_swap_19 : decode cX8_swap 19 = .ok (.ifCond .eq 8, 3) := by decide +kernel
theorem dX8_swap_22 : decode cX8_swap 22 = .ok (.iload_n 1, 1) := by decide +kernel
theorem dX8_swap_23 : decode cX8_swap 23 = .ok (.iload_n 2, 1) := by decide +kernel
theorem dX8_swap_24 : decode cX8_swap 24 = .ok (.if_icmp .ne 5, 3) := by decide +kernel
theorem dX8_swap_27 : decode cX8_swap 27 = .ok (.iconst 0, 1) := by decide +kernel
theorem dX8_swap_28 : decode cX8_swap 28 = .ok (.ireturn, 1) := by decide +kernel
theorem dX8_swap_29 : decode cX8_swap 29 = .ok (.aload_n 0, 1) := by decide +kernel
theorem dX8_swap_30 : decode cX8_swap 30 = .ok (.getfield 24, 3) := by decide +kernel
theorem dX8_swap_33 : decode cX8_swap 33 = .ok (.getfield 135, 3) := by decide +kernel
theorem dX8_swap_36 : decode cX8_swap 36 = .ok (.iload_n 1, 1) := by decide +kernel
theorem dX8_swap_37 : decode cX8_swap 37 = .ok (.iload_n 2, 1) := by decide +kernel
theorem dX8_swap_38 : decode cX8_swap 38 = .ok (.invokestatic 145, 3) := by decide +kernel
theorem dX8_swap_41 : decode cX8_swap 41 = .ok (.aload_n 0, 1) := by decide +kernel
theorem dX8_swap_42 : decode cX8_swap 42 = .ok (.getfield 24, 3) := by decide +kernel
theorem dX8_swap_45 : decode cX8_swap 45 = .ok (.getfield 138, 3) := by decide +kernel
theorem dX8_swap_48 : decode cX8_swap 48 = .ok (.iload_n 1, 1) := by decide +kernel
theorem dX8_swap_49 : decode cX8_swap 49 = .ok (.iload_n 2, 1) := by decide +kernel
theorem dX8_swap_50 : decode cX8_swap 50 = .ok (.invokestatic 145, 3) := by decide +kernel
theorem dX8_swap_53 : decode cX8_swap 53 = .ok (.aload_n 0, 1) := by decide +kernel
theorem dX8_swap_54 : decode cX8_swap 54 = .ok (.getfield 24, 3) := by decide +kernel
theorem dX8_swap_57 : decode cX8_swap 57 = .ok (.getfield 122, 3) := by decide +kernel
theorem dX8_swap_60 : decode cX8_swap 60 = .ok (.iload_n 1, 1) := by decide +kernel
theorem dX8_swap_61 : decode cX8_swap 61 = .ok (.iload_n 2, 1) := by decide +kernel
theorem dX8_swap_62 : decode cX8_swap 62 = .ok (.invokestatic 145, 3) := by decide +kernel
theorem dX8_swap_65 : decode cX8_swap 65 = .ok (.iconst 1, 1) := by decide +kernel
theorem dX8_swap_66 : decode cX8_swap 66 = .ok (.ireturn, 1) := by decide +kernel
abbrev rmX8_swap : Room := { frames := 1, cells := 0, slots := 0, locals := 23 }
theorem inX8_swap_7 : ∀ w ∈ wsX70, w ∈ wsX8_swap := by decide +kernel
theorem inX8_swap_8 : ∀ w ∈ wsX80, w ∈ wsX8_swap := by decide +kernel
def vX8_swap (parts : Int32) (limit : Int32) (len : Nat → Int32) (row : Nat → Int32) (vot : Nat → Int32) (p1 : Int32) (p2 : Int32) (Q : Int32 → (Nat → Int32) → (Nat → Int32) → (Nat → Int32) → Prop) : Prop := (preX7_hasPart parts limit p1 ∧ (∀ r_5 : Int32, postX7_hasPart parts limit p1 r_5 → ((r_5 = 0 → (Q (0 : Int32) len row vot)) ∧ (¬ r_5 = 0 → (preX7_hasPart parts limit p2 ∧ (∀ r_16 : Int32, postX7_hasPart parts limit p2 r_16 → ((r_16 = 0 → (Q (0 : Int32) len row vot)) ∧ (¬ r_16 = 0 → ((¬ p1 = p2 → (∃ (a_38 : Nat) (b_38 : Nat), preX8_swapIn a_38 b_38 len p1 p2 ∧ (∀ (fA_38 : Nat → Int32), postX8_swapIn a_38 b_38 len p1 p2 fA_38 → (∃ (a_50 : Nat) (b_50 : Nat), preX8_swapIn a_50 b_50 row p1 p2 ∧ (∀ (fA_50 : Nat → Int32), postX8_swapIn a_50 b_50 row p1 p2 fA_50 → (∃ (a_62 : Nat) (b_62 : Nat), preX8_swapIn a_62 b_62 vot p1 p2 ∧ (∀ (fA_62 : Nat → Int32), postX8_swapIn a_62 b_62 vot p1 p2 fA_62 → (Q (1 : Int32) fA_38 fA_50 fA_62)))))))) ∧ (p1 = p2 → (Q (0 : Int32) len row vot)))))))))))
set_option maxHeartbeats 4000000 in
set_option maxRecDepth 100000 in
theorem wX8_swap (l : Launch) (g : GP) (qX : Nat) (qP : Nat) (qI : Nat) (qt : Nat) (qd : Nat) (qe : Nat) (qsp : Nat) (qrk : Nat) (qty : Nat) (ql : Nat) (qr : Nat) (qv : Nat) (qg : Nat) (sz : Nat) (parts : Int32) (limit : Int32) (len : Nat → Int32) (row : Nat → Int32) (vot : Nat → Int32) (p1 : Int32) (p2 : Int32) {Q : Int32 → (Nat → Int32) → (Nat → Int32) → (Nat → Int32) → Prop} (hv : vX8_swap parts limit len row vot p1 p2 Q) : Met l yX8_swap wsX8_swap rmX8_swap (va_Pc [.ref qX, .int p1, .int p2] (fun U => U.heap.size = sz ∧ va_P g.1 vwCl [(qX, .inr (8, [.ref qP, .ref qI, .ref qt, .ref qd, .ref qe, .ref qsp, .ref qrk, .ref qty])), (qt, .inr (7, [.ref ql, .ref qr, .ref qv, .ref qg, .int parts, .int limit])), (ql, .inl (g.2 0, 5, .inl len)), (qr, .inl (g.2 0, 5, .inl row)), (qv, .inl (g.2 0, 5, .inl vot))] U.heap ∧ GK g U ∧ va_D (fun _ => True) [(qX, .inr (8, [.ref qP, .ref qI, .ref qt, .ref qd, .ref qe, .ref qsp, .ref qrk, .ref qty])), (qt, .inr (7, [.ref ql, .ref qr, .ref qv, .ref qg, .int parts, .int limit])), (ql, .inl (g.2 0, 5, .inl len)), (qr, .inl (g.2 0, 5, .inl row)), (qv, .inl (g.2 0, 5, .inl vot))])) (va_Qi (fun (r : Int32) (u : (Nat → Int32) × (Nat → Int32) × (Nat → Int32)) => Q r u.1 u.2.1 u.2.2) (fun (u : (Nat → Int32) × (Nat → Int32) × (Nat → Int32)) t => va_P g.1 vwCl [(qX, .inr (8, [.ref qP, .ref qI, .ref qt, .ref qd, .ref qe, .ref qsp, .ref qrk, .ref qty])), (qt, .inr (7, [.ref ql, .ref qr, .ref qv, .ref qg, .int parts, .int limit])), (ql, .inl (g.2 0, 5, .inl u.1)), (qr, .inl (g.2 0, 5, .inl u.2.1)), (qv, .inl (g.2 0, 5, .inl u.2.2))] t.heap ∧ va_D (va_A [(qX, .inr (8, [.ref qP, .ref qI, .ref qt, .ref qd, .ref qe, .ref qsp, .ref qrk, .ref qty])), (qt, .inr (7, [.ref ql, .ref qr, .ref qv, .ref qg, .int parts, .int limit])), (ql, .inl (g.2 0, 5, .inl len)), (qr, .inl (g.2 0, 5, .inl row)), (qv, .inl (g.2 0, 5, .inl vot))] sz) [(qX, .inr (8, [.ref qP, .ref qI, .ref qt, .ref qd, .ref qe, .ref qsp, .ref qrk, .ref qty])), (qt, .inr (7, [.ref ql, .ref qr, .ref qv, .ref qg, .int parts, .int limit])), (ql, .inl (g.2 0, 5, .inl u.1)), (qr, .inl (g.2 0, 5, .inl u.2.1)), (qv, .inl (g.2 0, 5, .inl u.2.2))]) (va_A [(qX, .inr (8, [.ref qP, .ref qI, .ref qt, .ref qd, .ref qe, .ref qsp, .ref qrk, .ref qty])), (qt, .inr (7, [.ref ql, .ref qr, .ref qv, .ref qg, .int parts, .int limit])), (ql, .inl (g.2 0, 5, .inl len)), (qr, .inl (g.2 0, 5, .inl row)), (qv, .inl (g.2 0, 5, .inl vot))] sz)) 0 0 (va_A [(qX, .inr (8, [.ref qP, .ref qI, .ref qt, .ref qd, .ref qe, .ref qsp, .ref qrk, .ref qty])), (qt, .inr (7, [.ref ql, .ref qr, .ref qv, .ref qg, .int parts, .int limit])), (ql, .inl (g.2 0, 5, .inl len)), (qr, .inl (g.2 0, 5, .inl row)), (qv, .inl (g.2 0, 5, .inl vot))] sz) := by
  refine Met.ofW (cc := cX8_swap) (maxL := 3) (ret := (some .boolean)) (by decide) rfl ?_
  intro p e s m args below meth c s₁ B hml hv'
  obtain ⟨rfl, hsz, hP, hG, hD0⟩ := hv'
  have S : CallFix p m c cX8_swap 3 s _ wsX8_swap RX8 := ⟨B.exec, B.bytes, hml, findClass_of_methodNamed B.named, atoms_spec (ws := wsX8_swap) B.pre⟩
  obtain ⟨hx, hb, hml, hown, hts⟩ := id S
  have hK := hG.1
  have hr := B.returns
  have hlocks := B.notSynchronized
  subst hsz
  have hD := hD0.self (sz := s.heap.size)
  generalize hAe : va_A [(qX, .inr (8, [.ref qP, .ref qI, .ref qt, .ref qd, .ref qe, .ref qsp, .ref qrk, .ref qty])), (qt, .inr (7, [.ref ql, .ref qr, .ref qv, .ref qg, .int parts, .int limit])), (ql, .inl (g.2 0, 5, .inl len)), (qr, .inl (g.2 0, 5, .inl row)), (qv, .inl (g.2 0, 5, .inl vot))] s.heap.size = A at hD ⊢
  have hA : ∀ q : Nat, s.heap.size ≤ q → A q := fun q h => by rw [← hAe]; exact Or.inr h
  have hS : va_S A s.heap s.heap [] := va_S.rf
  clear hD0 hAe
  have hl := lv_entry ([.ref qX, .int p1, .int p2]) (n := 3) (Nat.le_of_ble_eq_true rfl)
  rw [lg_entry_eq]
  generalize (lg_sl ([.ref qX, .int p1, .int p2]) ++ List.replicate (3 - (lg_sl ([.ref qX, .int p1, .int p2])).length) Slot.unset).toArray = ls at hl ⊢
  have hl : lv_has ls 3 [(0, .ref qX), (1, .int p1), (2, .int p2)] := hl
  unfold vX8_swap at hv
  refine lv_aload_n hx hb dX8_swap_0 rfl (lv_at hl 0 rfl) ?_
  refine va_get (D := g.1) (ci := 8) (v := .ref qt) (C := RX8) (T := TX8) (N := 8) hx hb hts inX8_swap_8 hown hK hP 0 rfl rfl 2 (by decide) (hts (.fieldLink RX8 24 "RangeCodes" "told" "LRangeCodes$Told;") (List.mem_of_getElem? (i := 1) rfl)) (fun _ h9 => h9) rfl dX8_swap_1 ?_
  refine lv_iload_n hx hb dX8_swap_4 rfl (lv_at hl 1 rfl) ?_
  obtain ⟨ho_1, hv⟩ := hv
  refine vp_callSi (W.runV (As := [.int p1]) (rest := []) S (wX7_hasPart l g qt ql qr qv qg parts limit p1 (sX7_hasPart parts limit p1 ho_1)) (cwV 1 hts gX8_swap_X7_hasPart rfl rfl rfl (by decide +kernel) ⟨Nat.le_of_ble_eq_true rfl, Nat.le_of_ble_eq_true rfl⟩) ⟨blindRO, va_recv hK hP (ci := 7) (q0 := 1) rfl rfl, fun U hU hW => ⟨rfl, by rw [hU]; exact hP.sub (ws' := [(qt, .inr (7, [.ref ql, .ref qr, .ref qv, .ref qg, .int parts, .int limit]))]) [1] rfl, hG.warm hW⟩⟩ rfl rfl hl.1 rfl (lv_room (Nat.le_of_ble_eq_true rfl)) dX8_swap_5 ⟨Nat.le_of_ble_eq_true rfl, Nat.le_of_ble_eq_true rfl⟩) (fun r_5 hr_5 => ?_)
  have hv := hv r_5 hr_5
  obtain ⟨hvt, hvf⟩ := hv
  refine lv_if_eq (tgt := 27) hx hb dX8_swap_8 (by decide) (fun hc => ?_) (fun hc => ?_)
  · have hv := hvt hc
    refine lv_iconst (v := (0 : Int32)) hx hb dX8_swap_27 (by decide) ?_
    have hP9 := hP.sub (ws' := [(qX, .inr (8, [.ref qP, .ref qI, .ref qt, .ref qd, .ref qe, .ref qsp, .ref qrk, .ref qty])), (qt, .inr (7, [.ref ql, .ref qr, .ref qv, .ref qg, .int parts, .int limit])), (ql, .inl (g.2 0, 5, .inl len)), (qr, .inl (g.2 0, 5, .inl row)), (qv, .inl (g.2 0, 5, .inl vot))]) [0, 1, 2, 3, 4] rfl
    have hD9 := hD.sub (ws' := [(qX, .inr (8, [.ref qP, .ref qI, .ref qt, .ref qd, .ref qe, .ref qsp, .ref qrk, .ref qty])), (qt, .inr (7, [.ref ql, .ref qr, .ref qv, .ref qg, .int parts, .int limit])), (ql, .inl (g.2 0, 5, .inl len)), (qr, .inl (g.2 0, 5, .inl row)), (qv, .inl (g.2 0, 5, .inl vot))]) [0, 1, 2, 3, 4] (by decide) rfl
    exact W.zret (v := (0 : Int32)) (ty := .boolean) hx hb hr rfl (fun t ht hW => ⟨⟨_, (len, row, vot), rfl, hv, by rw [ht]; exact hP9, hD9⟩, hS.F ht⟩) hS.2.2 dX8_swap_28
  · have hv := hvf hc
    refine lv_aload_n hx hb dX8_swap_11 rfl (lv_at hl 0 rfl) ?_
    refine va_get (D := g.1) (ci := 8) (v := .ref qt) (C := RX8) (T := TX8) (N := 8) hx hb hts inX8_swap_8 hown hK hP 0 rfl rfl 2 (by decide) (hts (.fieldLink RX8 24 "RangeCodes" "told" "LRangeCodes$Told;") (List.mem_of_getElem? (i := 1) rfl)) (fun _ h9 => h9) rfl dX8_swap_12 ?_
    refine lv_iload_n hx hb dX8_swap_15 rfl (lv_at hl 2 rfl) ?_
    obtain ⟨ho_2, hv⟩ := hv
    refine vp_callSi (W.runV (As := [.int p2]) (rest := []) S (wX7_hasPart l g qt ql qr qv qg parts limit p2 (sX7_hasPart parts limit p2 ho_2)) (cwV 1 hts gX8_swap_X7_hasPart rfl rfl rfl (by decide +kernel) ⟨Nat.le_of_ble_eq_true rfl, Nat.le_of_ble_eq_true rfl⟩) ⟨blindRO, va_recv hK hP (ci := 7) (q0 := 1) rfl rfl, fun U hU hW => ⟨rfl, by rw [hU]; exact hP.sub (ws' := [(qt, .inr (7, [.ref ql, .ref qr, .ref qv, .ref qg, .int parts, .int limit]))]) [1] rfl, hG.warm hW⟩⟩ rfl rfl hl.1 rfl (lv_room (Nat.le_of_ble_eq_true rfl)) dX8_swap_16 ⟨Nat.le_of_ble_eq_true rfl, Nat.le_of_ble_eq_true rfl⟩) (fun r_16 hr_16 => ?_)
    have hv := hv r_16 hr_16
    obtain ⟨hvt, hvf⟩ := hv
    refine lv_if_eq (tgt := 27) hx hb dX8_swap_19 (by decide) (fun hc => ?_) (fun hc => ?_)
    · have hv := hvt hc
      refine lv_iconst (v := (0 : Int32)) hx hb dX8_swap_27 (by decide) ?_
      have hP9 := hP.sub (ws' := [(qX, .inr (8, [.ref qP, .ref qI, .ref qt, .ref qd, .ref qe, .ref qsp, .ref qrk, .ref qty])), (qt, .inr (7, [.ref ql, .ref qr, .ref qv, .ref qg, .int parts, .int limit])), (ql, .inl (g.2 0, 5, .inl len)), (qr, .inl (g.2 0, 5, .inl row)), (qv, .inl (g.2 0, 5, .inl vot))]) [0, 1, 2, 3, 4] rfl
      have hD9 := hD.sub (ws' := [(qX, .inr (8, [.ref qP, .ref qI, .ref qt, .ref qd, .ref qe, .ref qsp, .ref qrk, .ref qty])), (qt, .inr (7, [.ref ql, .ref qr, .ref qv, .ref qg, .int parts, .int limit])), (ql, .inl (g.2 0, 5, .inl len)), (qr, .inl (g.2 0, 5, .inl row)), (qv, .inl (g.2 0, 5, .inl vot))]) [0, 1, 2, 3, 4] (by decide) rfl
      exact W.zret (v := (0 : Int32)) (ty := .boolean) hx hb hr rfl (fun t ht hW => ⟨⟨_, (len, row, vot), rfl, hv, by rw [ht]; exact hP9, hD9⟩, hS.F ht⟩) hS.2.2 dX8_swap_28
    · have hv := hvf hc
      refine lv_iload_n hx hb dX8_swap_22 rfl (lv_at hl 1 rfl) ?_
      refine lv_iload_n hx hb dX8_swap_23 rfl (lv_at hl 2 rfl) ?_
      obtain ⟨hvt, hvf⟩ := hv
      refine lv_icmp_ne (tgt := 29) hx hb dX8_swap_24 (by decide) (fun hc => ?_) (fun hc => ?_)
      · have hv := hvt hc
        refine lv_aload_n hx hb dX8_swap_29 rfl (lv_at hl 0 rfl) ?_
        refine va_get (D := g.1) (ci := 8) (v := .ref qt) (C := RX8) (T := TX8) (N := 8) hx hb hts inX8_swap_8 hown hK hP 0 rfl rfl 2 (by decide) (hts (.fieldLink RX8 24 "RangeCodes" "told" "LRangeCodes$Told;") (List.mem_of_getElem? (i := 1) rfl)) (fun _ h9 => h9) rfl dX8_swap_30 ?_
        refine va_get (D := g.1) (ci := 7) (v := .ref ql) (C := RX7) (T := TX7) (N := 6) hx hb hts inX8_swap_7 hown hK hP 1 rfl rfl 0 (by decide) (hts (.fieldLink RX8 135 "RangeCodes$Told" "lengths" "[I") (List.mem_of_getElem? (i := 2) rfl)) (fun _ h9 => h9) rfl dX8_swap_33 ?_
        refine lv_iload_n hx hb dX8_swap_36 rfl (lv_at hl 1 rfl) ?_
        refine lv_iload_n hx hb dX8_swap_37 rfl (lv_at hl 2 rfl) ?_
        obtain ⟨a_38, b_38, ho_3, hv⟩ := hv
        have hPc := hP.sub (ws' := [(ql, .inl (g.2 0, 5, .inl len))]) [2] rfl
        have hDc := hD.sub (ws' := [(ql, .inl (g.2 0, 5, .inl len))]) [2] (by decide) rfl
        have hFc := va_free (wc := [(ql, .inl (g.2 0, 5, .inl len))]) hD hS hA [2] rfl
        refine va_callv (va_runS (As := [.ref ql, .int p1, .int p2]) (rest := []) S (wX8_swapIn l g ql s.heap.size len p1 p2 (sX8_swapIn a_38 b_38 len p1 p2 ho_3)) (va_cwS 3 hts gX8_swap_X8_swapIn rfl rfl rfl (by decide +kernel) ⟨Nat.le_of_ble_eq_true rfl, Nat.le_of_ble_eq_true rfl⟩) ⟨blindRW, fun U hU hW => ⟨rfl, by rw [hU], by rw [hU]; exact hPc, hG.warm hW, hDc.weaken (fun _ _ _ _ => trivial)⟩⟩ rfl rfl hl.1 rfl (lv_room (Nat.le_of_ble_eq_true rfl)) dX8_swap_38 ⟨Nat.le_of_ble_eq_true rfl, Nat.le_of_ble_eq_true rfl⟩) hS (fun q _ h => hFc q h) hFc (fun u t H1 locs ht hvm hw hB hz1 hk1 hS => ?_)
        obtain ⟨fA_38, rfl⟩ : ∃ z, z = u := ⟨_, rfl⟩
        obtain ⟨hP1, hD1⟩ := hB
        rw [ht] at hP1
        have hv := hv fA_38 hw
        obtain ⟨hP, hD⟩ := va_join (wr := [(qX, .inr (8, [.ref qP, .ref qI, .ref qt, .ref qd, .ref qe, .ref qsp, .ref qrk, .ref qty])), (qt, .inr (7, [.ref ql, .ref qr, .ref qv, .ref qg, .int parts, .int limit])), (qr, .inl (g.2 0, 5, .inl row)), (qv, .inl (g.2 0, 5, .inl vot))]) (w1 := [(ql, .inl (g.2 0, 5, .inl fA_38))]) hP hD [2] [0, 1, 3, 4] rfl rfl (by decide) (by decide) hk1 hFc hP1 hD1
        clear hP1 hD1 hPc hDc hFc hk1
        generalize H1 = H at hP hS ⊢
        have hP : va_P g.1 vwCl [(qX, .inr (8, [.ref qP, .ref qI, .ref qt, .ref qd, .ref qe, .ref qsp, .ref qrk, .ref qty])), (qt, .inr (7, [.ref ql, .ref qr, .ref qv, .ref qg, .int parts, .int limit])), (qr, .inl (g.2 0, 5, .inl row)), (qv, .inl (g.2 0, 5, .inl vot)), (ql, .inl (g.2 0, 5, .inl fA_38))] H := hP
        have hD : va_D A [(qX, .inr (8, [.ref qP, .ref qI, .ref qt, .ref qd, .ref qe, .ref qsp, .ref qrk, .ref qty])), (qt, .inr (7, [.ref ql, .ref qr, .ref qv, .ref qg, .int parts, .int limit])), (qr, .inl (g.2 0, 5, .inl row)), (qv, .inl (g.2 0, 5, .inl vot)), (ql, .inl (g.2 0, 5, .inl fA_38))] := hD
        refine lv_aload_n hx hb dX8_swap_41 rfl (lv_at hl 0 rfl) ?_
        refine va_get (D := g.1) (ci := 8) (v := .ref qt) (C := RX8) (T := TX8) (N := 8) hx hb hts inX8_swap_8 hown hK hP 0 rfl rfl 2 (by decide) (hts (.fieldLink RX8 24 "RangeCodes" "told" "LRangeCodes$Told;") (List.mem_of_getElem? (i := 1) rfl)) (fun _ h9 => h9) rfl dX8_swap_42 ?_
        refine va_get (D := g.1) (ci := 7) (v := .ref qr) (C := RX7) (T := TX7) (N := 6) hx hb hts inX8_swap_7 hown hK hP 1 rfl rfl 1 (by decide) (hts (.fieldLink RX8 138 "RangeCodes$Told" "rows" "[I") (List.mem_of_getElem? (i := 3) rfl)) (fun _ h9 => h9) rfl dX8_swap_45 ?_
        refine lv_iload_n hx hb dX8_swap_48 rfl (lv_at hl 1 rfl) ?_
        refine lv_iload_n hx hb dX8_swap_49 rfl (lv_at hl 2 rfl) ?_
        obtain ⟨a_50, b_50, ho_4, hv⟩ := hv
        have hPc := hP.sub (ws' := [(qr, .inl (g.2 0, 5, .inl row))]) [2] rfl
        have hDc := hD.sub (ws' := [(qr, .inl (g.2 0, 5, .inl row))]) [2] (by decide) rfl
        have hFc := va_free (wc := [(qr, .inl (g.2 0, 5, .inl row))]) hD hS hA [2] rfl
        refine va_callv (va_runS (As := [.ref qr, .int p1, .int p2]) (rest := []) S (wX8_swapIn l g qr H.size row p1 p2 (sX8_swapIn a_50 b_50 row p1 p2 ho_4)) (va_cwS 3 hts gX8_swap_X8_swapIn rfl rfl rfl (by decide +kernel) ⟨Nat.le_of_ble_eq_true rfl, Nat.le_of_ble_eq_true rfl⟩) ⟨blindRW, fun U hU hW => ⟨rfl, by rw [hU], by rw [hU]; exact hPc, hG.warm hW, hDc.weaken (fun _ _ _ _ => trivial)⟩⟩ rfl rfl hl.1 rfl (lv_room (Nat.le_of_ble_eq_true rfl)) dX8_swap_50 ⟨Nat.le_of_ble_eq_true rfl, Nat.le_of_ble_eq_true rfl⟩) hS (fun q _ h => hFc q h) hFc (fun u t H1 locs ht hvm hw hB hz1 hk1 hS => ?_)
        obtain ⟨fA_50, rfl⟩ : ∃ z, z = u := ⟨_, rfl⟩
        obtain ⟨hP1, hD1⟩ := hB
        rw [ht] at hP1
        have hv := hv fA_50 hw
        obtain ⟨hP, hD⟩ := va_join (wr := [(qX, .inr (8, [.ref qP, .ref qI, .ref qt, .ref qd, .ref qe, .ref qsp, .ref qrk, .ref qty])), (qt, .inr (7, [.ref ql, .ref qr, .ref qv, .ref qg, .int parts, .int limit])), (qv, .inl (g.2 0, 5, .inl vot)), (ql, .inl (g.2 0, 5, .inl fA_38))]) (w1 := [(qr, .inl (g.2 0, 5, .inl fA_50))]) hP hD [2] [0, 1, 3, 4] rfl rfl (by decide) (by decide) hk1 hFc hP1 hD1
        clear hP1 hD1 hPc hDc hFc hk1
        generalize H1 = H at hP hS ⊢
        have hP : va_P g.1 vwCl [(qX, .inr (8, [.ref qP, .ref qI, .ref qt, .ref qd, .ref qe, .ref qsp, .ref qrk, .ref qty])), (qt, .inr (7, [.ref ql, .ref qr, .ref qv, .ref qg, .int parts, .int limit])), (qv, .inl (g.2 0, 5, .inl vot)), (ql, .inl (g.2 0, 5, .inl fA_38)), (qr, .inl (g.2 0, 5, .inl fA_50))] H := hP
        have hD : va_D A [(qX, .inr (8, [.ref qP, .ref qI, .ref qt, .ref qd, .ref qe, .ref qsp, .ref qrk, .ref qty])), (qt, .inr (7, [.ref ql, .ref qr, .ref qv, .ref qg, .int parts, .int limit])), (qv, .inl (g.2 0, 5, .inl vot)), (ql, .inl (g.2 0, 5, .inl fA_38)), (qr, .inl (g.2 0, 5, .inl fA_50))] := hD
        refine lv_aload_n hx hb dX8_swap_53 rfl (lv_at hl 0 rfl) ?_
        refine va_get (D := g.1) (ci := 8) (v := .ref qt) (C := RX8) (T := TX8) (N := 8) hx hb hts inX8_swap_8 hown hK hP 0 rfl rfl 2 (by decide) (hts (.fieldLink RX8 24 "RangeCodes" "told" "LRangeCodes$Told;") (List.mem_of_getElem? (i := 1) rfl)) (fun _ h9 => h9) rfl dX8_swap_54 ?_
        refine va_get (D := g.1) (ci := 7) (v := .ref qv) (C := RX7) (T := TX7) (N := 6) hx hb hts inX8_swap_7 hown hK hP 1 rfl rfl 2 (by decide) (hts (.fieldLink RX8 122 "RangeCodes$Told" "votes" "[I") (List.mem_of_getElem? (i := 4) rfl)) (fun _ h9 => h9) rfl dX8_swap_57 ?_
        refine lv_iload_n hx hb dX8_swap_60 rfl (lv_at hl 1 rfl) ?_
        refine lv_iload_n hx hb dX8_swap_61 rfl (lv_at hl 2 rfl) ?_
        obtain ⟨a_62, b_62, ho_5, hv⟩ := hv
        have hPc := hP.sub (ws' := [(qv, .inl (g.2 0, 5, .inl vot))]) [2] rfl
        have hDc := hD.sub (ws' := [(qv, .inl (g.2 0, 5, .inl vot))]) [2] (by decide) rfl
        have hFc := va_free (wc := [(qv, .inl (g.2 0, 5, .inl vot))]) hD hS hA [2] rfl
        refine va_callv (va_runS (As := [.ref qv, .int p1, .int p2]) (rest := []) S (wX8_swapIn l g qv H.size vot p1 p2 (sX8_swapIn a_62 b_62 vot p1 p2 ho_5)) (va_cwS 3 hts gX8_swap_X8_swapIn rfl rfl rfl (by decide +kernel) ⟨Nat.le_of_ble_eq_true rfl, Nat.le_of_ble_eq_true rfl⟩) ⟨blindRW, fun U hU hW => ⟨rfl, by rw [hU], by rw [hU]; exact hPc, hG.warm hW, hDc.weaken (fun _ _ _ _ => trivial)⟩⟩ rfl rfl hl.1 rfl (lv_room (Nat.le_of_ble_eq_true rfl)) dX8_swap_62 ⟨Nat.le_of_ble_eq_true rfl, Nat.le_of_ble_eq_true rfl⟩) hS (fun q _ h => hFc q h) hFc (fun u t H1 locs ht hvm hw hB hz1 hk1 hS => ?_)
        obtain ⟨fA_62, rfl⟩ : ∃ z, z = u := ⟨_, rfl⟩
        obtain ⟨hP1, hD1⟩ := hB
        rw [ht] at hP1
        have hv := hv fA_62 hw
        obtain ⟨hP, hD⟩ := va_join (wr := [(qX, .inr (8, [.ref qP, .ref qI, .ref qt, .ref qd, .ref qe, .ref qsp, .ref qrk, .ref qty])), (qt, .inr (7, [.ref ql, .ref qr, .ref qv, .ref qg, .int parts, .int limit])), (ql, .inl (g.2 0, 5, .inl fA_38)), (qr, .inl (g.2 0, 5, .inl fA_50))]) (w1 := [(qv, .inl (g.2 0, 5, .inl fA_62))]) hP hD [2] [0, 1, 3, 4] rfl rfl (by decide) (by decide) hk1 hFc hP1 hD1
        clear hP1 hD1 hPc hDc hFc hk1
        generalize H1 = H at hP hS ⊢
        have hP : va_P g.1 vwCl [(qX, .inr (8, [.ref qP, .ref qI, .ref qt, .ref qd, .ref qe, .ref qsp, .ref qrk, .ref qty])), (qt, .inr (7, [.ref ql, .ref qr, .ref qv, .ref qg, .int parts, .int limit])), (ql, .inl (g.2 0, 5, .inl fA_38)), (qr, .inl (g.2 0, 5, .inl fA_50)), (qv, .inl (g.2 0, 5, .inl fA_62))] H := hP
        have hD : va_D A [(qX, .inr (8, [.ref qP, .ref qI, .ref qt, .ref qd, .ref qe, .ref qsp, .ref qrk, .ref qty])), (qt, .inr (7, [.ref ql, .ref qr, .ref qv, .ref qg, .int parts, .int limit])), (ql, .inl (g.2 0, 5, .inl fA_38)), (qr, .inl (g.2 0, 5, .inl fA_50)), (qv, .inl (g.2 0, 5, .inl fA_62))] := hD
        refine lv_iconst (v := (1 : Int32)) hx hb dX8_swap_65 (by decide) ?_
        have hP9 := hP.sub (ws' := [(qX, .inr (8, [.ref qP, .ref qI, .ref qt, .ref qd, .ref qe, .ref qsp, .ref qrk, .ref qty])), (qt, .inr (7, [.ref ql, .ref qr, .ref qv, .ref qg, .int parts, .int limit])), (ql, .inl (g.2 0, 5, .inl fA_38)), (qr, .inl (g.2 0, 5, .inl fA_50)), (qv, .inl (g.2 0, 5, .inl fA_62))]) [0, 1, 2, 3, 4] rfl
        have hD9 := hD.sub (ws' := [(qX, .inr (8, [.ref qP, .ref qI, .ref qt, .ref qd, .ref qe, .ref qsp, .ref qrk, .ref qty])), (qt, .inr (7, [.ref ql, .ref qr, .ref qv, .ref qg, .int parts, .int limit])), (ql, .inl (g.2 0, 5, .inl fA_38)), (qr, .inl (g.2 0, 5, .inl fA_50)), (qv, .inl (g.2 0, 5, .inl fA_62))]) [0, 1, 2, 3, 4] (by decide) rfl
        exact W.zret (v := (1 : Int32)) (ty := .boolean) hx hb hr rfl (fun t ht hW => ⟨⟨_, (fA_38, fA_50, fA_62), rfl, hv, by rw [ht]; exact hP9, hD9⟩, hS.F ht⟩) hS.2.2 dX8_swap_66
      · have hv := hvf hc
        refine lv_iconst (v := (0 : Int32)) hx hb dX8_swap_27 (by decide) ?_
        have hP9 := hP.sub (ws' := [(qX, .inr (8, [.ref qP, .ref qI, .ref qt, .ref qd, .ref qe, .ref qsp, .ref qrk, .ref qty])), (qt, .inr (7, [.ref ql, .ref qr, .ref qv, .ref qg, .int parts, .int limit])), (ql, .inl (g.2 0, 5, .inl len)), (qr, .inl (g.2 0, 5, .inl row)), (qv, .inl (g.2 0, 5, .inl vot))]) [0, 1, 2, 3, 4] rfl
        have hD9 := hD.sub (ws' := [(qX, .inr (8, [.ref qP, .ref qI, .ref qt, .ref qd, .ref qe, .ref qsp, .ref qrk, .ref qty])), (qt, .inr (7, [.ref ql, .ref qr, .ref qv, .ref qg, .int parts, .int limit])), (ql, .inl (g.2 0, 5, .inl len)), (qr, .inl (g.2 0, 5, .inl row)), (qv, .inl (g.2 0, 5, .inl vot))]) [0, 1, 2, 3, 4] (by decide) rfl
        exact W.zret (v := (0 : Int32)) (ty := .boolean) hx hb hr rfl (fun t ht hW => ⟨⟨_, (len, row, vot), rfl, hv, by rw [ht]; exact hP9, hD9⟩, hS.F ht⟩) hS.2.2 dX8_swap_28
theorem sw_at {f : Nat → Int32} {g : Nat → Nat} {a b n : Nat} (ha : a < n) (hb : b < n) {P : Nat → Prop} (h : ∀ q, q < n → (f q).toInt = (g q : Int) ∧ P (g q)) : ∀ q, q < n → (upd (upd f a (f b)) b (f a) q).toInt = (swF g a b q : Int) ∧ P (swF g a b q) := fun q hq => by
  unfold swF
  by_cases e1 : q = b
  · subst e1; rw [upd_eq, if_pos rfl]; exact h a ha
  · rw [upd_ne e1, if_neg e1]
    by_cases e2 : q = a
    · subst e2; rw [upd_eq, if_pos rfl]; exact h b hb
    · rw [upd_ne e2, if_neg e2]; exact h q hq
theorem isR_sw {T : Cd} {row : Nat → Int32} (h : isR T row) {a b : Nat} (ha : a < cn T) (hb : b < cn T) : isR (swT T a b) (upd (upd row a (row b)) b (row a)) := fun q hq => by
  show (upd (upd row a (row b)) b (row a) q).toInt = (swF (fun i => cR T i) a b q : Int) ∧ swF (fun i => cR T i) a b q < 2 ^ swF (fun i => cL T i) a b q
  have hq : q < cn T := hq
  unfold swF
  by_cases e1 : q = b
  · subst e1; rw [upd_eq, if_pos rfl, if_pos rfl]; exact h a ha
  · rw [upd_ne e1, if_neg e1, if_neg e1]
    by_cases e2 : q = a
    · subst e2; rw [upd_eq, if_pos rfl, if_pos rfl]; exact h b hb
    · rw [upd_ne e2, if_neg e2, if_neg e2]; exact h q hq
abbrev preX8_swap (T : Cd) (G0 : Lg) (G1 : Lg) (lim : Nat) (parts : Int32) (limit : Int32) (len : Nat → Int32) (row : Nat → Int32) (vot : Nat → Int32) (p1 : Int32) (p2 : Int32) : Prop := isN T parts ∧ isL T len ∧ isR T row ∧ isV T vot
abbrev postX8_swap (T : Cd) (G0 : Lg) (G1 : Lg) (lim : Nat) (parts : Int32) (limit : Int32) (len : Nat → Int32) (row : Nat → Int32) (vot : Nat → Int32) (p1 : Int32) (p2 : Int32) (r : Int32) (len' : Nat → Int32) (row' : Nat → Int32) (vot' : Nat → Int32) : Prop := r.toInt = spSwap T p1.toInt p2.toInt ∧ isL (nxSwap T p1.toInt p2.toInt) len' ∧ isR (nxSwap T p1.toInt p2.toInt) row' ∧ isV (nxSwap T p1.toInt p2.toInt) vot'
theorem sX8_swap (T : Cd) (G0 : Lg) (G1 : Lg) (lim : Nat) (parts : Int32) (limit : Int32) (len : Nat → Int32) (row : Nat → Int32) (vot : Nat → Int32) (p1 : Int32) (p2 : Int32) (H : preX8_swap T G0 G1 lim parts limit len row vot p1 p2) : vX8_swap parts limit len row vot p1 p2 (postX8_swap T G0 G1 lim parts limit len row vot p1 p2) := by
  obtain ⟨hN, hL, hR, hV⟩ := H
  have hn5 := hN.2
  refine ⟨trivial, fun r hr => ?_⟩
  have hr : r = if 0 ≤ p1.toInt ∧ p1.toInt < (cn T : Int) then 1 else 0 := by rw [← hN.1]; exact hr
  rw [hr, q_if1]
  have no : ¬ ((0 ≤ p1.toInt ∧ p1.toInt < (cn T : Int)) ∧ (0 ≤ p2.toInt ∧ p2.toInt < (cn T : Int)) ∧ p1.toInt ≠ p2.toInt) → (0 : Int32).toInt = spSwap T p1.toInt p2.toInt ∧ isL (nxSwap T p1.toInt p2.toInt) len ∧ isR (nxSwap T p1.toInt p2.toInt) row ∧ isV (nxSwap T p1.toInt p2.toInt) vot := fun q => by
    unfold spSwap nxSwap
    rw [if_neg q, if_neg q]; exact ⟨rfl, hL, hR, hV⟩
  refine ⟨fun a => no (fun q => a q.1), fun a => ⟨trivial, fun r2 hr2 => ?_⟩⟩
  have a := Decidable.not_not.mp a
  have hr2 : r2 = if 0 ≤ p2.toInt ∧ p2.toInt < (cn T : Int) then 1 else 0 := by rw [← hN.1]; exact hr2
  rw [hr2, q_if1, fa_eq p1]
  refine ⟨fun b => no (fun q => b q.2.1), fun b => ⟨fun c => ?_, fun c => no (fun q => q.2.2 c)⟩⟩
  have b := Decidable.not_not.mp b
  have hp : ∀ f : Nat → Int32, preX8_swapIn p1.toInt.toNat p2.toInt.toNat f p1 p2 := fun f => ⟨by omega, by omega, by omega, by omega⟩
  refine ⟨_, _, hp _, fun f1 e1 => ⟨_, _, hp _, fun f2 e2 => ⟨_, _, hp _, fun f3 e3 => ?_⟩⟩⟩
  have e1 : f1 = upd (upd len p1.toInt.toNat (len p2.toInt.toNat)) p2.toInt.toNat (len p1.toInt.toNat) := e1
  have e2 : f2 = upd (upd row p1.toInt.toNat (row p2.toInt.toNat)) p2.toInt.toNat (row p1.toInt.toNat) := e2
  have e3 : f3 = upd (upd vot p1.toInt.toNat (vot p2.toInt.toNat)) p2.toInt.toNat (vot p1.toInt.toNat) := e3
  have hc : (0 ≤ p1.toInt ∧ p1.toInt < (cn T : Int)) ∧ (0 ≤ p2.toInt ∧ p2.toInt < (cn T : Int)) ∧ p1.toInt ≠ p2.toInt := ⟨a, b, c⟩
  unfold postX8_swap spSwap nxSwap
  rw [if_pos hc, if_pos hc, e1, e2, e3]
  have ha : p1.toInt.toNat < cn T := by omega
  have hb : p2.toInt.toNat < cn T := by omega
  exact ⟨rfl, sw_at ha hb (g := T.2.1) (P := fun x => 2 ≤ x ∧ x ≤ 13) hL, isR_sw hR ha hb, sw_at ha hb (g := T.2.2.2) (P := fun x => x ≤ 9) hV⟩
