set_option maxHeartbeats 4000000 in
set_option maxRecDepth 100000 in
theorem uX_image_x (l : Launch) (g : GP) (v : GV) (qX : Nat) (s : St) (p1 : Int32) (hk : ¬ (0 ≤ p1.toInt ∧ p1.toInt ≤ 2)) : UCi l g v yX8_image wsX8_image rmX8_image_x qX [.int p1] 0 0 (XAt g qX s) (fun r u => r.toInt = spIm p1.toInt ∧ XAt g qX (nIm s p1.toInt) u) := by
  rintro w sz ⟨a, aM, c, f, M, im, pl, rfl, hT, hPg, hI⟩
  refine mxR (X := (xC g qX a aM c f M im) ++ pl) (wc := [(qX, .inr (8, [.ref (a 0), .ref (a 1), .ref (a 2), .ref (a 3), .ref (a 4), .ref (a 5), .ref (a 6), .ref (a 7)]))]) (wX8_image_x l g qX (a 0) (a 1) (a 2) (a 3) (a 4) (a 5) (a 6) (a 7) p1 (sX8_image_x p1 hk)) [0] rfl (fun r h => ?_)
  have h : r = 0 := h
  refine ⟨?_, a, aM, c, f, M, im, pl, rfl, ?_, ?_, ?_⟩
  · unfold spIm; rw [if_neg hk, h]; rfl
  · unfold nIm; rw [if_neg hk]; exact hT
  · unfold nIm; rw [if_neg hk]; exact hPg
  · unfold nIm; rw [if_neg hk]; exact hI
set_option maxHeartbeats 4000000 in
set_option maxRecDepth 100000 in
theorem uX_again_x (l : Launch) (g : GP) (v : GV) (qX : Nat) (s : St) (p1 : Int32) (hk : ¬ (0 ≤ p1.toInt ∧ p1.toInt ≤ 2)) : UCi l g v yX8_again wsX8_again rmX8_again_x qX [.int p1] 0 0 (XAt g qX s) (fun r u => r.toInt = spAg s p1.toInt ∧ XAt g qX (nAg s p1.toInt) u) := by
  rintro w sz ⟨a, aM, c, f, M, im, pl, rfl, hT, hPg, hI⟩
  refine mxR (X := (xC g qX a aM c f M im) ++ pl) (wc := [(qX, .inr (8, [.ref (a 0), .ref (a 1), .ref (a 2), .ref (a 3), .ref (a 4), .ref (a 5), .ref (a 6), .ref (a 7)]))]) (wX8_again_x l g qX (a 0) (a 1) (a 2) (a 3) (a 4) (a 5) (a 6) (a 7) p1 (sX8_again_x p1 hk)) [0] rfl (fun r h => ?_)
  have h : r = 0 := h
  refine ⟨?_, a, aM, c, f, M, im, pl, rfl, ?_, ?_, ?_⟩
  · unfold spAg; rw [if_neg (fun z => hk z.1), h]; rfl
  · unfold nAg; rw [if_neg hk]; exact hT
  · unfold nAg; rw [if_neg hk]; exact hPg
  · unfold nAg; rw [if_neg hk]; exact hI
set_option maxHeartbeats 4000000 in
set_option maxRecDepth 100000 in
theorem uX_again_n (l : Launch) (g : GP) (v : GV) (qX : Nat) (s : St) (p1 : Int32) (hk : 0 ≤ p1.toInt ∧ p1.toInt ≤ 2) (hP : s.2 p1.toInt.toNat = none) : UCi l g v yX8_again wsX8_again rmX8_again_n qX [.int p1] 0 0 (XAt g qX s) (fun r u => r.toInt = spAg s p1.toInt ∧ XAt g qX (nAg s p1.toInt) u) := by
  rintro w sz ⟨a, aM, c, f, M, im, pl, rfl, hT, hPg, hI⟩
  have ecl : p1.toNatClampNeg = p1.toInt.toNat := q_cl (show p1.toInt = (p1.toInt.toNat : Int) by omega)
  have him : im p1.toNatClampNeg = none := by
    obtain ⟨e, w, t, -, hQ, -⟩ := okPl_get hI (k := p1.toInt.toNat) (by omega)
    rw [ecl]
    rcases hQ with ⟨q, -, -⟩ | ⟨pa, pc, pf, P1, q1, q2, -⟩
    · exact q
    · rw [hP] at q2; cases q2
  refine mxR (X := (xC g qX a aM c f M im) ++ pl) (wc := [(qX, .inr (8, [.ref (a 0), .ref (a 1), .ref (a 2), .ref (a 3), .ref (a 4), .ref (a 5), .ref (a 6), .ref (a 7)])), ((a 1), .inl (g.2 5, 3, .inr (.inr (.inr (.inr im)))))]) (wX8_again_n l g qX (a 0) (a 1) (a 2) (a 3) (a 4) (a 5) (a 6) (a 7) im p1 him (sX8_again_n im p1 hk)) [0, 18] rfl (fun r h => ?_)
  have h : r = 0 := h
  refine ⟨?_, a, aM, c, f, M, im, pl, rfl, ?_, ?_, ?_⟩
  · unfold spAg; rw [if_neg (fun z => z.2 hP), h]; rfl
  · unfold nAg; rw [if_pos hk, hP]; exact hT
  · unfold nAg; rw [if_pos hk, hP]; exact hPg
  · unfold nAg; rw [if_pos hk, hP]; exact hI
set_option maxHeartbeats 4000000 in
set_option maxRecDepth 100000 in
theorem uX_image_o (l : Launch) (g : GP) (v : GV) (qX : Nat) (s : St) (p1 : Int32) (hk : 0 ≤ p1.toInt ∧ p1.toInt ≤ 2) (P1 : Pg) (hP : s.2 p1.toInt.toNat = some P1) : UCi l g v yX8_image wsX8_image rmX8_image_o qX [.int p1] 0 0 (XAt g qX s) (fun r u => r.toInt = spIm p1.toInt ∧ XAt g qX (nIm s p1.toInt) u) := by
  rintro w sz ⟨a, aM, c, f, M, im, pl, rfl, hT, hPg, hI⟩
  have ecl : p1.toNatClampNeg = p1.toInt.toNat := q_cl (show p1.toInt = (p1.toInt.toNat : Int) by omega)
  obtain ⟨e, wk, t, rfl, hQ, hU⟩ := okPl_get hI (k := p1.toInt.toNat) (by omega)
  rcases hQ with ⟨-, q, -⟩ | ⟨pa, pc, pf, P2, him, hP2, rfl, hTb, hPgb⟩
  · rw [hP] at q; cases q
  · rw [hP] at hP2; cases hP2
    rw [← ecl] at him
    refine mrot (X := (xC g qX a aM c f M im)) (s := e) (t := (pgC g pa pc pf) ++ t) (R := fun r X1 t1 => r.toInt = spIm p1.toInt ∧ XAt g qX (nIm s p1.toInt) (X1 ++ (e ++ t1))) ?_ (fun r X1 t1 h => h)
    have ea : ∀ (a b : va_W), a ++ ((b ++ t) ++ e) = (a ++ b) ++ (t ++ e) := fun a b => by rw [List.append_assoc b, List.append_assoc a]
    rw [ea]
    refine mxI (X := (xC g qX a aM c f M im) ++ (pgC g pa pc pf)) (pl := t ++ e) (w2 := fun u => (xC g qX a aM c f M im) ++ (pgC g pa (upd (upd (upd (upd (upd (upd (upd pc 0 u.1) 1 u.2.1) 2 u.2.2.1) 3 u.2.2.2.2.1) 4 u.2.2.2.2.2.1) 5 u.2.2.2.2.2.2.2.2.2.1) 6 u.2.2.2.2.2.2.2.2.2.2.2.2.2.2.1) (va_up (va_up (va_up (va_up (va_up (va_up (va_up (va_up (va_up (va_up (va_up (va_up pf 0 u.2.2.2.1) 1 u.2.2.2.2.2.2.1) 2 u.2.2.2.2.2.2.2.1) 3 u.2.2.2.2.2.2.2.2.1) 4 u.2.2.2.2.2.2.2.2.2.2.1) 5 u.2.2.2.2.2.2.2.2.2.2.2.1) 6 u.2.2.2.2.2.2.2.2.2.2.2.2.1) 7 u.2.2.2.2.2.2.2.2.2.2.2.2.2.1) 8 u.2.2.2.2.2.2.2.2.2.2.2.2.2.2.2.1) 9 u.2.2.2.2.2.2.2.2.2.2.2.2.2.2.2.2.1) 10 u.2.2.2.2.2.2.2.2.2.2.2.2.2.2.2.2.2.1) 11 u.2.2.2.2.2.2.2.2.2.2.2.2.2.2.2.2.2.2))) (wX8_image_o l g qX (a 0) (a 1) (a 2) (a 3) (a 4) (a 5) (a 6) (a 7) (a 8) (a 9) (a 10) (a 11) (a 12) (a 13) (a 14) (a 15) (a 16) (a 17) (a 18) (a 19) (a 20) (a 21) (a 22) (pa 0) (pa 1) (pa 2) (pa 3) (pa 4) (pa 5) (pa 6) (pa 7) (pa 8) (pa 9) (pa 10) (pa 11) (pa 12) (pa 13) (pa 14) (pa 15) (pa 16) sz im (c 0) (c 1) (c 2) (f 0) (c 3) (c 4) (f 1) (f 2) (f 3) (c 5) (f 4) (f 5) (f 6) (f 7) (c 6) (f 8) (f 9) (f 10) (f 11) (pc 0) (pc 1) (pc 2) (pf 0) (pc 3) (pc 4) (pf 1) (pf 2) (pf 3) (pc 5) (pf 4) (pf 5) (pf 6) (pf 7) (pc 6) (pf 8) (pf 9) (pf 10) (pf 11) p1 him (sX8_image_o (pgT s.1) (pgA s.1) (pgB s.1) (pgL s.1) im (c 0) (c 1) (c 2) (f 0) (c 3) (c 4) (f 1) (f 2) (f 3) (c 5) (f 4) (f 5) (f 6) (f 7) (c 6) (f 8) (f 9) (f 10) (f 11) (pc 0) (pc 1) (pc 2) (pf 0) (pc 3) (pc 4) (pf 1) (pf 2) (pf 3) (pc 5) (pf 4) (pf 5) (pf 6) (pf 7) (pc 6) (pf 8) (pf 9) (pf 10) (pf 11) p1 ⟨hk, hT, _, _, _, _, hPg⟩)) [0, 18, 1, 2, 3, 4, 5, 6, 7, 8, 9, 10, 11, 12, 13, 14, 15, 16, 17, 58, 59, 60, 61, 62, 63, 64, 65, 66, 67, 68, 69, 70, 71, 72, 73, 74] [19, 20, 21, 22, 23, 24, 25, 26, 27, 28, 29, 30, 31, 32, 33, 34, 35, 36, 37, 38, 39, 40, 41, 42, 43, 44, 45, 46, 47, 48, 49, 50, 51, 52, 53, 54, 55, 56, 57] [39, 41, 42, 43, 44, 45, 46, 47, 48, 49, 50, 51, 52, 53, 54, 55, 56, 57, 40, 0, 1, 2, 3, 4, 5, 6, 7, 8, 9, 10, 11, 12, 13, 14, 15, 16, 17, 18, 19, 20, 21, 22, 23, 24, 25, 26, 27, 28, 29, 30, 31, 32, 33, 34, 35, 36, 37, 38, 58, 59, 60, 61, 62, 63, 64, 65, 66, 67, 68, 69, 70, 71, 72, 73, 74] rfl rfl rfl (by decide) (by decide) (by decide) (by decide) (fun u => rfl) (fun r u h => ?_)
    refine ⟨(xC g qX a aM c f M im), (pgC g pa (upd (upd (upd (upd (upd (upd (upd pc 0 u.1) 1 u.2.1) 2 u.2.2.1) 3 u.2.2.2.2.1) 4 u.2.2.2.2.2.1) 5 u.2.2.2.2.2.2.2.2.2.1) 6 u.2.2.2.2.2.2.2.2.2.2.2.2.2.2.1) (va_up (va_up (va_up (va_up (va_up (va_up (va_up (va_up (va_up (va_up (va_up (va_up pf 0 u.2.2.2.1) 1 u.2.2.2.2.2.2.1) 2 u.2.2.2.2.2.2.2.1) 3 u.2.2.2.2.2.2.2.2.1) 4 u.2.2.2.2.2.2.2.2.2.2.1) 5 u.2.2.2.2.2.2.2.2.2.2.2.1) 6 u.2.2.2.2.2.2.2.2.2.2.2.2.1) 7 u.2.2.2.2.2.2.2.2.2.2.2.2.2.1) 8 u.2.2.2.2.2.2.2.2.2.2.2.2.2.2.2.1) 9 u.2.2.2.2.2.2.2.2.2.2.2.2.2.2.2.2.1) 10 u.2.2.2.2.2.2.2.2.2.2.2.2.2.2.2.2.2.1) 11 u.2.2.2.2.2.2.2.2.2.2.2.2.2.2.2.2.2.2)) ++ t, (ea _ _).symm, ?_⟩
    obtain ⟨h1, h2, h3⟩ := h
    have ei : va_up im p1.toInt.toNat (some (pa 0)) = im := by
      funext j
      by_cases d : j = p1.toInt.toNat
      · subst d; rw [← ecl, him]; exact if_pos rfl
      · exact if_neg d
    refine ⟨by unfold spIm; rw [if_pos hk, h1]; rfl, a, aM, c, f, M, im, _, rfl, ?_, ?_, ?_⟩
    · unfold nIm; rw [if_pos hk]; exact hT
    · unfold nIm; rw [if_pos hk]; exact hPg
    · unfold nIm; rw [if_pos hk]
      have z := hU (some (pa 0)) (some s.1) _ (Or.inr ⟨pa, (upd (upd (upd (upd (upd (upd (upd pc 0 u.1) 1 u.2.1) 2 u.2.2.1) 3 u.2.2.2.2.1) 4 u.2.2.2.2.2.1) 5 u.2.2.2.2.2.2.2.2.2.1) 6 u.2.2.2.2.2.2.2.2.2.2.2.2.2.2.1), (va_up (va_up (va_up (va_up (va_up (va_up (va_up (va_up (va_up (va_up (va_up (va_up pf 0 u.2.2.2.1) 1 u.2.2.2.2.2.2.1) 2 u.2.2.2.2.2.2.2.1) 3 u.2.2.2.2.2.2.2.2.1) 4 u.2.2.2.2.2.2.2.2.2.2.1) 5 u.2.2.2.2.2.2.2.2.2.2.2.1) 6 u.2.2.2.2.2.2.2.2.2.2.2.2.1) 7 u.2.2.2.2.2.2.2.2.2.2.2.2.2.1) 8 u.2.2.2.2.2.2.2.2.2.2.2.2.2.2.2.1) 9 u.2.2.2.2.2.2.2.2.2.2.2.2.2.2.2.2.1) 10 u.2.2.2.2.2.2.2.2.2.2.2.2.2.2.2.2.2.1) 11 u.2.2.2.2.2.2.2.2.2.2.2.2.2.2.2.2.2.2), s.1, rfl, rfl, rfl, h2, h3 _ _ _ _ hPg⟩)
      rw [ei] at z; exact z
set_option maxHeartbeats 4000000 in
set_option maxRecDepth 100000 in
theorem uX_again_o (l : Launch) (g : GP) (v : GV) (qX : Nat) (s : St) (p1 : Int32) (hk : 0 ≤ p1.toInt ∧ p1.toInt ≤ 2) (P1 : Pg) (hP : s.2 p1.toInt.toNat = some P1) : UCi l g v yX8_again wsX8_again rmX8_again_o qX [.int p1] 0 0 (XAt g qX s) (fun r u => r.toInt = spAg s p1.toInt ∧ XAt g qX (nAg s p1.toInt) u) := by
  rintro w sz ⟨a, aM, c, f, M, im, pl, rfl, hT, hPg, hI⟩
  have ecl : p1.toNatClampNeg = p1.toInt.toNat := q_cl (show p1.toInt = (p1.toInt.toNat : Int) by omega)
  obtain ⟨e, wk, t, rfl, hQ, hU⟩ := okPl_get hI (k := p1.toInt.toNat) (by omega)
  rcases hQ with ⟨-, q, -⟩ | ⟨pa, pc, pf, P2, him, hP2, rfl, hTb, hPgb⟩
  · rw [hP] at q; cases q
  · rw [hP] at hP2; cases hP2
    rw [← ecl] at him
    refine mrot (X := (xC g qX a aM c f M im)) (s := e) (t := (pgC g pa pc pf) ++ t) (R := fun r X1 t1 => r.toInt = spAg s p1.toInt ∧ XAt g qX (nAg s p1.toInt) (X1 ++ (e ++ t1))) ?_ (fun r X1 t1 h => h)
    have ea : ∀ (a b : va_W), a ++ ((b ++ t) ++ e) = (a ++ b) ++ (t ++ e) := fun a b => by rw [List.append_assoc b, List.append_assoc a]
    rw [ea]
    refine mxI (X := (xC g qX a aM c f M im) ++ (pgC g pa pc pf)) (pl := t ++ e) (w2 := fun u => (xC g qX a aM (upd (upd (upd (upd (upd (upd (upd c 0 u.1) 1 u.2.1) 2 u.2.2.1) 3 u.2.2.2.2.1) 4 u.2.2.2.2.2.1) 5 u.2.2.2.2.2.2.2.2.2.1) 6 u.2.2.2.2.2.2.2.2.2.2.2.2.2.2.1) (va_up (va_up (va_up (va_up (va_up (va_up (va_up (va_up (va_up (va_up (va_up (va_up f 0 u.2.2.2.1) 1 u.2.2.2.2.2.2.1) 2 u.2.2.2.2.2.2.2.1) 3 u.2.2.2.2.2.2.2.2.1) 4 u.2.2.2.2.2.2.2.2.2.2.1) 5 u.2.2.2.2.2.2.2.2.2.2.2.1) 6 u.2.2.2.2.2.2.2.2.2.2.2.2.1) 7 u.2.2.2.2.2.2.2.2.2.2.2.2.2.1) 8 u.2.2.2.2.2.2.2.2.2.2.2.2.2.2.2.1) 9 u.2.2.2.2.2.2.2.2.2.2.2.2.2.2.2.2.1) 10 u.2.2.2.2.2.2.2.2.2.2.2.2.2.2.2.2.2.1) 11 u.2.2.2.2.2.2.2.2.2.2.2.2.2.2.2.2.2.2) M im) ++ (pgC g pa pc pf)) (wX8_again_o l g qX (a 0) (a 1) (a 2) (a 3) (a 4) (a 5) (a 6) (a 7) (a 8) (a 9) (a 10) (a 11) (a 12) (a 13) (a 14) (a 15) (a 16) (a 17) (a 18) (a 19) (a 20) (a 21) (a 22) (pa 0) (pa 1) (pa 2) (pa 3) (pa 4) (pa 5) (pa 6) (pa 7) (pa 8) (pa 9) (pa 10) (pa 11) (pa 12) (pa 13) (pa 14) (pa 15) (pa 16) sz im (c 0) (c 1) (c 2) (f 0) (c 3) (c 4) (f 1) (f 2) (f 3) (c 5) (f 4) (f 5) (f 6) (f 7) (c 6) (f 8) (f 9) (f 10) (f 11) (pc 0) (pc 1) (pc 2) (pf 0) (pc 3) (pc 4) (pf 1) (pf 2) (pf 3) (pc 5) (pf 4) (pf 5) (pf 6) (pf 7) (pc 6) (pf 8) (pf 9) (pf 10) (pf 11) p1 him (sX8_again_o (pgT P1) (pgA P1) (pgB P1) (pgL P1) im (c 0) (c 1) (c 2) (f 0) (c 3) (c 4) (f 1) (f 2) (f 3) (c 5) (f 4) (f 5) (f 6) (f 7) (c 6) (f 8) (f 9) (f 10) (f 11) (pc 0) (pc 1) (pc 2) (pf 0) (pc 3) (pc 4) (pf 1) (pf 2) (pf 3) (pc 5) (pf 4) (pf 5) (pf 6) (pf 7) (pc 6) (pf 8) (pf 9) (pf 10) (pf 11) p1 ⟨hk, hTb, _, _, _, _, hPgb⟩)) [0, 18, 1, 2, 3, 4, 5, 6, 7, 8, 9, 10, 11, 12, 13, 14, 15, 16, 17, 58, 59, 60, 61, 62, 63, 64, 65, 66, 67, 68, 69, 70, 71, 72, 73, 74] [19, 20, 21, 22, 23, 24, 25, 26, 27, 28, 29, 30, 31, 32, 33, 34, 35, 36, 37, 38, 39, 40, 41, 42, 43, 44, 45, 46, 47, 48, 49, 50, 51, 52, 53, 54, 55, 56, 57] [39, 41, 42, 43, 44, 45, 46, 47, 48, 49, 50, 51, 52, 53, 54, 55, 56, 57, 40, 0, 1, 2, 3, 4, 5, 6, 7, 8, 9, 10, 11, 12, 13, 14, 15, 16, 17, 18, 19, 20, 21, 22, 23, 24, 25, 26, 27, 28, 29, 30, 31, 32, 33, 34, 35, 36, 37, 38, 58, 59, 60, 61, 62, 63, 64, 65, 66, 67, 68, 69, 70, 71, 72, 73, 74] rfl rfl rfl (by decide) (by decide) (by decide) (by decide) (fun u => rfl) (fun r u h => ?_)
    refine ⟨(xC g qX a aM (upd (upd (upd (upd (upd (upd (upd c 0 u.1) 1 u.2.1) 2 u.2.2.1) 3 u.2.2.2.2.1) 4 u.2.2.2.2.2.1) 5 u.2.2.2.2.2.2.2.2.2.1) 6 u.2.2.2.2.2.2.2.2.2.2.2.2.2.2.1) (va_up (va_up (va_up (va_up (va_up (va_up (va_up (va_up (va_up (va_up (va_up (va_up f 0 u.2.2.2.1) 1 u.2.2.2.2.2.2.1) 2 u.2.2.2.2.2.2.2.1) 3 u.2.2.2.2.2.2.2.2.1) 4 u.2.2.2.2.2.2.2.2.2.2.1) 5 u.2.2.2.2.2.2.2.2.2.2.2.1) 6 u.2.2.2.2.2.2.2.2.2.2.2.2.1) 7 u.2.2.2.2.2.2.2.2.2.2.2.2.2.1) 8 u.2.2.2.2.2.2.2.2.2.2.2.2.2.2.2.1) 9 u.2.2.2.2.2.2.2.2.2.2.2.2.2.2.2.2.1) 10 u.2.2.2.2.2.2.2.2.2.2.2.2.2.2.2.2.2.1) 11 u.2.2.2.2.2.2.2.2.2.2.2.2.2.2.2.2.2.2) M im), (pgC g pa pc pf) ++ t, (ea _ _).symm, ?_⟩
    obtain ⟨h1, h2, h3⟩ := h
    refine ⟨by unfold spAg; rw [if_pos ⟨hk, by rw [hP]; exact Option.some_ne_none _⟩, h1]; rfl, a, aM, (upd (upd (upd (upd (upd (upd (upd c 0 u.1) 1 u.2.1) 2 u.2.2.1) 3 u.2.2.2.2.1) 4 u.2.2.2.2.2.1) 5 u.2.2.2.2.2.2.2.2.2.1) 6 u.2.2.2.2.2.2.2.2.2.2.2.2.2.2.1), (va_up (va_up (va_up (va_up (va_up (va_up (va_up (va_up (va_up (va_up (va_up (va_up f 0 u.2.2.2.1) 1 u.2.2.2.2.2.2.1) 2 u.2.2.2.2.2.2.2.1) 3 u.2.2.2.2.2.2.2.2.1) 4 u.2.2.2.2.2.2.2.2.2.2.1) 5 u.2.2.2.2.2.2.2.2.2.2.2.1) 6 u.2.2.2.2.2.2.2.2.2.2.2.2.1) 7 u.2.2.2.2.2.2.2.2.2.2.2.2.2.1) 8 u.2.2.2.2.2.2.2.2.2.2.2.2.2.2.2.1) 9 u.2.2.2.2.2.2.2.2.2.2.2.2.2.2.2.2.1) 10 u.2.2.2.2.2.2.2.2.2.2.2.2.2.2.2.2.2.1) 11 u.2.2.2.2.2.2.2.2.2.2.2.2.2.2.2.2.2.2), M, im, _, rfl, ?_, ?_, ?_⟩
    · unfold nAg; rw [if_pos hk, hP]; exact h2
    · unfold nAg; rw [if_pos hk, hP]; exact h3 _ _ _ _ hPgb
    · unfold nAg; rw [if_pos hk, hP]; exact hI
set_option maxHeartbeats 4000000 in
set_option maxRecDepth 100000 in
theorem uX_image_n (l : Launch) (g : GP) (v : GV) (qX : Nat) (s : St) (p1 : Int32) (hk : 0 ≤ p1.toInt ∧ p1.toInt ≤ 2) (hP : s.2 p1.toInt.toNat = none) : UCi l g v yX8_image wsX8_image rmX8_image_n qX [.int p1] 17 610 (XAt g qX s) (fun r u => r.toInt = spIm p1.toInt ∧ XAt g qX (nIm s p1.toInt) u) := by
  rintro w sz ⟨a, aM, c, f, M, im, pl, rfl, hT, hPg, hI⟩
  have ecl : p1.toNatClampNeg = p1.toInt.toNat := q_cl (show p1.toInt = (p1.toInt.toNat : Int) by omega)
  obtain ⟨e, wk, t, rfl, hQ, hU⟩ := okPl_get hI (k := p1.toInt.toNat) (by omega)
  rcases hQ with ⟨him, -, rfl⟩ | ⟨pa, pc, pf, P2, q1, q2, -⟩
  · rw [← ecl] at him
    refine mrot (X := (xC g qX a aM c f M im)) (s := e) (t := [] ++ t) (R := fun r X1 t1 => r.toInt = spIm p1.toInt ∧ XAt g qX (nIm s p1.toInt) (X1 ++ (e ++ t1))) ?_ (fun r X1 t1 h => h)
    have ea : ∀ (a b : va_W), a ++ ((b ++ t) ++ e) = (a ++ b) ++ (t ++ e) := fun a b => by rw [List.append_assoc b, List.append_assoc a]
    refine mxIO (X := (xC g qX a aM c f M im)) (pl := t ++ e) (w2 := fun u => (xC g qX a aM c f M (va_up im p1.toNatClampNeg (some u.1))) ++ (pgC g (fun k => ([u.1, u.2.1, u.2.2.1, u.2.2.2.1, u.2.2.2.2.1, u.2.2.2.2.2.1, u.2.2.2.2.2.2.1, u.2.2.2.2.2.2.2.1, u.2.2.2.2.2.2.2.2.1, u.2.2.2.2.2.2.2.2.2.1, u.2.2.2.2.2.2.2.2.2.2.1, u.2.2.2.2.2.2.2.2.2.2.2.1, u.2.2.2.2.2.2.2.2.2.2.2.2.1, u.2.2.2.2.2.2.2.2.2.2.2.2.2.1, u.2.2.2.2.2.2.2.2.2.2.2.2.2.2.1, u.2.2.2.2.2.2.2.2.2.2.2.2.2.2.2.1, u.2.2.2.2.2.2.2.2.2.2.2.2.2.2.2.2.1] : List Nat).getD k 0) (fun k => ([u.2.2.2.2.2.2.2.2.2.2.2.2.2.2.2.2.2.1, u.2.2.2.2.2.2.2.2.2.2.2.2.2.2.2.2.2.2.1, u.2.2.2.2.2.2.2.2.2.2.2.2.2.2.2.2.2.2.2.1, u.2.2.2.2.2.2.2.2.2.2.2.2.2.2.2.2.2.2.2.2.2.1, u.2.2.2.2.2.2.2.2.2.2.2.2.2.2.2.2.2.2.2.2.2.2.1, u.2.2.2.2.2.2.2.2.2.2.2.2.2.2.2.2.2.2.2.2.2.2.2.2.2.2.1, u.2.2.2.2.2.2.2.2.2.2.2.2.2.2.2.2.2.2.2.2.2.2.2.2.2.2.2.2.2.2.2.1] : List Int32).getD k 0) (fun k => ([u.2.2.2.2.2.2.2.2.2.2.2.2.2.2.2.2.2.2.2.2.1, u.2.2.2.2.2.2.2.2.2.2.2.2.2.2.2.2.2.2.2.2.2.2.2.1, u.2.2.2.2.2.2.2.2.2.2.2.2.2.2.2.2.2.2.2.2.2.2.2.2.1, u.2.2.2.2.2.2.2.2.2.2.2.2.2.2.2.2.2.2.2.2.2.2.2.2.2.1, u.2.2.2.2.2.2.2.2.2.2.2.2.2.2.2.2.2.2.2.2.2.2.2.2.2.2.2.1, u.2.2.2.2.2.2.2.2.2.2.2.2.2.2.2.2.2.2.2.2.2.2.2.2.2.2.2.2.1, u.2.2.2.2.2.2.2.2.2.2.2.2.2.2.2.2.2.2.2.2.2.2.2.2.2.2.2.2.2.1, u.2.2.2.2.2.2.2.2.2.2.2.2.2.2.2.2.2.2.2.2.2.2.2.2.2.2.2.2.2.2.1, u.2.2.2.2.2.2.2.2.2.2.2.2.2.2.2.2.2.2.2.2.2.2.2.2.2.2.2.2.2.2.2.2.1, u.2.2.2.2.2.2.2.2.2.2.2.2.2.2.2.2.2.2.2.2.2.2.2.2.2.2.2.2.2.2.2.2.2.1, u.2.2.2.2.2.2.2.2.2.2.2.2.2.2.2.2.2.2.2.2.2.2.2.2.2.2.2.2.2.2.2.2.2.2.1, u.2.2.2.2.2.2.2.2.2.2.2.2.2.2.2.2.2.2.2.2.2.2.2.2.2.2.2.2.2.2.2.2.2.2.2] : List (Nat → Int32)).getD k (fun _ => 0)))) (wX8_image_n l g qX (a 0) (a 1) (a 2) (a 3) (a 4) (a 5) (a 6) (a 7) (a 8) (a 9) (a 10) (a 11) (a 12) (a 13) (a 14) (a 15) (a 16) (a 17) (a 18) (a 19) (a 20) (a 21) (a 22) sz im (c 0) (c 1) (c 2) (f 0) (c 3) (c 4) (f 1) (f 2) (f 3) (c 5) (f 4) (f 5) (f 6) (f 7) (c 6) (f 8) (f 9) (f 10) (f 11) p1 him (sX8_image_n (pgT s.1) (pgA s.1) (pgB s.1) (pgL s.1) im (c 0) (c 1) (c 2) (f 0) (c 3) (c 4) (f 1) (f 2) (f 3) (c 5) (f 4) (f 5) (f 6) (f 7) (c 6) (f 8) (f 9) (f 10) (f 11) p1 ⟨hk, hT, _, _, _, _, hPg⟩)) [0, 18, 1, 2, 3, 4, 5, 6, 7, 8, 9, 10, 11, 12, 13, 14, 15, 16, 17] [19, 20, 21, 22, 23, 24, 25, 26, 27, 28, 29, 30, 31, 32, 33, 34, 35, 36, 37, 38, 39, 40, 41, 42, 43, 44, 45, 46, 47, 48, 49, 50, 51, 52, 53, 54, 55, 56, 57] [39, 41, 42, 43, 44, 45, 46, 47, 48, 49, 50, 51, 52, 53, 54, 55, 56, 57, 40, 0, 1, 2, 3, 4, 5, 6, 7, 8, 9, 10, 11, 12, 13, 14, 15, 16, 17, 18, 19, 20, 21, 22, 23, 24, 25, 26, 27, 28, 29, 30, 31, 32, 33, 34, 35, 36, 37, 38, 58, 59, 60, 61, 62, 63, 64, 65, 66, 67, 68, 69, 70, 71, 72, 73, 74] rfl rfl rfl (by decide) (by decide) (by decide) (by decide) (fun u => rfl) (fun r u h => ?_)
    refine ⟨(xC g qX a aM c f M (va_up im p1.toNatClampNeg (some u.1))), (pgC g (fun k => ([u.1, u.2.1, u.2.2.1, u.2.2.2.1, u.2.2.2.2.1, u.2.2.2.2.2.1, u.2.2.2.2.2.2.1, u.2.2.2.2.2.2.2.1, u.2.2.2.2.2.2.2.2.1, u.2.2.2.2.2.2.2.2.2.1, u.2.2.2.2.2.2.2.2.2.2.1, u.2.2.2.2.2.2.2.2.2.2.2.1, u.2.2.2.2.2.2.2.2.2.2.2.2.1, u.2.2.2.2.2.2.2.2.2.2.2.2.2.1, u.2.2.2.2.2.2.2.2.2.2.2.2.2.2.1, u.2.2.2.2.2.2.2.2.2.2.2.2.2.2.2.1, u.2.2.2.2.2.2.2.2.2.2.2.2.2.2.2.2.1] : List Nat).getD k 0) (fun k => ([u.2.2.2.2.2.2.2.2.2.2.2.2.2.2.2.2.2.1, u.2.2.2.2.2.2.2.2.2.2.2.2.2.2.2.2.2.2.1, u.2.2.2.2.2.2.2.2.2.2.2.2.2.2.2.2.2.2.2.1, u.2.2.2.2.2.2.2.2.2.2.2.2.2.2.2.2.2.2.2.2.2.1, u.2.2.2.2.2.2.2.2.2.2.2.2.2.2.2.2.2.2.2.2.2.2.1, u.2.2.2.2.2.2.2.2.2.2.2.2.2.2.2.2.2.2.2.2.2.2.2.2.2.2.1, u.2.2.2.2.2.2.2.2.2.2.2.2.2.2.2.2.2.2.2.2.2.2.2.2.2.2.2.2.2.2.2.1] : List Int32).getD k 0) (fun k => ([u.2.2.2.2.2.2.2.2.2.2.2.2.2.2.2.2.2.2.2.2.1, u.2.2.2.2.2.2.2.2.2.2.2.2.2.2.2.2.2.2.2.2.2.2.2.1, u.2.2.2.2.2.2.2.2.2.2.2.2.2.2.2.2.2.2.2.2.2.2.2.2.1, u.2.2.2.2.2.2.2.2.2.2.2.2.2.2.2.2.2.2.2.2.2.2.2.2.2.1, u.2.2.2.2.2.2.2.2.2.2.2.2.2.2.2.2.2.2.2.2.2.2.2.2.2.2.2.1, u.2.2.2.2.2.2.2.2.2.2.2.2.2.2.2.2.2.2.2.2.2.2.2.2.2.2.2.2.1, u.2.2.2.2.2.2.2.2.2.2.2.2.2.2.2.2.2.2.2.2.2.2.2.2.2.2.2.2.2.1, u.2.2.2.2.2.2.2.2.2.2.2.2.2.2.2.2.2.2.2.2.2.2.2.2.2.2.2.2.2.2.1, u.2.2.2.2.2.2.2.2.2.2.2.2.2.2.2.2.2.2.2.2.2.2.2.2.2.2.2.2.2.2.2.2.1, u.2.2.2.2.2.2.2.2.2.2.2.2.2.2.2.2.2.2.2.2.2.2.2.2.2.2.2.2.2.2.2.2.2.1, u.2.2.2.2.2.2.2.2.2.2.2.2.2.2.2.2.2.2.2.2.2.2.2.2.2.2.2.2.2.2.2.2.2.2.1, u.2.2.2.2.2.2.2.2.2.2.2.2.2.2.2.2.2.2.2.2.2.2.2.2.2.2.2.2.2.2.2.2.2.2.2] : List (Nat → Int32)).getD k (fun _ => 0))) ++ t, (ea _ _).symm, ?_⟩
    obtain ⟨h1, h2, h3⟩ := h
    refine ⟨by unfold spIm; rw [if_pos hk, h1]; rfl, a, aM, c, f, M, (va_up im p1.toNatClampNeg (some u.1)), _, rfl, ?_, ?_, ?_⟩
    · unfold nIm; rw [if_pos hk]; exact hT
    · unfold nIm; rw [if_pos hk]; exact hPg
    · unfold nIm; rw [if_pos hk, ecl]
      exact hU (some u.1) (some s.1) _ (Or.inr ⟨(fun k => ([u.1, u.2.1, u.2.2.1, u.2.2.2.1, u.2.2.2.2.1, u.2.2.2.2.2.1, u.2.2.2.2.2.2.1, u.2.2.2.2.2.2.2.1, u.2.2.2.2.2.2.2.2.1, u.2.2.2.2.2.2.2.2.2.1, u.2.2.2.2.2.2.2.2.2.2.1, u.2.2.2.2.2.2.2.2.2.2.2.1, u.2.2.2.2.2.2.2.2.2.2.2.2.1, u.2.2.2.2.2.2.2.2.2.2.2.2.2.1, u.2.2.2.2.2.2.2.2.2.2.2.2.2.2.1, u.2.2.2.2.2.2.2.2.2.2.2.2.2.2.2.1, u.2.2.2.2.2.2.2.2.2.2.2.2.2.2.2.2.1] : List Nat).getD k 0), (fun k => ([u.2.2.2.2.2.2.2.2.2.2.2.2.2.2.2.2.2.1, u.2.2.2.2.2.2.2.2.2.2.2.2.2.2.2.2.2.2.1, u.2.2.2.2.2.2.2.2.2.2.2.2.2.2.2.2.2.2.2.1, u.2.2.2.2.2.2.2.2.2.2.2.2.2.2.2.2.2.2.2.2.2.1, u.2.2.2.2.2.2.2.2.2.2.2.2.2.2.2.2.2.2.2.2.2.2.1, u.2.2.2.2.2.2.2.2.2.2.2.2.2.2.2.2.2.2.2.2.2.2.2.2.2.2.1, u.2.2.2.2.2.2.2.2.2.2.2.2.2.2.2.2.2.2.2.2.2.2.2.2.2.2.2.2.2.2.2.1] : List Int32).getD k 0), (fun k => ([u.2.2.2.2.2.2.2.2.2.2.2.2.2.2.2.2.2.2.2.2.1, u.2.2.2.2.2.2.2.2.2.2.2.2.2.2.2.2.2.2.2.2.2.2.2.1, u.2.2.2.2.2.2.2.2.2.2.2.2.2.2.2.2.2.2.2.2.2.2.2.2.1, u.2.2.2.2.2.2.2.2.2.2.2.2.2.2.2.2.2.2.2.2.2.2.2.2.2.1, u.2.2.2.2.2.2.2.2.2.2.2.2.2.2.2.2.2.2.2.2.2.2.2.2.2.2.2.1, u.2.2.2.2.2.2.2.2.2.2.2.2.2.2.2.2.2.2.2.2.2.2.2.2.2.2.2.2.1, u.2.2.2.2.2.2.2.2.2.2.2.2.2.2.2.2.2.2.2.2.2.2.2.2.2.2.2.2.2.1, u.2.2.2.2.2.2.2.2.2.2.2.2.2.2.2.2.2.2.2.2.2.2.2.2.2.2.2.2.2.2.1, u.2.2.2.2.2.2.2.2.2.2.2.2.2.2.2.2.2.2.2.2.2.2.2.2.2.2.2.2.2.2.2.2.1, u.2.2.2.2.2.2.2.2.2.2.2.2.2.2.2.2.2.2.2.2.2.2.2.2.2.2.2.2.2.2.2.2.2.1, u.2.2.2.2.2.2.2.2.2.2.2.2.2.2.2.2.2.2.2.2.2.2.2.2.2.2.2.2.2.2.2.2.2.2.1, u.2.2.2.2.2.2.2.2.2.2.2.2.2.2.2.2.2.2.2.2.2.2.2.2.2.2.2.2.2.2.2.2.2.2.2] : List (Nat → Int32)).getD k (fun _ => 0)), s.1, rfl, rfl, rfl, h2, h3 _ _ _ _ hPg⟩)
  · rw [hP] at q2; cases q2
