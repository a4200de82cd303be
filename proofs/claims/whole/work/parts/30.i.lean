def ouC (g : GP) (qo : Nat) (fo : Nat → Int64) : Nat × va_E := (qo, .inl (g.2 3, 1, .inr (.inl fo)))
def XPreX (g : GP) (v : GV) (z : Nat × Nat) (w : va_W) (sz : Nat) (U : State) : Prop := U.heap.size = sz ∧ va_P g.1 vwCl w U.heap ∧ GK g U ∧ va_D (fun _ => True) w ∧ GX z (va_A w sz) U U.heap
theorem blindXX {g : GP} {v : GV} {z : Nat × Nat} {av : List Value} {w : va_W} {sz : Nat} : FrameBlind (va_Pc av (XPreX g v z w sz)) := fun _ _ _ _ q => ⟨q.1, q.2.1, q.2.2.1, q.2.2.2.1.calling, q.2.2.2.2.1, q.2.2.2.2.2.calling⟩
theorem mxIX {l : Launch} {g : GP} {v : GV} {z : Nat × Nat} {y : MethodName} {ws : List Cond} {rm : Room} {av : List Value} {mc ms sz : Nat} {wc X pl : va_W} {S : Type} {w1 w2 : S → va_W} {post : Int32 → S → Prop} {post' : Int32 → va_W → Prop}
    (hM : Met l y ws rm (va_Pc av (fun U => U.heap.size = sz ∧ va_P g.1 vwCl wc U.heap ∧ GK g U ∧ va_D (fun _ => True) wc ∧ GX z (va_A wc sz) U U.heap)) (va_Qi post (fun u t => va_P g.1 vwCl (w1 u) t.heap ∧ va_D (va_A wc sz) (w1 u)) (va_A wc sz)) mc ms (va_A wc sz))
    (isC isR pm : List Nat) (hC : isC.map (fun i => X[i]?) = wc.map some) (hC2 : isC.map (fun i => (X ++ pl)[i]?) = wc.map some) (hR : isR.map (fun i => X[i]?) = (isR.filterMap (fun i => X[i]?)).map some) (hcn : va_nd isC = true) (hrn : va_nd isR = true) (hdis : ∀ i ∈ isR, i ∉ isC) (hpn : va_nd pm = true) (hp : ∀ u, pm.map (fun i => (isR.filterMap (fun i => X[i]?) ++ w1 u)[i]?) = (w2 u).map some)
    (hq : ∀ r u, post r u → post' r (w2 u ++ pl)) : Met l y ws rm (va_Pc av (XPreX g v z (X ++ pl) sz)) (va_Qi post' (XPst g (va_A (X ++ pl) sz)) (va_A (X ++ pl) sz)) mc ms (va_A (X ++ pl) sz) := by
  by_cases hne : ∃ U : State, XPreX g v z (X ++ pl) sz U
  · obtain ⟨U0, h0⟩ := hne
    have hA := A_in h0.1 h0.2.2.2.1 isC hC2
    refine met_mono hM (fun a U h => ⟨h.1, h.2.1, va_P_subM h.2.2.1 isC hC2, h.2.2.2.1, h.2.2.2.2.1.sub isC hcn hC2, h.2.2.2.2.2.narrow hA⟩) (fun a U o t h hQ => ?_) hA
    obtain ⟨⟨r, u, e1, hpost, hP1, hD1⟩, hF⟩ := hQ
    obtain ⟨k1, k2⟩ := mx_pst (u := u) h.2.1 h.2.2.1 h.2.2.2.2.1 hF hP1 hD1 isC isR pm hC hC2 hR hrn hdis hpn (hp u)
    exact ⟨⟨r, _, e1, hq r u hpost, k1⟩, k2⟩
  · intro p e ha hc hk s m args below hfr happ hp hK
    exact absurd ⟨s, hp.2⟩ hne
set_option maxHeartbeats 4000000 in
set_option maxRecDepth 100000 in
theorem uX_part (l : Launch) (g : GP) (v : GV) (z : Nat × Nat) (hst : l.stackTraces = false) (qX : Nat) (s : St) (qo : Nat) (fo : Nat → Int64) (p1 p2 : Int32) : ∀ (w : va_W) (sz : Nat), XAt g qX s w → Met l yL_part wsL_part rmL_part (va_Pc [.ref qX, .int p1, .int p2, .ref qo] (XPreX g v z (ouC g qo fo :: w) sz)) (va_Qi (fun r u => ∃ fo1 : Nat → Int64, u = ouC g qo fo1 :: w ∧ ((r = 0 ∧ okPa (pgT s.1) p1.toInt p2.toInt ∧ (fo1 0).toInt = spPa (pgT s.1) p1.toInt p2.toInt) ∨ (r = 1 ∧ ¬ okPa (pgT s.1) p1.toInt p2.toInt))) (XPst g (va_A (ouC g qo fo :: w) sz)) (va_A (ouC g qo fo :: w) sz)) 1 6 (va_A (ouC g qo fo :: w) sz) := by
  rintro w sz ⟨qP, qI, qt, qd, qe, qsp, qrk, qty, qtx, ql, qr, qv, qg, qG0, qn0, qk0, qf0, qs0, qG1, qn1, qk1, qf1, qs1, qtr, qlr, qrr, qvr, qgr, qG0r, qn0r, qk0r, qf0r, qs0r, qG1r, qn1r, qk1r, qf1r, qs1r, qh, qm, qb, qx, aM, qA, qB, qN, qS, qR, ql6, qb6, qc6, qk6, qm6, byt, flt, plc, tx, parts, limit, len, row, vot, mk0, nu0, kd0, fi0, la0, mk1, nu1, kd1, fi1, la1, im, D, partsr, limitr, lenr, rowr, votr, mk0r, nu0r, kd0r, fi0r, la0r, mk1r, nu1r, kd1r, fi1r, la1r, E, he, M, be, su, at5, pa5, pb5, to5, ah, bh, nm, sc, rs, pa6, rw6, le6, bi6, co6, ki6, mi6, pl, rfl, hT, hPg, hI⟩
  refine mxIX (X := ((qo, .inl (g.2 3, 1, .inr (.inl fo))) :: (xC g qX qP qI qt qd qe qsp qrk qty qtx ql qr qv qg qG0 qn0 qk0 qf0 qs0 qG1 qn1 qk1 qf1 qs1 qtr qlr qrr qvr qgr qG0r qn0r qk0r qf0r qs0r qG1r qn1r qk1r qf1r qs1r qh qm qb qx aM qA qB qN qS qR ql6 qb6 qc6 qk6 qm6 byt flt plc tx parts limit len row vot mk0 nu0 kd0 fi0 la0 mk1 nu1 kd1 fi1 la1 im D partsr limitr lenr rowr votr mk0r nu0r kd0r fi0r la0r mk1r nu1r kd1r fi1r la1r E he M be su at5 pa5 pb5 to5 ah bh nm sc rs pa6 rw6 le6 bi6 co6 ki6 mi6))) (pl := pl) (w2 := fun u => ((qo, .inl (g.2 3, 1, .inr (.inl u))) :: (xC g qX qP qI qt qd qe qsp qrk qty qtx ql qr qv qg qG0 qn0 qk0 qf0 qs0 qG1 qn1 qk1 qf1 qs1 qtr qlr qrr qvr qgr qG0r qn0r qk0r qf0r qs0r qG1r qn1r qk1r qf1r qs1r qh qm qb qx aM qA qB qN qS qR ql6 qb6 qc6 qk6 qm6 byt flt plc tx parts limit len row vot mk0 nu0 kd0 fi0 la0 mk1 nu1 kd1 fi1 la1 im D partsr limitr lenr rowr votr mk0r nu0r kd0r fi0r la0r mk1r nu1r kd1r fi1r la1r E he M be su at5 pa5 pb5 to5 ah bh nm sc rs pa6 rw6 le6 bi6 co6 ki6 mi6))) (wL_part l g z hst qX qP qI qt qd qe qsp qrk qty ql qr qv qg qo sz parts limit len row vot fo p1 p2 (sX8_part (pgT s.1) (pgA s.1) (pgB s.1) (pgL s.1) parts limit len row vot p1 p2 ⟨hT.1, hT.2.1, hT.2.2.1, hT.2.2.2.1⟩)) [1, 4, 5, 6, 7, 0] [2, 3, 8, 9, 10, 11, 12, 13, 14, 15, 16, 17, 18, 19, 20, 21, 22, 23, 24, 25, 26, 27, 28, 29, 30, 31, 32, 33, 34, 35, 36, 37, 38, 39, 40, 41, 42, 43, 44, 45, 46, 47, 48, 49, 50, 51, 52, 53, 54, 55, 56, 57, 58] [58, 53, 0, 1, 54, 55, 56, 57, 2, 3, 4, 5, 6, 7, 8, 9, 10, 11, 12, 13, 14, 15, 16, 17, 18, 19, 20, 21, 22, 23, 24, 25, 26, 27, 28, 29, 30, 31, 32, 33, 34, 35, 36, 37, 38, 39, 40, 41, 42, 43, 44, 45, 46, 47, 48, 49, 50, 51, 52] rfl rfl rfl (by decide) (by decide) (by decide) (by decide) (fun u => rfl) (fun r u h => ?_)
  refine ⟨u, rfl, ?_⟩
  rcases h with ⟨h1, a, h2, h3⟩ | ⟨h1, h2⟩
  · refine Or.inl ⟨h1, h2.1, ?_⟩
    rw [h3]
    show (vp_updL fo 0 a.toInt64 0).toInt = _
    unfold vp_updL
    rw [if_pos rfl, Int32.toInt_toInt64]
    exact h2.2
  · exact Or.inr ⟨h1, h2⟩
def MAtP (g : GP) (qM : Nat) (s : St) (ok an : Prop) (w : va_W) : Prop := ∃ (q1 : Nat) (q2 : Nat) (q3 : Nat) (q4 : Nat) (q5 : Nat) (q6 : Nat) (q7 : Nat) (q8 : Nat) (q9 : Nat) (q10 : Nat) (q11 : Nat) (F : Nat → Int32) (J : Nat → Int64) (al : Nat → Int32) (tx : Nat → Int32) (sv : Nat → Int32) (td : Nat → Int32) (fu : Nat → Int32) (sd : Nat → Int32) (he : Nat → Int32) (ma : Nat → Int32) (sc : Nat → Int32) (fr : Nat → Int32) (re : Nat → Int32), ∃ pl : va_W, w = (mC g qM q1 q2 q3 q4 q5 q6 q7 q8 q9 q10 q11 F J al tx sv td fu sd he ma sc fr re) ++ pl ∧ RM s al tx sv ∧ (ok → F 0 = 0 ∧ an) ∧ (¬ ok → F 0 = 1)
theorem MAtP.hd {g : GP} {qM : Nat} {s : St} {ok an : Prop} {w : va_W} (h : MAtP g qM s ok an w) : ∃ fs, w[0]? = some (qM, .inr (9, fs)) := by
  obtain ⟨_, _, _, _, _, _, _, _, _, _, _, _, _, _, _, _, _, _, _, _, _, _, _, _, pl, rfl, -⟩ := h
  exact ⟨_, rfl⟩
set_option maxHeartbeats 4000000 in
set_option maxRecDepth 100000 in
theorem uM_part (l : Launch) (g : GP) (v : GV) (qM : Nat) (s : St) (p1 : Int32) (p2 : Int32) : UCi l g v yX9_part wsX9_part rmX9_part qM [.int p1, .int p2] 0 0 (MAt g qM s) (fun r u => MAtP g qM s (okPa (pgT s.1) p1.toInt p2.toInt) (r.toInt = spPa (pgT s.1) p1.toInt p2.toInt) u) := by
  rintro w sz ⟨q1, q2, q3, q4, q5, q6, q7, q8, q9, q10, q11, F, J, al, tx, sv, td, fu, sd, he, ma, sc, fr, re, pl, rfl, hR⟩
  refine mxI (X := (mC g qM q1 q2 q3 q4 q5 q6 q7 q8 q9 q10 q11 F J al tx sv td fu sd he ma sc fr re)) (pl := pl) (w2 := fun u => (mC g qM q1 q2 q3 q4 q5 q6 q7 q8 q9 q10 q11 u J al tx sv td fu sd he ma sc fr re)) (wX9_part l g qM q1 q2 q3 q4 q5 q6 q7 q8 q9 q10 q11 sz F J al p1 p2 (sX9_part (pgT s.1) (pgA s.1) (pgB s.1) (pgL s.1) F J al p1 p2 hR.1.1)) [0, 1] [2, 3, 4, 5, 6, 7, 8, 9, 10, 11] [10, 11, 0, 1, 2, 3, 4, 5, 6, 7, 8, 9] rfl rfl rfl (by decide) (by decide) (by decide) (by decide) (fun u => rfl) (fun r u h => ?_)
  exact ⟨q1, q2, q3, q4, q5, q6, q7, q8, q9, q10, q11, u, J, al, tx, sv, td, fu, sd, he, ma, sc, fr, re, pl, rfl, hR, h.1, h.2⟩
set_option maxHeartbeats 4000000 in
set_option maxRecDepth 100000 in
theorem uM_thrown (l : Launch) (g : GP) (v : GV) (qM : Nat) (s : St) (ok an : Prop) : UCi l g v yX9_thrown wsX9_thrown rmX9_thrown qM [] 0 0 (MAtP g qM s ok an) (fun r u => MAt g qM s u ∧ (ok → r = 0 ∧ an) ∧ (¬ ok → r = 1)) := by
  rintro w sz ⟨q1, q2, q3, q4, q5, q6, q7, q8, q9, q10, q11, F, J, al, tx, sv, td, fu, sd, he, ma, sc, fr, re, pl, rfl, hR, hF⟩
  refine mxR (X := (mC g qM q1 q2 q3 q4 q5 q6 q7 q8 q9 q10 q11 F J al tx sv td fu sd he ma sc fr re) ++ pl) (wc := [(qM, .inr (9, [.int (F 0), .ref q1, .ref q2, .ref q3, .int (F 4), .int (F 5), .int (F 6), .int (F 7), .int (F 8), .int (F 9), .long (J 10), .int (F 11), .int (F 12), .int (F 13), .ref q4, .int (F 15), .ref q5, .ref q6, .ref q7, .int (F 19), .ref q8, .int (F 21), .int (F 22), .int (F 23), .int (F 24), .ref q9, .ref q10, .ref q11, .long (J 28)]))]) (wX9_thrown l g qM q1 q2 q3 q4 q5 q6 q7 q8 q9 q10 q11 F J (sX9_thrown F J trivial)) [0] rfl (fun r h => ?_)
  have h : r = F 0 := h
  exact ⟨⟨q1, q2, q3, q4, q5, q6, q7, q8, q9, q10, q11, F, J, al, tx, sv, td, fu, sd, he, ma, sc, fr, re, pl, rfl, hR⟩, fun q => by rw [h]; exact hF.1 q, fun q => by rw [h]; exact hF.2 q⟩
