def ouC (g : GP) (qo : Nat) (fo : Nat → Int64) : Nat × va_E := (qo, .inl (g.2 3, 1, .inr (.inl fo)))
def XPreX (g : GP) (v : GV) (z : Nat × Nat) (w : va_W) (sz : Nat) (U : State) : Prop := U.heap.size = sz ∧ va_P g.1 vwCl w U.heap ∧ GK g U ∧ va_D (fun _ => True) w ∧ GX z (va_A w sz) U U.heap
theorem blindXX {g : GP} {v : GV} {z : Nat × Nat} {av : List Value} {w : va_W} {sz : Nat} : FrameBlind (va_Pc av (XPreX g v z w sz)) := fun _ _ _ _ q => ⟨q.1, q.2.1, q.2.2.1, q.2.2.2.1.calling, q.2.2.2.2.1, q.2.2.2.2.2.calling⟩
theorem mxIX {l : Launch} {g : GP} {v : GV} {z : Nat × Nat} {y : MethodName} {ws : List Cond} {rm : Room} {av : List Value} {mc ms sz : Nat} {wc X pl : va_W} {S : Type} {w1 w2 : S → va_W} {post : Int32 → S → Prop} {post' : Int32 → va_W → Prop}
    (hM : Met l y ws rm (va_Pc av (fun U => U.heap.size = sz ∧ va_P g.1 vwCl wc U.heap ∧ GK g U ∧ va_D (fun _ => True) wc ∧ GX z (va_A wc sz) U U.heap)) (va_Qi post (fun u t => va_P g.1 vwCl (w1 u) t.heap ∧ va_D (va_A wc sz) (w1 u)) (va_A wc sz)) mc ms (va_A wc sz))
    (isC isR pm : List Nat) (hC : isC.map (fun i => X[i]?) = wc.map some) (hC2 : isC.map (fun i => (X ++ pl)[i]?) = wc.map some) (hR : isR.map (fun i => X[i]?) = (isR.filterMap (fun i => X[i]?)).map some) (hcn : va_nd isC = true) (hrn : va_nd isR = true) (hdis : ∀ i ∈ isR, i ∉ isC) (hpn : va_nd pm = true) (hp : ∀ u, pm.map (fun i => (isR.filterMap (fun i => X[i]?) ++ w1 u)[i]?) = (w2 u).map some)
    (hq : ∀ r u, post r u → post' r (w2 u ++ pl)) : Met l y ws rm (va_Pc av (XPreX g v z (X ++ pl) sz)) (va_Qi post' (XPst g (va_A (X ++ pl) sz)) (va_A (X ++ pl) sz)) mc ms (va_A (X ++ pl) sz) := by
  by_cases hne : ∃ U : State, XPreX g v z (X ++ pl) sz U
  · obtain ⟨U0, h0⟩ := hne
    have hA := A_in h0.1 h0.2.2.2.1 isC hC2
    refine met_mono hM (fun a U h => ⟨h.1, h.2.1, va_P_subM h.2.2.1 isC hC2, h.2.2.2.1, h.2.2.2.2.1.sub isC hcn hC2, h.2.2.2.2.2.narrow hA⟩) (fun a U o t h hQ => ?_) hA
    obtain ⟨⟨r, u, e1, hpost, hP1, hD1⟩, hF⟩ := hQ
    obtain ⟨k1, k2⟩ := mx_pst (u := u) h.2.1 h.2.2.1 h.2.2.2.2.1 hF hP1 hD1 isC isR pm hC hC2 hR hrn hdis hpn (hp u)
    exact ⟨⟨r, _, e1, hq r u hpost, k1⟩, k2⟩
  · intro p e ha hc hk s m args below hfr happ hp hK
    exact absurd ⟨s, hp.2⟩ hne
set_option maxHeartbeats 4000000 in
set_option maxRecDepth 100000 in
theorem uX_part (l : Launch) (g : GP) (v : GV) (z : Nat × Nat) (hst : l.stackTraces = false) (qX : Nat) (s : St) (qo : Nat) (fo : Nat → Int64) (p1 p2 : Int32) : ∀ (w : va_W) (sz : Nat), XAt g qX s w → Met l yL_part wsL_part rmL_part (va_Pc [.ref qX, .int p1, .int p2, .ref qo] (XPreX g v z (ouC g qo fo :: w) sz)) (va_Qi (fun r u => ∃ fo1 : Nat → Int64, u = ouC g qo fo1 :: w ∧ ((r = 0 ∧ okPa (pgT s.1) p1.toInt p2.toInt ∧ (fo1 0).toInt = spPa (pgT s.1) p1.toInt p2.toInt) ∨ (r = 1 ∧ ¬ okPa (pgT s.1) p1.toInt p2.toInt))) (XPst g (va_A (ouC g qo fo :: w) sz)) (va_A (ouC g qo fo :: w) sz)) 1 6 (va_A (ouC g qo fo :: w) sz) := by
  rintro w sz ⟨a, aM, c, f, M, im, pl, rfl, hT, hPg, hI⟩
  refine mxIX (X := ((qo, .inl (g.2 3, 1, .inr (.inl fo))) :: (xC g qX a aM c f M im))) (pl := pl) (w2 := fun u => ((qo, .inl (g.2 3, 1, .inr (.inl u))) :: (xC g qX a aM c f M im))) (wL_part l g z hst qX (a 0) (a 1) (a 2) (a 3) (a 4) (a 5) (a 6) (a 7) (a 9) (a 10) (a 11) (a 12) qo sz (c 3) (c 4) (f 1) (f 2) (f 3) fo p1 p2 (sX8_part (pgT s.1) (pgA s.1) (pgB s.1) (pgL s.1) (c 3) (c 4) (f 1) (f 2) (f 3) p1 p2 ⟨hT.1, hT.2.1, hT.2.2.1, hT.2.2.2.1⟩)) [1, 4, 5, 6, 7, 0] [2, 3, 8, 9, 10, 11, 12, 13, 14, 15, 16, 17, 18, 19, 20, 21, 22, 23, 24, 25, 26, 27, 28, 29, 30, 31, 32, 33, 34, 35, 36, 37, 38, 39, 40, 41, 42, 43, 44, 45, 46, 47, 48, 49, 50, 51, 52, 53, 54, 55, 56, 57, 58] [58, 53, 0, 1, 54, 55, 56, 57, 2, 3, 4, 5, 6, 7, 8, 9, 10, 11, 12, 13, 14, 15, 16, 17, 18, 19, 20, 21, 22, 23, 24, 25, 26, 27, 28, 29, 30, 31, 32, 33, 34, 35, 36, 37, 38, 39, 40, 41, 42, 43, 44, 45, 46, 47, 48, 49, 50, 51, 52] rfl rfl rfl (by decide) (by decide) (by decide) (by decide) (fun u => rfl) (fun r u h => ?_)
  refine ⟨u, rfl, ?_⟩
  rcases h with ⟨h1, a1, h2, h3⟩ | ⟨h1, h2⟩
  · refine Or.inl ⟨h1, h2.1, ?_⟩
    rw [h3]
    show (vp_updL fo 0 a1.toInt64 0).toInt = _
    unfold vp_updL
    rw [if_pos rfl, Int32.toInt_toInt64]
    exact h2.2
  · exact Or.inr ⟨h1, h2⟩
def MAtP (g : GP) (qM : Nat) (s : St) (ok an : Prop) (w : va_W) : Prop := ∃ (a : Nat → Nat) (F : Nat → Int32) (J : Nat → Int64) (f : Nat → Nat → Int32), ∃ pl : va_W, w = (mC g qM a F J f) ++ pl ∧ RM s (f 0) (f 1) (f 2) ∧ (ok → F 0 = 0 ∧ an) ∧ (¬ ok → F 0 = 1)
theorem MAtP.hd {g : GP} {qM : Nat} {s : St} {ok an : Prop} {w : va_W} (h : MAtP g qM s ok an w) : ∃ fs, w[0]? = some (qM, .inr (9, fs)) := by
  obtain ⟨a, F, J, f, pl, rfl, -⟩ := h
  exact ⟨_, rfl⟩
set_option maxHeartbeats 4000000 in
set_option maxRecDepth 100000 in
theorem uM_part (l : Launch) (g : GP) (v : GV) (qM : Nat) (s : St) (p1 : Int32) (p2 : Int32) : UCi l g v yX9_part wsX9_part rmX9_part qM [.int p1, .int p2] 0 0 (MAt g qM s) (fun r u => MAtP g qM s (okPa (pgT s.1) p1.toInt p2.toInt) (r.toInt = spPa (pgT s.1) p1.toInt p2.toInt) u) := by
  rintro w sz ⟨a, F, J, f, pl, rfl, hR⟩
  refine mxI (X := (mC g qM a F J f)) (pl := pl) (w2 := fun u => (mC g qM a u J f)) (wX9_part l g qM (a 0) (a 1) (a 2) (a 3) (a 4) (a 5) (a 6) (a 7) (a 8) (a 9) (a 10) sz F J (f 0) p1 p2 (sX9_part (pgT s.1) (pgA s.1) (pgB s.1) (pgL s.1) F J (f 0) p1 p2 hR.1.1)) [0, 1] [2, 3, 4, 5, 6, 7, 8, 9, 10, 11] [10, 11, 0, 1, 2, 3, 4, 5, 6, 7, 8, 9] rfl rfl rfl (by decide) (by decide) (by decide) (by decide) (fun u => rfl) (fun r u h => ?_)
  exact ⟨a, u, J, f, pl, rfl, hR, h.1, h.2⟩
set_option maxHeartbeats 4000000 in
set_option maxRecDepth 100000 in
theorem uM_thrown (l : Launch) (g : GP) (v : GV) (qM : Nat) (s : St) (ok an : Prop) : UCi l g v yX9_thrown wsX9_thrown rmX9_thrown qM [] 0 0 (MAtP g qM s ok an) (fun r u => MAt g qM s u ∧ (ok → r = 0 ∧ an) ∧ (¬ ok → r = 1)) := by
  rintro w sz ⟨a, F, J, f, pl, rfl, hR, hF⟩
  refine mxR (X := (mC g qM a F J f) ++ pl) (wc := [(qM, .inr (9, [.int (F 0), .ref (a 0), .ref (a 1), .ref (a 2), .int (F 4), .int (F 5), .int (F 6), .int (F 7), .int (F 8), .int (F 9), .long (J 10), .int (F 11), .int (F 12), .int (F 13), .ref (a 3), .int (F 15), .ref (a 4), .ref (a 5), .ref (a 6), .int (F 19), .ref (a 7), .int (F 21), .int (F 22), .int (F 23), .int (F 24), .ref (a 8), .ref (a 9), .ref (a 10), .long (J 28)]))]) (wX9_thrown l g qM (a 0) (a 1) (a 2) (a 3) (a 4) (a 5) (a 6) (a 7) (a 8) (a 9) (a 10) F J (sX9_thrown F J trivial)) [0] rfl (fun r h => ?_)
  have h : r = F 0 := h
  exact ⟨⟨a, F, J, f, pl, rfl, hR⟩, fun q => by rw [h]; exact hF.1 q, fun q => by rw [h]; exact hF.2 q⟩
