-- contracts over more than a callee's own cells
theorem met_mono {l : Launch} {y : MethodName} {ws : List Cond} {rm : Room} {Pc Pc' : Array Value → State → Prop} {Qc Qc' : Array Value → State → Outcome → State → Prop} {mc ms : Nat} {free free' : Addr → Prop}
    (h : Met l y ws rm Pc Qc mc ms free) (hP : ∀ a s, Pc' a s → Pc a s) (hQ : ∀ a s o t, Pc' a s → Qc a s o t → Qc' a s o t) (hf : ∀ q, free q → free' q) : Met l y ws rm Pc' Qc' mc ms free' := by
  intro p e ha hc hk s m args below hfr happ hp hK
  obtain ⟨n, o, h1, h2, h3, h4, L, h5, h6⟩ := h p e ha hc hk s m args below hfr happ (hP _ _ hp) hK
  exact ⟨n, o, h1, h2, h3, hQ _ _ _ _ hp h4, L, h5, fun q hq => hf _ (h6 q hq)⟩
theorem va_P_subM {D : va_G} {cl : List vw_C} {ws ws' : va_W} {H : Heap} (h : va_P D cl ws H) (is : List Nat) (hs : is.map (fun i => ws[i]?) = ws'.map some) : va_P D cl ws' H := by
  intro k q hk
  have h1 : (is.map (fun i => ws[i]?))[k]? = some (some q) := by rw [hs, List.getElem?_map, hk]; rfl
  rw [List.getElem?_map] at h1
  obtain ⟨i, _, e⟩ := Option.map_eq_some_iff.mp h1
  exact h i q e
/-- what is asked where a call of the law's begins -/
def XPre (g : GP) (v : GV) (w : va_W) (sz : Nat) (U : State) : Prop := U.heap.size = sz ∧ va_P g.1 vwCl w U.heap ∧ GK g U ∧ va_D (fun _ => True) w ∧ GE v (va_A w sz) U U.heap ∧ GO U
/-- what is there behind it -/
def XPst (g : GP) (A : Nat → Prop) (u : va_W) (t : State) : Prop := va_P g.1 vwCl u t.heap ∧ va_D A u
theorem blindX {g : GP} {v : GV} {av : List Value} {w : va_W} {sz : Nat} : FrameBlind (va_Pc av (XPre g v w sz)) := fun _ _ _ _ q => ⟨q.1, q.2.1, q.2.2.1, q.2.2.2.1.calling, q.2.2.2.2.1, q.2.2.2.2.2.1.calling, q.2.2.2.2.2.2.calling⟩
theorem A_in {X pl wc : va_W} {sz : Nat} {A : Nat → Prop} {U : State} (hsz : U.heap.size = sz) (hD : va_D A (X ++ pl)) (isC : List Nat) (hC2 : isC.map (fun i => (X ++ pl)[i]?) = wc.map some) : ∀ q, va_A wc sz q → va_A (X ++ pl) sz q := by
  subst hsz
  exact va_free (A0 := va_A (X ++ pl) U.heap.size) (ws := X ++ pl) (H0 := U.heap) (H := U.heap) (locs := []) hD.self va_S.rf (fun q h => Or.inr h) isC hC2
section MX
variable {l : Launch} {g : GP} {v : GV} {y : MethodName} {ws : List Cond} {rm : Room} {av : List Value} {mc ms sz : Nat} {wc X pl : va_W} {S : Type} {w1 w2 : S → va_W}
theorem mx_pst {A : Nat → Prop} {U t : State} {u : S} (hsz : U.heap.size = sz) (hP : va_P g.1 vwCl (X ++ pl) U.heap) (hD : va_D A (X ++ pl)) (hF : va_F (va_A wc sz) U t) (hP1 : va_P g.1 vwCl (w1 u) t.heap) (hD1 : va_D (va_A wc sz) (w1 u))
    (isC isR pm : List Nat) (hC : isC.map (fun i => X[i]?) = wc.map some) (hC2 : isC.map (fun i => (X ++ pl)[i]?) = wc.map some) (hR : isR.map (fun i => X[i]?) = (isR.filterMap (fun i => X[i]?)).map some) (hrn : va_nd isR = true) (hdis : ∀ i ∈ isR, i ∉ isC) (hpn : va_nd pm = true) (hp : pm.map (fun i => (isR.filterMap (fun i => X[i]?) ++ w1 u)[i]?) = (w2 u).map some) :
    XPst g (va_A (X ++ pl) sz) (w2 u ++ pl) t ∧ va_F (va_A (X ++ pl) sz) U t := by
  have hA := A_in hsz hD isC hC2
  subst hsz
  obtain ⟨j1, j2⟩ := va_joinQ (A0 := va_A (X ++ pl) U.heap.size) (X := X) (cx := wc) (wr := isR.filterMap (fun i => X[i]?)) (w1 := w1 u) (pl := pl) hP hD.self isC isR hC hR hrn hdis (fun q h1 h2 => hF.2 q h1 h2) hA hP1 hD1
  exact ⟨⟨j1.part pm hp, j2.part pm hpn hp⟩, hF.1, fun q h1 h2 => hF.2 q h1 (fun z => h2 (hA q z))⟩
theorem mxI {post : Int32 → S → Prop} {post' : Int32 → va_W → Prop}
    (hM : Met l y ws rm (va_Pc av (fun U => U.heap.size = sz ∧ va_P g.1 vwCl wc U.heap ∧ GK g U ∧ va_D (fun _ => True) wc)) (va_Qi post (fun u t => va_P g.1 vwCl (w1 u) t.heap ∧ va_D (va_A wc sz) (w1 u)) (va_A wc sz)) mc ms (va_A wc sz))
    (isC isR pm : List Nat) (hC : isC.map (fun i => X[i]?) = wc.map some) (hC2 : isC.map (fun i => (X ++ pl)[i]?) = wc.map some) (hR : isR.map (fun i => X[i]?) = (isR.filterMap (fun i => X[i]?)).map some) (hcn : va_nd isC = true) (hrn : va_nd isR = true) (hdis : ∀ i ∈ isR, i ∉ isC) (hpn : va_nd pm = true) (hp : ∀ u, pm.map (fun i => (isR.filterMap (fun i => X[i]?) ++ w1 u)[i]?) = (w2 u).map some)
    (hq : ∀ r u, post r u → post' r (w2 u ++ pl)) : Met l y ws rm (va_Pc av (XPre g v (X ++ pl) sz)) (va_Qi post' (XPst g (va_A (X ++ pl) sz)) (va_A (X ++ pl) sz)) mc ms (va_A (X ++ pl) sz) := by
  by_cases hne : ∃ U : State, XPre g v (X ++ pl) sz U
  · obtain ⟨U0, h0⟩ := hne
    have hA := A_in h0.1 h0.2.2.2.1 isC hC2
    refine met_mono hM (fun a U h => ⟨h.1, h.2.1, va_P_subM h.2.2.1 isC hC2, h.2.2.2.1, h.2.2.2.2.1.sub isC hcn hC2⟩) (fun a U o t h hQ => ?_) hA
    obtain ⟨⟨r, u, e1, hpost, hP1, hD1⟩, hF⟩ := hQ
    obtain ⟨k1, k2⟩ := mx_pst (u := u) h.2.1 h.2.2.1 h.2.2.2.2.1 hF hP1 hD1 isC isR pm hC hC2 hR hrn hdis hpn (hp u)
    exact ⟨⟨r, _, e1, hq r u hpost, k1⟩, k2⟩
  · intro p e ha hc hk s m args below hfr happ hp hK
    exact absurd ⟨s, hp.2⟩ hne
theorem mxL {post : Int64 → S → Prop} {post' : Int64 → va_W → Prop}
    (hM : Met l y ws rm (va_Pc av (fun U => U.heap.size = sz ∧ va_P g.1 vwCl wc U.heap ∧ GK g U ∧ va_D (fun _ => True) wc)) (va_Ql post (fun u t => va_P g.1 vwCl (w1 u) t.heap ∧ va_D (va_A wc sz) (w1 u)) (va_A wc sz)) mc ms (va_A wc sz))
    (isC isR pm : List Nat) (hC : isC.map (fun i => X[i]?) = wc.map some) (hC2 : isC.map (fun i => (X ++ pl)[i]?) = wc.map some) (hR : isR.map (fun i => X[i]?) = (isR.filterMap (fun i => X[i]?)).map some) (hcn : va_nd isC = true) (hrn : va_nd isR = true) (hdis : ∀ i ∈ isR, i ∉ isC) (hpn : va_nd pm = true) (hp : ∀ u, pm.map (fun i => (isR.filterMap (fun i => X[i]?) ++ w1 u)[i]?) = (w2 u).map some)
    (hq : ∀ r u, post r u → post' r (w2 u ++ pl)) : Met l y ws rm (va_Pc av (XPre g v (X ++ pl) sz)) (va_Ql post' (XPst g (va_A (X ++ pl) sz)) (va_A (X ++ pl) sz)) mc ms (va_A (X ++ pl) sz) := by
  by_cases hne : ∃ U : State, XPre g v (X ++ pl) sz U
  · obtain ⟨U0, h0⟩ := hne
    have hA := A_in h0.1 h0.2.2.2.1 isC hC2
    refine met_mono hM (fun a U h => ⟨h.1, h.2.1, va_P_subM h.2.2.1 isC hC2, h.2.2.2.1, h.2.2.2.2.1.sub isC hcn hC2⟩) (fun a U o t h hQ => ?_) hA
    obtain ⟨⟨r, u, e1, hpost, hP1, hD1⟩, hF⟩ := hQ
    obtain ⟨k1, k2⟩ := mx_pst (u := u) h.2.1 h.2.2.1 h.2.2.2.2.1 hF hP1 hD1 isC isR pm hC hC2 hR hrn hdis hpn (hp u)
    exact ⟨⟨r, _, e1, hq r u hpost, k1⟩, k2⟩
  · intro p e ha hc hk s m args below hfr happ hp hK
    exact absurd ⟨s, hp.2⟩ hne
theorem mxIE {post : Int32 → S → Prop} {post' : Int32 → va_W → Prop}
    (hM : Met l y ws rm (va_Pc av (fun U => U.heap.size = sz ∧ va_P g.1 vwCl wc U.heap ∧ GK g U ∧ va_D (fun _ => True) wc ∧ GE v (va_A wc sz) U U.heap)) (va_Qi post (fun u t => va_P g.1 vwCl (w1 u) t.heap ∧ va_D (va_A wc sz) (w1 u)) (va_A wc sz)) mc ms (va_A wc sz))
    (isC isR pm : List Nat) (hC : isC.map (fun i => X[i]?) = wc.map some) (hC2 : isC.map (fun i => (X ++ pl)[i]?) = wc.map some) (hR : isR.map (fun i => X[i]?) = (isR.filterMap (fun i => X[i]?)).map some) (hcn : va_nd isC = true) (hrn : va_nd isR = true) (hdis : ∀ i ∈ isR, i ∉ isC) (hpn : va_nd pm = true) (hp : ∀ u, pm.map (fun i => (isR.filterMap (fun i => X[i]?) ++ w1 u)[i]?) = (w2 u).map some)
    (hq : ∀ r u, post r u → post' r (w2 u ++ pl)) : Met l y ws rm (va_Pc av (XPre g v (X ++ pl) sz)) (va_Qi post' (XPst g (va_A (X ++ pl) sz)) (va_A (X ++ pl) sz)) mc ms (va_A (X ++ pl) sz) := by
  by_cases hne : ∃ U : State, XPre g v (X ++ pl) sz U
  · obtain ⟨U0, h0⟩ := hne
    have hA := A_in h0.1 h0.2.2.2.1 isC hC2
    refine met_mono hM (fun a U h => ⟨h.1, h.2.1, va_P_subM h.2.2.1 isC hC2, h.2.2.2.1, h.2.2.2.2.1.sub isC hcn hC2, h.2.2.2.2.2.1.narrow hA⟩) (fun a U o t h hQ => ?_) hA
    obtain ⟨⟨r, u, e1, hpost, hP1, hD1⟩, hF⟩ := hQ
    obtain ⟨k1, k2⟩ := mx_pst (u := u) h.2.1 h.2.2.1 h.2.2.2.2.1 hF hP1 hD1 isC isR pm hC hC2 hR hrn hdis hpn (hp u)
    exact ⟨⟨r, _, e1, hq r u hpost, k1⟩, k2⟩
  · intro p e ha hc hk s m args below hfr happ hp hK
    exact absurd ⟨s, hp.2⟩ hne
theorem mxIO {post : Int32 → S → Prop} {post' : Int32 → va_W → Prop}
    (hM : Met l y ws rm (va_Pc av (fun U => U.heap.size = sz ∧ va_P g.1 vwCl wc U.heap ∧ GK g U ∧ va_D (fun _ => True) wc ∧ GO U)) (va_Qi post (fun u t => va_P g.1 vwCl (w1 u) t.heap ∧ va_D (va_A wc sz) (w1 u)) (va_A wc sz)) mc ms (va_A wc sz))
    (isC isR pm : List Nat) (hC : isC.map (fun i => X[i]?) = wc.map some) (hC2 : isC.map (fun i => (X ++ pl)[i]?) = wc.map some) (hR : isR.map (fun i => X[i]?) = (isR.filterMap (fun i => X[i]?)).map some) (hcn : va_nd isC = true) (hrn : va_nd isR = true) (hdis : ∀ i ∈ isR, i ∉ isC) (hpn : va_nd pm = true) (hp : ∀ u, pm.map (fun i => (isR.filterMap (fun i => X[i]?) ++ w1 u)[i]?) = (w2 u).map some)
    (hq : ∀ r u, post r u → post' r (w2 u ++ pl)) : Met l y ws rm (va_Pc av (XPre g v (X ++ pl) sz)) (va_Qi post' (XPst g (va_A (X ++ pl) sz)) (va_A (X ++ pl) sz)) mc ms (va_A (X ++ pl) sz) := by
  by_cases hne : ∃ U : State, XPre g v (X ++ pl) sz U
  · obtain ⟨U0, h0⟩ := hne
    have hA := A_in h0.1 h0.2.2.2.1 isC hC2
    refine met_mono hM (fun a U h => ⟨h.1, h.2.1, va_P_subM h.2.2.1 isC hC2, h.2.2.2.1, h.2.2.2.2.1.sub isC hcn hC2, h.2.2.2.2.2.2⟩) (fun a U o t h hQ => ?_) hA
    obtain ⟨⟨r, u, e1, hpost, hP1, hD1⟩, hF⟩ := hQ
    obtain ⟨k1, k2⟩ := mx_pst (u := u) h.2.1 h.2.2.1 h.2.2.2.2.1 hF hP1 hD1 isC isR pm hC hC2 hR hrn hdis hpn (hp u)
    exact ⟨⟨r, _, e1, hq r u hpost, k1⟩, k2⟩
  · intro p e ha hc hk s m args below hfr happ hp hK
    exact absurd ⟨s, hp.2⟩ hne
theorem mxR {post : Int32 → Prop} {post' : Int32 → va_W → Prop}
    (hM : Met l y ws rm (va_Pc av (fun U => va_P g.1 vwCl wc U.heap ∧ GK g U)) (vp_Si post) 0 0 (fun _ => False)) (isC : List Nat) (hC2 : isC.map (fun i => X[i]?) = wc.map some) (hq : ∀ r, post r → post' r X) : Met l y ws rm (va_Pc av (XPre g v X sz)) (va_Qi post' (XPst g (va_A X sz)) (va_A X sz)) 0 0 (va_A X sz) := by
  refine met_mono hM (fun a U h => ⟨h.1, va_P_subM h.2.2.1 isC hC2, h.2.2.2.1⟩) (fun a U o t h hQ => ?_) (fun _ h => h.elim)
  obtain ⟨r, e1, hpost, e2⟩ := hQ
  exact ⟨⟨r, X, e1, hq r hpost, by rw [e2]; exact h.2.2.1, h.2.2.2.2.1.self⟩, by rw [e2]; exact Nat.le_refl _, fun q _ _ => by rw [e2]⟩
theorem mxRL {post : Int64 → Prop} {post' : Int64 → va_W → Prop}
    (hM : Met l y ws rm (va_Pc av (fun U => va_P g.1 vwCl wc U.heap ∧ GK g U)) (vp_Sl post) 0 0 (fun _ => False)) (isC : List Nat) (hC2 : isC.map (fun i => X[i]?) = wc.map some) (hq : ∀ r, post r → post' r X) : Met l y ws rm (va_Pc av (XPre g v X sz)) (va_Ql post' (XPst g (va_A X sz)) (va_A X sz)) 0 0 (va_A X sz) := by
  refine met_mono hM (fun a U h => ⟨h.1, va_P_subM h.2.2.1 isC hC2, h.2.2.2.1⟩) (fun a U o t h hQ => ?_) (fun _ h => h.elim)
  obtain ⟨r, e1, hpost, e2⟩ := hQ
  exact ⟨⟨r, X, e1, hq r hpost, by rw [e2]; exact h.2.2.1, h.2.2.2.2.1.self⟩, by rw [e2]; exact Nat.le_refl _, fun q _ _ => by rw [e2]⟩
/-- a turn of what lies behind -/
theorem va_A_rot {X s t : va_W} {sz : Nat} : va_A (X ++ (s ++ t)) sz = va_A (X ++ (t ++ s)) sz := by
  have one : ∀ (a b : va_W) (q : Nat), va_A (X ++ (a ++ b)) sz q → va_A (X ++ (b ++ a)) sz q := fun a b q h => by
    rcases h with ⟨k, e, hk⟩ | h
    · have hm : (q, e) ∈ X ++ (b ++ a) := by
        have := List.mem_of_getElem? hk
        simp only [List.mem_append] at this ⊢
        rcases this with z | z | z
        · exact Or.inl z
        · exact Or.inr (Or.inr z)
        · exact Or.inr (Or.inl z)
      obtain ⟨j, hj⟩ := List.mem_iff_getElem?.mp hm
      exact Or.inl ⟨j, e, hj⟩
    · exact Or.inr h
  funext q
  exact propext ⟨one s t q, one t s q⟩
theorem va_P_rot {D : va_G} {cl : List vw_C} {X s t : va_W} {H : Heap} (h : va_P D cl (X ++ (s ++ t)) H) : va_P D cl (X ++ (t ++ s)) H := by
  rw [← List.append_assoc] at h ⊢
  exact h.swap
theorem va_D_rot {A : Nat → Prop} {X s t : va_W} (h : va_D A (X ++ (s ++ t))) : va_D A (X ++ (t ++ s)) := by
  rw [← List.append_assoc] at h ⊢
  exact h.swap
theorem mrot {s t : va_W} {R : Int32 → va_W → va_W → Prop} {post' : Int32 → va_W → Prop}
    (hM : Met l y ws rm (va_Pc av (XPre g v (X ++ (t ++ s)) sz)) (va_Qi (fun r u => ∃ X' t', u = X' ++ (t' ++ s) ∧ R r X' t') (XPst g (va_A (X ++ (t ++ s)) sz)) (va_A (X ++ (t ++ s)) sz)) mc ms (va_A (X ++ (t ++ s)) sz)) (hq : ∀ r X' t', R r X' t' → post' r (X' ++ (s ++ t'))) :
    Met l y ws rm (va_Pc av (XPre g v (X ++ (s ++ t)) sz)) (va_Qi post' (XPst g (va_A (X ++ (s ++ t)) sz)) (va_A (X ++ (s ++ t)) sz)) mc ms (va_A (X ++ (s ++ t)) sz) := by
  rw [va_A_rot (s := s) (t := t)]
  refine met_mono hM (fun a U h => ⟨h.1, h.2.1, va_P_rot h.2.2.1, h.2.2.2.1, va_D_rot h.2.2.2.2.1, by rw [va_A_rot (s := t) (t := s)]; exact h.2.2.2.2.2.1, h.2.2.2.2.2.2⟩) (fun a U o tt h hQ => ?_) (fun q h => h)
  obtain ⟨⟨r, u, e1, ⟨X', t', rfl, hR⟩, k1, k2⟩, hF⟩ := hQ
  exact ⟨⟨r, _, e1, hq r X' t' hR, va_P_rot k1, va_D_rot k2⟩, hF⟩
end MX
-- an object's page (what is told; how many bytes, the fault, its place, the bytes) and its images
abbrev Pg : Type := Cd × Lg × Lg × Nat × Nat × Int × Int × (Nat → Int32)
abbrev St : Type := Pg × (Nat → Option Pg)
def pgT (P : Pg) : Cd := P.1
def pgA (P : Pg) : Lg := P.2.1
def pgB (P : Pg) : Lg := P.2.2.1
def pgL (P : Pg) : Nat := P.2.2.2.1
def pgN (P : Pg) : Nat := P.2.2.2.2.1
def pgF (P : Pg) : Int := P.2.2.2.2.2.1
def pgP (P : Pg) : Int := P.2.2.2.2.2.2.1
def pgX (P : Pg) : Nat → Int32 := P.2.2.2.2.2.2.2
def mkP (T : Cd) (A B : Lg) (L N : Nat) (F P : Int) (X : Nat → Int32) : Pg := (T, A, B, L, N, F, P, X)
def okPg (P : Pg) : Prop := gn (pgA P) 2 ≤ 9999 ∧ gn (pgB P) 2 ≤ 9999
def okS (s : St) : Prop := okPg s.1 ∧ ∀ k P, s.2 k = some P → okPg P
noncomputable section
def nWr (P : Pg) (x : Int64) : Pg := mkP (pgT P) (pgA P) (pgB P) (pgL P) (nbW (pgN P) x) (pgF P) (pgP P) (txW (pgN P) x (pgX P))
def nTu (P : Pg) : Pg := mkP (tnT (pgX P) (pgN P) (pgT P)) (tn0 (pgX P) (pgN P) (pgA P)) (tn1 (pgX P) (pgN P) (pgB P)) (tnL (pgX P) (pgN P) (pgL P)) 0 (alR (pgX P) (pgN P)).1.1 (alR (pgX P) (pgN P)).1.2 (pgX P)
def nSe (P : Pg) (l w n : Int) : Pg := mkP (pgT P) (nxS0 (pgA P) (pgB P) l w n) (nxS1 (pgA P) (pgB P) l w n) (pgL P) (pgN P) (pgF P) (pgP P) (pgX P)
def nVo (P : Pg) (p v : Int) : Pg := mkP (nxVot (pgT P) p v) (pgA P) (pgB P) (pgL P) (pgN P) (pgF P) (pgP P) (pgX P)
def nLi (P : Pg) (n : Int) : Pg := mkP (pgT P) (pgA P) (pgB P) (nxLim (pgL P) n) (pgN P) (pgF P) (pgP P) (pgX P)
def nMa (P : Pg) (l k i : Int) : Pg := mkP (pgT P) (nxM0 (pgA P) l k i) (nxM1 (pgB P) l k i) (pgL P) (pgN P) (pgF P) (pgP P) (pgX P)
def nCl (P : Pg) (l : Int) : Pg := mkP (pgT P) (nxC0 (pgA P) l) (nxC1 (pgB P) l) (pgL P) (pgN P) (pgF P) (pgP P) (pgX P)
def nTr (P : Pg) (p b : Int) : Pg := mkP (nxTurn (pgT P) p b) (pgA P) (pgB P) (pgL P) (pgN P) (pgF P) (pgP P) (pgX P)
def nSw (P : Pg) (p q : Int) : Pg := mkP (nxSwap (pgT P) p q) (pgA P) (pgB P) (pgL P) (pgN P) (pgF P) (pgP P) (pgX P)
def nIm (s : St) (k : Int) : St := if 0 ≤ k ∧ k ≤ 2 then (s.1, va_up s.2 k.toNat (some s.1)) else s
def nAg (s : St) (k : Int) : St := if 0 ≤ k ∧ k ≤ 2 then ((s.2 k.toNat).getD s.1, s.2) else s
def spIm (k : Int) : Int := if 0 ≤ k ∧ k ≤ 2 then 1 else 0
def spAg (s : St) (k : Int) : Int := if (0 ≤ k ∧ k ≤ 2) ∧ s.2 k.toNat ≠ none then 1 else 0
def spFault (P : Pg) (w : Int) : Int := if w = 0 then pgF P else pgP P
def sZ : St := (mkP cZ gZ gZ 1000 0 0 (-1) (fun _ => 0), fun _ => none)
end
-- where a leg begins to hear: at most 9999
theorem fr_gS {G : Lg} {j : Nat} {v : Int} (h : gn G 2 ≤ 9999) (hv : j = 2 → v ≤ 9999) : gn (gS G j v) 2 ≤ 9999 := by
  show (if 2 = j then v else G.1 2) ≤ 9999
  by_cases e : 2 = j
  · rw [if_pos e]; exact hv e.symm
  · rw [if_neg e]; exact h
theorem fr_leg {b : Nat → Int32} {nb i : Nat} {G : Lg} {f : Ft} (hi : i ≤ nb) (h : gn G 2 ≤ 9999) (ht : (legS b nb i G f).1 = true) : gn (legG b nb i G) 2 ≤ 9999 := by
  unfold legS at ht
  unfold legG
  by_cases c : 4 ≤ wI b nb i ∧ wI b nb i ≤ 10
  · rw [if_pos c] at ht ⊢
    unfold stG
    have h3 := (tE_le b hi).2
    have hv := tV_le h3 (numS_t.mp ht)
    refine fr_gS h (fun e => ?_)
    unfold stV
    split <;> omega
  · rw [if_neg c]
    exact h
theorem fr_all (b : Nat → Int32) (nb : Nat) : ∀ (n i : Nat) (T : Cd) (G0 G1 : Lg) (lim : Nat) (f : Ft), i ≤ nb → gn G0 2 ≤ 9999 → gn G1 2 ≤ 9999 → gn (allS b nb n i T G0 G1 lim f).2.2.1 2 ≤ 9999 ∧ gn (allS b nb n i T G0 G1 lim f).2.2.2.1 2 ≤ 9999
  | 0, i, T, G0, G1, lim, f, _, h0, h1 => ⟨h0, h1⟩
  | n + 1, i, T, G0, G1, lim, f, hi, h0, h1 => by
    rw [allS]
    by_cases c : tK b nb i = 0
    · rw [if_pos c]; exact ⟨h0, h1⟩
    · rw [if_neg c]
      by_cases d : (sgnS b nb (lineS b nb i T G0 G1 f)).1 = true
      · rw [if_pos d]
        have hl : (lineS b nb i T G0 G1 f).1 = true := by
          by_cases q : (lineS b nb i T G0 G1 f).1 = true
          · exact q
          · unfold sgnS at d; rw [if_neg q] at d; exact d
        have hle := (sgnS_gt (j := 0) (fun q => ⟨Nat.zero_le _, (lineS_le hi q).2⟩) d).2
        have h3 := (tE_le b hi).2
        refine fr_all b nb n _ _ _ _ _ _ hle ?_ ?_
        · unfold li0
          by_cases w : wI b nb i = 2
          · rw [if_pos w]
            unfold lineS at hl
            rw [if_neg (by omega), if_neg (by omega), if_pos w] at hl
            exact fr_leg h3 h0 hl
          · rw [if_neg w]; exact h0
        · unfold li1
          by_cases w : wI b nb i = 3
          · rw [if_pos w]
            unfold lineS at hl
            rw [if_neg (by omega), if_neg (by omega), if_neg (by omega), if_pos w] at hl
            exact fr_leg h3 h1 hl
          · rw [if_neg w]; exact h1
      · rw [if_neg d]; exact ⟨h0, h1⟩
theorem okPg_tu {P : Pg} (h : okPg P) : okPg (nTu P) := by
  have q := fr_all (pgX P) (pgN P) (pgN P + 1) 0 cZ gZ gZ 1000 (0, -1) (Nat.zero_le _) (by decide) (by decide)
  show gn (tn0 (pgX P) (pgN P) (pgA P)) 2 ≤ 9999 ∧ gn (tn1 (pgX P) (pgN P) (pgB P)) 2 ≤ 9999
  unfold tn0 tn1
  by_cases c : (alR (pgX P) (pgN P)).1.1 = 0
  · rw [if_pos c, if_pos c]; exact q
  · rw [if_neg c, if_neg c]; exact h
theorem okPg_se {P : Pg} (h : okPg P) (l w n : Int) : okPg (nSe P l w n) := by
  show gn (nxS0 (pgA P) (pgB P) l w n) 2 ≤ 9999 ∧ gn (nxS1 (pgA P) (pgB P) l w n) 2 ≤ 9999
  unfold nxS0 nxS1
  by_cases c : (l = 0 ∨ l = 1) ∧ (0 ≤ w ∧ w ≤ 5) ∧ (leastS w ≤ n ∧ n ≤ mostS w) ∧ n ≠ gn (pkG (pgA P) (pgB P) l.toNat) w.toNat
  · rw [if_pos c, if_pos c]
    have hm : w.toNat = 2 → n ≤ 9999 := fun e => by
      have e2 : w = 2 := by omega
      have h2 := c.2.2.1.2
      rw [e2] at h2
      simp [mostS] at h2
      omega
    unfold sG0 sG1
    by_cases d : l.toNat = 0
    · rw [if_pos d, if_pos d]; exact ⟨fr_gS h.1 hm, h.2⟩
    · rw [if_neg d, if_neg d]; exact ⟨h.1, fr_gS h.2 hm⟩
  · rw [if_neg c, if_neg c]; exact h
theorem okPg_ma {P : Pg} (h : okPg P) (l k i : Int) : okPg (nMa P l k i) := by
  show gn (nxM0 (pgA P) l k i) 2 ≤ 9999 ∧ gn (nxM1 (pgB P) l k i) 2 ≤ 9999
  unfold nxM0 nxM1
  refine ⟨?_, ?_⟩
  · split
    · exact h.1
    · exact h.1
  · split
    · exact h.2
    · exact h.2
theorem okPg_cl {P : Pg} (h : okPg P) (l : Int) : okPg (nCl P l) := by
  show gn (nxC0 (pgA P) l) 2 ≤ 9999 ∧ gn (nxC1 (pgB P) l) 2 ≤ 9999
  unfold nxC0 nxC1
  refine ⟨?_, ?_⟩
  · split
    · exact h.1
    · exact h.1
  · split
    · exact h.2
    · exact h.2
theorem okS_im {s : St} (h : okS s) (k : Int) : okS (nIm s k) := by
  unfold nIm
  split
  · refine ⟨h.1, fun j P hj => ?_⟩
    have hj : va_up s.2 k.toNat (some s.1) j = some P := hj
    unfold va_up at hj
    by_cases e : j = k.toNat
    · rw [if_pos e] at hj; cases hj; exact h.1
    · rw [if_neg e] at hj; exact h.2 j P hj
  · exact h
theorem okS_ag {s : St} (h : okS s) (k : Int) : okS (nAg s k) := by
  unfold nAg
  split
  · refine ⟨?_, h.2⟩
    show okPg ((s.2 k.toNat).getD s.1)
    cases e : s.2 k.toNat with
    | none => exact h.1
    | some P => exact h.2 _ P e
  · exact h
-- bytes
theorem nar_t (x : Int32) : (vp_nar .byte x).toInt = x.toInt.bmod 256 := by
  show (x.toInt8.toInt32).toInt = _
  rw [Int8.toInt_toInt32, Int32.toInt_toInt8]
theorem nar_r (x : Int32) : -128 ≤ (vp_nar .byte x).toInt ∧ (vp_nar .byte x).toInt ≤ 127 := by
  rw [nar_t]
  have h1 := Int.le_bmod (x := x.toInt) (m := 256) (by decide)
  have h2 := Int.bmod_lt (x := x.toInt) (m := 256) (by decide)
  omega
theorem nar_id {x : Int32} (h1 : -128 ≤ x.toInt) (h2 : x.toInt ≤ 127) : vp_nar .byte x = x := by
  apply q_inj
  rw [nar_t]
  have h3 := Int.le_bmod (x := x.toInt) (m := 256) (by decide)
  have h4 := Int.bmod_lt (x := x.toInt) (m := 256) (by decide)
  obtain ⟨k, hk⟩ := Int.dvd_bmod_sub_self (x := x.toInt) (m := 256)
  omega
theorem txK_at (nb : Nat) (x : Int64) (tx : Nat → Int32) : ∀ c k, txK nb x tx c k = if nb ≤ k ∧ k < nb + c then vp_nar .byte (bB x (k - nb)) else tx k
  | 0, k => by rw [if_neg (by omega)]; rfl
  | c + 1, k => by
    rw [txK]
    by_cases e : k = nb + c
    · subst e
      rw [upd_eq, if_pos (by omega), show nb + c - nb = c by omega]
    · rw [upd_ne e, txK_at nb x tx c k]
      by_cases d : nb ≤ k ∧ k < nb + c
      · rw [if_pos d, if_pos (by omega)]
      · rw [if_neg d, if_neg (by omega)]
theorem isTx_W {b tx : Nat → Int32} {nb : Nat} {x : Int64} (h : isTx b nb tx) : isTx (txW nb x b) (nbW nb x) (txW nb x tx) := by
  unfold txW nbW
  by_cases c : nb + cB x ≤ 500
  · rw [if_pos c, if_pos c, if_pos c]
    intro k hk
    rw [txK_at, txK_at]
    by_cases d : nb ≤ k ∧ k < nb + cB x
    · rw [if_pos d, if_pos d]
      exact ⟨rfl, nar_r _⟩
    · rw [if_neg d, if_neg d]
      exact h k (by omega)
  · rw [if_neg c, if_neg c, if_neg c]; exact h
theorem txW_hi {tx : Nat → Int32} {nb : Nat} {x : Int64} {k : Nat} (hk : 500 ≤ k) : txW nb x tx k = tx k := by
  unfold txW
  split
  · rw [txK_at, if_neg (by omega)]
  · rfl
theorem nbW_le {nb : Nat} {x : Int64} (h : nb ≤ 500) : nbW nb x ≤ 500 := by unfold nbW; split <;> omega
-- what is told, changed
theorem fcT_vo {T : Cd} {G0 G1 : Lg} {lim : Nat} {parts limit : Int32} {len row vot : Nat → Int32} {mk0 : Int32} {nu0 kd0 fi0 la0 : Nat → Int32} {mk1 : Int32} {nu1 kd1 fi1 la1 : Nat → Int32} (h : fcT T G0 G1 lim parts limit len row vot mk0 nu0 kd0 fi0 la0 mk1 nu1 kd1 fi1 la1) {p v : Int} {vot' : Nat → Int32} (hv : isV (nxVot T p v) vot') : fcT (nxVot T p v) G0 G1 lim parts limit len row vot' mk0 nu0 kd0 fi0 la0 mk1 nu1 kd1 fi1 la1 := by
  unfold nxVot at hv ⊢
  by_cases c : (0 ≤ p ∧ p < (cn T : Int)) ∧ (1 ≤ v ∧ v ≤ 9) ∧ v ≠ (cV T p.toNat : Int)
  · rw [if_pos c] at hv ⊢; exact ⟨h.1, h.2.1, h.2.2.1, hv, h.2.2.2.2⟩
  · rw [if_neg c] at hv ⊢; exact ⟨h.1, h.2.1, h.2.2.1, hv, h.2.2.2.2⟩
theorem fcT_tr {T : Cd} {G0 G1 : Lg} {lim : Nat} {parts limit : Int32} {len row vot : Nat → Int32} {mk0 : Int32} {nu0 kd0 fi0 la0 : Nat → Int32} {mk1 : Int32} {nu1 kd1 fi1 la1 : Nat → Int32} (h : fcT T G0 G1 lim parts limit len row vot mk0 nu0 kd0 fi0 la0 mk1 nu1 kd1 fi1 la1) {p v : Int} {row' : Nat → Int32} (hv : isR (nxTurn T p v) row') : fcT (nxTurn T p v) G0 G1 lim parts limit len row' vot mk0 nu0 kd0 fi0 la0 mk1 nu1 kd1 fi1 la1 := by
  unfold nxTurn at hv ⊢
  by_cases c : (0 ≤ p ∧ p < (cn T : Int)) ∧ 1 ≤ v ∧ v < (cL T p.toNat : Int)
  · rw [if_pos c] at hv ⊢; exact ⟨h.1, h.2.1, hv, h.2.2.2⟩
  · rw [if_neg c] at hv ⊢; exact ⟨h.1, h.2.1, hv, h.2.2.2⟩
theorem fcT_sw {T : Cd} {G0 G1 : Lg} {lim : Nat} {parts limit : Int32} {len row vot : Nat → Int32} {mk0 : Int32} {nu0 kd0 fi0 la0 : Nat → Int32} {mk1 : Int32} {nu1 kd1 fi1 la1 : Nat → Int32} (h : fcT T G0 G1 lim parts limit len row vot mk0 nu0 kd0 fi0 la0 mk1 nu1 kd1 fi1 la1) {p v : Int} {len' row' vot' : Nat → Int32} (h1 : isL (nxSwap T p v) len') (h2 : isR (nxSwap T p v) row') (h3 : isV (nxSwap T p v) vot') : fcT (nxSwap T p v) G0 G1 lim parts limit len' row' vot' mk0 nu0 kd0 fi0 la0 mk1 nu1 kd1 fi1 la1 := by
  refine ⟨?_, h1, h2, h3, h.2.2.2.2⟩
  unfold nxSwap
  split
  · exact h.1
  · exact h.1
theorem nxLim_b {lim : Nat} (h : lim ≤ 9999 ∧ 1 ≤ lim) (n : Int) : nxLim lim n ≤ 9999 ∧ 1 ≤ nxLim lim n := by
  unfold nxLim; split
  · omega
  · exact h
-- the reference's page
def pgM (P : Pg) (al tx : Nat → Int32) : Prop := fcR (pgT P) (pgA P) (pgB P) (pgL P) al ∧ (al 2).toInt = (pgN P : Int) ∧ pgN P ≤ 500 ∧ (al 3).toInt = pgF P ∧ (al 4).toInt = pgP P ∧ isTx (pgX P) (pgN P) tx
def RM (s : St) (al tx sv : Nat → Int32) : Prop := pgM s.1 al tx ∧ ∀ k, k < 3 → (sv k = 0 ∧ s.2 k = none) ∨ ∃ P, sv k = 1 ∧ s.2 k = some P ∧ pgM P (fun j => al (94 * (k + 1) + j)) (fun j => tx (500 * (k + 1) + j))
theorem fcR_cong {T : Cd} {G0 G1 : Lg} {lim : Nat} {al al' : Nat → Int32} (h : fcR T G0 G1 lim al) (hk : ∀ k, k < 94 → al' k = al k) : fcR T G0 G1 lim al' := by
  obtain ⟨h1, h2, h3, h4, h5⟩ := h
  refine ⟨mT_cong h1 (fun k q => hk k (by omega)), mG_cong h2 (fun k _ q => hk k (by omega)), mG_cong h3 (fun k _ q => hk k (by omega)), ?_, h5⟩
  rw [hk 1 (by omega)]; exact h4
theorem pgM_cong {P : Pg} {al al' tx tx' : Nat → Int32} (h : pgM P al tx) (hk : ∀ k, k < 94 → al' k = al k) (ht : ∀ k, k < 500 → tx' k = tx k) : pgM P al' tx' := by
  obtain ⟨h1, h2, h3, h4, h5, h6⟩ := h
  refine ⟨fcR_cong h1 hk, by rw [hk 2 (by omega)]; exact h2, h3, by rw [hk 3 (by omega)]; exact h4, by rw [hk 4 (by omega)]; exact h5, fun k q => ?_⟩
  rw [ht k (by omega)]; exact h6 k q
/-- what is told anew by hand -/
theorem RM_kp {s : St} {al al' tx sv : Nat → Int32} (h : RM s al tx sv) {T : Cd} {A B : Lg} {L : Nat} (hf : fcR T A B L al') (hk : kpA al al') : RM (mkP T A B L (pgN s.1) (pgF s.1) (pgP s.1) (pgX s.1), s.2) al' tx sv := by
  obtain ⟨⟨h1, h2, h3, h4, h5, h6⟩, h7⟩ := h
  refine ⟨⟨hf, by rw [hk 2 (Or.inl rfl)]; exact h2, h3, by rw [hk 3 (Or.inr (Or.inl rfl))]; exact h4, by rw [hk 4 (Or.inr (Or.inr (Or.inl rfl)))]; exact h5, h6⟩, fun k hk3 => ?_⟩
  rcases h7 k hk3 with q | ⟨P, q1, q2, q3⟩
  · exact Or.inl q
  · exact Or.inr ⟨P, q1, q2, pgM_cong q3 (fun j _ => hk _ (by omega)) (fun _ _ => rfl)⟩
theorem pgM_mk {T : Cd} {A B : Lg} {L N : Nat} {F P : Int} {X al tx : Nat → Int32} (h1 : fcR T A B L al) (h2 : (al 2).toInt = (N : Int)) (h3 : N ≤ 500) (h4 : (al 3).toInt = F) (h5 : (al 4).toInt = P) (h6 : isTx X N tx) : pgM (mkP T A B L N F P X) al tx := ⟨h1, h2, h3, h4, h5, h6⟩
theorem RM_wr {s : St} {al al' tx sv : Nat → Int32} {x : Int64} (h : RM s al tx sv) (h2' : (al' 2).toInt = (nbW (pgN s.1) x : Int)) (hk : ∀ k, k ≠ 2 → al' k = al k) : RM (nWr s.1 x, s.2) al' (txW (pgN s.1) x tx) sv := by
  obtain ⟨⟨h1, h2, h3, h4, h5, h6⟩, h7⟩ := h
  have a3 : (al' 3).toInt = pgF s.1 := by rw [hk 3 (by omega)]; exact h4
  have a4 : (al' 4).toInt = pgP s.1 := by rw [hk 4 (by omega)]; exact h5
  have hp : pgM (nWr s.1 x) al' (txW (pgN s.1) x tx) := pgM_mk (fcR_k34 h1 (fun k a _ _ => hk k a)) h2' (nbW_le h3) a3 a4 (isTx_W h6)
  refine ⟨hp, fun k hk3 => ?_⟩
  rcases h7 k hk3 with q | ⟨P, q1, q2, q3⟩
  · exact Or.inl q
  · exact Or.inr ⟨P, q1, q2, pgM_cong q3 (fun j _ => hk _ (by omega)) (fun j _ => txW_hi (by omega))⟩
theorem RM_tu {s : St} {al al' tx sv : Nat → Int32} (h : RM s al tx sv) (e2 : al' 2 = 0) (e3 : (al' 3).toInt = (alR (pgX s.1) (pgN s.1)).1.1) (e4 : (al' 4).toInt = (alR (pgX s.1) (pgN s.1)).1.2) (hf : fcR (tnT (pgX s.1) (pgN s.1) (pgT s.1)) (tn0 (pgX s.1) (pgN s.1) (pgA s.1)) (tn1 (pgX s.1) (pgN s.1) (pgB s.1)) (tnL (pgX s.1) (pgN s.1) (pgL s.1)) al') (hk : ∀ k, 94 ≤ k → al' k = al k) : RM (nTu s.1, s.2) al' tx sv := by
  obtain ⟨⟨h1, h2, h3, h4, h5, h6⟩, h7⟩ := h
  have hp : pgM (nTu s.1) al' tx := pgM_mk hf (by rw [e2]; rfl) (Nat.zero_le _) e3 e4 (fun k hk => absurd hk (Nat.not_lt_zero k))
  refine ⟨hp, fun k hk3 => ?_⟩
  rcases h7 k hk3 with q | ⟨P, q1, q2, q3⟩
  · exact Or.inl q
  · exact Or.inr ⟨P, q1, q2, pgM_cong q3 (fun j _ => hk _ (by omega)) (fun _ _ => rfl)⟩
theorem nar_tx {b tx : Nat → Int32} {nb : Nat} (h : isTx b nb tx) {tx' : Nat → Int32} (ht : ∀ k, k < 500 → tx' k = vp_nar .byte (tx k)) (hn : nb ≤ 500) : isTx b nb tx' := fun k hk => by
  have q := h k hk
  rw [ht k (by omega), q.1, nar_id q.2.1 q.2.2]
  exact ⟨rfl, q.2⟩
theorem pgM_cp {P : Pg} {al tx al' tx' : Nat → Int32} (h : pgM P al tx) (hk : ∀ k, k < 94 → al' k = al k) (ht : ∀ k, k < 500 → tx' k = vp_nar .byte (tx k)) : pgM P al' tx' := by
  obtain ⟨h1, h2, h3, h4, h5, h6⟩ := h
  exact ⟨fcR_cong h1 hk, by rw [hk 2 (by omega)]; exact h2, h3, by rw [hk 3 (by omega)]; exact h4, by rw [hk 4 (by omega)]; exact h5, nar_tx h6 ht h3⟩
theorem RM_im {s : St} {al al' tx tx' sv : Nat → Int32} (h : RM s al tx sv) {k : Int} (hk : 0 ≤ k ∧ k ≤ 2) (hc : cpA 0 (k.toNat + 1) al al' tx tx') : RM (nIm s k) al' tx' (upd sv k.toNat 1) := by
  obtain ⟨hp, h7⟩ := h
  obtain ⟨c1, c2, c3, c4⟩ := hc
  unfold nIm
  rw [if_pos hk]
  refine ⟨pgM_cong hp (fun j _ => c2 j (Or.inl (by omega))) (fun j _ => c4 j (Or.inl (by omega))), fun j hj => ?_⟩
  show (upd sv k.toNat 1 j = 0 ∧ va_up s.2 k.toNat (some s.1) j = none) ∨ ∃ P, upd sv k.toNat 1 j = 1 ∧ va_up s.2 k.toNat (some s.1) j = some P ∧ _
  by_cases e : j = k.toNat
  · subst e
    refine Or.inr ⟨s.1, upd_eq, if_pos rfl, pgM_cp hp (fun i hi => ?_) (fun i hi => ?_)⟩
    · have := c1 i hi; rw [Nat.mul_zero, Nat.zero_add] at this; exact this
    · have := c3 i hi; rw [Nat.mul_zero, Nat.zero_add] at this; exact this
  · rw [upd_ne e]
    have e2 : va_up s.2 k.toNat (some s.1) j = s.2 j := if_neg e
    rw [e2]
    rcases h7 j hj with q | ⟨P, q1, q2, q3⟩
    · exact Or.inl q
    · refine Or.inr ⟨P, q1, q2, pgM_cong q3 (fun i hi => c2 _ ?_) (fun i hi => c4 _ ?_)⟩
      · omega
      · omega
theorem RM_ag {s : St} {al al' tx tx' sv : Nat → Int32} (h : RM s al tx sv) {k : Int} (hk : 0 ≤ k ∧ k ≤ 2) {P : Pg} (hP : s.2 k.toNat = some P) (hc : cpA (k.toNat + 1) 0 al al' tx tx') : RM (P, s.2) al' tx' sv := by
  obtain ⟨hp, h7⟩ := h
  obtain ⟨c1, c2, c3, c4⟩ := hc
  have hq : pgM P (fun j => al (94 * (k.toNat + 1) + j)) (fun j => tx (500 * (k.toNat + 1) + j)) := by
    rcases h7 k.toNat (by omega) with q | ⟨P', q1, q2, q3⟩
    · rw [q.2] at hP; cases hP
    · rw [q2] at hP; cases hP; exact q3
  refine ⟨pgM_cp hq (fun i hi => ?_) (fun i hi => ?_), fun j hj => ?_⟩
  · have := c1 i hi; rw [Nat.mul_zero, Nat.zero_add] at this; exact this
  · have := c3 i hi; rw [Nat.mul_zero, Nat.zero_add] at this; exact this
  · rcases h7 j hj with q | ⟨P', q1, q2, q3⟩
    · exact Or.inl q
    · refine Or.inr ⟨P', q1, q2, pgM_cong q3 (fun i hi => c2 _ (Or.inr (by omega))) (fun i hi => c4 _ (Or.inr (by omega)))⟩
