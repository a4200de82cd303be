-- worlds of blocks, turned; a call of the law's
theorem rtP {D : va_G} {cl : List vw_C} {a b c : va_W} {H : Heap} (h : va_P D cl (a ++ (b ++ c)) H) : va_P D cl (b ++ (c ++ a)) H := by
  have q : va_P D cl ([] ++ ((b ++ c) ++ a)) H := va_P_rot (X := []) (s := a) (t := b ++ c) h
  rw [List.nil_append, List.append_assoc] at q
  exact q
theorem rtD {A : Nat → Prop} {a b c : va_W} (h : va_D A (a ++ (b ++ c))) : va_D A (b ++ (c ++ a)) := by
  have q : va_D A ([] ++ ((b ++ c) ++ a)) := va_D_rot (X := []) (s := a) (t := b ++ c) h
  rw [List.nil_append, List.append_assoc] at q
  exact q
theorem glW {a b : va_W} {k : Nat} {q : Nat × va_E} (h : a[k]? = some q) : (a ++ b)[k]? = some q := by
  rw [List.getElem?_append_left (List.getElem?_eq_some_iff.mp h).1]; exact h
theorem grW {a b : va_W} {k : Nat} {q : Nat × va_E} (h : b[k]? = some q) : (a ++ b)[a.length + k]? = some q := by
  rw [List.getElem?_append_right (Nat.le_add_right _ _), Nat.add_sub_cancel_left]; exact h
theorem va_P_l {D : va_G} {cl : List vw_C} {a b : va_W} {H : Heap} (h : va_P D cl (a ++ b) H) : va_P D cl a H := fun k q hk => h k q (glW hk)
theorem va_P_r {D : va_G} {cl : List vw_C} {a b : va_W} {H : Heap} (h : va_P D cl (a ++ b) H) : va_P D cl b H := fun k q hk => h (a.length + k) q (grW hk)
theorem va_D_l {A : Nat → Prop} {a b : va_W} (h : va_D A (a ++ b)) : va_D A a := ⟨fun i j p q hi hj e => h.1 i j p q (glW hi) (glW hj) e, fun k q hk => h.2 k q (glW hk)⟩
theorem va_D_r {A : Nat → Prop} {a b : va_W} (h : va_D A (a ++ b)) : va_D A b := ⟨fun i j p q hi hj e => by have := h.1 (a.length + i) (a.length + j) p q (grW hi) (grW hj) e; omega, fun k q hk => h.2 (a.length + k) q (grW hk)⟩
theorem jn {A : Nat → Prop} {D : va_G} {cl : List vw_C} {wc wr w1 : va_W} {H H1 : Heap} (hP : va_P D cl (wc ++ wr) H) (hD : va_D A (wc ++ wr)) (hk : ∀ q : Nat, q < H.size → ¬ va_A wc H.size q → H1[q]? = H[q]?) (hF : ∀ q, va_A wc H.size q → A q) (hP1 : va_P D cl w1 H1) (hD1 : va_D (va_A wc H.size) w1) : va_P D cl (w1 ++ wr) H1 ∧ va_D A (w1 ++ wr) := by
  have apart : ∀ (k : Nat) (q : Nat × va_E), wr[k]? = some q → q.1 < H.size ∧ ¬ va_A wc H.size q.1 := fun k q hq => by
    have hlt : q.1 < H.size := (va_P_r hP k q hq).lt
    refine ⟨hlt, fun z => ?_⟩
    rcases z with ⟨i, e, hi⟩ | z
    · have h1 := hD.1 i (wc.length + k) _ _ (glW hi) (grW hq) rfl
      have h2 := (List.getElem?_eq_some_iff.mp hi).1
      omega
    · exact Nat.not_le.mpr hlt z
  have hPr : va_P D cl wr H1 := (va_P_r hP).kept (fun k q hq => hk _ (apart k q hq).1 (apart k q hq).2)
  refine ⟨hP1.app hPr, va_D.app (hD1.weaken (fun k q hq h => hF _ h)) (va_D_r hD) (fun i j p q hi hj e => ?_)⟩
  exact (apart j q hj).2 (by rw [← e]; exact hD1.2 i p hi)
theorem lw_free {A : Nat → Prop} {wc wr : va_W} {H0 H : Heap} {locs : List Loc} (hD : va_D A (wc ++ wr)) (hS : va_S A H0 H locs) (hA : ∀ q, H0.size ≤ q → A q) : ∀ q, va_A wc H.size q → A q := fun q h => by
  rcases h with ⟨k, e, hk⟩ | h
  · exact hD.2 k (q, e) (glW hk)
  · exact hA q (Nat.le_trans hS.1 h)
section LW
variable {p : Program} {l : Launch} {e : Env} {R : Room} {s : State} {m : MethodId} {args : Array Value} {below : List Frame} {meth : Method} {c : Code} {H : Heap} {locs : List Loc} {cells slots : Nat} {Q : State → Prop} {g : GP} {v : GV} {z : Nat × Nat} {A : Nat → Prop}
variable {y : MethodName} {ws : List Cond} {rm : Room} {q : Nat} {av : List Value} {mc ms n index maxL pc : Nat} {bytes : ByteArray} {ret : Option FieldType} {C : String} {At : va_W → Prop} {wc wr : va_W} {ls : Array Slot} {rest st0 : List Value}
theorem lw_ci {post : Int32 → va_W → Prop} (S : CallFix p m c cL_law 7 s args wsLw RL) (hG : GK g s) (hE : GE v A s s.heap) (hO : GO s) (hA : ∀ q, s.heap.size ≤ q → A q) (hM : UCi l g v y ws rm q av mc ms At post) (hAt : At wc) (hP : va_P g.1 vwCl (wc ++ wr) H) (hD : va_D A (wc ++ wr)) (hS : va_S A s.heap H locs)
    (cw : CallW R s args RL C index y bytes maxL ret ws rm mc ms n) (hrc : ∃ cell : Cell, H[q]? = some cell ∧ cell.vm.isStatics = false ∧ s.vm.findClass C = some cell.cls) (hn : av.length = n) (hsz : ls.size = 7) (hstk : st0 = av.reverse ++ .ref q :: rest) (hroom : (rest.map fun v => v.category).sum ≤ 8) (hdg : decode cL_law pc = .ok (.invokevirtual index, 3)) (hf : cells + mc ≤ R.cells ∧ slots + ms ≤ R.slots)
    (kk : ∀ (r : Int32) (u : va_W) (H1 : Heap) (locs1 : List Loc), post r u → va_P g.1 vwCl (u ++ wr) H1 → va_D A (u ++ wr) → va_S A s.heap H1 locs1 → W p l e R s m args below meth c H1 locs1 (cells + mc) (slots + ms) Q (F0 m (pc + 3) ls (.int r :: rest))) : W p l e R s m args below meth c H locs cells slots Q (F0 m pc ls st0) := by
  have hFc := lw_free hD hS hA
  refine va_calli (va_runV (As := av) (rest := rest) S (hM wc H.size hAt) cw ⟨blindX, hrc, fun U hU hW => ⟨rfl, by rw [hU], by rw [hU]; exact va_P_l hP, hG.warm hW, (va_D_l hD).weaken (fun _ _ _ _ => trivial), by rw [hU]; exact ((hE.kept hS.2.1).narrow hFc).warm hW, hO.warm hW⟩⟩ rfl hn hsz hstk (lv_room hroom) hdg hf) hS (fun q _ h => hFc q h) hFc (fun r u t H1 locs1 ht hvm hw hB hz1 hk1 hS1 => ?_)
  obtain ⟨hP1, hD1⟩ := hB
  rw [ht] at hP1
  obtain ⟨j1, j2⟩ := jn hP hD hk1 hFc hP1 hD1
  exact kk r u H1 locs1 hw j1 j2 hS1
theorem lw_cl {post : Int64 → va_W → Prop} (S : CallFix p m c cL_law 7 s args wsLw RL) (hG : GK g s) (hE : GE v A s s.heap) (hO : GO s) (hA : ∀ q, s.heap.size ≤ q → A q) (hM : UCl l g v y ws rm q av mc ms At post) (hAt : At wc) (hP : va_P g.1 vwCl (wc ++ wr) H) (hD : va_D A (wc ++ wr)) (hS : va_S A s.heap H locs)
    (cw : CallW R s args RL C index y bytes maxL ret ws rm mc ms n) (hrc : ∃ cell : Cell, H[q]? = some cell ∧ cell.vm.isStatics = false ∧ s.vm.findClass C = some cell.cls) (hn : av.length = n) (hsz : ls.size = 7) (hstk : st0 = av.reverse ++ .ref q :: rest) (hroom : (rest.map fun v => v.category).sum ≤ 8) (hdg : decode cL_law pc = .ok (.invokevirtual index, 3)) (hf : cells + mc ≤ R.cells ∧ slots + ms ≤ R.slots)
    (kk : ∀ (r : Int64) (u : va_W) (H1 : Heap) (locs1 : List Loc), post r u → va_P g.1 vwCl (u ++ wr) H1 → va_D A (u ++ wr) → va_S A s.heap H1 locs1 → W p l e R s m args below meth c H1 locs1 (cells + mc) (slots + ms) Q (F0 m (pc + 3) ls (.long r :: rest))) : W p l e R s m args below meth c H locs cells slots Q (F0 m pc ls st0) := by
  have hFc := lw_free hD hS hA
  refine va_calll (va_runV (As := av) (rest := rest) S (hM wc H.size hAt) cw ⟨blindX, hrc, fun U hU hW => ⟨rfl, by rw [hU], by rw [hU]; exact va_P_l hP, hG.warm hW, (va_D_l hD).weaken (fun _ _ _ _ => trivial), by rw [hU]; exact ((hE.kept hS.2.1).narrow hFc).warm hW, hO.warm hW⟩⟩ rfl hn hsz hstk (lv_room hroom) hdg hf) hS (fun q _ h => hFc q h) hFc (fun r u t H1 locs1 ht hvm hw hB hz1 hk1 hS1 => ?_)
  obtain ⟨hP1, hD1⟩ := hB
  rw [ht] at hP1
  obtain ⟨j1, j2⟩ := jn hP hD hk1 hFc hP1 hD1
  exact kk r u H1 locs1 hw j1 j2 hS1
theorem lw_cp {post : Int32 → va_W → Prop} {hh : List (Nat × Nat × Nat × Nat)} (S : CallFix p m c cL_law 7 s args wsLw RL) (hG : GK g s) (hX : GX z A s s.heap) (hA : ∀ q, s.heap.size ≤ q → A q) (hM : Met l y ws rm (va_Pc av (XPreX g v z wc H.size)) (va_Qi post (XPst g (va_A wc H.size)) (va_A wc H.size)) mc ms (va_A wc H.size)) (hP : va_P g.1 vwCl (wc ++ wr) H) (hD : va_D A (wc ++ wr)) (hS : va_S A s.heap H locs)
    (cw : vx_CSW R s args RL index y bytes maxL ret hh ws rm mc ms n) (hn : av.length = n) (hsz : ls.size = 7) (hstk : st0 = av.reverse ++ rest) (hroom : (rest.map fun v => v.category).sum ≤ 8) (hdg : decode cL_law pc = .ok (.invokestatic index, 3)) (hf : cells + mc ≤ R.cells ∧ slots + ms ≤ R.slots)
    (kk : ∀ (r : Int32) (u : va_W) (H1 : Heap) (locs1 : List Loc), post r u → va_P g.1 vwCl (u ++ wr) H1 → va_D A (u ++ wr) → va_S A s.heap H1 locs1 → W p l e R s m args below meth c H1 locs1 (cells + mc) (slots + ms) Q (F0 m (pc + 3) ls (.int r :: rest))) : W p l e R s m args below meth c H locs cells slots Q (F0 m pc ls st0) := by
  have hFc := lw_free hD hS hA
  refine va_calli (vx_runSW (As := av) (rest := rest) S hM cw ⟨blindXX, fun U hU hW => ⟨rfl, by rw [hU], by rw [hU]; exact va_P_l hP, hG.warm hW, (va_D_l hD).weaken (fun _ _ _ _ => trivial), by rw [hU]; exact ((hX.kept hS.2.1).narrow hFc).warm hW⟩⟩ rfl hn hsz hstk (lv_room hroom) hdg hf) hS (fun q _ h => hFc q h) hFc (fun r u t H1 locs1 ht hvm hw hB hz1 hk1 hS1 => ?_)
  obtain ⟨hP1, hD1⟩ := hB
  rw [ht] at hP1
  obtain ⟨j1, j2⟩ := jn hP hD hk1 hFc hP1 hD1
  exact kk r u H1 locs1 hw j1 j2 hS1
end LW
theorem cmp_same (x : Int64) : lg_cmp x x = 0 := by
  unfold lg_cmp
  rw [if_neg (by rw [gt_iff_lt, Int64.lt_iff_toInt_lt]; omega), if_pos rfl]
theorem q_injL {x y : Int64} (h : x.toInt = y.toInt) : x = y := Int64.toInt_inj.mp h
-- the claim out of one walk of the law's body: see the skeleton
def lwA (s : State) : Nat → Prop := fun q => s.heap.size ≤ q
def LwC (p : Program) (l : Launch) (s : State) (m : MethodId) (meth : Method) (c : Code) (g : GP) (v : GV) (z : Nat × Nat) (b L : Nat) (xs : Nat → Int32) : Prop := p.tables.exec = Jvm.exec ∧ c.code = cL_law ∧ meth.sig.returnType = ret ∧ c.maxLocals = 7 ∧ s.vm.findClass RL = some m.cls ∧ (∀ w ∈ wsLw, w.before #[Value.ref b] s = true) ∧ va_X b L xs s s.heap ∧ b < s.heap.size ∧ meth.locks = false ∧ GK g s ∧ GE v (lwA s) s s.heap ∧ GO s ∧ GX z (lwA s) s s.heap ∧ l.stackTraces = false
def LwN (p : Program) (l : Launch) (e : Env) (s : State) (m : MethodId) (below : List Frame) (meth : Method) (c : Code) (g : GP) (b qX qM qo : Nat) (i : Int32) (cells slots pc : Nat) : Prop := ∀ (st : St) (wx wm : va_W) (fo : Nat → Int64) (H : Heap) (locs : List Loc) (ls : Array Slot), okS st → XAt g qX st wx → MAt g qM st wm → va_P g.1 vwCl (wx ++ (wm ++ [ouC g qo fo])) H → va_D (lwA s) (wx ++ (wm ++ [ouC g qo fo])) → va_S (lwA s) s.heap H locs → lv_has ls 7 [(0, .ref b), (1, .ref qX), (2, .ref qM), (3, .ref qo), (4, .int i)] → W p l e room_1 s m #[Value.ref b] below meth c H locs cells slots (lw_Z below #[Value.ref b] s) (F0 m pc ls [])
theorem lw_in {i k : Int32} {L j : Nat} (hi : 0 ≤ i.toInt ∧ i.toInt + 5 ≤ (L : Int) ∧ L ≤ 2560) (hk : k.toInt = (j : Int)) (hj : j ≤ 4) : vp_in (i + k) L := by
  have e : (i + k).toInt = ((i.toInt.toNat + j : Nat) : Int) := by rw [q_add rfl hk (by omega) (by omega)]; omega
  exact q_in e (by omega)
