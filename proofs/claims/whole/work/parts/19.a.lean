-- what nobody writes: two rows of numbers, the words
abbrev GV : Type := Nat × Nat × (Nat → Nat) × (Nat → Nat)
abbrev kyS (v : GV) (i : Nat) : Nat := v.2.2.1 i
abbrev kyV (v : GV) (i : Nat) : Nat := v.2.2.2 i
def lenW : List Nat := [4, 5, 3, 4, 5, 5, 6, 4, 4, 5, 4, 4, 4, 4, 4]
def bytW : List (List Int32) := [[112, 97, 114, 116], [108, 105, 109, 105, 116], [111, 117, 116], [98, 97, 99, 107], [100, 101, 108, 97, 121], [100, 114, 105, 102, 116], [115, 104, 114, 105, 110, 107], [102, 114, 111, 109], [109, 97, 110, 121], [110, 111, 105, 115, 101], [115, 101, 101, 100], [102, 108, 105, 112], [115, 108, 105, 112], [115, 107, 105, 112], [108, 111, 115, 101]]
def idxW : List Nat := [48, 57, 71, 81, 136, 138, 140, 142, 144, 146, 148, 150, 152, 154, 156]
def txtW : List String := ["part", "limit", "out", "back", "delay", "drift", "shrink", "from", "many", "noise", "seed", "flip", "slip", "skip", "lose"]
def lsF : List Int32 := [0, -64, 0, 1, 0, 0]
def msF : List Int32 := [9999, 64, 9999, 200, 100, 9999]
def GE (v : GV) (A : Nat → Prop) (U : State) (H : Heap) : Prop :=
  va_Z "RangeCodes" "LEAST_SETTING" "[I" (.ref v.1) A U H ∧ va_T .int v.1 6 (fun j => .int (lsF.getD j 0)) A U H ∧ va_Z "RangeCodes" "MOST_SETTING" "[I" (.ref v.2.1) A U H ∧ va_T .int v.2.1 6 (fun j => .int (msF.getD j 0)) A U H ∧ va_Z "java/lang/String" "COMPACT_STRINGS" "Z" (.int 1) A U H ∧ va_Zq "jdk/internal/util/Preconditions" "SIOOBE_FORMATTER" "Ljava/util/function/BiFunction;" A U H ∧ vk_S 15 lenW bytW v.2.2.1 v.2.2.2 A U H ∧ (∀ i, i < 15 → vk_R RX4 (idxW.getD i 0) (txtW.getD i "") (v.2.2.1 i) U) ∧ va_Nw (.fieldLinkNest RX4 120 "RangeCodes" "MOST_SETTING" "[I" "RangeCodes") U
theorem GE.warm {v : GV} {A : Nat → Prop} {s U : State} {H : Heap} (h : GE v A s H) (hW : s.WarmedH U.vm) : GE v A U H := by
  obtain ⟨h1, h2, h3, h4, h5, h6, h7, h8, h9⟩ := h
  exact ⟨va_Z.moved hW.alike h1, va_T.moved hW.alike h2, va_Z.moved hW.alike h3, va_T.moved hW.alike h4, va_Z.moved hW.alike h5, va_Zq.moved hW.alike h6, vk_S.moved hW.alike h7, fun i hi => vk_R.warm hW (h8 i hi), va_Nw.warmF hW h9⟩
theorem GE.kept {v : GV} {A : Nat → Prop} {U : State} {H H1 : Heap} (h : GE v A U H) (hq : ∀ a : Nat, a < H.size → ¬ A a → H1[a]? = H[a]?) : GE v A U H1 := by
  obtain ⟨h1, h2, h3, h4, h5, h6, h7, h8, h9⟩ := h
  exact ⟨h1.kept hq, h2.kept hq, h3.kept hq, h4.kept hq, h5.kept hq, h6.kept hq, h7.kept hq, h8, h9⟩
theorem GE.narrow {v : GV} {A B : Nat → Prop} {U : State} {H : Heap} (h : GE v A U H) (hAB : ∀ q, B q → A q) : GE v B U H := by
  obtain ⟨h1, h2, h3, h4, h5, h6, h7, h8, h9⟩ := h
  exact ⟨h1.narrow hAB, h2.narrow hAB, h3.narrow hAB, h4.narrow hAB, h5.narrow hAB, h6.narrow hAB, h7.narrow hAB, h8, h9⟩
theorem GE.calling {v : GV} {A : Nat → Prop} {U : State} {H : Heap} {f : JFrame} {mk : MethodId} {a : Array Value} (h : GE v A U H) : GE v A (U.calling f mk a) H := by
  obtain ⟨h1, h2, h3, h4, h5, h6, h7, h8, h9⟩ := h
  have q : U.vm.Alike (U.calling f mk a).vm := Vm.Alike.refl U.vm
  exact ⟨va_Z.moved q h1, va_T.moved q h2, va_Z.moved q h3, va_T.moved q h4, va_Z.moved q h5, va_Zq.moved q h6, vk_S.moved q h7, fun i hi => vk_R.same (u := U) rfl (h8 i hi), va_Nw.same rfl (u := U) rfl h9⟩
-- what is asked where rows of legs, of images, of rows are made
def GO (U : State) : Prop := va_AO "RangeCodes$Leg" U ∧ va_AO "RangeCodes$Page" U ∧ va_AOA .int U
theorem va_AOA.moved {t : FieldType} {u U : State} (hvm : u.vm.Alike U.vm) (h : va_AOA t u) : va_AOA t U := by
  unfold va_AOA Cond.before Cond.holds at h
  simp only [Cond.value] at h
  cases hc : u.vm.findClass (FieldType.array t).toString with
  | none => rw [hc] at h; simp at h
  | some comp =>
    rw [hc, Option.bind_some] at h
    simp only [beq_iff_eq, Option.bind_eq_some_iff, Option.map_eq_some_iff] at h
    obtain ⟨c, hi0, k, hk, hb⟩ := h
    obtain ⟨k', hk', he⟩ := hvm.2.2 _ _ hk
    have hi : (U.vm.classes.findIdx? fun (x : Class) => match x.kind with | .array component _ => component == comp | _ => false) = some c := by
      have e1 := va_idx_bare U.vm comp
      have e2 := va_idx_bare u.vm comp
      have e3 : U.vm.bare = u.vm.bare := by first | exact hvm.bare_eq | exact hvm.bare_eq.symm
      rw [e3] at e1
      exact (e1.symm.trans e2).trans hi0
    have hkind : k'.kind = k.kind := by rw [he]
    have f1 : U.vm.findClass (FieldType.array t).toString = some comp := by rw [hvm.findClass]; exact hc
    have f2 : U.vm.findClass ("[" ++ (FieldType.array t).toString) = u.vm.findClass ("[" ++ (FieldType.array t).toString) := by rw [hvm.findClass]
    unfold va_AOA Cond.before Cond.holds
    simp only [Cond.value]
    rw [f1, Option.bind_some]
    refine (congrArg (fun o : Option Nat => (o.bind (fun c => (U.vm.classes[c]?).map fun (k : Class) => match k.kind with | .array _ ty => decide (ty = FieldType.array t) && decide (U.vm.findClass ("[" ++ (FieldType.array t).toString) = some c) | _ => false) == some true)) hi).trans ?_
    rw [Option.bind_some, hk', Option.map_some, hkind, f2]
    rw [beq_iff_eq]
    exact congrArg some hb
theorem GO.moved {u U : State} (hvm : u.vm.Alike U.vm) (h : GO u) : GO U := ⟨va_AO.moved hvm h.1, va_AO.moved hvm h.2.1, va_AOA.moved hvm h.2.2⟩
theorem GO.warm {s U : State} (h : GO s) (hW : s.WarmedH U.vm) : GO U := GO.moved hW.alike h
theorem GO.calling {U : State} {f : JFrame} {mk : MethodId} {a : Array Value} (h : GO U) : GO (U.calling f mk a) := GO.moved (u := U) (U := U.calling f mk a) (Vm.Alike.refl U.vm) h
theorem blindROE {g : GP} {v : GV} {A : Nat → Prop} {av : List Value} {ws : va_W} : FrameBlind (va_Pc av (fun U => va_P g.1 vwCl ws U.heap ∧ GK g U ∧ GE v A U U.heap)) := fun _ _ _ _ q => ⟨q.1, q.2.1, q.2.2.1.calling, q.2.2.2.calling⟩
theorem blindRWE {g : GP} {v : GV} {A : Nat → Prop} {av : List Value} {ws : va_W} {sz : Nat} : FrameBlind (va_Pc av (fun U => U.heap.size = sz ∧ va_P g.1 vwCl ws U.heap ∧ GK g U ∧ va_D (fun _ => True) ws ∧ GE v A U U.heap)) := fun _ _ _ _ q => ⟨q.1, q.2.1, q.2.2.1, q.2.2.2.1.calling, q.2.2.2.2.1, q.2.2.2.2.2.calling⟩
theorem blindRWO {g : GP} {av : List Value} {ws : va_W} {sz : Nat} : FrameBlind (va_Pc av (fun U => U.heap.size = sz ∧ va_P g.1 vwCl ws U.heap ∧ GK g U ∧ va_D (fun _ => True) ws ∧ GO U)) := fun _ _ _ _ q => ⟨q.1, q.2.1, q.2.2.1, q.2.2.2.1.calling, q.2.2.2.2.1, q.2.2.2.2.2.calling⟩
section ROWQ
variable {p : Program} {l : Launch} {e : Env} {R : Room} {s : State} {m : MethodId} {args : Array Value} {below : List Frame} {meth : Method} {c : Code} {H : Heap} {locs : List Loc} {cells slots : Nat} {Q : State → Prop}
variable {cc : ByteArray} {pc : Nat} {ls : Array Slot} {rest : List Value} {g : GP} {A : Nat → Prop} {a : Nat} {ws : va_W} {H0 : Heap}
theorem tyL_eq {cA : ClassId} {ty : FieldType} {k : Nat} (hK : va_K g.1 vwCl (tyL g ++ [(cA, ty)]) s) (hk : (tyL g)[k]? = some (g.2 k, ty)) (hk7 : k < 7) : cA = g.2 k := by
  have h1 := (hK.2 7 (cA, ty) rfl).2
  have h0 := (hK.2 k (g.2 k, ty) (by rw [List.getElem?_append_left (by exact hk7)]; exact hk)).2
  cases ty with
  | object C =>
    obtain ⟨_, _, _, _, _, z1⟩ := h1
    obtain ⟨_, _, _, _, _, z0⟩ := h0
    exact Option.some.inj (z1.symm.trans z0)
  | _ => exact Option.some.inj (Eq.trans (Eq.symm h1) h0)
theorem vq_newI (hexec : p.tables.exec = Jvm.exec) (hb : c.code = cc) (harr : (Cond.arrayClass .int).before args s = true) (hK : va_K g.1 vwCl (tyL g) s) (hP : va_P g.1 vwCl ws H) (hD : va_D A ws) (hS : va_S A H0 H locs) (hA : ∀ q, H0.size ≤ q → A q)
    {n : Int32} {N' : Nat} (hn : ¬ n < 0) (hN : n.toNatClampNeg = N') (hbytes : N' * componentBytes .int ≤ 536870912) (hcells : cells + 1 ≤ R.cells) (hslots : slots + N' ≤ R.slots) (hdg : decode cc pc = .ok (.newarray .int, 2))
    (kk : ∀ (q : Nat) (H1 : Heap), va_P g.1 vwCl (ws ++ [(q, .inl (g.2 0, N', .inl (fun _ => 0)))]) H1 → va_D A (ws ++ [(q, .inl (g.2 0, N', .inl (fun _ => 0)))]) → va_S A H0 H1 locs → W p l e R s m args below meth c H1 locs (cells + 1) (slots + N') Q (F0 m (pc + 2) ls (.ref q :: rest))) : W p l e R s m args below meth c H locs cells slots Q (F0 m pc ls (.int n :: rest)) := by
  refine va_newa (atype := .int) (ty := .int) (a0 := (N', .inl (fun _ => 0))) hexec hb harr rfl hK hP hD hS hA (fun cA => rfl) hn hN hbytes hcells hslots hdg (fun q cA H1 hK1 hP1 hD1 hS1 => ?_)
  have e := tyL_eq (k := 0) hK1 rfl (by decide)
  subst e
  exact kk q H1 hP1 hD1 hS1
theorem vq_newB (hexec : p.tables.exec = Jvm.exec) (hb : c.code = cc) (harr : (Cond.arrayClass .byte).before args s = true) (hK : va_K g.1 vwCl (tyL g) s) (hP : va_P g.1 vwCl ws H) (hD : va_D A ws) (hS : va_S A H0 H locs) (hA : ∀ q, H0.size ≤ q → A q)
    {n : Int32} {N' : Nat} (hn : ¬ n < 0) (hN : n.toNatClampNeg = N') (hbytes : N' * componentBytes .byte ≤ 536870912) (hcells : cells + 1 ≤ R.cells) (hslots : slots + N' ≤ R.slots) (hdg : decode cc pc = .ok (.newarray .byte, 2))
    (kk : ∀ (q : Nat) (H1 : Heap), va_P g.1 vwCl (ws ++ [(q, .inl (g.2 1, N', .inl (fun _ => 0)))]) H1 → va_D A (ws ++ [(q, .inl (g.2 1, N', .inl (fun _ => 0)))]) → va_S A H0 H1 locs → W p l e R s m args below meth c H1 locs (cells + 1) (slots + N') Q (F0 m (pc + 2) ls (.ref q :: rest))) : W p l e R s m args below meth c H locs cells slots Q (F0 m pc ls (.int n :: rest)) := by
  refine va_newa (atype := .byte) (ty := .byte) (a0 := (N', .inl (fun _ => 0))) hexec hb harr rfl hK hP hD hS hA (fun cA => rfl) hn hN hbytes hcells hslots hdg (fun q cA H1 hK1 hP1 hD1 hS1 => ?_)
  have e := tyL_eq (k := 1) hK1 rfl (by decide)
  subst e
  exact kk q H1 hP1 hD1 hS1
theorem vq_newZ (hexec : p.tables.exec = Jvm.exec) (hb : c.code = cc) (harr : (Cond.arrayClass .boolean).before args s = true) (hK : va_K g.1 vwCl (tyL g) s) (hP : va_P g.1 vwCl ws H) (hD : va_D A ws) (hS : va_S A H0 H locs) (hA : ∀ q, H0.size ≤ q → A q)
    {n : Int32} {N' : Nat} (hn : ¬ n < 0) (hN : n.toNatClampNeg = N') (hbytes : N' * componentBytes .boolean ≤ 536870912) (hcells : cells + 1 ≤ R.cells) (hslots : slots + N' ≤ R.slots) (hdg : decode cc pc = .ok (.newarray .boolean, 2))
    (kk : ∀ (q : Nat) (H1 : Heap), va_P g.1 vwCl (ws ++ [(q, .inl (g.2 2, N', .inl (fun _ => 0)))]) H1 → va_D A (ws ++ [(q, .inl (g.2 2, N', .inl (fun _ => 0)))]) → va_S A H0 H1 locs → W p l e R s m args below meth c H1 locs (cells + 1) (slots + N') Q (F0 m (pc + 2) ls (.ref q :: rest))) : W p l e R s m args below meth c H locs cells slots Q (F0 m pc ls (.int n :: rest)) := by
  refine va_newa (atype := .boolean) (ty := .boolean) (a0 := (N', .inl (fun _ => 0))) hexec hb harr rfl hK hP hD hS hA (fun cA => rfl) hn hN hbytes hcells hslots hdg (fun q cA H1 hK1 hP1 hD1 hS1 => ?_)
  have e := tyL_eq (k := 2) hK1 rfl (by decide)
  subst e
  exact kk q H1 hP1 hD1 hS1
theorem vq_newJ (hexec : p.tables.exec = Jvm.exec) (hb : c.code = cc) (harr : (Cond.arrayClass .long).before args s = true) (hK : va_K g.1 vwCl (tyL g) s) (hP : va_P g.1 vwCl ws H) (hD : va_D A ws) (hS : va_S A H0 H locs) (hA : ∀ q, H0.size ≤ q → A q)
    {n : Int32} {N' : Nat} (hn : ¬ n < 0) (hN : n.toNatClampNeg = N') (hbytes : N' * componentBytes .long ≤ 536870912) (hcells : cells + 1 ≤ R.cells) (hslots : slots + N' ≤ R.slots) (hdg : decode cc pc = .ok (.newarray .long, 2))
    (kk : ∀ (q : Nat) (H1 : Heap), va_P g.1 vwCl (ws ++ [(q, .inl (g.2 3, N', .inr (.inl (fun _ => 0))))]) H1 → va_D A (ws ++ [(q, .inl (g.2 3, N', .inr (.inl (fun _ => 0))))]) → va_S A H0 H1 locs → W p l e R s m args below meth c H1 locs (cells + 1) (slots + N') Q (F0 m (pc + 2) ls (.ref q :: rest))) : W p l e R s m args below meth c H locs cells slots Q (F0 m pc ls (.int n :: rest)) := by
  refine va_newa (atype := .long) (ty := .long) (a0 := (N', .inr (.inl (fun _ => 0)))) hexec hb harr rfl hK hP hD hS hA (fun cA => rfl) hn hN hbytes hcells hslots hdg (fun q cA H1 hK1 hP1 hD1 hS1 => ?_)
  have e := tyL_eq (k := 3) hK1 rfl (by decide)
  subst e
  exact kk q H1 hP1 hD1 hS1
theorem vq_newG (hexec : p.tables.exec = Jvm.exec) (hb : c.code = cc) {own : String} {index : Nat} (hown : s.vm.findClass own = some m.cls) (hclink : (Cond.classLink own index "RangeCodes$Leg").before args s = true) (hover : va_AO "RangeCodes$Leg" s) (hK : va_K g.1 vwCl (tyL g) s) (hP : va_P g.1 vwCl ws H) (hD : va_D A ws) (hS : va_S A H0 H locs) (hA : ∀ q, H0.size ≤ q → A q)
    {n : Int32} {N' : Nat} (hn : ¬ n < 0) (hN : n.toNatClampNeg = N') (hbytes : N' * 4 ≤ 536870912) (hcells : cells + 1 ≤ R.cells) (hslots : slots + N' ≤ R.slots) (hdg : decode cc pc = .ok (.anewarray index, 3))
    (kk : ∀ (q : Nat) (H1 : Heap), va_P g.1 vwCl (ws ++ [(q, .inl (g.2 4, N', .inr (.inr (.inr (.inr (fun _ => none))))))]) H1 → va_D A (ws ++ [(q, .inl (g.2 4, N', .inr (.inr (.inr (.inr (fun _ => none))))))]) → va_S A H0 H1 locs → W p l e R s m args below meth c H1 locs (cells + 1) (slots + N') Q (F0 m (pc + 3) ls (.ref q :: rest))) : W p l e R s m args below meth c H locs cells slots Q (F0 m pc ls (.int n :: rest)) := by
  refine va_newq hexec hb hown hclink hover hK hP hD hS hA hn hN hbytes hcells hslots hdg (fun q cA H1 hK1 hP1 hD1 hS1 => ?_)
  have e := tyL_eq (k := 4) hK1 rfl (by decide)
  subst e
  exact kk q H1 hP1 hD1 hS1
theorem vq_newP (hexec : p.tables.exec = Jvm.exec) (hb : c.code = cc) {own : String} {index : Nat} (hown : s.vm.findClass own = some m.cls) (hclink : (Cond.classLink own index "RangeCodes$Page").before args s = true) (hover : va_AO "RangeCodes$Page" s) (hK : va_K g.1 vwCl (tyL g) s) (hP : va_P g.1 vwCl ws H) (hD : va_D A ws) (hS : va_S A H0 H locs) (hA : ∀ q, H0.size ≤ q → A q)
    {n : Int32} {N' : Nat} (hn : ¬ n < 0) (hN : n.toNatClampNeg = N') (hbytes : N' * 4 ≤ 536870912) (hcells : cells + 1 ≤ R.cells) (hslots : slots + N' ≤ R.slots) (hdg : decode cc pc = .ok (.anewarray index, 3))
    (kk : ∀ (q : Nat) (H1 : Heap), va_P g.1 vwCl (ws ++ [(q, .inl (g.2 5, N', .inr (.inr (.inr (.inr (fun _ => none))))))]) H1 → va_D A (ws ++ [(q, .inl (g.2 5, N', .inr (.inr (.inr (.inr (fun _ => none))))))]) → va_S A H0 H1 locs → W p l e R s m args below meth c H1 locs (cells + 1) (slots + N') Q (F0 m (pc + 3) ls (.ref q :: rest))) : W p l e R s m args below meth c H locs cells slots Q (F0 m pc ls (.int n :: rest)) := by
  refine va_newq hexec hb hown hclink hover hK hP hD hS hA hn hN hbytes hcells hslots hdg (fun q cA H1 hK1 hP1 hD1 hS1 => ?_)
  have e := tyL_eq (k := 5) hK1 rfl (by decide)
  subst e
  exact kk q H1 hP1 hD1 hS1
theorem vq_mna (hexec : p.tables.exec = Jvm.exec) (hb : c.code = cc) {own : String} {index : Nat} (hown : s.vm.findClass own = some m.cls) (hclink : (Cond.classLink own index "[[I").before args s = true) (hover : va_AOA .int s) (harr : (Cond.arrayClass .int).before args s = true) (hK : va_K g.1 vwCl (tyL g) s) (hP : va_P g.1 vwCl ws H) (hD : va_D A ws) (hS : va_S A H0 H locs) (hA : ∀ q, H0.size ≤ q → A q)
    (hcells : cells + 6 ≤ R.cells) (hslots : slots + 70 ≤ R.slots) (hdg : decode cc pc = .ok (.multianewarray index 2, 4))
    (kk : ∀ (q : Nat) (r : Nat → Nat) (H1 : Heap), va_P g.1 vwCl (ws ++ [(q, .inl (g.2 6, 5, .inr (.inr (.inr (.inr (rwM r)))))), (r 0, .inl (g.2 0, 13, .inl (fun _ => 0))), (r 1, .inl (g.2 0, 13, .inl (fun _ => 0))), (r 2, .inl (g.2 0, 13, .inl (fun _ => 0))), (r 3, .inl (g.2 0, 13, .inl (fun _ => 0))), (r 4, .inl (g.2 0, 13, .inl (fun _ => 0)))]) H1 → va_D A (ws ++ [(q, .inl (g.2 6, 5, .inr (.inr (.inr (.inr (rwM r)))))), (r 0, .inl (g.2 0, 13, .inl (fun _ => 0))), (r 1, .inl (g.2 0, 13, .inl (fun _ => 0))), (r 2, .inl (g.2 0, 13, .inl (fun _ => 0))), (r 3, .inl (g.2 0, 13, .inl (fun _ => 0))), (r 4, .inl (g.2 0, 13, .inl (fun _ => 0)))]) → va_S A H0 H1 locs → W p l e R s m args below meth c H1 locs (cells + 6) (slots + 70) Q (F0 m (pc + 4) ls (.ref q :: rest))) : W p l e R s m args below meth c H locs cells slots Q (F0 m pc ls (.int 13 :: .int 5 :: rest)) := by
  have hcy : s.vm.findClass (FieldType.array .int).toString = some (g.2 0) := (hK.2 0 _ rfl).2
  have e0 : ws ++ va_pl [] (fun _ => .inl (g.2 0, 13, .inl (fun _ => 0))) = ws := List.append_nil ws
  refine va_mna (X := ws) (L := []) (f := fun _ => .inl (g.2 0, 13, .inl (fun _ => 0))) (ty := .int) (cy := g.2 0) (N' := 5) (K' := 13) (z := (13, .inl (fun _ => 0))) hexec hb hown hclink hover harr hcy hK (by rw [e0]; exact hP) (by rw [e0]; exact hD) hS hA (by decide) (by decide) rfl rfl (by decide) (by decide) (by decide) rfl rfl (by omega) (by omega) (fun c => ?_) hdg (fun q r cA H1 _ _ hK1 hP1 hD1 hS1 => ?_)
  · first | rfl | (unfold Jvm.Free.Multi.innerC; first | rfl | exact arrV_new _ _ _ | exact (arrV_new _ _ _).symm)
  · have e := tyL_eq (k := 6) hK1 rfl (by decide)
    subst e
    have e1 : (ws ++ [(q, .inl (g.2 6, 5, .inr (.inr (.inr (.inr (fun i => if i < 5 then some (r i) else none))))))]) ++ va_pl ([] ++ (List.range 5).map r) (vr_up (fun _ => .inl (g.2 0, 13, .inl (fun _ => 0))) ((List.range 5).map r) (.inl (g.2 0, 13, .inl (fun _ => 0)))) = ws ++ [(q, .inl (g.2 6, 5, .inr (.inr (.inr (.inr (rwM r)))))), (r 0, .inl (g.2 0, 13, .inl (fun _ => 0))), (r 1, .inl (g.2 0, 13, .inl (fun _ => 0))), (r 2, .inl (g.2 0, 13, .inl (fun _ => 0))), (r 3, .inl (g.2 0, 13, .inl (fun _ => 0))), (r 4, .inl (g.2 0, 13, .inl (fun _ => 0)))] := by
      have e2 : vr_up (fun _ => (.inl (g.2 0, 13, .inl (fun _ => 0)) : va_E)) ((List.range 5).map r) (.inl (g.2 0, 13, .inl (fun _ => 0))) = fun _ => .inl (g.2 0, 13, .inl (fun _ => 0)) := by
        funext a; unfold vr_up; exact ite_self _
      rw [e2, List.append_assoc]
      rfl
    rw [e1] at hP1 hD1
    refine W.widen (k := cells + 6) (n := slots + 70) (by omega) (by omega) ?_
    exact kk q r H1 hP1 hD1 hS1
end ROWQ
theorem dJ0_coder_7d493_0 : decode cJ0_coder_7d493 0 = .ok (.getstatic 38, 3) := by decide +kernel
theorem dJ0_coder_7d493_3 : decode cJ0_coder_7d493 3 = .ok (.ifCond .eq 10, 3) := by decide +kernel
theorem dJ0_coder_7d493_6 : decode cJ0_coder_7d493 6 = .ok (.aload_n 0, 1) := by decide +kernel
theorem dJ0_coder_7d493_7 : decode cJ0_coder_7d493 7 = .ok (.getfield 15, 3) := by decide +kernel
theorem dJ0_coder_7d493_10 : decode cJ0_coder_7d493 10 = .ok (.goto 4, 3) := by decide +kernel
theorem dJ0_coder_7d493_13 : decode cJ0_coder_7d493 13 = .ok (.iconst 1, 1) := by decide +kernel
theorem dJ0_coder_7d493_14 : decode cJ0_coder_7d493 14 = .ok (.ireturn, 1) := by decide +kernel
abbrev rmJ0_coder_7d493 : Room := { frames := 0, cells := 0, slots := 0, locals := 0 }
def vJ0_coder_7d493 (si : Nat) (Q : Int32 → Prop) : Prop := (si < 15 ∧ (Q (0 : Int32)))
set_option maxHeartbeats 4000000 in
set_option maxRecDepth 100000 in
theorem wJ0_coder_7d493 (l : Launch) (g : GP) (v : GV)  (si : Nat) {Q : Int32 → Prop} (hv : vJ0_coder_7d493 si Q) : Met l yJ0_coder_7d493 wsJ0_coder_7d493 rmJ0_coder_7d493 (va_Pc [.ref (kyS v si)] (fun U => va_P g.1 vwCl [] U.heap ∧ GK g U ∧ GE v (fun _ => False) U U.heap)) (vp_Si Q) 0 0 (fun _ => False) := by
  refine met_ofWF (cc := cJ0_coder_7d493) (maxL := 1) (ret := (some .byte)) (by decide +kernel) rfl ?_
  intro p e s m args below meth c s₁ B hml hv'
  obtain ⟨rfl, hP, hG, hE⟩ := hv'
  have S : CallFix p m c cJ0_coder_7d493 1 s _ wsJ0_coder_7d493 RJ0 := ⟨B.exec, B.bytes, hml, findClass_of_methodNamed B.named, atoms_spec (ws := wsJ0_coder_7d493) B.pre⟩
  obtain ⟨hx, hb, hml, hown, hts⟩ := id S
  have hK := hG.1
  have hr := B.returns
  have hlocks := B.notSynchronized
  have hl := lv_entry ([.ref (kyS v si)]) (n := 1) (Nat.le_of_ble_eq_true rfl)
  rw [lg_entry_eq]
  generalize (lg_sl ([.ref (kyS v si)]) ++ List.replicate (1 - (lg_sl ([.ref (kyS v si)])).length) Slot.unset).toArray = ls at hl ⊢
  have hl : lv_has ls 1 [(0, .ref (kyS v si))] := hl
  unfold vJ0_coder_7d493 at hv
  refine va_gets hx hb hE.2.2.2.2.1 (va_S.rf (A := fun _ => False)) hown (hts (.fieldLink RJ0 38 "java/lang/String" "COMPACT_STRINGS" "Z") (List.mem_of_getElem? (i := 1) rfl)) (fun _ h => h) dJ0_coder_7d493_0 ?_
  refine lv_if_eq (tgt := 13) hx hb dJ0_coder_7d493_3 (by decide) (fun hc => absurd hc (by decide)) (fun _ => ?_)
  refine lv_aload_n hx hb dJ0_coder_7d493_6 rfl (lv_at hl 0 rfl) ?_
  obtain ⟨ho_1, hv⟩ := hv
  refine vk_getf hx hb (hE.2.2.2.2.2.2.1.1 si ho_1).2.1 (va_S.rf (A := fun _ => False)) hown (hts (.fieldLink RJ0 15 "java/lang/String" "coder" "B") (List.mem_of_getElem? (i := 2) rfl)) (fun _ h => h) dJ0_coder_7d493_7 ?_
  refine lv_goto (tgt := 14) hx hb dJ0_coder_7d493_10 (by decide) ?_
  exact W.zret (v := (0 : Int32)) (ty := .byte) hx hb hr rfl (fun t ht hW => ⟨_, rfl, hv, ht⟩) (fun _ h => by cases h) dJ0_coder_7d493_14
abbrev preJ0_coder_7d493 (si : Nat) : Prop := si < 15
abbrev postJ0_coder_7d493 (si : Nat) (r : Int32) : Prop := r = 0
theorem sJ0_coder_7d493 (si : Nat) (H : preJ0_coder_7d493 si) : vJ0_coder_7d493 si (postJ0_coder_7d493 si) := ⟨H, rfl⟩
theorem dJ0_isLatin1_aae02_0 : decode cJ0_isLatin1_aae02 0 = .ok (.getstatic 38, 3) := by decide +kernel
theorem dJ0_isLatin1_aae02_3 : decode cJ0_isLatin1_aae02 3 = .ok (.ifCond .eq 14, 3) := by decide +kernel
theorem dJ0_isLatin1_aae02_6 : decode cJ0_isLatin1_aae02 6 = .ok (.aload_n 0, 1) := by decide +kernel
theorem dJ0_isLatin1_aae02_7 : decode cJ0_isLatin1_aae02 7 = .ok (.getfield 15, 3) := by decide +kernel
theorem dJ0_isLatin1_aae02_10 : decode cJ0_isLatin1_aae02 10 = .ok (.ifCond .ne 7, 3) := by decide +kernel
theorem dJ0_isLatin1_aae02_13 : decode cJ0_isLatin1_aae02 13 = .ok (.iconst 1, 1) := by decide +kernel
theorem dJ0_isLatin1_aae02_14 : decode cJ0_isLatin1_aae02 14 = .ok (.goto 4, 3) := by decide +kernel
theorem dJ0_isLatin1_aae02_17 : decode cJ0_isLatin1_aae02 17 = .ok (.iconst 0, 1) := by decide +kernel
theorem dJ0_isLatin1_aae02_18 : decode cJ0_isLatin1_aae02 18 = .ok (.ireturn, 1) := by decide +kernel
abbrev rmJ0_isLatin1_aae02 : Room := { frames := 0, cells := 0, slots := 0, locals := 0 }
def vJ0_isLatin1_aae02 (si : Nat) (Q : Int32 → Prop) : Prop := (si < 15 ∧ (Q (1 : Int32)))
set_option maxHeartbeats 4000000 in
set_option maxRecDepth 100000 in
theorem wJ0_isLatin1_aae02 (l : Launch) (g : GP) (v : GV)  (si : Nat) {Q : Int32 → Prop} (hv : vJ0_isLatin1_aae02 si Q) : Met l yJ0_isLatin1_aae02 wsJ0_isLatin1_aae02 rmJ0_isLatin1_aae02 (va_Pc [.ref (kyS v si)] (fun U => va_P g.1 vwCl [] U.heap ∧ GK g U ∧ GE v (fun _ => False) U U.heap)) (vp_Si Q) 0 0 (fun _ => False) := by
  refine met_ofWF (cc := cJ0_isLatin1_aae02) (maxL := 1) (ret := (some .boolean)) (by decide +kernel) rfl ?_
  intro p e s m args below meth c s₁ B hml hv'
  obtain ⟨rfl, hP, hG, hE⟩ := hv'
  have S : CallFix p m c cJ0_isLatin1_aae02 1 s _ wsJ0_isLatin1_aae02 RJ0 := ⟨B.exec, B.bytes, hml, findClass_of_methodNamed B.named, atoms_spec (ws := wsJ0_isLatin1_aae02) B.pre⟩
  obtain ⟨hx, hb, hml, hown, hts⟩ := id S
  have hK := hG.1
  have hr := B.returns
  have hlocks := B.notSynchronized
  have hl := lv_entry ([.ref (kyS v si)]) (n := 1) (Nat.le_of_ble_eq_true rfl)
  rw [lg_entry_eq]
  generalize (lg_sl ([.ref (kyS v si)]) ++ List.replicate (1 - (lg_sl ([.ref (kyS v si)])).length) Slot.unset).toArray = ls at hl ⊢
  have hl : lv_has ls 1 [(0, .ref (kyS v si))] := hl
  unfold vJ0_isLatin1_aae02 at hv
  refine va_gets hx hb hE.2.2.2.2.1 (va_S.rf (A := fun _ => False)) hown (hts (.fieldLink RJ0 38 "java/lang/String" "COMPACT_STRINGS" "Z") (List.mem_of_getElem? (i := 1) rfl)) (fun _ h => h) dJ0_isLatin1_aae02_0 ?_
  refine lv_if_eq (tgt := 17) hx hb dJ0_isLatin1_aae02_3 (by decide) (fun hc => absurd hc (by decide)) (fun _ => ?_)
  refine lv_aload_n hx hb dJ0_isLatin1_aae02_6 rfl (lv_at hl 0 rfl) ?_
  obtain ⟨ho_1, hv⟩ := hv
  refine vk_getf hx hb (hE.2.2.2.2.2.2.1.1 si ho_1).2.1 (va_S.rf (A := fun _ => False)) hown (hts (.fieldLink RJ0 15 "java/lang/String" "coder" "B") (List.mem_of_getElem? (i := 2) rfl)) (fun _ h => h) dJ0_isLatin1_aae02_7 ?_
  refine lv_if_ne (tgt := 17) hx hb dJ0_isLatin1_aae02_10 (by decide) (fun hc => absurd hc (by decide)) (fun _ => ?_)
  refine lv_iconst (v := (1 : Int32)) hx hb dJ0_isLatin1_aae02_13 (by decide) ?_
  refine lv_goto (tgt := 18) hx hb dJ0_isLatin1_aae02_14 (by decide) ?_
  exact W.zret (v := (1 : Int32)) (ty := .boolean) hx hb hr rfl (fun t ht hW => ⟨_, rfl, hv, ht⟩) (fun _ h => by cases h) dJ0_isLatin1_aae02_18
abbrev preJ0_isLatin1_aae02 (si : Nat) : Prop := si < 15
abbrev postJ0_isLatin1_aae02 (si : Nat) (r : Int32) : Prop := r = 1
theorem sJ0_isLatin1_aae02 (si : Nat) (H : preJ0_isLatin1_aae02 si) : vJ0_isLatin1_aae02 si (postJ0_isLatin1_aae02 si) := ⟨H, rfl⟩
set_option maxRecDepth 20000 in
theorem ggJ0_length_8abf5_J0_coder_7d493 : GoodIn wsJ0_length_8abf5 wsJ0_coder_7d493 := goodIn_r _ [6, 7, 8] (by decide +kernel) (by decide +kernel)
set_option maxRecDepth 20000 in
theorem gJ0_length_8abf5_J0_coder_7d493 : GoodIn wsJ0_length_8abf5 (wsV RJ0 335 RJ0 yJ0_coder_7d493 wsJ0_coder_7d493) := goodIn_app (goodIn_of _ (by decide +kernel)) ggJ0_length_8abf5_J0_coder_7d493
theorem dJ0_length_8abf5_0 : decode cJ0_length_8abf5 0 = .ok (.aload_n 0, 1) := by decide +kernel
theorem dJ0_length_8abf5_1 : decode cJ0_length_8abf5 1 = .ok (.getfield 9, 3) := by decide +kernel
theorem dJ0_length_8abf5_4 : decode cJ0_length_8abf5 4 = .ok (.arraylength, 1) := by decide +kernel
theorem dJ0_length_8abf5_5 : decode cJ0_length_8abf5 5 = .ok (.aload_n 0, 1) := by decide +kernel
theorem dJ0_length_8abf5_6 : decode cJ0_length_8abf5 6 = .ok (.invokevirtual 335, 3) := by decide +kernel
theorem dJ0_length_8abf5_9 : decode cJ0_length_8abf5 9 = .ok (.ishr, 1) := by decide +kernel
theorem dJ0_length_8abf5_10 : decode cJ0_length_8abf5 10 = .ok (.ireturn, 1) := by decide +kernel
abbrev rmJ0_length_8abf5 : Room := { frames := 1, cells := 0, slots := 0, locals := 20 }
def vJ0_length_8abf5 (si : Nat) (Q : Int32 → Prop) : Prop := (si < 15 ∧ (si < 15 ∧ (preJ0_coder_7d493 si ∧ (si < 15 ∧ (∀ r_6 : Int32, postJ0_coder_7d493 si r_6 → (Q ((nI (lenW.getD si 0)) >>> (r_6 &&& 31))))))))
set_option maxHeartbeats 4000000 in
set_option maxRecDepth 100000 in
theorem wJ0_length_8abf5 (l : Launch) (g : GP) (v : GV)  (si : Nat) {Q : Int32 → Prop} (hv : vJ0_length_8abf5 si Q) : Met l yJ0_length_8abf5 wsJ0_length_8abf5 rmJ0_length_8abf5 (va_Pc [.ref (kyS v si)] (fun U => va_P g.1 vwCl [] U.heap ∧ GK g U ∧ GE v (fun _ => False) U U.heap)) (vp_Si Q) 0 0 (fun _ => False) := by
  refine met_ofWF (cc := cJ0_length_8abf5) (maxL := 1) (ret := (some .int)) (by decide +kernel) rfl ?_
  intro p e s m args below meth c s₁ B hml hv'
  obtain ⟨rfl, hP, hG, hE⟩ := hv'
  have S : CallFix p m c cJ0_length_8abf5 1 s _ wsJ0_length_8abf5 RJ0 := ⟨B.exec, B.bytes, hml, findClass_of_methodNamed B.named, atoms_spec (ws := wsJ0_length_8abf5) B.pre⟩
  obtain ⟨hx, hb, hml, hown, hts⟩ := id S
  have hK := hG.1
  have hr := B.returns
  have hlocks := B.notSynchronized
  have hl := lv_entry ([.ref (kyS v si)]) (n := 1) (Nat.le_of_ble_eq_true rfl)
  rw [lg_entry_eq]
  generalize (lg_sl ([.ref (kyS v si)]) ++ List.replicate (1 - (lg_sl ([.ref (kyS v si)])).length) Slot.unset).toArray = ls at hl ⊢
  have hl : lv_has ls 1 [(0, .ref (kyS v si))] := hl
  unfold vJ0_length_8abf5 at hv
  refine lv_aload_n hx hb dJ0_length_8abf5_0 rfl (lv_at hl 0 rfl) ?_
  obtain ⟨ho_1, hv⟩ := hv
  refine vk_getf hx hb (hE.2.2.2.2.2.2.1.1 si ho_1).2.2.1 (va_S.rf (A := fun _ => False)) hown (hts (.fieldLink RJ0 9 "java/lang/String" "value" "[B") (List.mem_of_getElem? (i := 1) rfl)) (fun _ h => h) dJ0_length_8abf5_1 ?_
  obtain ⟨ho_2, hv⟩ := hv
  refine va_tlen (v := nI (lenW.getD si 0)) hx hb (hE.2.2.2.2.2.2.1.1 si ho_2).2.2.2 (va_S.rf (A := fun _ => False)) rfl dJ0_length_8abf5_4 ?_
  refine lv_aload_n hx hb dJ0_length_8abf5_5 rfl (lv_at hl 0 rfl) ?_
  obtain ⟨ho_3, hv⟩ := hv
  obtain ⟨ho_4, hv⟩ := hv
  refine vp_callSi (W.runV (As := []) (rest := [.int (nI (lenW.getD si 0))]) S (wJ0_coder_7d493 l g v si (sJ0_coder_7d493 si ho_3)) (cwV 0 hts gJ0_length_8abf5_J0_coder_7d493 rfl rfl rfl (by decide +kernel) ⟨Nat.le_of_ble_eq_true rfl, Nat.le_of_ble_eq_true rfl⟩) ⟨blindROE, vk_recv hE.2.2.2.2.2.2.1 ho_4 (va_S.rf (A := fun _ => False)), fun U hU hW => ⟨rfl, by rw [hU]; exact hP.sub (ws' := []) [] rfl, hG.warm hW, by rw [hU]; exact hE.warm hW⟩⟩ rfl rfl hl.1 rfl (lv_room (Nat.le_of_ble_eq_true rfl)) dJ0_length_8abf5_6 ⟨Nat.le_of_ble_eq_true rfl, Nat.le_of_ble_eq_true rfl⟩) (fun r_6 hr_6 => ?_)
  have hv := hv r_6 hr_6
  refine lv_ishr hx hb dJ0_length_8abf5_9 ?_
  exact W.iret (v := ((nI (lenW.getD si 0)) >>> (r_6 &&& 31))) hx hb hr (fun t ht hW => ⟨_, rfl, hv, ht⟩) (fun _ h => by cases h) dJ0_length_8abf5_10
theorem lenW_lt (i : Nat) (h : i < 15) : lenW.getD i 0 < 7 := by
  have : ∀ i, i < 15 → lenW.getD i 0 < 7 := by decide
  exact this i h
theorem q_shr0 {n : Nat} (h : n < 2 ^ 31) : nI n >>> ((0 : Int32) &&& 31) = nI n := by
  have e : (0 : Int32) &&& 31 = 0 := rfl
  rw [e]
  exact Int32.shiftRight_zero
abbrev preJ0_length_8abf5 (si : Nat) : Prop := si < 15
abbrev postJ0_length_8abf5 (si : Nat) (r : Int32) : Prop := r = nI (lenW.getD si 0)
theorem sJ0_length_8abf5 (si : Nat) (H : preJ0_length_8abf5 si) : vJ0_length_8abf5 si (postJ0_length_8abf5 si) := by
  refine ⟨H, H, H, H, fun r hr => ?_⟩
  have hr : r = 0 := hr
  have := lenW_lt si H
  rw [hr]
  exact q_shr0 (by omega)
theorem dJ3_checkIndex_8e157_0 : decode cJ3_checkIndex_8e157 0 = .ok (.iload_n 0, 1) := by decide +kernel
theorem dJ3_checkIndex_8e157_1 : decode cJ3_checkIndex_8e157 1 = .ok (.ifCond .lt 8, 3) := by decide +kernel
theorem dJ3_checkIndex_8e157_4 : decode cJ3_checkIndex_8e157 4 = .ok (.iload_n 0, 1) := by decide +kernel
theorem dJ3_checkIndex_8e157_5 : decode cJ3_checkIndex_8e157 5 = .ok (.iload_n 1, 1) := by decide +kernel
theorem dJ3_checkIndex_8e157_6 : decode cJ3_checkIndex_8e157 6 = .ok (.if_icmp .lt 10, 3) := by decide +kernel
theorem dJ3_checkIndex_8e157_9 : decode cJ3_checkIndex_8e157 9 = .ok (.aload_n 2, 1) := by decide +kernel
theorem dJ3_checkIndex_8e157_10 : decode cJ3_checkIndex_8e157 10 = .ok (.iload_n 0, 1) := by decide +kernel
theorem dJ3_checkIndex_8e157_11 : decode cJ3_checkIndex_8e157 11 = .ok (.iload_n 1, 1) := by decide +kernel
theorem dJ3_checkIndex_8e157_12 : decode cJ3_checkIndex_8e157 12 = .ok (.invokestatic 95, 3) := by decide +kernel
theorem dJ3_checkIndex_8e157_15 : decode cJ3_checkIndex_8e157 15 = .ok (.athrow, 1) := by decide +kernel
theorem dJ3_checkIndex_8e157_16 : decode cJ3_checkIndex_8e157 16 = .ok (.iload_n 0, 1) := by decide +kernel
theorem dJ3_checkIndex_8e157_17 : decode cJ3_checkIndex_8e157 17 = .ok (.ireturn, 1) := by decide +kernel
abbrev rmJ3_checkIndex_n : Room := { frames := 0, cells := 0, slots := 0, locals := 0 }
def vJ3_checkIndex_n (p1 : Int32) (p2 : Int32) (Q : Int32 → Prop) : Prop := ((p1 < 0 → False) ∧ (¬ p1 < 0 → ((p1 < p2 → (Q p1)) ∧ (¬ p1 < p2 → False))))
set_option maxHeartbeats 4000000 in
set_option maxRecDepth 100000 in
theorem wJ3_checkIndex_n (l : Launch) (g : GP)  (p1 : Int32) (p2 : Int32) {Q : Int32 → Prop} (hv : vJ3_checkIndex_n p1 p2 Q) : Met l yJ3_checkIndex_8e157 wsJ3_checkIndex_8e157 rmJ3_checkIndex_n (va_Pc [.int p1, .int p2, .null] (fun U => va_P g.1 vwCl [] U.heap ∧ GK g U)) (vp_Si Q) 0 0 (fun _ => False) := by
  refine met_ofWF (cc := cJ3_checkIndex_8e157) (maxL := 3) (ret := (some .int)) (by decide +kernel) rfl ?_
  intro p e s m args below meth c s₁ B hml hv'
  obtain ⟨rfl, hP, hG⟩ := hv'
  have S : CallFix p m c cJ3_checkIndex_8e157 3 s _ wsJ3_checkIndex_8e157 RJ3 := ⟨B.exec, B.bytes, hml, findClass_of_methodNamed B.named, atoms_spec (ws := wsJ3_checkIndex_8e157) B.pre⟩
  obtain ⟨hx, hb, hml, hown, hts⟩ := id S
  have hK := hG.1
  have hr := B.returns
  have hlocks := B.notSynchronized
  have hl := lv_entry ([.int p1, .int p2, .null]) (n := 3) (Nat.le_of_ble_eq_true rfl)
  rw [lg_entry_eq]
  generalize (lg_sl ([.int p1, .int p2, .null]) ++ List.replicate (3 - (lg_sl ([.int p1, .int p2, .null])).length) Slot.unset).toArray = ls at hl ⊢
  have hl : lv_has ls 3 [(0, .int p1), (1, .int p2), (2, .null)] := hl
  unfold vJ3_checkIndex_n at hv
  refine lv_iload_n hx hb dJ3_checkIndex_8e157_0 rfl (lv_at hl 0 rfl) ?_
  obtain ⟨hvt, hvf⟩ := hv
  refine lv_if_lt (tgt := 9) hx hb dJ3_checkIndex_8e157_1 (by decide) (fun hc => ?_) (fun hc => ?_)
  · have hv := hvt hc
    exact hv.elim
  · have hv := hvf hc
    refine lv_iload_n hx hb dJ3_checkIndex_8e157_4 rfl (lv_at hl 0 rfl) ?_
    refine lv_iload_n hx hb dJ3_checkIndex_8e157_5 rfl (lv_at hl 1 rfl) ?_
    obtain ⟨hvt, hvf⟩ := hv
    refine lv_icmp_lt (tgt := 16) hx hb dJ3_checkIndex_8e157_6 (by decide) (fun hc => ?_) (fun hc => ?_)
    · have hv := hvt hc
      refine lv_iload_n hx hb dJ3_checkIndex_8e157_16 rfl (lv_at hl 0 rfl) ?_
      exact W.iret (v := p1) hx hb hr (fun t ht hW => ⟨_, rfl, hv, ht⟩) (fun _ h => by cases h) dJ3_checkIndex_8e157_17
    · have hv := hvf hc
      exact hv.elim
abbrev preJ3_checkIndex_n (p1 : Int32) (p2 : Int32) : Prop := 0 ≤ p1.toInt ∧ p1.toInt < p2.toInt
abbrev postJ3_checkIndex_n (p1 : Int32) (p2 : Int32) (r : Int32) : Prop := True
theorem sJ3_checkIndex_n (p1 : Int32) (p2 : Int32) (H : preJ3_checkIndex_n p1 p2) : vJ3_checkIndex_n p1 p2 (postJ3_checkIndex_n p1 p2) := by
  unfold vJ3_checkIndex_n
  rw [fa_lt p1, z0, fa_lt p1 p2]
  exact ⟨fun h => absurd h (by omega), fun _ => ⟨fun _ => trivial, fun h => absurd h (by omega)⟩⟩
abbrev rmJ3_checkIndex_r : Room := { frames := 0, cells := 0, slots := 0, locals := 0 }
def vJ3_checkIndex_r (p1 : Int32) (p2 : Int32) (Q : Int32 → Prop) : Prop := ((p1 < 0 → False) ∧ (¬ p1 < 0 → ((p1 < p2 → (Q p1)) ∧ (¬ p1 < p2 → False))))
set_option maxHeartbeats 4000000 in
set_option maxRecDepth 100000 in
theorem wJ3_checkIndex_r (l : Launch) (g : GP) (zt : Nat) (p1 : Int32) (p2 : Int32) {Q : Int32 → Prop} (hv : vJ3_checkIndex_r p1 p2 Q) : Met l yJ3_checkIndex_8e157 wsJ3_checkIndex_8e157 rmJ3_checkIndex_r (va_Pc [.int p1, .int p2, .ref zt] (fun U => va_P g.1 vwCl [] U.heap ∧ GK g U)) (vp_Si Q) 0 0 (fun _ => False) := by
  refine met_ofWF (cc := cJ3_checkIndex_8e157) (maxL := 3) (ret := (some .int)) (by decide +kernel) rfl ?_
  intro p e s m args below meth c s₁ B hml hv'
  obtain ⟨rfl, hP, hG⟩ := hv'
  have S : CallFix p m c cJ3_checkIndex_8e157 3 s _ wsJ3_checkIndex_8e157 RJ3 := ⟨B.exec, B.bytes, hml, findClass_of_methodNamed B.named, atoms_spec (ws := wsJ3_checkIndex_8e157) B.pre⟩
  obtain ⟨hx, hb, hml, hown, hts⟩ := id S
  have hK := hG.1
  have hr := B.returns
  have hlocks := B.notSynchronized
  have hl := lv_entry ([.int p1, .int p2, .ref zt]) (n := 3) (Nat.le_of_ble_eq_true rfl)
  rw [lg_entry_eq]
  generalize (lg_sl ([.int p1, .int p2, .ref zt]) ++ List.replicate (3 - (lg_sl ([.int p1, .int p2, .ref zt])).length) Slot.unset).toArray = ls at hl ⊢
  have hl : lv_has ls 3 [(0, .int p1), (1, .int p2), (2, .ref zt)] := hl
  unfold vJ3_checkIndex_r at hv
  refine lv_iload_n hx hb dJ3_checkIndex_8e157_0 rfl (lv_at hl 0 rfl) ?_
  obtain ⟨hvt, hvf⟩ := hv
  refine lv_if_lt (tgt := 9) hx hb dJ3_checkIndex_8e157_1 (by decide) (fun hc => ?_) (fun hc => ?_)
  · have hv := hvt hc
    exact hv.elim
  · have hv := hvf hc
    refine lv_iload_n hx hb dJ3_checkIndex_8e157_4 rfl (lv_at hl 0 rfl) ?_
    refine lv_iload_n hx hb dJ3_checkIndex_8e157_5 rfl (lv_at hl 1 rfl) ?_
    obtain ⟨hvt, hvf⟩ := hv
    refine lv_icmp_lt (tgt := 16) hx hb dJ3_checkIndex_8e157_6 (by decide) (fun hc => ?_) (fun hc => ?_)
    · have hv := hvt hc
      refine lv_iload_n hx hb dJ3_checkIndex_8e157_16 rfl (lv_at hl 0 rfl) ?_
      exact W.iret (v := p1) hx hb hr (fun t ht hW => ⟨_, rfl, hv, ht⟩) (fun _ h => by cases h) dJ3_checkIndex_8e157_17
    · have hv := hvf hc
      exact hv.elim
abbrev preJ3_checkIndex_r (p1 : Int32) (p2 : Int32) : Prop := 0 ≤ p1.toInt ∧ p1.toInt < p2.toInt
abbrev postJ3_checkIndex_r (p1 : Int32) (p2 : Int32) (r : Int32) : Prop := True
theorem sJ3_checkIndex_r (p1 : Int32) (p2 : Int32) (H : preJ3_checkIndex_r p1 p2) : vJ3_checkIndex_r p1 p2 (postJ3_checkIndex_r p1 p2) := by
  unfold vJ3_checkIndex_r
  rw [fa_lt p1, z0, fa_lt p1 p2]
  exact ⟨fun h => absurd h (by omega), fun _ => ⟨fun _ => trivial, fun h => absurd h (by omega)⟩⟩
set_option maxRecDepth 20000 in
theorem ggJ0_checkIndex_df160_J3_checkIndex_8e157 : GoodIn wsJ0_checkIndex_df160 wsJ3_checkIndex_8e157 := goodIn_r _ [5] (by decide +kernel) (by decide +kernel)
set_option maxRecDepth 20000 in
theorem gJ0_checkIndex_df160_J3_checkIndex_8e157 : GoodIn wsJ0_checkIndex_df160 (va_wsS RJ0 1059 yJ3_checkIndex_8e157 wsJ3_checkIndex_8e157) := goodIn_app (goodIn_of _ (by decide +kernel)) ggJ0_checkIndex_df160_J3_checkIndex_8e157
theorem dJ0_checkIndex_df160_0 : decode cJ0_checkIndex_df160 0 = .ok (.iload_n 0, 1) := by decide +kernel
theorem dJ0_checkIndex_df160_1 : decode cJ0_checkIndex_df160 1 = .ok (.iload_n 1, 1) := by decide +kernel
theorem dJ0_checkIndex_df160_2 : decode cJ0_checkIndex_df160 2 = .ok (.getstatic 1053, 3) := by decide +kernel
theorem dJ0_checkIndex_df160_5 : decode cJ0_checkIndex_df160 5 = .ok (.invokestatic 1059, 3) := by decide +kernel
theorem dJ0_checkIndex_df160_8 : decode cJ0_checkIndex_df160 8 = .ok (.pop, 1) := by decide +kernel
theorem dJ0_checkIndex_df160_9 : decode cJ0_checkIndex_df160 9 = .ok (.return_, 1) := by decide +kernel
abbrev rmJ0_checkIndex_df160 : Room := { frames := 1, cells := 0, slots := 0, locals := 22 }
def vJ0_checkIndex_df160 (p1 : Int32) (p2 : Int32) (Q : Prop) : Prop := (preJ3_checkIndex_r p1 p2 ∧ (∀ r_5 : Int32, postJ3_checkIndex_r p1 p2 r_5 → Q))
set_option maxHeartbeats 4000000 in
set_option maxRecDepth 100000 in
theorem wJ0_checkIndex_df160 (l : Launch) (g : GP) (v : GV)  (p1 : Int32) (p2 : Int32) {Q : Prop} (hv : vJ0_checkIndex_df160 p1 p2 Q) : Met l yJ0_checkIndex_df160 wsJ0_checkIndex_df160 rmJ0_checkIndex_df160 (va_Pc [.int p1, .int p2] (fun U => va_P g.1 vwCl [] U.heap ∧ GK g U ∧ GE v (fun _ => False) U U.heap)) (va_Sv (fun _ => Q)) 0 0 (fun _ => False) := by
  refine met_ofWF (cc := cJ0_checkIndex_df160) (maxL := 2) (ret := none) (by decide +kernel) rfl ?_
  intro p e s m args below meth c s₁ B hml hv'
  obtain ⟨rfl, hP, hG, hE⟩ := hv'
  have S : CallFix p m c cJ0_checkIndex_df160 2 s _ wsJ0_checkIndex_df160 RJ0 := ⟨B.exec, B.bytes, hml, findClass_of_methodNamed B.named, atoms_spec (ws := wsJ0_checkIndex_df160) B.pre⟩
  obtain ⟨hx, hb, hml, hown, hts⟩ := id S
  have hK := hG.1
  have hr := B.returns
  have hlocks := B.notSynchronized
  have hl := lv_entry ([.int p1, .int p2]) (n := 2) (Nat.le_of_ble_eq_true rfl)
  rw [lg_entry_eq]
  generalize (lg_sl ([.int p1, .int p2]) ++ List.replicate (2 - (lg_sl ([.int p1, .int p2])).length) Slot.unset).toArray = ls at hl ⊢
  have hl : lv_has ls 2 [(0, .int p1), (1, .int p2)] := hl
  unfold vJ0_checkIndex_df160 at hv
  refine lv_iload_n hx hb dJ0_checkIndex_df160_0 rfl (lv_at hl 0 rfl) ?_
  refine lv_iload_n hx hb dJ0_checkIndex_df160_1 rfl (lv_at hl 1 rfl) ?_
  rcases hE.2.2.2.2.2.1 with hz | ⟨zt, hz⟩
  · refine va_gets hx hb hz (va_S.rf (A := fun _ => False)) hown (hts (.fieldLink RJ0 1053 "jdk/internal/util/Preconditions" "SIOOBE_FORMATTER" "Ljava/util/function/BiFunction;") (List.mem_of_getElem? (i := 1) rfl)) (fun _ h => h) dJ0_checkIndex_df160_2 ?_
    obtain ⟨ho_1, hv⟩ := hv
    refine vp_callSi (W.runS (As := [.int p1, .int p2, .null]) (rest := []) S (wJ3_checkIndex_n l g p1 p2 (sJ3_checkIndex_n p1 p2 ho_1)) (va_cwS 3 hts gJ0_checkIndex_df160_J3_checkIndex_8e157 rfl rfl rfl (by decide +kernel) ⟨Nat.le_of_ble_eq_true rfl, Nat.le_of_ble_eq_true rfl⟩) ⟨blindRO, fun U hU hW => ⟨rfl, by rw [hU]; exact hP.sub (ws' := []) [] rfl, hG.warm hW⟩⟩ rfl rfl hl.1 rfl (lv_room (Nat.le_of_ble_eq_true rfl)) dJ0_checkIndex_df160_5 ⟨Nat.le_of_ble_eq_true rfl, Nat.le_of_ble_eq_true rfl⟩) (fun r_5 hr_5 => ?_)
    have hv := hv r_5 hr_5
    refine lv_pop hx hb dJ0_checkIndex_df160_8 rfl ?_
    exact W.vret hx hb hr (fun t ht hW => ⟨rfl, hv, ht⟩) (fun _ h => by cases h) dJ0_checkIndex_df160_9
  · refine va_gets hx hb hz (va_S.rf (A := fun _ => False)) hown (hts (.fieldLink RJ0 1053 "jdk/internal/util/Preconditions" "SIOOBE_FORMATTER" "Ljava/util/function/BiFunction;") (List.mem_of_getElem? (i := 1) rfl)) (fun _ h => h) dJ0_checkIndex_df160_2 ?_
    obtain ⟨ho_2, hv⟩ := hv
    refine vp_callSi (W.runS (As := [.int p1, .int p2, .ref zt]) (rest := []) S (wJ3_checkIndex_r l g zt p1 p2 (sJ3_checkIndex_r p1 p2 ho_2)) (va_cwS 3 hts gJ0_checkIndex_df160_J3_checkIndex_8e157 rfl rfl rfl (by decide +kernel) ⟨Nat.le_of_ble_eq_true rfl, Nat.le_of_ble_eq_true rfl⟩) ⟨blindRO, fun U hU hW => ⟨rfl, by rw [hU]; exact hP.sub (ws' := []) [] rfl, hG.warm hW⟩⟩ rfl rfl hl.1 rfl (lv_room (Nat.le_of_ble_eq_true rfl)) dJ0_checkIndex_df160_5 ⟨Nat.le_of_ble_eq_true rfl, Nat.le_of_ble_eq_true rfl⟩) (fun r_5 hr_5 => ?_)
    have hv := hv r_5 hr_5
    refine lv_pop hx hb dJ0_checkIndex_df160_8 rfl ?_
    exact W.vret hx hb hr (fun t ht hW => ⟨rfl, hv, ht⟩) (fun _ h => by cases h) dJ0_checkIndex_df160_9
abbrev preJ0_checkIndex_df160 (p1 : Int32) (p2 : Int32) : Prop := 0 ≤ p1.toInt ∧ p1.toInt < p2.toInt
abbrev postJ0_checkIndex_df160 (p1 : Int32) (p2 : Int32) : Prop := True
theorem sJ0_checkIndex_df160 (p1 : Int32) (p2 : Int32) (H : preJ0_checkIndex_df160 p1 p2) : vJ0_checkIndex_df160 p1 p2 (postJ0_checkIndex_df160 p1 p2) := ⟨H, fun _ _ => trivial⟩
set_option maxRecDepth 20000 in
theorem ggJ1_charAt_3b067_J0_checkIndex_df160 : GoodIn wsJ1_charAt_3b067 wsJ0_checkIndex_df160 := goodIn_r _ [4, 5, 6, 7, 8, 9] (by decide +kernel) (by decide +kernel)
set_option maxRecDepth 20000 in
theorem gJ1_charAt_3b067_J0_checkIndex_df160 : GoodIn wsJ1_charAt_3b067 (va_wsS RJ1 9 yJ0_checkIndex_df160 wsJ0_checkIndex_df160) := goodIn_app (goodIn_of _ (by decide +kernel)) ggJ1_charAt_3b067_J0_checkIndex_df160
theorem dJ1_charAt_3b067_0 : decode cJ1_charAt_3b067 0 = .ok (.iload_n 1, 1) := by decide +kernel
theorem dJ1_charAt_3b067_1 : decode cJ1_charAt_3b067 1 = .ok (.aload_n 0, 1) := by decide +kernel
theorem dJ1_charAt_3b067_2 : decode cJ1_charAt_3b067 2 = .ok (.arraylength, 1) := by decide +kernel
theorem dJ1_charAt_3b067_3 : decode cJ1_charAt_3b067 3 = .ok (.invokestatic 9, 3) := by decide +kernel
theorem dJ1_charAt_3b067_6 : decode cJ1_charAt_3b067 6 = .ok (.aload_n 0, 1) := by decide +kernel
theorem dJ1_charAt_3b067_7 : decode cJ1_charAt_3b067 7 = .ok (.iload_n 1, 1) := by decide +kernel
theorem dJ1_charAt_3b067_8 : decode cJ1_charAt_3b067 8 = .ok (.baload, 1) := by decide +kernel
theorem dJ1_charAt_3b067_9 : decode cJ1_charAt_3b067 9 = .ok (.sipush 255, 3) := by decide +kernel
theorem dJ1_charAt_3b067_12 : decode cJ1_charAt_3b067 12 = .ok (.iand, 1) := by decide +kernel
theorem dJ1_charAt_3b067_13 : decode cJ1_charAt_3b067 13 = .ok (.i2c, 1) := by decide +kernel
theorem dJ1_charAt_3b067_14 : decode cJ1_charAt_3b067 14 = .ok (.ireturn, 1) := by decide +kernel
abbrev rmJ1_charAt_3b067 : Room := { frames := 2, cells := 0, slots := 0, locals := 43 }
def vJ1_charAt_3b067 (si : Nat) (p2 : Int32) (Q : Int32 → Prop) : Prop := (si < 15 ∧ (preJ0_checkIndex_df160 p2 (nI (lenW.getD si 0)) ∧ (postJ0_checkIndex_df160 p2 (nI (lenW.getD si 0)) → (si < 15 ∧ (vp_in p2 (lenW.getD si 0) ∧ (narrow .char (.int (((((bytW.getD si []).getD p2.toNatClampNeg 0) &&& (255 : Int32)).toUInt32 % 65536).toInt32)) = .int (((((bytW.getD si []).getD p2.toNatClampNeg 0) &&& (255 : Int32)).toUInt32 % 65536).toInt32) ∧ Q (((((bytW.getD si []).getD p2.toNatClampNeg 0) &&& (255 : Int32)).toUInt32 % 65536).toInt32)))))))
set_option maxHeartbeats 4000000 in
set_option maxRecDepth 100000 in
theorem wJ1_charAt_3b067 (l : Launch) (g : GP) (v : GV)  (si : Nat) (p2 : Int32) {Q : Int32 → Prop} (hv : vJ1_charAt_3b067 si p2 Q) : Met l yJ1_charAt_3b067 wsJ1_charAt_3b067 rmJ1_charAt_3b067 (va_Pc [.ref (kyV v si), .int p2] (fun U => va_P g.1 vwCl [] U.heap ∧ GK g U ∧ GE v (fun _ => False) U U.heap)) (vp_Si Q) 0 0 (fun _ => False) := by
  refine met_ofWF (cc := cJ1_charAt_3b067) (maxL := 2) (ret := (some .char)) (by decide +kernel) rfl ?_
  intro p e s m args below meth c s₁ B hml hv'
  obtain ⟨rfl, hP, hG, hE⟩ := hv'
  have S : CallFix p m c cJ1_charAt_3b067 2 s _ wsJ1_charAt_3b067 RJ1 := ⟨B.exec, B.bytes, hml, findClass_of_methodNamed B.named, atoms_spec (ws := wsJ1_charAt_3b067) B.pre⟩
  obtain ⟨hx, hb, hml, hown, hts⟩ := id S
  have hK := hG.1
  have hr := B.returns
  have hlocks := B.notSynchronized
  have hl := lv_entry ([.ref (kyV v si), .int p2]) (n := 2) (Nat.le_of_ble_eq_true rfl)
  rw [lg_entry_eq]
  generalize (lg_sl ([.ref (kyV v si), .int p2]) ++ List.replicate (2 - (lg_sl ([.ref (kyV v si), .int p2])).length) Slot.unset).toArray = ls at hl ⊢
  have hl : lv_has ls 2 [(0, .ref (kyV v si)), (1, .int p2)] := hl
  unfold vJ1_charAt_3b067 at hv
  refine lv_iload_n hx hb dJ1_charAt_3b067_0 rfl (lv_at hl 1 rfl) ?_
  refine lv_aload_n hx hb dJ1_charAt_3b067_1 rfl (lv_at hl 0 rfl) ?_
  obtain ⟨ho_1, hv⟩ := hv
  refine va_tlen (v := nI (lenW.getD si 0)) hx hb (hE.2.2.2.2.2.2.1.1 si ho_1).2.2.2 (va_S.rf (A := fun _ => False)) rfl dJ1_charAt_3b067_2 ?_
  obtain ⟨ho_2, hv⟩ := hv
  refine va_csv (W.runS (As := [.int p2, .int (nI (lenW.getD si 0))]) (rest := []) S (wJ0_checkIndex_df160 l g v p2 (nI (lenW.getD si 0)) (sJ0_checkIndex_df160 p2 (nI (lenW.getD si 0)) ho_2)) (va_cwS 2 hts gJ1_charAt_3b067_J0_checkIndex_df160 rfl rfl rfl (by decide +kernel) ⟨Nat.le_of_ble_eq_true rfl, Nat.le_of_ble_eq_true rfl⟩) ⟨blindROE, fun U hU hW => ⟨rfl, by rw [hU]; exact hP.sub (ws' := []) [] rfl, hG.warm hW, by rw [hU]; exact hE.warm hW⟩⟩ rfl rfl hl.1 rfl (lv_room (Nat.le_of_ble_eq_true rfl)) dJ1_charAt_3b067_3 ⟨Nat.le_of_ble_eq_true rfl, Nat.le_of_ble_eq_true rfl⟩) (fun hr_3 => ?_)
  have hv := hv hr_3
  refine lv_aload_n hx hb dJ1_charAt_3b067_6 rfl (lv_at hl 0 rfl) ?_
  refine lv_iload_n hx hb dJ1_charAt_3b067_7 rfl (lv_at hl 1 rfl) ?_
  obtain ⟨ho_3, hv⟩ := hv
  obtain ⟨ho_4, hv⟩ := hv
  refine va_tb (v := .int ((bytW.getD si []).getD p2.toNatClampNeg 0)) hx hb (hE.2.2.2.2.2.2.1.1 si ho_3).2.2.2 (va_S.rf (A := fun _ => False)) ho_4 rfl dJ1_charAt_3b067_8 ?_
  refine lv_sipush (v := (255 : Int32)) hx hb dJ1_charAt_3b067_9 (by decide) ?_
  refine lv_iand hx hb dJ1_charAt_3b067_12 ?_
  refine lv_i2c (v := (((((bytW.getD si []).getD p2.toNatClampNeg 0) &&& (255 : Int32)).toUInt32 % 65536).toInt32)) hx hb dJ1_charAt_3b067_13 rfl ?_
  obtain ⟨hn, hv⟩ := hv
  exact W.zret (v := (((((bytW.getD si []).getD p2.toNatClampNeg 0) &&& (255 : Int32)).toUInt32 % 65536).toInt32)) (ty := .char) hx hb hr hn (fun t ht hW => ⟨_, rfl, hv, ht⟩) (fun _ h => by cases h) dJ1_charAt_3b067_14
def chW (i k : Nat) : Int32 := (bytW.getD i []).getD k 0
theorem chW_ok : ∀ i, i < 15 → ∀ k, k < 6 → (((bytW.getD i []).getD k 0 &&& 255).toUInt32 % 65536).toInt32 = (bytW.getD i []).getD k 0 ∧ narrow .char (.int ((bytW.getD i []).getD k 0)) = .int ((bytW.getD i []).getD k 0) ∧ 0 ≤ ((bytW.getD i []).getD k 0).toInt ∧ ((bytW.getD i []).getD k 0).toInt < 128 := by decide +kernel
abbrev preJ1_charAt_3b067 (si : Nat) (p2 : Int32) : Prop := si < 15 ∧ 0 ≤ p2.toInt ∧ p2.toInt < (lenW.getD si 0 : Int)
abbrev postJ1_charAt_3b067 (si : Nat) (p2 : Int32) (r : Int32) : Prop := r = chW si p2.toInt.toNat
theorem sJ1_charAt_3b067 (si : Nat) (p2 : Int32) (H : preJ1_charAt_3b067 si p2) : vJ1_charAt_3b067 si p2 (postJ1_charAt_3b067 si p2) := by
  obtain ⟨h1, h2, h3⟩ := H
  have hl := lenW_lt si h1
  have e : p2.toInt = (p2.toInt.toNat : Int) := by omega
  have ec : p2.toNatClampNeg = p2.toInt.toNat := rfl
  have hc := chW_ok si h1 p2.toInt.toNat (by omega)
  refine ⟨h1, ⟨h2, by rw [nI_toInt (by omega)]; exact h3⟩, fun _ => ⟨h1, vp_in_iff.mpr ⟨h2, h3⟩, ?_⟩⟩
  rw [ec, hc.1]
  exact ⟨hc.2.1, rfl⟩
set_option maxRecDepth 20000 in
theorem ggJ0_charAt_5068e_J0_isLatin1_aae02 : GoodIn wsJ0_charAt_5068e wsJ0_isLatin1_aae02 := goodIn_r _ [6, 7, 8] (by decide +kernel) (by decide +kernel)
set_option maxRecDepth 20000 in
theorem gJ0_charAt_5068e_J0_isLatin1_aae02 : GoodIn wsJ0_charAt_5068e (wsV RJ0 492 RJ0 yJ0_isLatin1_aae02 wsJ0_isLatin1_aae02) := goodIn_app (goodIn_of _ (by decide +kernel)) ggJ0_charAt_5068e_J0_isLatin1_aae02
set_option maxRecDepth 20000 in
theorem ggJ0_charAt_5068e_J1_charAt_3b067 : GoodIn wsJ0_charAt_5068e wsJ1_charAt_3b067 := goodIn_r _ [12, 13, 14, 5, 15, 16, 17, 18, 19, 20] (by decide +kernel) (by decide +kernel)
set_option maxRecDepth 20000 in
theorem gJ0_charAt_5068e_J1_charAt_3b067 : GoodIn wsJ0_charAt_5068e (va_wsS RJ0 495 yJ1_charAt_3b067 wsJ1_charAt_3b067) := goodIn_app (goodIn_of _ (by decide +kernel)) ggJ0_charAt_5068e_J1_charAt_3b067
set_option maxRecDepth 20000 in
theorem ggJ0_charAt_5068e_J2_charAt_3b067 : GoodIn wsJ0_charAt_5068e wsJ2_charAt_3b067 := goodIn_r _ [24, 25, 26, 23, 27, 28, 29, 30, 31, 14, 5, 15, 16, 17, 18, 19, 20, 32, 33, 34, 35, 36, 37] (by decide +kernel) (by decide +kernel)
set_option maxRecDepth 20000 in
theorem gJ0_charAt_5068e_J2_charAt_3b067 : GoodIn wsJ0_charAt_5068e (va_wsS RJ0 498 yJ2_charAt_3b067 wsJ2_charAt_3b067) := goodIn_app (goodIn_of _ (by decide +kernel)) ggJ0_charAt_5068e_J2_charAt_3b067
theorem dJ0_charAt_5068e_0 : decode cJ0_charAt_5068e 0 = .ok (.aload_n 0, 1) := by decide +kernel
theorem dJ0_charAt_5068e_1 : decode cJ0_charAt_5068e 1 = .ok (.invokevirtual 492, 3) := by decide +kernel
theorem dJ0_charAt_5068e_4 : decode cJ0_charAt_5068e 4 = .ok (.ifCond .eq 12, 3) := by decide +kernel
theorem dJ0_charAt_5068e_7 : decode cJ0_charAt_5068e 7 = .ok (.aload_n 0, 1) := by decide +kernel
theorem dJ0_charAt_5068e_8 : decode cJ0_charAt_5068e 8 = .ok (.getfield 9, 3) := by decide +kernel
theorem dJ0_charAt_5068e_11 : decode cJ0_charAt_5068e 11 = .ok (.iload_n 1, 1) := by decide +kernel
theorem dJ0_charAt_5068e_12 : decode cJ0_charAt_5068e 12 = .ok (.invokestatic 495, 3) := by decide +kernel
theorem dJ0_charAt_5068e_15 : decode cJ0_charAt_5068e 15 = .ok (.ireturn, 1) := by decide +kernel
theorem dJ0_charAt_5068e_16 : decode cJ0_charAt_5068e 16 = .ok (.aload_n 0, 1) := by decide +kernel
theorem dJ0_charAt_5068e_17 : decode cJ0_charAt_5068e 17 = .ok (.getfield 9, 3) := by decide +kernel
theorem dJ0_charAt_5068e_20 : decode cJ0_charAt_5068e 20 = .ok (.iload_n 1, 1) := by decide +kernel
theorem dJ0_charAt_5068e_21 : decode cJ0_charAt_5068e 21 = .ok (.invokestatic 498, 3) := by decide +kernel
theorem dJ0_charAt_5068e_24 : decode cJ0_charAt_5068e 24 = .ok (.ireturn, 1) := by decide +kernel
abbrev rmJ0_charAt_5068e : Room := { frames := 3, cells := 0, slots := 0, locals := 64 }
def vJ0_charAt_5068e (si : Nat) (p1 : Int32) (Q : Int32 → Prop) : Prop := (preJ0_isLatin1_aae02 si ∧ (si < 15 ∧ (∀ r_1 : Int32, postJ0_isLatin1_aae02 si r_1 → ((r_1 = 0 → False) ∧ (¬ r_1 = 0 → (si < 15 ∧ (preJ1_charAt_3b067 si p1 ∧ (∀ r_12 : Int32, postJ1_charAt_3b067 si p1 r_12 → (narrow .char (.int r_12) = .int r_12 ∧ Q r_12)))))))))
set_option maxHeartbeats 4000000 in
set_option maxRecDepth 100000 in
theorem wJ0_charAt_5068e (l : Launch) (g : GP) (v : GV)  (si : Nat) (p1 : Int32) {Q : Int32 → Prop} (hv : vJ0_charAt_5068e si p1 Q) : Met l yJ0_charAt_5068e wsJ0_charAt_5068e rmJ0_charAt_5068e (va_Pc [.ref (kyS v si), .int p1] (fun U => va_P g.1 vwCl [] U.heap ∧ GK g U ∧ GE v (fun _ => False) U U.heap)) (vp_Si Q) 0 0 (fun _ => False) := by
  refine met_ofWF (cc := cJ0_charAt_5068e) (maxL := 2) (ret := (some .char)) (by decide +kernel) rfl ?_
  intro p e s m args below meth c s₁ B hml hv'
  obtain ⟨rfl, hP, hG, hE⟩ := hv'
  have S : CallFix p m c cJ0_charAt_5068e 2 s _ wsJ0_charAt_5068e RJ0 := ⟨B.exec, B.bytes, hml, findClass_of_methodNamed B.named, atoms_spec (ws := wsJ0_charAt_5068e) B.pre⟩
  obtain ⟨hx, hb, hml, hown, hts⟩ := id S
  have hK := hG.1
  have hr := B.returns
  have hlocks := B.notSynchronized
  have hl := lv_entry ([.ref (kyS v si), .int p1]) (n := 2) (Nat.le_of_ble_eq_true rfl)
  rw [lg_entry_eq]
  generalize (lg_sl ([.ref (kyS v si), .int p1]) ++ List.replicate (2 - (lg_sl ([.ref (kyS v si), .int p1])).length) Slot.unset).toArray = ls at hl ⊢
  have hl : lv_has ls 2 [(0, .ref (kyS v si)), (1, .int p1)] := hl
  unfold vJ0_charAt_5068e at hv
  refine lv_aload_n hx hb dJ0_charAt_5068e_0 rfl (lv_at hl 0 rfl) ?_
  obtain ⟨ho_1, hv⟩ := hv
  obtain ⟨ho_2, hv⟩ := hv
  refine vp_callSi (W.runV (As := []) (rest := []) S (wJ0_isLatin1_aae02 l g v si (sJ0_isLatin1_aae02 si ho_1)) (cwV 0 hts gJ0_charAt_5068e_J0_isLatin1_aae02 rfl rfl rfl (by decide +kernel) ⟨Nat.le_of_ble_eq_true rfl, Nat.le_of_ble_eq_true rfl⟩) ⟨blindROE, vk_recv hE.2.2.2.2.2.2.1 ho_2 (va_S.rf (A := fun _ => False)), fun U hU hW => ⟨rfl, by rw [hU]; exact hP.sub (ws' := []) [] rfl, hG.warm hW, by rw [hU]; exact hE.warm hW⟩⟩ rfl rfl hl.1 rfl (lv_room (Nat.le_of_ble_eq_true rfl)) dJ0_charAt_5068e_1 ⟨Nat.le_of_ble_eq_true rfl, Nat.le_of_ble_eq_true rfl⟩) (fun r_1 hr_1 => ?_)
  have hv := hv r_1 hr_1
  obtain ⟨hvt, hvf⟩ := hv
  refine lv_if_eq (tgt := 16) hx hb dJ0_charAt_5068e_4 (by decide) (fun hc => ?_) (fun hc => ?_)
  · have hv := hvt hc
    exact hv.elim
  · have hv := hvf hc
    refine lv_aload_n hx hb dJ0_charAt_5068e_7 rfl (lv_at hl 0 rfl) ?_
    obtain ⟨ho_3, hv⟩ := hv
    refine vk_getf hx hb (hE.2.2.2.2.2.2.1.1 si ho_3).2.2.1 (va_S.rf (A := fun _ => False)) hown (hts (.fieldLink RJ0 9 "java/lang/String" "value" "[B") (List.mem_of_getElem? (i := 1) rfl)) (fun _ h => h) dJ0_charAt_5068e_8 ?_
    refine lv_iload_n hx hb dJ0_charAt_5068e_11 rfl (lv_at hl 1 rfl) ?_
    obtain ⟨ho_4, hv⟩ := hv
    refine vp_callSi (W.runS (As := [.ref (kyV v si), .int p1]) (rest := []) S (wJ1_charAt_3b067 l g v si p1 (sJ1_charAt_3b067 si p1 ho_4)) (va_cwS 2 hts gJ0_charAt_5068e_J1_charAt_3b067 rfl rfl rfl (by decide +kernel) ⟨Nat.le_of_ble_eq_true rfl, Nat.le_of_ble_eq_true rfl⟩) ⟨blindROE, fun U hU hW => ⟨rfl, by rw [hU]; exact hP.sub (ws' := []) [] rfl, hG.warm hW, by rw [hU]; exact hE.warm hW⟩⟩ rfl rfl hl.1 rfl (lv_room (Nat.le_of_ble_eq_true rfl)) dJ0_charAt_5068e_12 ⟨Nat.le_of_ble_eq_true rfl, Nat.le_of_ble_eq_true rfl⟩) (fun r_12 hr_12 => ?_)
    have hv := hv r_12 hr_12
    obtain ⟨hn, hv⟩ := hv
    exact W.zret (v := r_12) (ty := .char) hx hb hr hn (fun t ht hW => ⟨_, rfl, hv, ht⟩) (fun _ h => by cases h) dJ0_charAt_5068e_15
abbrev preJ0_charAt_5068e (si : Nat) (p1 : Int32) : Prop := si < 15 ∧ 0 ≤ p1.toInt ∧ p1.toInt < (lenW.getD si 0 : Int)
abbrev postJ0_charAt_5068e (si : Nat) (p1 : Int32) (r : Int32) : Prop := r = chW si p1.toInt.toNat
theorem sJ0_charAt_5068e (si : Nat) (p1 : Int32) (H : preJ0_charAt_5068e si p1) : vJ0_charAt_5068e si p1 (postJ0_charAt_5068e si p1) := by
  obtain ⟨h1, h2, h3⟩ := id H
  have hl := lenW_lt si h1
  refine ⟨h1, h1, fun r hr => ⟨fun q => ?_, fun _ => ⟨h1, H, fun r2 hr2 => ?_⟩⟩⟩
  · have hr : r = 1 := hr
    rw [hr] at q
    exact absurd q (by decide)
  · have hr2 : r2 = chW si p1.toInt.toNat := hr2
    have hc := chW_ok si h1 p1.toInt.toNat (by omega)
    rw [hr2]
    exact ⟨hc.2.1, rfl⟩
