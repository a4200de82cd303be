-- the surroundings that every contract names: the classes' numbers and slots, the array classes, the nest mates' links
abbrev GP : Type := va_G × (Nat → ClassId)
abbrev tyL (g : GP) : List (ClassId × FieldType) := [(g.2 0, .int), (g.2 1, .byte), (g.2 2, .boolean), (g.2 3, .long), (g.2 4, .object "RangeCodes$Leg"), (g.2 5, .object "RangeCodes$Page"), (g.2 6, .array .int)]
def nwL : List Cond := [.methodLinkNest RX8 65 yX6_init "RangeCodes", .methodLinkNest RX8 9 yX2_init "RangeCodes", .methodLinkNest RX0 116 yX8_rest "RangeCodes", .methodLinkNest RX0 139 yX8_commonMultiple "RangeCodes", .methodLinkNest RX3 63 yX8_rest "RangeCodes", .methodLinkNest RX6 63 yX8_commonDivisor "RangeCodes", .methodLinkNest RX6 67 yX8_commonMultiple "RangeCodes", .methodLinkNest RX6 74 yX8_rest "RangeCodes", .methodLinkNest RX7 48 yX8_commonMultiple "RangeCodes", .methodLinkNest RX7 52 yX8_rest "RangeCodes"]
def GK (g : GP) (U : State) : Prop := va_K g.1 vwCl (tyL g) U ∧ ∀ w ∈ nwL, va_Nw w U
theorem GK.warm {g : GP} {s U : State} (h : GK g s) (hW : s.WarmedH U.vm) : GK g U := by
  refine ⟨va_K.moved hW.alike h.1, fun w hw => ?_⟩
  have q := h.2 w hw
  simp only [nwL, List.mem_cons, List.not_mem_nil, or_false] at hw
  rcases hw with rfl | rfl | rfl | rfl | rfl | rfl | rfl | rfl | rfl | rfl <;> exact va_Nw.warmM hW q
theorem nwL_tab : ∀ w ∈ nwL, w.onTables = true := by
  intro w hw
  simp only [nwL, List.mem_cons, List.not_mem_nil, or_false] at hw
  rcases hw with rfl | rfl | rfl | rfl | rfl | rfl | rfl | rfl | rfl | rfl <;> rfl
theorem GK.calling {g : GP} {U : State} {f : JFrame} {mk : MethodId} {a : Array Value} (h : GK g U) : GK g (U.calling f mk a) := ⟨va_K.moved (u := U) (U := U.calling f mk a) (Vm.Alike.refl U.vm) h.1, fun w hw => va_Nw.same (nwL_tab w hw) (u := U) (U := U.calling f mk a) rfl (h.2 w hw)⟩
/-- a run whose tables are known is a run -/
theorem run_of {p : Program} {l : Launch} {e : Env} {R : Room} {s : State} {m : MethodId} {args : Array Value} {below : List Frame} {meth : Method} {c : Code} {H : Heap} {locs : List Loc} {cells slots mc ms : Nat} {f : JFrame} {rest : List Value} {Qa : State → Outcome → State → Prop} {free : Addr → Prop} (h : va_Run p l e R s m args below meth c H locs cells slots mc ms f rest Qa free) : CallRun p l e R s m args below meth c H locs cells slots mc ms f rest Qa free := by
  intro T hT X
  obtain ⟨v, st, t, T', L, h0, X', hL, e1, -, q, st2⟩ := h T hT X
  exact ⟨v, st, t, T', L, h0, X', hL, e1, q, st2⟩
theorem blindRO {g : GP} {av : List Value} {ws : va_W} : FrameBlind (va_Pc av (fun U => va_P g.1 vwCl ws U.heap ∧ GK g U)) := fun _ _ _ _ q => ⟨q.1, q.2.1, q.2.2.calling⟩
theorem blindRW {g : GP} {av : List Value} {ws : va_W} {sz : Nat} : FrameBlind (va_Pc av (fun U => U.heap.size = sz ∧ va_P g.1 vwCl ws U.heap ∧ GK g U ∧ va_D (fun _ => True) ws)) := fun _ _ _ _ q => ⟨q.1, q.2.1, q.2.2.1, q.2.2.2.1.calling, q.2.2.2.2⟩
/-- as Met.ofW, of a method that no entry runs instead -/
theorem met_ofWF {l : Launch} {y : MethodName} {ws ws' : List Cond} {rm : Room} {Pc : Array Value → State → Prop} {Qc : Array Value → State → Outcome → State → Prop} {mc ms : Nat} {free : Addr → Prop} {cc : ByteArray} {maxL : Nat} {ret : Option FieldType}
    (hy : plainFor y = true) (hw : ws = Cond.code y cc maxL ret :: ws')
    (body : ∀ p e s m args below meth c s₁, BodyLoose p l y (headSpec ws rm) cc maxL ret e s m args below meth c s₁ → c.maxLocals = maxL → Pc args s →
      W p l e (headSpec ws rm).room s m args below meth c s.heap [] 0 0 (MQ below Qc args s mc ms free) (entryFrame m args maxL)) : Met l y ws rm Pc Qc mc ms free := by
  refine MetFree.of_bodySF (code := cc) (maxLocals := maxL) (ret := ret) hy ?_ ?_
  · intro args s m h hn
    obtain ⟨meth, c, h1, h2, h3, h4, h5, h6, -, -⟩ := Cond.code_spec hn (atoms_spec (ws := ws) h _ (by rw [hw]; exact List.mem_cons_self))
    exact ⟨meth, c, h1, h2, h3, h4, h5, h6⟩
  · intro p e s m args below meth c s₁ B hml hP _
    have hh0 : s₁.heap = s.heap := by rw [B.state]; rfl
    obtain ⟨t, a1, o, b1, b2, b3⟩ := body p e s m args below meth c s₁ B hml hP s₁ hh0 (Stand.of_body B)
    exact ⟨t, o, a1, b1, b2, ⟨b3.1, b3.2⟩⟩
