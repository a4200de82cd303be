theorem ar_p {args : Array Value} {s : State} {ty : FieldType} (h : (Cond.arrayClass ty).before args s = true) : ∃ cA : ClassId, ArrOfT s cA ty ∧ s.vm.findClass ("[" ++ ty.toString) = some cA := by
  obtain ⟨c, k, comp, h1, h2, h3⟩ := Cond.arrayClass_spec h
  exact ⟨c, fun n z => ⟨fun k h => (by cases h), k, h2, comp, h3⟩, h1⟩
theorem ar_o {args : Array Value} {s : State} {C : String} (h : (Cond.arrayOver (.object C)).before args s = true) : ∃ cA : ClassId, ArrOfT s cA (.object C) ∧ va_RA s cA (.object C) := by
  obtain ⟨comp, c, k, h1, h2, h3, h4, h5⟩ := Cond.arrayOver_spec h
  exact ⟨c, fun n z => ⟨fun k h => (by cases h), k, h3, comp, h4⟩, k, comp, h3, h4, h1, h5⟩
theorem ar_a {args : Array Value} {s : State} {t : FieldType} (h : (Cond.arrayOver (.array t)).before args s = true) : ∃ cA : ClassId, ArrOfT s cA (.array t) ∧ va_RA s cA (.array t) := by
  obtain ⟨comp, c, k, h1, h2, h3, h4, h5⟩ := arrayOverA_spec h
  exact ⟨c, fun n z => ⟨fun k h => (by cases h), k, h3, comp, h4⟩, h5⟩
theorem ad_x {args : Array Value} {s : State} {t : Term} (h : (Cond.exactly t "java/lang/String").before args s = true) : ∃ a : Nat, t.eval args s none [] s = some (.ref a) := by
  obtain ⟨a, c, cA, kA, q1, -⟩ := Cond.exactly_spec (args := args) (first := s) (o := none) (s := s) (idx := []) (t := t) (cls := "java/lang/String") h
  exact ⟨a, q1⟩
theorem no_old {s : State} : ∀ a : Nat, a < s.heap.size → ¬ lwA s a := fun _ h => Nat.not_le.mpr h
set_option maxHeartbeats 4000000 in
theorem lw_GK {s : State} {args : Array Value} (hts : ∀ w ∈ lw_tbl, w.before args s = true) : ∃ g : GP, GK g s := by
  obtain ⟨c0, iS0, h0⟩ := u_known (C := RX0) (T := TX0) (N := 12) (n := 12) hts inX0 (hts (.instantiable RX0 12) (by decide +kernel))
  obtain ⟨c1, iS1, h1⟩ := u_known (C := RX1) (T := TX1) (N := 5) (n := 5) hts inX1 (hts (.instantiable RX1 5) (by decide +kernel))
  obtain ⟨c2, iS2, h2⟩ := u_known (C := RX2) (T := TX2) (N := 5) (n := 5) hts inX2 (hts (.instantiable RX2 5) (by decide +kernel))
  obtain ⟨c3, iS3, h3⟩ := u_known (C := RX3) (T := TX3) (N := 4) (n := 4) hts inX3 (hts (.instantiable RX3 4) (by decide +kernel))
  obtain ⟨c4, iS4, h4⟩ := u_known (C := RX4) (T := TX4) (N := 9) (n := 9) hts inX4 (hts (.instantiable RX4 9) (by decide +kernel))
  obtain ⟨c5, iS5, h5⟩ := u_known (C := RX5) (T := TX5) (N := 7) (n := 7) hts inX5 (hts (.instantiable RX5 7) (by decide +kernel))
  obtain ⟨c6, iS6, h6⟩ := u_known (C := RX6) (T := TX6) (N := 7) (n := 7) hts inX6 (hts (.instantiable RX6 7) (by decide +kernel))
  obtain ⟨c7, iS7, h7⟩ := u_known (C := RX7) (T := TX7) (N := 6) (n := 6) hts inX7 (hts (.instantiable RX7 6) (by decide +kernel))
  obtain ⟨c8, iS8, h8⟩ := u_known (C := RX8) (T := TX8) (N := 8) (n := 8) hts inX8 (hts (.instantiable RX8 8) (by decide +kernel))
  obtain ⟨c9, iS9, h9⟩ := u_known (C := RX9) (T := TX9) (N := 29) (n := 29) hts inX9 (hts (.instantiable RX9 29) (by decide +kernel))
  obtain ⟨aI, rI, fI⟩ := ar_p (hts (.arrayClass .int) (by decide +kernel))
  obtain ⟨aB, rB, fB⟩ := ar_p (hts (.arrayClass .byte) (by decide +kernel))
  obtain ⟨aZ, rZ, fZ⟩ := ar_p (hts (.arrayClass .boolean) (by decide +kernel))
  obtain ⟨aJ, rJ, fJ⟩ := ar_p (hts (.arrayClass .long) (by decide +kernel))
  obtain ⟨aG, rG, fG⟩ := ar_o (hts (.arrayOver (.object "RangeCodes$Leg")) (by decide +kernel))
  obtain ⟨aP, rP, fP⟩ := ar_o (hts (.arrayOver (.object "RangeCodes$Page")) (by decide +kernel))
  obtain ⟨aA, rA, fA⟩ := ar_a (hts (.arrayOver (.array .int)) (by decide +kernel))
  refine ⟨((fun k => ([c0, c1, c2, c3, c4, c5, c6, c7, c8, c9] : List ClassId).getD k 0, fun k => ([iS0, iS1, iS2, iS3, iS4, iS5, iS6, iS7, iS8, iS9] : List (Nat → Nat)).getD k (fun _ => 0)), fun k => ([aI, aB, aZ, aJ, aG, aP, aA] : List ClassId).getD k 0), ⟨fun k q hq => ?_, fun k q hq => ?_⟩, fun w hw => va_Nw.of (nwL_tab w hw) (hts w (wd_nw w hw))⟩
  · match k, hq with
    | 0, hq => cases hq; exact h0
    | 1, hq => cases hq; exact h1
    | 2, hq => cases hq; exact h2
    | 3, hq => cases hq; exact h3
    | 4, hq => cases hq; exact h4
    | 5, hq => cases hq; exact h5
    | 6, hq => cases hq; exact h6
    | 7, hq => cases hq; exact h7
    | 8, hq => cases hq; exact h8
    | 9, hq => cases hq; exact h9
    | k + 10, hq => exact absurd hq (by rw [List.getElem?_eq_none (show vwCl.length ≤ k + 10 from Nat.le_add_left 10 k)]; exact fun z => by cases z)
  · match k, hq with
    | 0, hq => cases hq; exact ⟨rI, fI⟩
    | 1, hq => cases hq; exact ⟨rB, fB⟩
    | 2, hq => cases hq; exact ⟨rZ, fZ⟩
    | 3, hq => cases hq; exact ⟨rJ, fJ⟩
    | 4, hq => cases hq; exact ⟨rG, fG⟩
    | 5, hq => cases hq; exact ⟨rP, fP⟩
    | 6, hq => cases hq; exact ⟨rA, fA⟩
    | k + 7, hq => exact absurd hq (by rw [List.getElem?_eq_none (show 7 ≤ k + 7 from Nat.le_add_left 7 k)]; exact fun z => by cases z)
set_option maxHeartbeats 4000000 in
theorem lw_GE {s : State} {args : Array Value} (hts : ∀ w ∈ lw_tbl, w.before args s = true) (hf : ∀ w ∈ fW, w.before args s = true) : ∃ v : GV, GE v (lwA s) s s.heap := by
  obtain ⟨adK, adV, hS, hR⟩ := vk_Sof (args := args) (s := s) (N := 15) (tm := tmW) (len := lenW) (byt := bytW) (A := lwA s) (by decide +kernel) (fun i hi => hf _ (wd_ex i hi)) (fun i hi => hf _ (wd_co i hi)) (fun i hi => hf _ (wd_ar i hi)) (fun i hi => hf _ (wd_len i hi)) (fun i hi j hj => hf _ (wd_el i hi j hj)) (fun i j hi hj hn => (wd_ne i j hi hj hn).imp (hf _) (hf _)) no_old
  obtain ⟨t0, et0, ht0⟩ := va_Tof (args := args) (s := s) (tm := .static "RangeCodes" "LEAST_SETTING" "[I") (ty := .int) (N := 6) (f := fun j => .int (lsF.getD j 0)) (A := lwA s) (by decide) (hf _ wd_LEAST.1) (va_eqt (hf _ wd_LEAST.2.1)) (fun j hj => va_eqt (hf _ (wd_LEAST.2.2 j hj))) no_old
  obtain ⟨t1, et1, ht1⟩ := va_Tof (args := args) (s := s) (tm := .static "RangeCodes" "MOST_SETTING" "[I") (ty := .int) (N := 6) (f := fun j => .int (msF.getD j 0)) (A := lwA s) (by decide) (hf _ wd_MOST.1) (va_eqt (hf _ wd_MOST.2.1)) (fun j hj => va_eqt (hf _ (wd_MOST.2.2 j hj))) no_old
  refine ⟨(t0, t1, adK, adV), va_Zof (hts (.laysStatic "RangeCodes" "LEAST_SETTING" "[I") (by decide +kernel)) (hts (.initialized "RangeCodes") (by decide +kernel)) et0 no_old, ht0, va_Zof (hts (.laysStatic "RangeCodes" "MOST_SETTING" "[I") (by decide +kernel)) (hts (.initialized "RangeCodes") (by decide +kernel)) et1 no_old, ht1, va_Zof (hts (.laysStatic "java/lang/String" "COMPACT_STRINGS" "Z") (by decide +kernel)) (hts (.initialized "java/lang/String") (by decide +kernel)) (va_eqt (hf _ wd_one.1)) no_old, va_Zqof (hts (.laysStatic "jdk/internal/util/Preconditions" "SIOOBE_FORMATTER" "Ljava/util/function/BiFunction;") (by decide +kernel)) (hts (.initialized "jdk/internal/util/Preconditions") (by decide +kernel)) (hf _ wd_one.2.1) no_old, hS, fun i hi => vk_R.of (hts _ (wd_sr i hi)) (hR i hi), va_Nw.of rfl (hts _ (by decide +kernel))⟩
theorem lw_GO {s : State} {args : Array Value} (hts : ∀ w ∈ lw_tbl, w.before args s = true) : GO s := ⟨va_AO.of (hts (.arrayOver (.object "RangeCodes$Leg")) (by decide +kernel)), va_AO.of (hts (.arrayOver (.object "RangeCodes$Page")) (by decide +kernel)), va_AOA.of (hts (.arrayOver (.array .int)) (by decide +kernel))⟩
set_option maxHeartbeats 4000000 in
theorem lw_GX {s : State} {args : Array Value} (hts : ∀ w ∈ lw_tbl, w.before args s = true) (hf : ∀ w ∈ fW, w.before args s = true) : ∃ z : Nat × Nat, GX z (lwA s) s s.heap := by
  obtain ⟨z1, e1⟩ := ad_x (hf _ wd_one.2.2.2.2.1)
  obtain ⟨z2, e2⟩ := ad_x (hf _ wd_one.2.2.2.2.2)
  refine ⟨(z1, z2), vx_Zqof (hts (.laysStatic Bundle.tN "UNASSIGNED_STACK" Bundle.steD) (by decide +kernel)) (hts (.initialized Bundle.tN) (by decide +kernel)) (hf _ wd_one.2.2.1) no_old, vx_Zqof (hts (.laysStatic Bundle.tN "SUPPRESSED_SENTINEL" Bundle.listD) (by decide +kernel)) (hts (.initialized Bundle.tN) (by decide +kernel)) (hf _ wd_one.2.2.2.1) no_old, vk_R.of (hts (.stringRef RX8 181 "no such part") (by decide +kernel)) e1, vk_R.of (hts (.stringRef RX8 193 "no such chip, or another what") (by decide +kernel)) e2, va_Nw.of rfl (hts _ (by decide +kernel)), va_Nw.of rfl (hts _ (by decide +kernel)), va_Nw.of rfl (hts _ (by decide +kernel)), va_Nw.of rfl (hts _ (by decide +kernel))⟩
