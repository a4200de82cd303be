set_option maxRecDepth 20000 in
theorem ggL_part_X8_part : GoodIn wsL_part wsX8_part := goodIn_ca (goodIn_r _ [6, 7, 8, 9, 10, 11, 12, 13, 14, 15, 16, 17, 18, 19, 20, 21, 22, 23, 24, 25, 26, 27, 28, 29, 5, 30, 31, 32, 33, 34, 35, 36, 37, 38, 39, 40, 41, 42, 43, 44, 45, 46, 47, 48, 49, 50, 51] (by decide +kernel) (by decide +kernel)) (goodIn_sub (fun _ h => List.mem_cons_of_mem _ (List.mem_append_right _ h)) (by decide +kernel))
set_option maxRecDepth 20000 in
theorem gL_part_X8_part : GoodIn wsL_part (wsV RL 7 RX8 yX8_part wsX8_part) := goodIn_app (goodIn_of _ (by decide +kernel)) ggL_part_X8_part
theorem dL_part_0 : decode cL_part 0 = .ok (.aload_n 3, 1) := by decide +kernel
theorem dL_part_1 : decode cL_part 1 = .ok (.iconst 0, 1) := by decide +kernel
theorem dL_part_2 : decode cL_part 2 = .ok (.aload_n 0, 1) := by decide +kernel
theorem dL_part_3 : decode cL_part 3 = .ok (.iload_n 1, 1) := by decide +kernel
theorem dL_part_4 : decode cL_part 4 = .ok (.iload_n 2, 1) := by decide +kernel
theorem dL_part_5 : decode cL_part 5 = .ok (.invokevirtual 7, 3) := by decide +kernel
theorem dL_part_8 : decode cL_part 8 = .ok (.i2l, 1) := by decide +kernel
theorem dL_part_9 : decode cL_part 9 = .ok (.lastore, 1) := by decide +kernel
theorem dL_part_10 : decode cL_part 10 = .ok (.goto 7, 3) := by decide +kernel
theorem dL_part_13 : decode cL_part 13 = .ok (.astore 4, 2) := by decide +kernel
theorem dL_part_15 : decode cL_part 15 = .ok (.iconst 1, 1) := by decide +kernel
theorem dL_part_16 : decode cL_part 16 = .ok (.ireturn, 1) := by decide +kernel
theorem dL_part_17 : decode cL_part 17 = .ok (.iconst 0, 1) := by decide +kernel
theorem dL_part_18 : decode cL_part 18 = .ok (.ireturn, 1) := by decide +kernel
theorem met_ofWH {l : Launch} {y : MethodName} {ws ws' : List Cond} {rm : Room} {Pc : Array Value → State → Prop} {Qc : Array Value → State → Outcome → State → Prop} {mc ms : Nat} {free : Addr → Prop} {cc : ByteArray} {maxL : Nat} {ret : Option FieldType} {hh : List (Nat × Nat × Nat × Nat)}
    (hy : plainName y.cls = true) (hw : ws = Cond.codeWith y cc maxL ret hh :: ws')
    (body : ∀ p e s m args below meth c s₁, BodyLoose p l y (headSpec ws rm) cc maxL ret e s m args below meth c s₁ → c.maxLocals = maxL → Pc args s →
      W p l e (headSpec ws rm).room s m args below meth c s.heap [] 0 0 (MQ below Qc args s mc ms free) (entryFrame m args maxL)) : Met l y ws rm Pc Qc mc ms free := by
  refine MetFree.of_bodyS (code := cc) (maxLocals := maxL) (ret := ret) hy ?_ ?_
  · intro args s m h hn
    obtain ⟨m9, meth, c, hn9, h1, h2, h3, h4, -, h5, h6, -⟩ := Cond.codeWith_spec (atoms_spec (ws := ws) h _ (by rw [hw]; exact List.mem_cons_self))
    cases hn.symm.trans hn9
    exact ⟨meth, c, h1, h2, h3, h4, h5, h6⟩
  · intro p e s m args below meth c s₁ B hml hP _
    have hh0 : s₁.heap = s.heap := by rw [B.state]; rfl
    obtain ⟨t, a1, o, b1, b2, b3⟩ := body p e s m args below meth c s₁ B hml hP s₁ hh0 (Stand.of_body B)
    exact ⟨t, o, a1, b1, b2, ⟨b3.1, b3.2⟩⟩
abbrev rmL_part : Room := { frames := 7, cells := 1, slots := 6, locals := 104 }
set_option maxHeartbeats 4000000 in
set_option maxRecDepth 100000 in
theorem wL_part (l : Launch) (g : GP) (z : Nat × Nat) (hst : l.stackTraces = false) (qX : Nat) (qP : Nat) (qI : Nat) (qt : Nat) (qd : Nat) (qe : Nat) (qsp : Nat) (qrk : Nat) (qty : Nat) (ql : Nat) (qr : Nat) (qv : Nat) (qg : Nat) (qo sz : Nat) (parts : Int32) (limit : Int32) (len : Nat → Int32) (row : Nat → Int32) (vot : Nat → Int32) (fo : Nat → Int64) (p1 p2 : Int32) {Q : Int32 → Prop} {QX : Prop} (hv : vX8_part parts limit len row vot p1 p2 Q QX) : Met l yL_part wsL_part rmL_part (va_Pc [.ref qX, .int p1, .int p2, .ref qo] (fun U => U.heap.size = sz ∧ va_P g.1 vwCl [(qX, .inr (8, [.ref qP, .ref qI, .ref qt, .ref qd, .ref qe, .ref qsp, .ref qrk, .ref qty])), (qt, .inr (7, [.ref ql, .ref qr, .ref qv, .ref qg, .int parts, .int limit])), (ql, .inl (g.2 0, 5, .inl len)), (qr, .inl (g.2 0, 5, .inl row)), (qv, .inl (g.2 0, 5, .inl vot)), (qo, .inl (g.2 3, 1, .inr (.inl fo)))] U.heap ∧ GK g U ∧ va_D (fun _ => True) [(qX, .inr (8, [.ref qP, .ref qI, .ref qt, .ref qd, .ref qe, .ref qsp, .ref qrk, .ref qty])), (qt, .inr (7, [.ref ql, .ref qr, .ref qv, .ref qg, .int parts, .int limit])), (ql, .inl (g.2 0, 5, .inl len)), (qr, .inl (g.2 0, 5, .inl row)), (qv, .inl (g.2 0, 5, .inl vot)), (qo, .inl (g.2 3, 1, .inr (.inl fo)))] ∧ GX z (va_A [(qX, .inr (8, [.ref qP, .ref qI, .ref qt, .ref qd, .ref qe, .ref qsp, .ref qrk, .ref qty])), (qt, .inr (7, [.ref ql, .ref qr, .ref qv, .ref qg, .int parts, .int limit])), (ql, .inl (g.2 0, 5, .inl len)), (qr, .inl (g.2 0, 5, .inl row)), (qv, .inl (g.2 0, 5, .inl vot)), (qo, .inl (g.2 3, 1, .inr (.inl fo)))] sz) U U.heap)) (va_Qi (fun (r : Int32) (u : Nat → Int64) => (r = 0 ∧ ∃ a : Int32, Q a ∧ u = vp_updL fo 0 a.toInt64) ∨ (r = 1 ∧ QX)) (fun (u : Nat → Int64) t => va_P g.1 vwCl [(qX, .inr (8, [.ref qP, .ref qI, .ref qt, .ref qd, .ref qe, .ref qsp, .ref qrk, .ref qty])), (qt, .inr (7, [.ref ql, .ref qr, .ref qv, .ref qg, .int parts, .int limit])), (ql, .inl (g.2 0, 5, .inl len)), (qr, .inl (g.2 0, 5, .inl row)), (qv, .inl (g.2 0, 5, .inl vot)), (qo, .inl (g.2 3, 1, .inr (.inl u)))] t.heap ∧ va_D (va_A [(qX, .inr (8, [.ref qP, .ref qI, .ref qt, .ref qd, .ref qe, .ref qsp, .ref qrk, .ref qty])), (qt, .inr (7, [.ref ql, .ref qr, .ref qv, .ref qg, .int parts, .int limit])), (ql, .inl (g.2 0, 5, .inl len)), (qr, .inl (g.2 0, 5, .inl row)), (qv, .inl (g.2 0, 5, .inl vot)), (qo, .inl (g.2 3, 1, .inr (.inl fo)))] sz) [(qX, .inr (8, [.ref qP, .ref qI, .ref qt, .ref qd, .ref qe, .ref qsp, .ref qrk, .ref qty])), (qt, .inr (7, [.ref ql, .ref qr, .ref qv, .ref qg, .int parts, .int limit])), (ql, .inl (g.2 0, 5, .inl len)), (qr, .inl (g.2 0, 5, .inl row)), (qv, .inl (g.2 0, 5, .inl vot)), (qo, .inl (g.2 3, 1, .inr (.inl u)))]) (va_A [(qX, .inr (8, [.ref qP, .ref qI, .ref qt, .ref qd, .ref qe, .ref qsp, .ref qrk, .ref qty])), (qt, .inr (7, [.ref ql, .ref qr, .ref qv, .ref qg, .int parts, .int limit])), (ql, .inl (g.2 0, 5, .inl len)), (qr, .inl (g.2 0, 5, .inl row)), (qv, .inl (g.2 0, 5, .inl vot)), (qo, .inl (g.2 3, 1, .inr (.inl fo)))] sz)) 1 6 (va_A [(qX, .inr (8, [.ref qP, .ref qI, .ref qt, .ref qd, .ref qe, .ref qsp, .ref qrk, .ref qty])), (qt, .inr (7, [.ref ql, .ref qr, .ref qv, .ref qg, .int parts, .int limit])), (ql, .inl (g.2 0, 5, .inl len)), (qr, .inl (g.2 0, 5, .inl row)), (qv, .inl (g.2 0, 5, .inl vot)), (qo, .inl (g.2 3, 1, .inr (.inl fo)))] sz) := by
  refine met_ofWH (cc := cL_part) (maxL := 5) (ret := some .int) (hh := [(0, 10, 13, 13)]) (by decide) rfl ?_
  intro p e s m args below meth c s₁ B hml hv'
  obtain ⟨rfl, hsz, hP, hG, hD0, hX⟩ := hv'
  have S : CallFix p m c cL_part 5 s _ wsL_part RL := ⟨B.exec, B.bytes, hml, findClass_of_methodNamed B.named, atoms_spec (ws := wsL_part) B.pre⟩
  obtain ⟨hx, hb, hml, hown, hts⟩ := id S
  have hK := hG.1
  have hr := B.returns
  have hlocks := B.notSynchronized
  have htab := vx_table (x := yL_part) B (hts (.codeWith yL_part cL_part 5 (some .int) [(0, 10, 13, 13)]) (List.mem_of_getElem? (i := 0) rfl))
  subst hsz
  have hD := hD0.self (sz := s.heap.size)
  generalize hAe : va_A [(qX, .inr (8, [.ref qP, .ref qI, .ref qt, .ref qd, .ref qe, .ref qsp, .ref qrk, .ref qty])), (qt, .inr (7, [.ref ql, .ref qr, .ref qv, .ref qg, .int parts, .int limit])), (ql, .inl (g.2 0, 5, .inl len)), (qr, .inl (g.2 0, 5, .inl row)), (qv, .inl (g.2 0, 5, .inl vot)), (qo, .inl (g.2 3, 1, .inr (.inl fo)))] s.heap.size = A at hD hX ⊢
  have hA : ∀ q : Nat, s.heap.size ≤ q → A q := fun q h => by rw [← hAe]; exact Or.inr h
  have hS : va_S A s.heap s.heap [] := va_S.rf
  clear hD0 hAe
  have hl := lv_entry ([.ref qX, .int p1, .int p2, .ref qo]) (n := 5) (Nat.le_of_ble_eq_true rfl)
  rw [lg_entry_eq]
  generalize (lg_sl ([.ref qX, .int p1, .int p2, .ref qo]) ++ List.replicate (5 - (lg_sl ([.ref qX, .int p1, .int p2, .ref qo])).length) Slot.unset).toArray = ls at hl ⊢
  have hl : lv_has ls 5 [(0, .ref qX), (1, .int p1), (2, .int p2), (3, .ref qo)] := hl
  refine lv_aload_n hx hb dL_part_0 rfl (lv_at hl 3 rfl) ?_
  refine lv_iconst (v := (0 : Int32)) hx hb dL_part_1 (by decide) ?_
  refine lv_aload_n hx hb dL_part_2 rfl (lv_at hl 0 rfl) ?_
  refine lv_iload_n hx hb dL_part_3 rfl (lv_at hl 1 rfl) ?_
  refine lv_iload_n hx hb dL_part_4 rfl (lv_at hl 2 rfl) ?_
  have hPc := hP.sub (ws' := [(qX, .inr (8, [.ref qP, .ref qI, .ref qt, .ref qd, .ref qe, .ref qsp, .ref qrk, .ref qty])), (qt, .inr (7, [.ref ql, .ref qr, .ref qv, .ref qg, .int parts, .int limit])), (ql, .inl (g.2 0, 5, .inl len)), (qr, .inl (g.2 0, 5, .inl row)), (qv, .inl (g.2 0, 5, .inl vot))]) [0, 1, 2, 3, 4] rfl
  have hDc := hD.sub (ws' := [(qX, .inr (8, [.ref qP, .ref qI, .ref qt, .ref qd, .ref qe, .ref qsp, .ref qrk, .ref qty])), (qt, .inr (7, [.ref ql, .ref qr, .ref qv, .ref qg, .int parts, .int limit])), (ql, .inl (g.2 0, 5, .inl len)), (qr, .inl (g.2 0, 5, .inl row)), (qv, .inl (g.2 0, 5, .inl vot))]) [0, 1, 2, 3, 4] (by decide) rfl
  have hFc := va_free (wc := [(qX, .inr (8, [.ref qP, .ref qI, .ref qt, .ref qd, .ref qe, .ref qsp, .ref qrk, .ref qty])), (qt, .inr (7, [.ref ql, .ref qr, .ref qv, .ref qg, .int parts, .int limit])), (ql, .inl (g.2 0, 5, .inl len)), (qr, .inl (g.2 0, 5, .inl row)), (qv, .inl (g.2 0, 5, .inl vot))]) hD hS hA [0, 1, 2, 3, 4] rfl
  refine vx_calli (vx_runV (As := [.int p1, .int p2]) (rest := [.int (0 : Int32), .ref qo]) S (wX8_part l g qX qP qI qt qd qe qsp qrk qty ql qr qv qg s.heap.size parts limit len row vot p1 p2 z hst hv) (cwV 2 hts gL_part_X8_part rfl rfl rfl (by decide +kernel) ⟨(Nat.le_of_ble_eq_true rfl), (Nat.le_of_ble_eq_true rfl)⟩) ⟨blindRWX, va_recv hK hP (ci := 8) (q0 := 0) rfl rfl, fun U hU hW => ⟨rfl, by rw [hU], by rw [hU]; exact hPc, hG.warm hW, hDc.weaken (fun _ _ _ _ => trivial), by rw [hU]; exact ((hX.kept hS.2.1).narrow hFc).warm hW⟩⟩ rfl rfl hl.1 rfl (lv_room (Nat.le_of_ble_eq_true rfl)) dL_part_5 ⟨(Nat.le_of_ble_eq_true rfl), (Nat.le_of_ble_eq_true rfl)⟩) hS (fun q _ h => hFc q h) hFc (fun q _ h => hFc q h) (fun E ce q9 u t H1 locs ht hvm hw hB hz1 hk1 hS hce hcv hcl => ?_) (fun r u t H1 locs ht hvm hw hB hz1 hk1 hS => ?_)
  · obtain ⟨rfl, hP1, hD1⟩ := hB
    rw [ht] at hP1
    obtain ⟨hP, hD⟩ := va_join (wr := [(qo, .inl (g.2 3, 1, .inr (.inl fo)))]) (w1 := [(qX, .inr (8, [.ref qP, .ref qI, .ref qt, .ref qd, .ref qe, .ref qsp, .ref qrk, .ref qty])), (qt, .inr (7, [.ref ql, .ref qr, .ref qv, .ref qg, .int parts, .int limit])), (ql, .inl (g.2 0, 5, .inl len)), (qr, .inl (g.2 0, 5, .inl row)), (qv, .inl (g.2 0, 5, .inl vot))]) hP hD [0, 1, 2, 3, 4] [5] rfl rfl (by decide) (by decide) hk1 hFc hP1 hD1
    refine vx_catch (own := RL) (name := "java/util/NoSuchElementException") hown [] ⟨0, 10, 13, 13⟩ [] (by rw [htab]; rfl) (fun z hz => nomatch hz) (by decide) (by decide) (hts (.classLink RL 13 "java/util/NoSuchElementException") (List.mem_of_getElem? (i := 1) rfl)) (va_Nw.use rfl hX.2.2.2.2.1) hce hcv hcl ?_
    refine W.eq (g2 := F0 m 13 ls [.ref q9]) rfl ?_
    refine lv_astore (lv' := [(4, .ref q9), (0, .ref qX), (1, .int p1), (2, .int p2), (3, .ref qo)]) hx hb dL_part_13 hl (by decide) rfl (fun ls hl => ?_)
    refine lv_iconst (v := (1 : Int32)) hx hb dL_part_15 (by decide) ?_
    refine W.widen (k := 1) (n := 6) (Nat.le_of_ble_eq_true rfl) (Nat.le_of_ble_eq_true rfl) ?_
    have hP9 := hP.sub (ws' := [(qX, .inr (8, [.ref qP, .ref qI, .ref qt, .ref qd, .ref qe, .ref qsp, .ref qrk, .ref qty])), (qt, .inr (7, [.ref ql, .ref qr, .ref qv, .ref qg, .int parts, .int limit])), (ql, .inl (g.2 0, 5, .inl len)), (qr, .inl (g.2 0, 5, .inl row)), (qv, .inl (g.2 0, 5, .inl vot)), (qo, .inl (g.2 3, 1, .inr (.inl fo)))]) [1, 2, 3, 4, 5, 0] rfl
    have hD9 := hD.sub (ws' := [(qX, .inr (8, [.ref qP, .ref qI, .ref qt, .ref qd, .ref qe, .ref qsp, .ref qrk, .ref qty])), (qt, .inr (7, [.ref ql, .ref qr, .ref qv, .ref qg, .int parts, .int limit])), (ql, .inl (g.2 0, 5, .inl len)), (qr, .inl (g.2 0, 5, .inl row)), (qv, .inl (g.2 0, 5, .inl vot)), (qo, .inl (g.2 3, 1, .inr (.inl fo)))]) [1, 2, 3, 4, 5, 0] (by decide) rfl
    exact W.iret (v := (1 : Int32)) hx hb hr (fun t ht hW => ⟨⟨_, fo, rfl, Or.inr ⟨rfl, hw⟩, by rw [ht]; exact hP9, hD9⟩, hS.F ht⟩) hS.2.2 dL_part_16
  · obtain ⟨hP1, hD1⟩ := hB
    rw [ht] at hP1
    obtain ⟨hP, hD⟩ := va_join (wr := [(qo, .inl (g.2 3, 1, .inr (.inl fo)))]) (w1 := [(qX, .inr (8, [.ref qP, .ref qI, .ref qt, .ref qd, .ref qe, .ref qsp, .ref qrk, .ref qty])), (qt, .inr (7, [.ref ql, .ref qr, .ref qv, .ref qg, .int parts, .int limit])), (ql, .inl (g.2 0, 5, .inl len)), (qr, .inl (g.2 0, 5, .inl row)), (qv, .inl (g.2 0, 5, .inl vot))]) hP hD [0, 1, 2, 3, 4] [5] rfl rfl (by decide) (by decide) hk1 hFc hP1 hD1
    clear hP1 hD1 hPc hDc hFc hk1
    generalize H1 = H at hP hS ⊢
    have hP : va_P g.1 vwCl [(qo, .inl (g.2 3, 1, .inr (.inl fo))), (qX, .inr (8, [.ref qP, .ref qI, .ref qt, .ref qd, .ref qe, .ref qsp, .ref qrk, .ref qty])), (qt, .inr (7, [.ref ql, .ref qr, .ref qv, .ref qg, .int parts, .int limit])), (ql, .inl (g.2 0, 5, .inl len)), (qr, .inl (g.2 0, 5, .inl row)), (qv, .inl (g.2 0, 5, .inl vot))] H := hP
    have hD : va_D A [(qo, .inl (g.2 3, 1, .inr (.inl fo))), (qX, .inr (8, [.ref qP, .ref qI, .ref qt, .ref qd, .ref qe, .ref qsp, .ref qrk, .ref qty])), (qt, .inr (7, [.ref ql, .ref qr, .ref qv, .ref qg, .int parts, .int limit])), (ql, .inl (g.2 0, 5, .inl len)), (qr, .inl (g.2 0, 5, .inl row)), (qv, .inl (g.2 0, 5, .inl vot))] := hD
    refine lv_i2l (v := (r.toInt64)) hx hb dL_part_8 rfl ?_
    refine va_last hx hb hK hP hD hS 0 3 rfl rfl (by unfold vp_in; decide) dL_part_9 (fun H locs hP hD hS => ?_)
    have hP : va_P g.1 vwCl [(qo, .inl (g.2 3, 1, .inr (.inl (vp_updL fo 0 (r.toInt64))))), (qX, .inr (8, [.ref qP, .ref qI, .ref qt, .ref qd, .ref qe, .ref qsp, .ref qrk, .ref qty])), (qt, .inr (7, [.ref ql, .ref qr, .ref qv, .ref qg, .int parts, .int limit])), (ql, .inl (g.2 0, 5, .inl len)), (qr, .inl (g.2 0, 5, .inl row)), (qv, .inl (g.2 0, 5, .inl vot))] H := hP
    have hD : va_D A [(qo, .inl (g.2 3, 1, .inr (.inl (vp_updL fo 0 (r.toInt64))))), (qX, .inr (8, [.ref qP, .ref qI, .ref qt, .ref qd, .ref qe, .ref qsp, .ref qrk, .ref qty])), (qt, .inr (7, [.ref ql, .ref qr, .ref qv, .ref qg, .int parts, .int limit])), (ql, .inl (g.2 0, 5, .inl len)), (qr, .inl (g.2 0, 5, .inl row)), (qv, .inl (g.2 0, 5, .inl vot))] := hD
    refine lv_goto (tgt := 17) hx hb dL_part_10 (by decide) ?_
    refine lv_iconst (v := (0 : Int32)) hx hb dL_part_17 (by decide) ?_
    refine W.widen (k := 1) (n := 6) (Nat.le_of_ble_eq_true rfl) (Nat.le_of_ble_eq_true rfl) ?_
    have hP9 := hP.sub (ws' := [(qX, .inr (8, [.ref qP, .ref qI, .ref qt, .ref qd, .ref qe, .ref qsp, .ref qrk, .ref qty])), (qt, .inr (7, [.ref ql, .ref qr, .ref qv, .ref qg, .int parts, .int limit])), (ql, .inl (g.2 0, 5, .inl len)), (qr, .inl (g.2 0, 5, .inl row)), (qv, .inl (g.2 0, 5, .inl vot)), (qo, .inl (g.2 3, 1, .inr (.inl (vp_updL fo 0 (r.toInt64)))))]) [1, 2, 3, 4, 5, 0] rfl
    have hD9 := hD.sub (ws' := [(qX, .inr (8, [.ref qP, .ref qI, .ref qt, .ref qd, .ref qe, .ref qsp, .ref qrk, .ref qty])), (qt, .inr (7, [.ref ql, .ref qr, .ref qv, .ref qg, .int parts, .int limit])), (ql, .inl (g.2 0, 5, .inl len)), (qr, .inl (g.2 0, 5, .inl row)), (qv, .inl (g.2 0, 5, .inl vot)), (qo, .inl (g.2 3, 1, .inr (.inl (vp_updL fo 0 (r.toInt64)))))]) [1, 2, 3, 4, 5, 0] (by decide) rfl
    exact W.iret (v := (0 : Int32)) hx hb hr (fun t ht hW => ⟨⟨_, (vp_updL fo 0 r.toInt64), rfl, Or.inl ⟨rfl, r, hw, rfl⟩, by rw [ht]; exact hP9, hD9⟩, hS.F ht⟩) hS.2.2 dL_part_18
