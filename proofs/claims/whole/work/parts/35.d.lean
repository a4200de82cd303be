set_option maxHeartbeats 8000000 in
set_option maxRecDepth 100000 in
theorem whole_start {p : Program} {e : Env} {s : State} {m : MethodId} {below : List Frame} {meth : Method} {c : Code} (l : Launch) (hflags : l.flags = flags0) {b L : Nat} {xs : Nat → Int32} (hL : L ≤ 2560) (C0 : lw_At p s m meth c b L xs) : W p l e room_1 s m #[Value.ref b] below meth c s.heap [] 0 0 (lw_Z below #[Value.ref b] s) (entryFrame m ([Value.ref b] : List Value).toArray 7) := by
  obtain ⟨hx, hb, hr, hml, hown, hts, hXs, hbl, hlocks, hgv⟩ := id C0
  have htl : ∀ w ∈ wsLw, w.before #[Value.ref b] s = true := fun w h => hts w (wsLw_in w h)
  have hf : ∀ w ∈ fW, w.before #[Value.ref b] s = true := flat_of_before _ hgv
  obtain ⟨g, hG⟩ := lw_GK hts
  obtain ⟨v, hE⟩ := lw_GE hts hf
  have hO := lw_GO hts
  obtain ⟨z, hX⟩ := lw_GX hts hf
  have hst : l.stackTraces = false := by unfold Launch.stackTraces; rw [hflags]; decide
  have hK := hG.1
  have C : LwC p l s m meth c g v z b L xs := ⟨hx, hb, hr, hml, hown, htl, hXs, hbl, hlocks, hG, hE, hO, hX, hst⟩
  have S : CallFix p m c cL_law 7 s #[Value.ref b] wsLw RL := ⟨hx, hb, hml, hown, htl⟩
  have hA : ∀ q : Nat, s.heap.size ≤ q → lwA s q := fun _ h => h
  have hS : va_S (lwA s) s.heap s.heap [] := va_S.rf
  have hP : va_P g.1 vwCl [] s.heap := fun k q h => by simp at h
  have hD : va_D (lwA s) [] := ⟨fun i j p q h => by simp at h, fun k q h => by simp at h⟩
  have hl := lv_entry ([.ref b]) (n := 7) (Nat.le_of_ble_eq_true rfl)
  rw [lg_entry_eq]
  generalize (lg_sl ([.ref b]) ++ List.replicate (7 - (lg_sl ([.ref b])).length) Slot.unset).toArray = ls at hl ⊢
  have hl : lv_has ls 7 [(0, .ref b)] := hl
  refine va_new (ci := 8) (fs := [.null, .null, .null, .null, .null, .null, .null, .null]) (C := RX8) (T := TX8) (N := 8) hx hb htl inlX8 tyX8 tyX8_ok hown (htl (.classLink RL 8 RX8) (List.mem_of_getElem? (i := 0) (by decide +kernel))) (htl (.instantiable RX8 8) (List.mem_of_getElem? (i := 1) (by decide +kernel))) (htl (.initialized RX8) (List.mem_of_getElem? (i := 2) (by decide +kernel))) hK hP hD hS hA rfl (fun j hj => by rcases (show j = 0 ∨ j = 1 ∨ j = 2 ∨ j = 3 ∨ j = 4 ∨ j = 5 ∨ j = 6 ∨ j = 7 by omega) with rfl | rfl | rfl | rfl | rfl | rfl | rfl | rfl <;> rfl) (Nat.le_of_ble_eq_true rfl) (Nat.le_of_ble_eq_true rfl) dL_law_0 (fun qX H hP hD hS => ?_)
  have hP : va_P g.1 vwCl ([(qX, .inr (8, [.null, .null, .null, .null, .null, .null, .null, .null]))] ++ []) H := hP
  have hD : va_D (lwA s) ([(qX, .inr (8, [.null, .null, .null, .null, .null, .null, .null, .null]))] ++ []) := hD
  refine W.widen (k := 1) (n := 8) (Nat.le_of_ble_eq_true rfl) (Nat.le_of_ble_eq_true rfl) ?_
  refine lv_dup hx hb dL_law_3 rfl ?_
  have hFc := lw_free hD hS hA
  refine va_callv (va_runI (As := []) (rest := [.ref qX]) S (uX_init l g qX H.size) (cwI 0 htl gL_law_X8_init rfl rfl rfl (htl (.initialized RX8) (List.mem_of_getElem? (i := 2) (by decide +kernel))) (htl (.methodLink RL 15 yX8_init) (List.mem_of_getElem? (i := 8) (by decide +kernel))) (htl (.instanceMethod yX8_init) (List.mem_of_getElem? (i := 9) (by decide +kernel))) rfl (by decide +kernel) ⟨(Nat.le_of_ble_eq_true rfl), (Nat.le_of_ble_eq_true rfl)⟩) ⟨blindRWO, fun U hU hW => ⟨rfl, by rw [hU], by rw [hU]; exact va_P_l hP, hG.warm hW, (va_D_l hD).weaken (fun _ _ _ _ => trivial), hO.warm hW⟩⟩ rfl rfl hl.1 rfl (lv_room (Nat.le_of_ble_eq_true rfl)) dL_law_4 ⟨(Nat.le_of_ble_eq_true rfl), (Nat.le_of_ble_eq_true rfl)⟩) hS (fun q _ h => hFc q h) hFc (fun u t H1 locs ht hvm hw hB hz1 hk1 hS => ?_)
  obtain ⟨hP1, hD1⟩ := hB
  rw [ht] at hP1
  obtain ⟨hP, hD⟩ := jn hP hD hk1 hFc hP1 hD1
  have hXw : XAt g qX sZ u := hw
  generalize hwx : u ++ ([] : va_W) = wx0 at hP hD
  have hwx : u = wx0 := by rw [← hwx, List.append_nil]
  subst hwx
  generalize H1 = H at hP hS ⊢
  refine W.widen (k := 58) (n := 1328) (Nat.le_of_ble_eq_true rfl) (Nat.le_of_ble_eq_true rfl) ?_
  refine lv_astore_n (lv' := [(1, .ref qX), (0, .ref b)]) hx hb dL_law_7 rfl hl (by decide) rfl (fun ls hl => ?_)
  refine va_new (ci := 9) (fs := [.int (0 : Int32), .null, .null, .null, .int (0 : Int32), .int (0 : Int32), .int (0 : Int32), .int (0 : Int32), .int (0 : Int32), .int (0 : Int32), .long (0 : Int64), .int (0 : Int32), .int (0 : Int32), .int (0 : Int32), .null, .int (0 : Int32), .null, .null, .null, .int (0 : Int32), .null, .int (0 : Int32), .int (0 : Int32), .int (0 : Int32), .int (0 : Int32), .null, .null, .null, .long (0 : Int64)]) (C := RX9) (T := TX9) (N := 29) hx hb htl inlX9 tyX9 tyX9_ok hown (htl (.classLink RL 16 RX9) (List.mem_of_getElem? (i := 3) (by decide +kernel))) (htl (.instantiable RX9 29) (List.mem_of_getElem? (i := 4) (by decide +kernel))) (htl (.initialized RX9) (List.mem_of_getElem? (i := 5) (by decide +kernel))) hK hP hD hS hA rfl (fun j hj => by rcases (show j = 0 ∨ j = 1 ∨ j = 2 ∨ j = 3 ∨ j = 4 ∨ j = 5 ∨ j = 6 ∨ j = 7 ∨ j = 8 ∨ j = 9 ∨ j = 10 ∨ j = 11 ∨ j = 12 ∨ j = 13 ∨ j = 14 ∨ j = 15 ∨ j = 16 ∨ j = 17 ∨ j = 18 ∨ j = 19 ∨ j = 20 ∨ j = 21 ∨ j = 22 ∨ j = 23 ∨ j = 24 ∨ j = 25 ∨ j = 26 ∨ j = 27 ∨ j = 28 by omega) with rfl | rfl | rfl | rfl | rfl | rfl | rfl | rfl | rfl | rfl | rfl | rfl | rfl | rfl | rfl | rfl | rfl | rfl | rfl | rfl | rfl | rfl | rfl | rfl | rfl | rfl | rfl | rfl | rfl <;> rfl) (Nat.le_of_ble_eq_true rfl) (Nat.le_of_ble_eq_true rfl) dL_law_8 (fun qM H hP hD hS => ?_)
  have hP : va_P g.1 vwCl ([(qM, .inr (9, [.int (0 : Int32), .null, .null, .null, .int (0 : Int32), .int (0 : Int32), .int (0 : Int32), .int (0 : Int32), .int (0 : Int32), .int (0 : Int32), .long (0 : Int64), .int (0 : Int32), .int (0 : Int32), .int (0 : Int32), .null, .int (0 : Int32), .null, .null, .null, .int (0 : Int32), .null, .int (0 : Int32), .int (0 : Int32), .int (0 : Int32), .int (0 : Int32), .null, .null, .null, .long (0 : Int64)]))] ++ u) H := va_P_rot (X := []) hP
  have hD : va_D (lwA s) ([(qM, .inr (9, [.int (0 : Int32), .null, .null, .null, .int (0 : Int32), .int (0 : Int32), .int (0 : Int32), .int (0 : Int32), .int (0 : Int32), .int (0 : Int32), .long (0 : Int64), .int (0 : Int32), .int (0 : Int32), .int (0 : Int32), .null, .int (0 : Int32), .null, .null, .null, .int (0 : Int32), .null, .int (0 : Int32), .int (0 : Int32), .int (0 : Int32), .int (0 : Int32), .null, .null, .null, .long (0 : Int64)]))] ++ u) := va_D_rot (X := []) hD
  refine W.widen (k := 59) (n := 1357) (Nat.le_of_ble_eq_true rfl) (Nat.le_of_ble_eq_true rfl) ?_
  refine lv_dup hx hb dL_law_11 rfl ?_
  have hFc := lw_free hD hS hA
  refine va_callv (va_runI (As := []) (rest := [.ref qM]) S (uM_init l g qM H.size) (cwI 0 htl gL_law_X9_init rfl rfl rfl (htl (.initialized RX9) (List.mem_of_getElem? (i := 5) (by decide +kernel))) (htl (.methodLink RL 18 yX9_init) (List.mem_of_getElem? (i := 114) (by decide +kernel))) (htl (.instanceMethod yX9_init) (List.mem_of_getElem? (i := 115) (by decide +kernel))) rfl (by decide +kernel) ⟨(Nat.le_of_ble_eq_true rfl), (Nat.le_of_ble_eq_true rfl)⟩) ⟨blindRW, fun U hU hW => ⟨rfl, by rw [hU], by rw [hU]; exact va_P_l hP, hG.warm hW, (va_D_l hD).weaken (fun _ _ _ _ => trivial)⟩⟩ rfl rfl hl.1 rfl (lv_room (Nat.le_of_ble_eq_true rfl)) dL_law_12 ⟨(Nat.le_of_ble_eq_true rfl), (Nat.le_of_ble_eq_true rfl)⟩) hS (fun q _ h => hFc q h) hFc (fun u2 t H1 locs ht hvm hw hB hz1 hk1 hS => ?_)
  obtain ⟨hP1, hD1⟩ := hB
  rw [ht] at hP1
  obtain ⟨hP, hD⟩ := jn hP hD hk1 hFc hP1 hD1
  have hMw : MAt g qM sZ u2 := hw
  generalize H1 = H at hP hS ⊢
  have hP : va_P g.1 vwCl (u ++ u2) H := va_P_rot (X := []) hP
  have hD : va_D (lwA s) (u ++ u2) := va_D_rot (X := []) hD
  refine W.widen (k := 70) (n := 14131) (Nat.le_of_ble_eq_true rfl) (Nat.le_of_ble_eq_true rfl) ?_
  refine lv_astore_n (lv' := [(2, .ref qM), (1, .ref qX), (0, .ref b)]) hx hb dL_law_15 rfl hl (by decide) rfl (fun ls hl => ?_)
  refine lv_iconst (v := (1 : Int32)) hx hb dL_law_16 (by decide) ?_
  refine vq_newJ (N' := 1) hx hb (htl (.arrayClass .long) (List.mem_of_getElem? (i := 6) (by decide +kernel))) hK hP hD hS hA (by decide) (by decide) (by decide) (Nat.le_of_ble_eq_true rfl) (Nat.le_of_ble_eq_true rfl) dL_law_17 (fun qo H hP hD hS => ?_)
  have hP : va_P g.1 vwCl (u ++ (u2 ++ [ouC g qo (fun _ => 0)])) H := by rw [← List.append_assoc]; exact hP
  have hD : va_D (lwA s) (u ++ (u2 ++ [ouC g qo (fun _ => 0)])) := by rw [← List.append_assoc]; exact hD
  refine lv_astore_n (lv' := [(3, .ref qo), (2, .ref qM), (1, .ref qX), (0, .ref b)]) hx hb dL_law_19 rfl hl (by decide) rfl (fun ls hl => ?_)
  refine lv_iconst (v := (0 : Int32)) hx hb dL_law_20 (by decide) ?_
  refine lv_istore (lv' := [(4, .int (0 : Int32)), (3, .ref qo), (2, .ref qM), (1, .ref qX), (0, .ref b)]) hx hb dL_law_21 hl (by decide) rfl (fun ls hl => ?_)
  refine W.widen (k := 71) (n := 14132) (Nat.le_of_ble_eq_true rfl) (Nat.le_of_ble_eq_true rfl) ?_
  exact lw_loop C hL 512 (0 : Int32) 71 14132 (by decide) (by rw [z0]; omega) (by rw [z0]; omega) (by omega) (by omega) sZ u u2 (fun _ => 0) H _ ls ⟨⟨by decide, by decide⟩, fun k P h => nomatch (show (none : Option Pg) = some P from h)⟩ hXw hMw hP hD hS (lv_sub hl [4, 3, 2, 1, 0] rfl)
