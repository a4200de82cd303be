theorem dX8_byteOf_0 : decode cX8_byteOf 0 = .ok (.lload_n 0, 1) := by decide +kernel
theorem dX8_byteOf_1 : decode cX8_byteOf 1 = .ok (.bipush 56, 2) := by decide +kernel
theorem dX8_byteOf_3 : decode cX8_byteOf 3 = .ok (.bipush 8, 2) := by decide +kernel
theorem dX8_byteOf_5 : decode cX8_byteOf 5 = .ok (.iload_n 2, 1) := by decide +kernel
theorem dX8_byteOf_6 : decode cX8_byteOf 6 = .ok (.imul, 1) := by decide +kernel
theorem dX8_byteOf_7 : decode cX8_byteOf 7 = .ok (.isub, 1) := by decide +kernel
theorem dX8_byteOf_8 : decode cX8_byteOf 8 = .ok (.lushr, 1) := by decide +kernel
theorem dX8_byteOf_9 : decode cX8_byteOf 9 = .ok (.l2i, 1) := by decide +kernel
theorem dX8_byteOf_10 : decode cX8_byteOf 10 = .ok (.i2b, 1) := by decide +kernel
theorem dX8_byteOf_11 : decode cX8_byteOf 11 = .ok (.ireturn, 1) := by decide +kernel
abbrev rmX8_byteOf : Room := { frames := 0, cells := 0, slots := 0, locals := 0 }
def vX8_byteOf (p1 : Int64) (p2 : Int32) (Q : Int32 → Prop) : Prop := (narrow .byte (.int ((((p1.toUInt64 >>> (((56 : Int32) - ((8 : Int32) * p2)).toInt64.toUInt64 &&& Int64.toUInt64 63)).toInt64).toInt32).toInt8.toInt32)) = .int ((((p1.toUInt64 >>> (((56 : Int32) - ((8 : Int32) * p2)).toInt64.toUInt64 &&& Int64.toUInt64 63)).toInt64).toInt32).toInt8.toInt32) ∧ Q ((((p1.toUInt64 >>> (((56 : Int32) - ((8 : Int32) * p2)).toInt64.toUInt64 &&& Int64.toUInt64 63)).toInt64).toInt32).toInt8.toInt32))
set_option maxHeartbeats 4000000 in
set_option maxRecDepth 100000 in
theorem wX8_byteOf (l : Launch) (g : GP)  (p1 : Int64) (p2 : Int32) {Q : Int32 → Prop} (hv : vX8_byteOf p1 p2 Q) : Met l yX8_byteOf wsX8_byteOf rmX8_byteOf (va_Pc [.long p1, .int p2] (fun U => va_P g.1 vwCl [] U.heap ∧ GK g U)) (vp_Si Q) 0 0 (fun _ => False) := by
  refine Met.ofW (cc := cX8_byteOf) (maxL := 3) (ret := (some .byte)) (by decide) rfl ?_
  intro p e s m args below meth c s₁ B hml hv'
  obtain ⟨rfl, hP, hG⟩ := hv'
  have S : CallFix p m c cX8_byteOf 3 s _ wsX8_byteOf RX8 := ⟨B.exec, B.bytes, hml, findClass_of_methodNamed B.named, atoms_spec (ws := wsX8_byteOf) B.pre⟩
  obtain ⟨hx, hb, hml, hown, hts⟩ := id S
  have hK := hG.1
  have hr := B.returns
  have hlocks := B.notSynchronized
  have hl := lv_entry ([.long p1, .int p2]) (n := 3) (Nat.le_of_ble_eq_true rfl)
  rw [lg_entry_eq]
  generalize (lg_sl ([.long p1, .int p2]) ++ List.replicate (3 - (lg_sl ([.long p1, .int p2])).length) Slot.unset).toArray = ls at hl ⊢
  have hl : lv_has ls 3 [(0, .long p1), (2, .int p2)] := hl
  unfold vX8_byteOf at hv
  refine lv_lload_n hx hb dX8_byteOf_0 rfl (lv_at hl 0 rfl) ?_
  refine lv_bipush (v := (56 : Int32)) hx hb dX8_byteOf_1 (by decide) ?_
  refine lv_bipush (v := (8 : Int32)) hx hb dX8_byteOf_3 (by decide) ?_
  refine lv_iload_n hx hb dX8_byteOf_5 rfl (lv_at hl 1 rfl) ?_
  refine lv_imul hx hb dX8_byteOf_6 ?_
  refine lv_isub hx hb dX8_byteOf_7 ?_
  refine lv_lushr (v := ((p1.toUInt64 >>> (((56 : Int32) - ((8 : Int32) * p2)).toInt64.toUInt64 &&& Int64.toUInt64 63)).toInt64)) hx hb dX8_byteOf_8 rfl ?_
  refine lv_l2i (v := (((p1.toUInt64 >>> (((56 : Int32) - ((8 : Int32) * p2)).toInt64.toUInt64 &&& Int64.toUInt64 63)).toInt64).toInt32)) hx hb dX8_byteOf_9 rfl ?_
  refine lv_i2b (v := ((((p1.toUInt64 >>> (((56 : Int32) - ((8 : Int32) * p2)).toInt64.toUInt64 &&& Int64.toUInt64 63)).toInt64).toInt32).toInt8.toInt32)) hx hb dX8_byteOf_10 rfl ?_
  obtain ⟨hn, hv⟩ := hv
  exact W.zret (v := ((((p1.toUInt64 >>> (((56 : Int32) - ((8 : Int32) * p2)).toInt64.toUInt64 &&& Int64.toUInt64 63)).toInt64).toInt32).toInt8.toInt32)) (ty := .byte) hx hb hr hn (fun t ht hW => ⟨_, rfl, hv, ht⟩) (fun _ h => by cases h) dX8_byteOf_11
/-- the k-th of eight bytes, as it is stored -/
def bB (x : Int64) (k : Nat) : Int32 := ((((x.toUInt64 >>> (((56 : Int32) - ((8 : Int32) * nI k)).toInt64.toUInt64 &&& Int64.toUInt64 63)).toInt64).toInt32).toInt8.toInt32)
abbrev preX8_byteOf (_ : Int64) (p2 : Int32) : Prop := 0 ≤ p2.toInt
abbrev postX8_byteOf (p1 : Int64) (p2 r : Int32) : Prop := r = bB p1 p2.toInt.toNat
theorem sX8_byteOf (p1 : Int64) (p2 : Int32) (H : preX8_byteOf p1 p2) : vX8_byteOf p1 p2 (postX8_byteOf p1 p2) := by
  have e : p2 = nI p2.toInt.toNat := q_of H
  have n8 : ∀ x : Int8, narrow .byte (.int x.toInt32) = .int x.toInt32 := fun x => by
    show Value.int x.toInt32.toInt8.toInt32 = _
    rw [Int8.toInt8_toInt32]
  refine ⟨n8 _, ?_⟩
  show _ = bB p1 p2.toInt.toNat
  unfold bB
  rw [← e]
set_option maxRecDepth 20000 in
theorem ggX8_write_X8_byteOf : GoodIn wsX8_write wsX8_byteOf := goodIn_r _ [7] (by decide +kernel) (by decide +kernel)
set_option maxRecDepth 20000 in
theorem gX8_write_X8_byteOf : GoodIn wsX8_write (va_wsS RX8 70 yX8_byteOf wsX8_byteOf) := goodIn_app (goodIn_of _ (by decide +kernel)) ggX8_write_X8_byteOf
theorem dX8_write_0 : decode cX8_write 0 = .ok (.iconst 0, 1) := by decide +kernel
theorem dX8_write_1 : decode cX8_write 1 = .ok (.istore_n 3, 1) := by decide +kernel
theorem dX8_write_2 : decode cX8_write 2 = .ok (.iload_n 3, 1) := by decide +kernel
theorem dX8_write_3 : decode cX8_write 3 = .ok (.bipush 8, 2) := by decide +kernel
theorem dX8_write_5 : decode cX8_write 5 = .ok (.if_icmp .ge 17, 3) := by decide +kernel
theorem dX8_write_8 : decode cX8_write 8 = .ok (.lload_n 1, 1) := by decide +kernel
theorem dX8_write_9 : decode cX8_write 9 = .ok (.iload_n 3, 1) := by decide +kernel
theorem dX8_write_10 : decode cX8_write 10 = .ok (.invokestatic 70, 3) := by decide +kernel
theorem dX8_write_13 : decode cX8_write 13 = .ok (.ifCond .eq 9, 3) := by decide +kernel
theorem dX8_write_16 : decode cX8_write 16 = .ok (.iinc 3 1, 3) := by decide +kernel
theorem dX8_write_19 : decode cX8_write 19 = .ok (.goto (-17), 3) := by decide +kernel
theorem dX8_write_22 : decode cX8_write 22 = .ok (.aload_n 0, 1) := by decide +kernel
theorem dX8_write_23 : decode cX8_write 23 = .ok (.getfield 10, 3) := by decide +kernel
theorem dX8_write_26 : decode cX8_write 26 = .ok (.getfield 74, 3) := by decide +kernel
theorem dX8_write_29 : decode cX8_write 29 = .ok (.iload_n 3, 1) := by decide +kernel
theorem dX8_write_30 : decode cX8_write 30 = .ok (.iadd, 1) := by decide +kernel
theorem dX8_write_31 : decode cX8_write 31 = .ok (.sipush 500, 3) := by decide +kernel
theorem dX8_write_34 : decode cX8_write 34 = .ok (.if_icmp .le 5, 3) := by decide +kernel
theorem dX8_write_37 : decode cX8_write 37 = .ok (.iconst (-1), 1) := by decide +kernel
theorem dX8_write_38 : decode cX8_write 38 = .ok (.ireturn, 1) := by decide +kernel
theorem dX8_write_39 : decode cX8_write 39 = .ok (.iconst 0, 1) := by decide +kernel
theorem dX8_write_40 : decode cX8_write 40 = .ok (.istore 4, 2) := by decide +kernel
theorem dX8_write_42 : decode cX8_write 42 = .ok (.iload 4, 2) := by decide +kernel
theorem dX8_write_44 : decode cX8_write 44 = .ok (.iload_n 3, 1) := by decide +kernel
theorem dX8_write_45 : decode cX8_write 45 = .ok (.if_icmp .ge 33, 3) := by decide +kernel
theorem dX8_write_48 : decode cX8_write 48 = .ok (.aload_n 0, 1) := by decide +kernel
theorem dX8_write_49 : decode cX8_write 49 = .ok (.getfield 10, 3) := by decide +kernel
theorem dX8_write_52 : decode cX8_write 52 = .ok (.getfield 27, 3) := by decide +kernel
theorem dX8_write_55 : decode cX8_write 55 = .ok (.aload_n 0, 1) := by decide +kernel
theorem dX8_write_56 : decode cX8_write 56 = .ok (.getfield 10, 3) := by decide +kernel
theorem dX8_write_59 : decode cX8_write 59 = .ok (.getfield 74, 3) := by decide +kernel
theorem dX8_write_62 : decode cX8_write 62 = .ok (.iload 4, 2) := by decide +kernel
theorem dX8_write_64 : decode cX8_write 64 = .ok (.iadd, 1) := by decide +kernel
theorem dX8_write_65 : decode cX8_write 65 = .ok (.lload_n 1, 1) := by decide +kernel
theorem dX8_write_66 : decode cX8_write 66 = .ok (.iload 4, 2) := by decide +kernel
theorem dX8_write_68 : decode cX8_write 68 = .ok (.invokestatic 70, 3) := by decide +kernel
theorem dX8_write_71 : decode cX8_write 71 = .ok (.bastore, 1) := by decide +kernel
theorem dX8_write_72 : decode cX8_write 72 = .ok (.iinc 4 1, 3) := by decide +kernel
theorem dX8_write_75 : decode cX8_write 75 = .ok (.goto (-33), 3) := by decide +kernel
theorem dX8_write_78 : decode cX8_write 78 = .ok (.aload_n 0, 1) := by decide +kernel
theorem dX8_write_79 : decode cX8_write 79 = .ok (.getfield 10, 3) := by decide +kernel
theorem dX8_write_82 : decode cX8_write 82 = .ok (.dup, 1) := by decide +kernel
theorem dX8_write_83 : decode cX8_write 83 = .ok (.getfield 74, 3) := by decide +kernel
theorem dX8_write_86 : decode cX8_write 86 = .ok (.iload_n 3, 1) := by decide +kernel
theorem dX8_write_87 : decode cX8_write 87 = .ok (.iadd, 1) := by decide +kernel
theorem dX8_write_88 : decode cX8_write 88 = .ok (.putfield 74, 3) := by decide +kernel
theorem dX8_write_91 : decode cX8_write 91 = .ok (.aload_n 0, 1) := by decide +kernel
theorem dX8_write_92 : decode cX8_write 92 = .ok (.getfield 10, 3) := by decide +kernel
theorem dX8_write_95 : decode cX8_write 95 = .ok (.getfield 74, 3) := by decide +kernel
theorem dX8_write_98 : decode cX8_write 98 = .ok (.ireturn, 1) := by decide +kernel
abbrev rmX8_write : Room := { frames := 1, cells := 0, slots := 0, locals := 22 }
theorem inX8_write_2 : ∀ w ∈ wsX20, w ∈ wsX8_write := by decide +kernel
theorem inX8_write_8 : ∀ w ∈ wsX80, w ∈ wsX8_write := by decide +kernel
def vX8_write_c42 (flt : Int32) (plc : Int32) (p1 : Int64) (Q : Int32 → (Int32) → (Nat → Int32) → Prop) : Nat → Int32 → Int32 → Int32 → (Nat → Int32) → Prop
  | 0, _, _, _, _ => False
  | n + 1, x3, x4, byt, tx => ((x3 ≤ x4 → (Q (byt + x3) (byt + x3) tx)) ∧ (¬ x3 ≤ x4 → (preX8_byteOf p1 x4 ∧ (∀ r_68 : Int32, postX8_byteOf p1 x4 r_68 → (vp_in (byt + x4) 500 ∧ (vX8_write_c42 flt plc p1 Q n x3 (x4 + (1 : Int32)) byt (upd tx (byt + x4).toNatClampNeg (vp_nar .byte r_68))))))))
set_option maxHeartbeats 4000000 in
set_option maxRecDepth 100000 in
theorem kX8_write_c42 {p : Program} {l : Launch} {e : Env} {s : State} {m : MethodId} {args : Array Value} {below : List Frame} {meth : Method} {c : Code} {g : GP} {qX : Nat} {qP : Nat} {qI : Nat} {qt : Nat} {qd : Nat} {qe : Nat} {qsp : Nat} {qrk : Nat} {qty : Nat} {qtx : Nat} {flt : Int32} {plc : Int32} {p1 : Int64} {Q : Int32 → (Int32) → (Nat → Int32) → Prop} {A : Nat → Prop} (S : CallFix p m c cX8_write 5 s args wsX8_write RX8) (hr : meth.sig.returnType = (some .int)) (hlocks : meth.locks = false) (hG : GK g s) (hA : ∀ q : Nat, s.heap.size ≤ q → A q) : ∀ (n : Nat), ∀ (x3 : Int32) (x4 : Int32) (byt : Int32) (tx : Nat → Int32), vX8_write_c42 flt plc p1 Q n x3 x4 byt tx → ∀ (H : Heap) (locs : List Loc), va_P g.1 vwCl [(qX, .inr (8, [.ref qP, .ref qI, .ref qt, .ref qd, .ref qe, .ref qsp, .ref qrk, .ref qty])), (qP, .inr (2, [.ref qt, .ref qtx, .int byt, .int flt, .int plc])), (qtx, .inl (g.2 1, 500, .inl tx))] H → va_D A [(qX, .inr (8, [.ref qP, .ref qI, .ref qt, .ref qd, .ref qe, .ref qsp, .ref qrk, .ref qty])), (qP, .inr (2, [.ref qt, .ref qtx, .int byt, .int flt, .int plc])), (qtx, .inl (g.2 1, 500, .inl tx))] → va_S A s.heap H locs → ∀ (ls : Array Slot), lv_has ls 5 [(0, .ref qX), (1, .long p1), (3, .int x3), (4, .int x4)] → W p l e (headSpec wsX8_write rmX8_write).room s m args below meth c H locs 0 0 (MQ below (va_Qi (fun (r : Int32) (u : Int32 × (Nat → Int32)) => Q r u.1 u.2) (fun (u : Int32 × (Nat → Int32)) t => va_P g.1 vwCl [(qX, .inr (8, [.ref qP, .ref qI, .ref qt, .ref qd, .ref qe, .ref qsp, .ref qrk, .ref qty])), (qP, .inr (2, [.ref qt, .ref qtx, .int u.1, .int flt, .int plc])), (qtx, .inl (g.2 1, 500, .inl u.2))] t.heap ∧ va_D A [(qX, .inr (8, [.ref qP, .ref qI, .ref qt, .ref qd, .ref qe, .ref qsp, .ref qrk, .ref qty])), (qP, .inr (2, [.ref qt, .ref qtx, .int u.1, .int flt, .int plc])), (qtx, .inl (g.2 1, 500, .inl u.2))]) A) args s 0 0 A) (F0 m 42 ls []) := by
  obtain ⟨hx, hb, hml, hown, hts⟩ := id S
  have hK := hG.1
  intro n
  induction n with
  | zero => intro x3 x4 byt tx hv; exact hv.elim
  | succ n ih =>
    intro x3 x4 byt tx hv H locs hP hD hS ls hl
    refine lv_iload hx hb dX8_write_42 (lv_at hl 3 rfl) ?_
    refine lv_iload_n hx hb dX8_write_44 rfl (lv_at hl 2 rfl) ?_
    obtain ⟨hvt, hvf⟩ := hv
    refine lv_icmp_ge (tgt := 78) hx hb dX8_write_45 (by decide) (fun hc => ?_) (fun hc => ?_)
    · have hv := hvt hc
      refine lv_aload_n hx hb dX8_write_78 rfl (lv_at hl 0 rfl) ?_
      refine va_get (D := g.1) (ci := 8) (v := .ref qP) (C := RX8) (T := TX8) (N := 8) hx hb hts inX8_write_8 hown hK hP 0 rfl rfl 0 (by decide) (hts (.fieldLink RX8 10 "RangeCodes" "now" "LRangeCodes$Page;") (List.mem_of_getElem? (i := 1) rfl)) (fun _ h9 => h9) rfl dX8_write_79 ?_
      refine lv_dup hx hb dX8_write_82 rfl ?_
      refine va_get (D := g.1) (ci := 2) (v := .int byt) (C := RX2) (T := TX2) (N := 5) hx hb hts inX8_write_2 hown hK hP 1 rfl rfl 2 (by decide) (hts (.fieldLink RX8 74 "RangeCodes$Page" "bytes" "I") (List.mem_of_getElem? (i := 2) rfl)) (fun _ h9 => h9) rfl dX8_write_83 ?_
      refine lv_iload_n hx hb dX8_write_86 rfl (lv_at hl 2 rfl) ?_
      refine lv_iadd hx hb dX8_write_87 ?_
      refine va_put (D := g.1) (ci := 2) (v := .int (byt + x3)) (ty := .int) (C := RX2) (T := TX2) (N := 5) hx hb hts inX8_write_2 tyX2 tyX2_ok nmX2 hown hK hP hD hS 1 rfl rfl 2 (by decide) (hts (.fieldLink RX8 74 "RangeCodes$Page" "bytes" "I") (List.mem_of_getElem? (i := 2) rfl)) (fun _ h9 => h9) rfl (by decide +kernel) rfl rfl (Nat.le_of_ble_eq_true rfl) dX8_write_88 (fun H locs hP hD hS => ?_)
      have hP : va_P g.1 vwCl [(qX, .inr (8, [.ref qP, .ref qI, .ref qt, .ref qd, .ref qe, .ref qsp, .ref qrk, .ref qty])), (qP, .inr (2, [.ref qt, .ref qtx, .int (byt + x3), .int flt, .int plc])), (qtx, .inl (g.2 1, 500, .inl tx))] H := hP
      have hD : va_D A [(qX, .inr (8, [.ref qP, .ref qI, .ref qt, .ref qd, .ref qe, .ref qsp, .ref qrk, .ref qty])), (qP, .inr (2, [.ref qt, .ref qtx, .int (byt + x3), .int flt, .int plc])), (qtx, .inl (g.2 1, 500, .inl tx))] := hD
      refine lv_aload_n hx hb dX8_write_91 rfl (lv_at hl 0 rfl) ?_
      refine va_get (D := g.1) (ci := 8) (v := .ref qP) (C := RX8) (T := TX8) (N := 8) hx hb hts inX8_write_8 hown hK hP 0 rfl rfl 0 (by decide) (hts (.fieldLink RX8 10 "RangeCodes" "now" "LRangeCodes$Page;") (List.mem_of_getElem? (i := 1) rfl)) (fun _ h9 => h9) rfl dX8_write_92 ?_
      refine va_get (D := g.1) (ci := 2) (v := .int (byt + x3)) (C := RX2) (T := TX2) (N := 5) hx hb hts inX8_write_2 hown hK hP 1 rfl rfl 2 (by decide) (hts (.fieldLink RX8 74 "RangeCodes$Page" "bytes" "I") (List.mem_of_getElem? (i := 2) rfl)) (fun _ h9 => h9) rfl dX8_write_95 ?_
      have hP9 := hP.sub (ws' := [(qX, .inr (8, [.ref qP, .ref qI, .ref qt, .ref qd, .ref qe, .ref qsp, .ref qrk, .ref qty])), (qP, .inr (2, [.ref qt, .ref qtx, .int (byt + x3), .int flt, .int plc])), (qtx, .inl (g.2 1, 500, .inl tx))]) [0, 1, 2] rfl
      have hD9 := hD.sub (ws' := [(qX, .inr (8, [.ref qP, .ref qI, .ref qt, .ref qd, .ref qe, .ref qsp, .ref qrk, .ref qty])), (qP, .inr (2, [.ref qt, .ref qtx, .int (byt + x3), .int flt, .int plc])), (qtx, .inl (g.2 1, 500, .inl tx))]) [0, 1, 2] (by decide) rfl
      exact W.iret (v := (byt + x3)) hx hb hr (fun t ht hW => ⟨⟨_, ((byt + x3), tx), rfl, hv, by rw [ht]; exact hP9, hD9⟩, hS.F ht⟩) hS.2.2 dX8_write_98
    · have hv := hvf hc
      refine lv_aload_n hx hb dX8_write_48 rfl (lv_at hl 0 rfl) ?_
      refine va_get (D := g.1) (ci := 8) (v := .ref qP) (C := RX8) (T := TX8) (N := 8) hx hb hts inX8_write_8 hown hK hP 0 rfl rfl 0 (by decide) (hts (.fieldLink RX8 10 "RangeCodes" "now" "LRangeCodes$Page;") (List.mem_of_getElem? (i := 1) rfl)) (fun _ h9 => h9) rfl dX8_write_49 ?_
      refine va_get (D := g.1) (ci := 2) (v := .ref qtx) (C := RX2) (T := TX2) (N := 5) hx hb hts inX8_write_2 hown hK hP 1 rfl rfl 1 (by decide) (hts (.fieldLink RX8 27 "RangeCodes$Page" "text" "[B") (List.mem_of_getElem? (i := 3) rfl)) (fun _ h9 => h9) rfl dX8_write_52 ?_
      refine lv_aload_n hx hb dX8_write_55 rfl (lv_at hl 0 rfl) ?_
      refine va_get (D := g.1) (ci := 8) (v := .ref qP) (C := RX8) (T := TX8) (N := 8) hx hb hts inX8_write_8 hown hK hP 0 rfl rfl 0 (by decide) (hts (.fieldLink RX8 10 "RangeCodes" "now" "LRangeCodes$Page;") (List.mem_of_getElem? (i := 1) rfl)) (fun _ h9 => h9) rfl dX8_write_56 ?_
      refine va_get (D := g.1) (ci := 2) (v := .int byt) (C := RX2) (T := TX2) (N := 5) hx hb hts inX8_write_2 hown hK hP 1 rfl rfl 2 (by decide) (hts (.fieldLink RX8 74 "RangeCodes$Page" "bytes" "I") (List.mem_of_getElem? (i := 2) rfl)) (fun _ h9 => h9) rfl dX8_write_59 ?_
      refine lv_iload hx hb dX8_write_62 (lv_at hl 3 rfl) ?_
      refine lv_iadd hx hb dX8_write_64 ?_
      refine lv_lload_n hx hb dX8_write_65 rfl (lv_at hl 1 rfl) ?_
      refine lv_iload hx hb dX8_write_66 (lv_at hl 3 rfl) ?_
      obtain ⟨ho_1, hv⟩ := hv
      refine vp_callSi (W.runS (As := [.long p1, .int x4]) (rest := [.int (byt + x4), .ref qtx]) S (wX8_byteOf l g p1 x4 (sX8_byteOf p1 x4 ho_1)) (va_cwS 2 hts gX8_write_X8_byteOf rfl rfl rfl (by decide +kernel) ⟨Nat.le_of_ble_eq_true rfl, Nat.le_of_ble_eq_true rfl⟩) ⟨blindRO, fun U hU hW => ⟨rfl, by rw [hU]; exact hP.sub (ws' := []) [] rfl, hG.warm hW⟩⟩ rfl rfl hl.1 rfl (lv_room (Nat.le_of_ble_eq_true rfl)) dX8_write_68 ⟨Nat.le_of_ble_eq_true rfl, Nat.le_of_ble_eq_true rfl⟩) (fun r_68 hr_68 => ?_)
      have hv := hv r_68 hr_68
      obtain ⟨ho_2, hv⟩ := hv
      refine va_bast hx hb hK hP hD hS 2 1 rfl rfl ho_2 dX8_write_71 (fun H locs hP hD hS => ?_)
      have hP : va_P g.1 vwCl [(qX, .inr (8, [.ref qP, .ref qI, .ref qt, .ref qd, .ref qe, .ref qsp, .ref qrk, .ref qty])), (qP, .inr (2, [.ref qt, .ref qtx, .int byt, .int flt, .int plc])), (qtx, .inl (g.2 1, 500, .inl (upd tx (byt + x4).toNatClampNeg (vp_nar .byte r_68))))] H := hP
      have hD : va_D A [(qX, .inr (8, [.ref qP, .ref qI, .ref qt, .ref qd, .ref qe, .ref qsp, .ref qrk, .ref qty])), (qP, .inr (2, [.ref qt, .ref qtx, .int byt, .int flt, .int plc])), (qtx, .inl (g.2 1, 500, .inl (upd tx (byt + x4).toNatClampNeg (vp_nar .byte r_68))))] := hD
      refine lv_iinc (v := (x4 + (1 : Int32))) (lv' := [(4, .int (x4 + (1 : Int32))), (0, .ref qX), (1, .long p1), (3, .int x3)]) hx hb dX8_write_72 hl (k := 3) rfl rfl (by decide) rfl (fun ls hl => ?_)
      refine lv_goto (tgt := 42) hx hb dX8_write_75 (by decide) ?_
      exact ih _ _ _ _ hv _ _ (hP.sub (ws' := [(qX, .inr (8, [.ref qP, .ref qI, .ref qt, .ref qd, .ref qe, .ref qsp, .ref qrk, .ref qty])), (qP, .inr (2, [.ref qt, .ref qtx, .int byt, .int flt, .int plc])), (qtx, .inl (g.2 1, 500, .inl (upd tx (byt + x4).toNatClampNeg (vp_nar .byte r_68))))]) [0, 1, 2] rfl) (hD.sub (ws' := [(qX, .inr (8, [.ref qP, .ref qI, .ref qt, .ref qd, .ref qe, .ref qsp, .ref qrk, .ref qty])), (qP, .inr (2, [.ref qt, .ref qtx, .int byt, .int flt, .int plc])), (qtx, .inl (g.2 1, 500, .inl (upd tx (byt + x4).toNatClampNeg (vp_nar .byte r_68))))]) [0, 1, 2] (by decide) rfl) hS ls (lv_sub hl [1, 2, 3, 0] rfl)
def vX8_write_c22 (flt : Int32) (plc : Int32) (p1 : Int64) (Q : Int32 → (Int32) → (Nat → Int32) → Prop) (x3 : Int32) (byt : Int32) (tx : Nat → Int32) : Prop := (((byt + x3) ≤ (500 : Int32) → (∃ nn, vX8_write_c42 flt plc p1 Q nn x3 (0 : Int32) byt tx)) ∧ (¬ (byt + x3) ≤ (500 : Int32) → (Q (-1 : Int32) byt tx)))
set_option maxHeartbeats 4000000 in
set_option maxRecDepth 100000 in
theorem kX8_write_c22 {p : Program} {l : Launch} {e : Env} {s : State} {m : MethodId} {args : Array Value} {below : List Frame} {meth : Method} {c : Code} {g : GP} {qX : Nat} {qP : Nat} {qI : Nat} {qt : Nat} {qd : Nat} {qe : Nat} {qsp : Nat} {qrk : Nat} {qty : Nat} {qtx : Nat} {flt : Int32} {plc : Int32} {p1 : Int64} {Q : Int32 → (Int32) → (Nat → Int32) → Prop} {A : Nat → Prop} (S : CallFix p m c cX8_write 5 s args wsX8_write RX8) (hr : meth.sig.returnType = (some .int)) (hlocks : meth.locks = false) (hG : GK g s) (hA : ∀ q : Nat, s.heap.size ≤ q → A q) : ∀ (x3 : Int32) (byt : Int32) (tx : Nat → Int32), vX8_write_c22 flt plc p1 Q x3 byt tx → ∀ (H : Heap) (locs : List Loc), va_P g.1 vwCl [(qX, .inr (8, [.ref qP, .ref qI, .ref qt, .ref qd, .ref qe, .ref qsp, .ref qrk, .ref qty])), (qP, .inr (2, [.ref qt, .ref qtx, .int byt, .int flt, .int plc])), (qtx, .inl (g.2 1, 500, .inl tx))] H → va_D A [(qX, .inr (8, [.ref qP, .ref qI, .ref qt, .ref qd, .ref qe, .ref qsp, .ref qrk, .ref qty])), (qP, .inr (2, [.ref qt, .ref qtx, .int byt, .int flt, .int plc])), (qtx, .inl (g.2 1, 500, .inl tx))] → va_S A s.heap H locs → ∀ (ls : Array Slot), lv_has ls 5 [(0, .ref qX), (1, .long p1), (3, .int x3)] → W p l e (headSpec wsX8_write rmX8_write).room s m args below meth c H locs 0 0 (MQ below (va_Qi (fun (r : Int32) (u : Int32 × (Nat → Int32)) => Q r u.1 u.2) (fun (u : Int32 × (Nat → Int32)) t => va_P g.1 vwCl [(qX, .inr (8, [.ref qP, .ref qI, .ref qt, .ref qd, .ref qe, .ref qsp, .ref qrk, .ref qty])), (qP, .inr (2, [.ref qt, .ref qtx, .int u.1, .int flt, .int plc])), (qtx, .inl (g.2 1, 500, .inl u.2))] t.heap ∧ va_D A [(qX, .inr (8, [.ref qP, .ref qI, .ref qt, .ref qd, .ref qe, .ref qsp, .ref qrk, .ref qty])), (qP, .inr (2, [.ref qt, .ref qtx, .int u.1, .int flt, .int plc])), (qtx, .inl (g.2 1, 500, .inl u.2))]) A) args s 0 0 A) (F0 m 22 ls []) := by
  obtain ⟨hx, hb, hml, hown, hts⟩ := id S
  have hK := hG.1
  intro x3 byt tx hv H locs hP hD hS ls hl
  unfold vX8_write_c22 at hv
  refine lv_aload_n hx hb dX8_write_22 rfl (lv_at hl 0 rfl) ?_
  refine va_get (D := g.1) (ci := 8) (v := .ref qP) (C := RX8) (T := TX8) (N := 8) hx hb hts inX8_write_8 hown hK hP 0 rfl rfl 0 (by decide) (hts (.fieldLink RX8 10 "RangeCodes" "now" "LRangeCodes$Page;") (List.mem_of_getElem? (i := 1) rfl)) (fun _ h9 => h9) rfl dX8_write_23 ?_
  refine va_get (D := g.1) (ci := 2) (v := .int byt) (C := RX2) (T := TX2) (N := 5) hx hb hts inX8_write_2 hown hK hP 1 rfl rfl 2 (by decide) (hts (.fieldLink RX8 74 "RangeCodes$Page" "bytes" "I") (List.mem_of_getElem? (i := 2) rfl)) (fun _ h9 => h9) rfl dX8_write_26 ?_
  refine lv_iload_n hx hb dX8_write_29 rfl (lv_at hl 2 rfl) ?_
  refine lv_iadd hx hb dX8_write_30 ?_
  refine lv_sipush (v := (500 : Int32)) hx hb dX8_write_31 (by decide) ?_
  obtain ⟨hvt, hvf⟩ := hv
  refine lv_icmp_le (tgt := 39) hx hb dX8_write_34 (by decide) (fun hc => ?_) (fun hc => ?_)
  · have hv := hvt hc
    refine lv_iconst (v := (0 : Int32)) hx hb dX8_write_39 (by decide) ?_
    refine lv_istore (lv' := [(4, .int (0 : Int32)), (0, .ref qX), (1, .long p1), (3, .int x3)]) hx hb dX8_write_40 hl (by decide) rfl (fun ls hl => ?_)
    obtain ⟨nn, hv⟩ := hv
    exact kX8_write_c42 S hr hlocks hG hA nn _ _ _ _ hv _ _ (hP.sub (ws' := [(qX, .inr (8, [.ref qP, .ref qI, .ref qt, .ref qd, .ref qe, .ref qsp, .ref qrk, .ref qty])), (qP, .inr (2, [.ref qt, .ref qtx, .int byt, .int flt, .int plc])), (qtx, .inl (g.2 1, 500, .inl tx))]) [0, 1, 2] rfl) (hD.sub (ws' := [(qX, .inr (8, [.ref qP, .ref qI, .ref qt, .ref qd, .ref qe, .ref qsp, .ref qrk, .ref qty])), (qP, .inr (2, [.ref qt, .ref qtx, .int byt, .int flt, .int plc])), (qtx, .inl (g.2 1, 500, .inl tx))]) [0, 1, 2] (by decide) rfl) hS ls (lv_sub hl [1, 2, 3, 0] rfl)
  · have hv := hvf hc
    refine lv_iconst (v := (-1 : Int32)) hx hb dX8_write_37 (by decide) ?_
    have hP9 := hP.sub (ws' := [(qX, .inr (8, [.ref qP, .ref qI, .ref qt, .ref qd, .ref qe, .ref qsp, .ref qrk, .ref qty])), (qP, .inr (2, [.ref qt, .ref qtx, .int byt, .int flt, .int plc])), (qtx, .inl (g.2 1, 500, .inl tx))]) [0, 1, 2] rfl
    have hD9 := hD.sub (ws' := [(qX, .inr (8, [.ref qP, .ref qI, .ref qt, .ref qd, .ref qe, .ref qsp, .ref qrk, .ref qty])), (qP, .inr (2, [.ref qt, .ref qtx, .int byt, .int flt, .int plc])), (qtx, .inl (g.2 1, 500, .inl tx))]) [0, 1, 2] (by decide) rfl
    exact W.iret (v := (-1 : Int32)) hx hb hr (fun t ht hW => ⟨⟨_, (byt, tx), rfl, hv, by rw [ht]; exact hP9, hD9⟩, hS.F ht⟩) hS.2.2 dX8_write_38
def vX8_write_c2 (flt : Int32) (plc : Int32) (p1 : Int64) (Q : Int32 → (Int32) → (Nat → Int32) → Prop) : Nat → Int32 → Int32 → (Nat → Int32) → Prop
  | 0, _, _, _ => False
  | n + 1, x3, byt, tx => (((8 : Int32) ≤ x3 → (vX8_write_c22 flt plc p1 Q x3 byt tx)) ∧ (¬ (8 : Int32) ≤ x3 → (preX8_byteOf p1 x3 ∧ (∀ r_10 : Int32, postX8_byteOf p1 x3 r_10 → ((r_10 = 0 → (vX8_write_c22 flt plc p1 Q x3 byt tx)) ∧ (¬ r_10 = 0 → (vX8_write_c2 flt plc p1 Q n (x3 + (1 : Int32)) byt tx)))))))
set_option maxHeartbeats 4000000 in
set_option maxRecDepth 100000 in
theorem kX8_write_c2 {p : Program} {l : Launch} {e : Env} {s : State} {m : MethodId} {args : Array Value} {below : List Frame} {meth : Method} {c : Code} {g : GP} {qX : Nat} {qP : Nat} {qI : Nat} {qt : Nat} {qd : Nat} {qe : Nat} {qsp : Nat} {qrk : Nat} {qty : Nat} {qtx : Nat} {flt : Int32} {plc : Int32} {p1 : Int64} {Q : Int32 → (Int32) → (Nat → Int32) → Prop} {A : Nat → Prop} (S : CallFix p m c cX8_write 5 s args wsX8_write RX8) (hr : meth.sig.returnType = (some .int)) (hlocks : meth.locks = false) (hG : GK g s) (hA : ∀ q : Nat, s.heap.size ≤ q → A q) : ∀ (n : Nat), ∀ (x3 : Int32) (byt : Int32) (tx : Nat → Int32), vX8_write_c2 flt plc p1 Q n x3 byt tx → ∀ (H : Heap) (locs : List Loc), va_P g.1 vwCl [(qX, .inr (8, [.ref qP, .ref qI, .ref qt, .ref qd, .ref qe, .ref qsp, .ref qrk, .ref qty])), (qP, .inr (2, [.ref qt, .ref qtx, .int byt, .int flt, .int plc])), (qtx, .inl (g.2 1, 500, .inl tx))] H → va_D A [(qX, .inr (8, [.ref qP, .ref qI, .ref qt, .ref qd, .ref qe, .ref qsp, .ref qrk, .ref qty])), (qP, .inr (2, [.ref qt, .ref qtx, .int byt, .int flt, .int plc])), (qtx, .inl (g.2 1, 500, .inl tx))] → va_S A s.heap H locs → ∀ (ls : Array Slot), lv_has ls 5 [(0, .ref qX), (1, .long p1), (3, .int x3)] → W p l e (headSpec wsX8_write rmX8_write).room s m args below meth c H locs 0 0 (MQ below (va_Qi (fun (r : Int32) (u : Int32 × (Nat → Int32)) => Q r u.1 u.2) (fun (u : Int32 × (Nat → Int32)) t => va_P g.1 vwCl [(qX, .inr (8, [.ref qP, .ref qI, .ref qt, .ref qd, .ref qe, .ref qsp, .ref qrk, .ref qty])), (qP, .inr (2, [.ref qt, .ref qtx, .int u.1, .int flt, .int plc])), (qtx, .inl (g.2 1, 500, .inl u.2))] t.heap ∧ va_D A [(qX, .inr (8, [.ref qP, .ref qI, .ref qt, .ref qd, .ref qe, .ref qsp, .ref qrk, .ref qty])), (qP, .inr (2, [.ref qt, .ref qtx, .int u.1, .int flt, .int plc])), (qtx, .inl (g.2 1, 500, .inl u.2))]) A) args s 0 0 A) (F0 m 2 ls []) := by
  obtain ⟨hx, hb, hml, hown, hts⟩ := id S
  have hK := hG.1
  intro n
  induction n with
  | zero => intro x3 byt tx hv; exact hv.elim
  | succ n ih =>
    intro x3 byt tx hv H locs hP hD hS ls hl
    refine lv_iload_n hx hb dX8_write_2 rfl (lv_at hl 2 rfl) ?_
    refine lv_bipush (v := (8 : Int32)) hx hb dX8_write_3 (by decide) ?_
    obtain ⟨hvt, hvf⟩ := hv
    refine lv_icmp_ge (tgt := 22) hx hb dX8_write_5 (by decide) (fun hc => ?_) (fun hc => ?_)
    · have hv := hvt hc
      exact kX8_write_c22 S hr hlocks hG hA _ _ _ hv _ _ (hP.sub (ws' := [(qX, .inr (8, [.ref qP, .ref qI, .ref qt, .ref qd, .ref qe, .ref qsp, .ref qrk, .ref qty])), (qP, .inr (2, [.ref qt, .ref qtx, .int byt, .int flt, .int plc])), (qtx, .inl (g.2 1, 500, .inl tx))]) [0, 1, 2] rfl) (hD.sub (ws' := [(qX, .inr (8, [.ref qP, .ref qI, .ref qt, .ref qd, .ref qe, .ref qsp, .ref qrk, .ref qty])), (qP, .inr (2, [.ref qt, .ref qtx, .int byt, .int flt, .int plc])), (qtx, .inl (g.2 1, 500, .inl tx))]) [0, 1, 2] (by decide) rfl) hS ls (lv_sub hl [0, 1, 2] rfl)
    · have hv := hvf hc
      refine lv_lload_n hx hb dX8_write_8 rfl (lv_at hl 1 rfl) ?_
      refine lv_iload_n hx hb dX8_write_9 rfl (lv_at hl 2 rfl) ?_
      obtain ⟨ho_1, hv⟩ := hv
      refine vp_callSi (W.runS (As := [.long p1, .int x3]) (rest := []) S (wX8_byteOf l g p1 x3 (sX8_byteOf p1 x3 ho_1)) (va_cwS 2 hts gX8_write_X8_byteOf rfl rfl rfl (by decide +kernel) ⟨Nat.le_of_ble_eq_true rfl, Nat.le_of_ble_eq_true rfl⟩) ⟨blindRO, fun U hU hW => ⟨rfl, by rw [hU]; exact hP.sub (ws' := []) [] rfl, hG.warm hW⟩⟩ rfl rfl hl.1 rfl (lv_room (Nat.le_of_ble_eq_true rfl)) dX8_write_10 ⟨Nat.le_of_ble_eq_true rfl, Nat.le_of_ble_eq_true rfl⟩) (fun r_10 hr_10 => ?_)
      have hv := hv r_10 hr_10
      obtain ⟨hvt, hvf⟩ := hv
      refine lv_if_eq (tgt := 22) hx hb dX8_write_13 (by decide) (fun hc => ?_) (fun hc => ?_)
      · have hv := hvt hc
        exact kX8_write_c22 S hr hlocks hG hA _ _ _ hv _ _ (hP.sub (ws' := [(qX, .inr (8, [.ref qP, .ref qI, .ref qt, .ref qd, .ref qe, .ref qsp, .ref qrk, .ref qty])), (qP, .inr (2, [.ref qt, .ref qtx, .int byt, .int flt, .int plc])), (qtx, .inl (g.2 1, 500, .inl tx))]) [0, 1, 2] rfl) (hD.sub (ws' := [(qX, .inr (8, [.ref qP, .ref qI, .ref qt, .ref qd, .ref qe, .ref qsp, .ref qrk, .ref qty])), (qP, .inr (2, [.ref qt, .ref qtx, .int byt, .int flt, .int plc])), (qtx, .inl (g.2 1, 500, .inl tx))]) [0, 1, 2] (by decide) rfl) hS ls (lv_sub hl [0, 1, 2] rfl)
      · have hv := hvf hc
        refine lv_iinc (v := (x3 + (1 : Int32))) (lv' := [(3, .int (x3 + (1 : Int32))), (0, .ref qX), (1, .long p1)]) hx hb dX8_write_16 hl (k := 2) rfl rfl (by decide) rfl (fun ls hl => ?_)
        refine lv_goto (tgt := 2) hx hb dX8_write_19 (by decide) ?_
        exact ih _ _ _ hv _ _ (hP.sub (ws' := [(qX, .inr (8, [.ref qP, .ref qI, .ref qt, .ref qd, .ref qe, .ref qsp, .ref qrk, .ref qty])), (qP, .inr (2, [.ref qt, .ref qtx, .int byt, .int flt, .int plc])), (qtx, .inl (g.2 1, 500, .inl tx))]) [0, 1, 2] rfl) (hD.sub (ws' := [(qX, .inr (8, [.ref qP, .ref qI, .ref qt, .ref qd, .ref qe, .ref qsp, .ref qrk, .ref qty])), (qP, .inr (2, [.ref qt, .ref qtx, .int byt, .int flt, .int plc])), (qtx, .inl (g.2 1, 500, .inl tx))]) [0, 1, 2] (by decide) rfl) hS ls (lv_sub hl [1, 2, 0] rfl)
def vX8_write (byt : Int32) (flt : Int32) (plc : Int32) (tx : Nat → Int32) (p1 : Int64) (Q : Int32 → (Int32) → (Nat → Int32) → Prop) : Prop := (∃ nn, vX8_write_c2 flt plc p1 Q nn (0 : Int32) byt tx)
set_option maxHeartbeats 4000000 in
set_option maxRecDepth 100000 in
theorem wX8_write (l : Launch) (g : GP) (qX : Nat) (qP : Nat) (qI : Nat) (qt : Nat) (qd : Nat) (qe : Nat) (qsp : Nat) (qrk : Nat) (qty : Nat) (qtx : Nat) (sz : Nat) (byt : Int32) (flt : Int32) (plc : Int32) (tx : Nat → Int32) (p1 : Int64) {Q : Int32 → (Int32) → (Nat → Int32) → Prop} (hv : vX8_write byt flt plc tx p1 Q) : Met l yX8_write wsX8_write rmX8_write (va_Pc [.ref qX, .long p1] (fun U => U.heap.size = sz ∧ va_P g.1 vwCl [(qX, .inr (8, [.ref qP, .ref qI, .ref qt, .ref qd, .ref qe, .ref qsp, .ref qrk, .ref qty])), (qP, .inr (2, [.ref qt, .ref qtx, .int byt, .int flt, .int plc])), (qtx, .inl (g.2 1, 500, .inl tx))] U.heap ∧ GK g U ∧ va_D (fun _ => True) [(qX, .inr (8, [.ref qP, .ref qI, .ref qt, .ref qd, .ref qe, .ref qsp, .ref qrk, .ref qty])), (qP, .inr (2, [.ref qt, .ref qtx, .int byt, .int flt, .int plc])), (qtx, .inl (g.2 1, 500, .inl tx))])) (va_Qi (fun (r : Int32) (u : Int32 × (Nat → Int32)) => Q r u.1 u.2) (fun (u : Int32 × (Nat → Int32)) t => va_P g.1 vwCl [(qX, .inr (8, [.ref qP, .ref qI, .ref qt, .ref qd, .ref qe, .ref qsp, .ref qrk, .ref qty])), (qP, .inr (2, [.ref qt, .ref qtx, .int u.1, .int flt, .int plc])), (qtx, .inl (g.2 1, 500, .inl u.2))] t.heap ∧ va_D (va_A [(qX, .inr (8, [.ref qP, .ref qI, .ref qt, .ref qd, .ref qe, .ref qsp, .ref qrk, .ref qty])), (qP, .inr (2, [.ref qt, .ref qtx, .int byt, .int flt, .int plc])), (qtx, .inl (g.2 1, 500, .inl tx))] sz) [(qX, .inr (8, [.ref qP, .ref qI, .ref qt, .ref qd, .ref qe, .ref qsp, .ref qrk, .ref qty])), (qP, .inr (2, [.ref qt, .ref qtx, .int u.1, .int flt, .int plc])), (qtx, .inl (g.2 1, 500, .inl u.2))]) (va_A [(qX, .inr (8, [.ref qP, .ref qI, .ref qt, .ref qd, .ref qe, .ref qsp, .ref qrk, .ref qty])), (qP, .inr (2, [.ref qt, .ref qtx, .int byt, .int flt, .int plc])), (qtx, .inl (g.2 1, 500, .inl tx))] sz)) 0 0 (va_A [(qX, .inr (8, [.ref qP, .ref qI, .ref qt, .ref qd, .ref qe, .ref qsp, .ref qrk, .ref qty])), (qP, .inr (2, [.ref qt, .ref qtx, .int byt, .int flt, .int plc])), (qtx, .inl (g.2 1, 500, .inl tx))] sz) := by
  refine Met.ofW (cc := cX8_write) (maxL := 5) (ret := (some .int)) (by decide) rfl ?_
  intro p e s m args below meth c s₁ B hml hv'
  obtain ⟨rfl, hsz, hP, hG, hD0⟩ := hv'
  have S : CallFix p m c cX8_write 5 s _ wsX8_write RX8 := ⟨B.exec, B.bytes, hml, findClass_of_methodNamed B.named, atoms_spec (ws := wsX8_write) B.pre⟩
  obtain ⟨hx, hb, hml, hown, hts⟩ := id S
  have hK := hG.1
  have hr := B.returns
  have hlocks := B.notSynchronized
  subst hsz
  have hD := hD0.self (sz := s.heap.size)
  generalize hAe : va_A [(qX, .inr (8, [.ref qP, .ref qI, .ref qt, .ref qd, .ref qe, .ref qsp, .ref qrk, .ref qty])), (qP, .inr (2, [.ref qt, .ref qtx, .int byt, .int flt, .int plc])), (qtx, .inl (g.2 1, 500, .inl tx))] s.heap.size = A at hD ⊢
  have hA : ∀ q : Nat, s.heap.size ≤ q → A q := fun q h => by rw [← hAe]; exact Or.inr h
  have hS : va_S A s.heap s.heap [] := va_S.rf
  clear hD0 hAe
  have hl := lv_entry ([.ref qX, .long p1]) (n := 5) (Nat.le_of_ble_eq_true rfl)
  rw [lg_entry_eq]
  generalize (lg_sl ([.ref qX, .long p1]) ++ List.replicate (5 - (lg_sl ([.ref qX, .long p1])).length) Slot.unset).toArray = ls at hl ⊢
  have hl : lv_has ls 5 [(0, .ref qX), (1, .long p1)] := hl
  unfold vX8_write at hv
  refine lv_iconst (v := (0 : Int32)) hx hb dX8_write_0 (by decide) ?_
  refine lv_istore_n (lv' := [(3, .int (0 : Int32)), (0, .ref qX), (1, .long p1)]) hx hb dX8_write_1 rfl hl (by decide) rfl (fun ls hl => ?_)
  obtain ⟨nn, hv⟩ := hv
  exact kX8_write_c2 S hr hlocks hG hA nn _ _ _ hv _ _ (hP.sub (ws' := [(qX, .inr (8, [.ref qP, .ref qI, .ref qt, .ref qd, .ref qe, .ref qsp, .ref qrk, .ref qty])), (qP, .inr (2, [.ref qt, .ref qtx, .int byt, .int flt, .int plc])), (qtx, .inl (g.2 1, 500, .inl tx))]) [0, 1, 2] rfl) (hD.sub (ws' := [(qX, .inr (8, [.ref qP, .ref qI, .ref qt, .ref qd, .ref qe, .ref qsp, .ref qrk, .ref qty])), (qP, .inr (2, [.ref qt, .ref qtx, .int byt, .int flt, .int plc])), (qtx, .inl (g.2 1, 500, .inl tx))]) [0, 1, 2] (by decide) rfl) hS ls (lv_sub hl [1, 2, 0] rfl)
/-- how many bytes there are ahead of the first 0 -/
def cB (x : Int64) : Nat := fa_first (fun k => decide (bB x k = 0)) 8
def nbW (nb : Nat) (x : Int64) : Nat := if nb + cB x ≤ 500 then nb + cB x else nb
def spWrite (nb : Nat) (x : Int64) : Int := if nb + cB x ≤ 500 then ((nb + cB x : Nat) : Int) else -1
/-- the text behind the first so many bytes of those -/
def txK (nb : Nat) (x : Int64) (tx : Nat → Int32) : Nat → Nat → Int32
  | 0 => tx
  | k + 1 => upd (txK nb x tx k) (nb + k) (vp_nar .byte (bB x k))
def txW (nb : Nat) (x : Int64) (tx : Nat → Int32) : Nat → Int32 := if nb + cB x ≤ 500 then txK nb x tx (cB x) else tx
theorem cB_le (x : Int64) : cB x ≤ 8 := fa_first_le _ _
theorem sX8_write_42 (nb c : Nat) (byt : Int32) (flt : Int32) (plc : Int32) (tx : Nat → Int32) (p1 : Int64) (hb : byt.toInt = (nb : Int)) (h8 : c ≤ 8) (hfit : nb + c ≤ 500) (Q : Int32 → Int32 → (Nat → Int32) → Prop) (hQ : ∀ r : Int32, r.toInt = ((nb + c : Nat) : Int) → Q r r (txK nb p1 tx c)) (x3 : Int32) (h3 : x3.toInt = (c : Int)) : ∀ (n k : Nat) (x4 : Int32), x4.toInt = (k : Int) → k ≤ c → c + 1 ≤ k + n → vX8_write_c42 flt plc p1 Q n x3 x4 byt (txK nb p1 tx k)
  | 0, k, x4, _, hk, hn => absurd hn (by omega)
  | n + 1, k, x4, h4, hk, hn => by
    rw [vX8_write_c42, q_le h3 h4]
    refine ⟨fun hc => ?_, fun hc => ⟨by show 0 ≤ x4.toInt; omega, fun r hr => ?_⟩⟩
    · have : k = c := by omega
      subst this
      exact hQ _ (q_addN hb h3 (by omega))
    · have e := q_addN hb h4 (by omega)
      have hr : r = bB p1 x4.toInt.toNat := hr
      rw [show x4.toInt.toNat = k by omega] at hr
      refine ⟨q_in e (by omega), ?_⟩
      rw [q_cl e, hr]
      exact sX8_write_42 nb c byt flt plc tx p1 hb h8 hfit Q hQ x3 h3 n (k + 1) _ (q_1 h4 (by omega)) (by omega) (by omega)
theorem sX8_write_22 (nb : Nat) (byt : Int32) (flt : Int32) (plc : Int32) (tx : Nat → Int32) (p1 : Int64) (hb : byt.toInt = (nb : Int)) (hnb : nb ≤ 500) (Q : Int32 → Int32 → (Nat → Int32) → Prop) (hQ : ∀ r b : Int32, r.toInt = spWrite nb p1 → b.toInt = (nbW nb p1 : Int) → Q r b (txW nb p1 tx)) (x3 : Int32) (h3 : x3.toInt = (cB p1 : Int)) : vX8_write_c22 flt plc p1 Q x3 byt tx := by
  have h8 := cB_le p1
  have e := q_addN hb h3 (by omega)
  unfold vX8_write_c22
  rw [fa_le, e, z500]
  refine ⟨fun hc => ⟨cB p1 + 1, sX8_write_42 nb (cB p1) byt flt plc tx p1 hb h8 (by omega) Q (fun r hr => ?_) x3 h3 _ 0 0 rfl (by omega) (by omega)⟩, fun hc => ?_⟩
  · have := hQ r r (by unfold spWrite; rw [if_pos (by omega)]; exact hr) (by unfold nbW; rw [if_pos (by omega)]; exact hr)
    unfold txW at this
    rw [if_pos (by omega)] at this; exact this
  have := hQ (-1) byt (by unfold spWrite; rw [if_neg (by omega)]; rfl) (by unfold nbW; rw [if_neg (by omega)]; exact hb)
  unfold txW at this
  rw [if_neg (by omega)] at this; exact this
theorem sX8_write_2 (nb : Nat) (byt : Int32) (flt : Int32) (plc : Int32) (tx : Nat → Int32) (p1 : Int64) (hb : byt.toInt = (nb : Int)) (hnb : nb ≤ 500) (Q : Int32 → Int32 → (Nat → Int32) → Prop) (hQ : ∀ r b : Int32, r.toInt = spWrite nb p1 → b.toInt = (nbW nb p1 : Int) → Q r b (txW nb p1 tx)) : ∀ (n k : Nat) (x3 : Int32), x3.toInt = (k : Int) → (∀ j, j < k → ¬ bB p1 j = 0) → k ≤ 8 → 9 ≤ k + n → vX8_write_c2 flt plc p1 Q n x3 byt tx
  | 0, k, x3, _, _, hk, hn => absurd hn (by omega)
  | n + 1, k, x3, h3, hz, hk, hn => by
    rw [vX8_write_c2, fa_le, z8, h3]
    refine ⟨fun hc => ?_, fun hc => ⟨by show 0 ≤ x3.toInt; omega, fun r hr => ?_⟩⟩
    · have : k = 8 := by omega
      subst this
      refine sX8_write_22 nb byt flt plc tx p1 hb hnb Q hQ x3 ?_
      have e : cB p1 = 8 := ff_none (fun j hj => decide_eq_false (hz j hj))
      rw [e]; exact h3
    · have hr : r = bB p1 x3.toInt.toNat := hr
      rw [show x3.toInt.toNat = k by omega] at hr
      rw [hr]
      refine ⟨fun q => ?_, fun q => sX8_write_2 nb byt flt plc tx p1 hb hnb Q hQ n (k + 1) _ (q_1 h3 (by omega)) (fun j hj => ?_) (by omega) (by omega)⟩
      · refine sX8_write_22 nb byt flt plc tx p1 hb hnb Q hQ x3 ?_
        have e : cB p1 = k := ff_eq (by omega) (decide_eq_true q) (fun j hj => decide_eq_false (hz j hj))
        rw [e]; exact h3
      · by_cases e : j = k
        · subst e; exact q
        · exact hz j (by omega)
abbrev preX8_write (byt : Int32) (flt : Int32) (plc : Int32) (tx : Nat → Int32) (p1 : Int64) : Prop := 0 ≤ byt.toInt ∧ byt.toInt ≤ 500
abbrev postX8_write (byt : Int32) (flt : Int32) (plc : Int32) (tx : Nat → Int32) (p1 : Int64) (r : Int32) (byt' : Int32) (tx' : Nat → Int32) : Prop := r.toInt = spWrite byt.toInt.toNat p1 ∧ byt'.toInt = (nbW byt.toInt.toNat p1 : Int) ∧ tx' = txW byt.toInt.toNat p1 tx
theorem sX8_write (byt : Int32) (flt : Int32) (plc : Int32) (tx : Nat → Int32) (p1 : Int64) (H : preX8_write byt flt plc tx p1) : vX8_write byt flt plc tx p1 (postX8_write byt flt plc tx p1) := ⟨9, sX8_write_2 byt.toInt.toNat byt flt plc tx p1 (by have := H.1; omega) (by have := H.2; omega) _ (fun r b h1 h2 => ⟨h1, h2, rfl⟩) 9 0 0 rfl (fun j hj => absurd hj (by omega)) (by omega) (by omega)⟩
