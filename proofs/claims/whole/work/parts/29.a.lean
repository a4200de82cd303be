-- what is asked where an exception is made
def xwL : List Cond := [.castable "java/util/NoSuchElementException" "java/util/NoSuchElementException", .declares ⟨"java/lang/RuntimeException", "<init>", "(Ljava/lang/String;)V"⟩, .declares ⟨"java/lang/Exception", "<init>", "(Ljava/lang/String;)V"⟩, .declares ⟨"java/lang/Throwable", "<init>", "(Ljava/lang/String;)V"⟩]
def GX (z : Nat × Nat) (A : Nat → Prop) (U : State) (H : Heap) : Prop := vx_Zq Bundle.tN "UNASSIGNED_STACK" Bundle.steD A U H ∧ vx_Zq Bundle.tN "SUPPRESSED_SENTINEL" Bundle.listD A U H ∧ vk_R RX8 181 "no such part" z.1 U ∧ vk_R RX8 193 "no such chip, or another what" z.2 U ∧ va_Nw (.castable "java/util/NoSuchElementException" "java/util/NoSuchElementException") U ∧ va_Nw (.declares ⟨"java/lang/RuntimeException", "<init>", "(Ljava/lang/String;)V"⟩) U ∧ va_Nw (.declares ⟨"java/lang/Exception", "<init>", "(Ljava/lang/String;)V"⟩) U ∧ va_Nw (.declares ⟨"java/lang/Throwable", "<init>", "(Ljava/lang/String;)V"⟩) U
theorem GX.warm {z : Nat × Nat} {A : Nat → Prop} {s U : State} {H : Heap} (h : GX z A s H) (hW : s.WarmedH U.vm) : GX z A U H := by
  obtain ⟨h1, h2, h3, h4, h5, h6, h7, h8⟩ := h
  exact ⟨vx_Zq.moved hW.alike h1, vx_Zq.moved hW.alike h2, vk_R.warm hW h3, vk_R.warm hW h4, va_Nw.warmC hW h5, va_Nw.warmD hW h6, va_Nw.warmD hW h7, va_Nw.warmD hW h8⟩
theorem GX.kept {z : Nat × Nat} {A : Nat → Prop} {U : State} {H H1 : Heap} (h : GX z A U H) (hq : ∀ a : Nat, a < H.size → ¬ A a → H1[a]? = H[a]?) : GX z A U H1 := ⟨h.1.kept hq, h.2.1.kept hq, h.2.2⟩
theorem GX.narrow {z : Nat × Nat} {A B : Nat → Prop} {U : State} {H : Heap} (h : GX z A U H) (hAB : ∀ q, B q → A q) : GX z B U H := ⟨h.1.narrow hAB, h.2.1.narrow hAB, h.2.2⟩
theorem GX.calling {z : Nat × Nat} {A : Nat → Prop} {U : State} {H : Heap} {f : JFrame} {mk : MethodId} {a : Array Value} (h : GX z A U H) : GX z A (U.calling f mk a) H := by
  obtain ⟨h1, h2, h3, h4, h5, h6, h7, h8⟩ := h
  have q : U.vm.Alike (U.calling f mk a).vm := Vm.Alike.refl U.vm
  exact ⟨vx_Zq.moved q h1, vx_Zq.moved q h2, vk_R.same (u := U) rfl h3, vk_R.same (u := U) rfl h4, va_Nw.same rfl (u := U) rfl h5, va_Nw.same rfl (u := U) rfl h6, va_Nw.same rfl (u := U) rfl h7, va_Nw.same rfl (u := U) rfl h8⟩
theorem GX.words {z : Nat × Nat} {A : Nat → Prop} {U : State} {H : Heap} {args : Array Value} (h : GX z A U H) : ∀ w ∈ xwL, w.before args U = true := vx_c (va_Nw.use rfl h.2.2.2.2.1) (vx_c (va_Nw.use rfl h.2.2.2.2.2.1) (vx_c (va_Nw.use rfl h.2.2.2.2.2.2.1) (vx_c (va_Nw.use rfl h.2.2.2.2.2.2.2) vx_n)))
theorem blindRWX {g : GP} {z : Nat × Nat} {A : Nat → Prop} {av : List Value} {ws : va_W} {sz : Nat} : FrameBlind (va_Pc av (fun U => U.heap.size = sz ∧ va_P g.1 vwCl ws U.heap ∧ GK g U ∧ va_D (fun _ => True) ws ∧ GX z A U U.heap)) := fun _ _ _ _ q => ⟨q.1, q.2.1, q.2.2.1, q.2.2.2.1.calling, q.2.2.2.2.1, q.2.2.2.2.2.calling⟩
-- what part asks, and what it answers
noncomputable section
def okPa (T : Cd) (p w : Int) : Prop := (0 ≤ p ∧ p < (cn T : Int)) ∧ ((0 ≤ w ∧ w ≤ 2) ∨ (10 ≤ w ∧ w < 10 + (cL T p.toNat : Int)))
def spPa (T : Cd) (p w : Int) : Int := if w = 0 then (cL T p.toNat : Int) else if w = 1 then (cV T p.toNat : Int) else if w = 2 then (bcn (cR T p.toNat) 13 : Int) else if (cR T p.toNat).testBit (w - 10).toNat then 1 else 0
end
theorem sub10 (x : Int32) : (-2147483638 ≤ x.toInt ∧ (x - (10 : Int32)).toInt = x.toInt - 10) ∨ (x.toInt < -2147483638 ∧ 100 ≤ (x - (10 : Int32)).toInt) := by
  have h0 := fb_rng x
  rw [Int32.toInt_sub, z10]
  have h3 := Int.le_bmod (x := x.toInt - 10) (m := 2 ^ 32) (by decide)
  have h4 := Int.bmod_lt (x := x.toInt - 10) (m := 2 ^ 32) (by decide)
  obtain ⟨k, hk⟩ := Int.dvd_bmod_sub_self (x := x.toInt - 10) (m := 2 ^ 32)
  omega
set_option maxRecDepth 20000 in
theorem ggX8_part_X7_hasPart : GoodIn wsX8_part wsX7_hasPart := goodIn_r _ [11, 12, 41, 42, 43, 44, 45, 46] (by decide +kernel) (by decide +kernel)
set_option maxRecDepth 20000 in
theorem gX8_part_X7_hasPart : GoodIn wsX8_part (wsV RX8 119 RX7 yX7_hasPart wsX7_hasPart) := goodIn_app (goodIn_of _ (by decide +kernel)) ggX8_part_X7_hasPart
set_option maxRecDepth 20000 in
theorem ggX8_part_X7_hasPlace : GoodIn wsX8_part wsX7_hasPlace := goodIn_r _ [16, 17, 41, 42, 43, 44, 45, 46] (by decide +kernel) (by decide +kernel)
set_option maxRecDepth 20000 in
theorem gX8_part_X7_hasPlace : GoodIn wsX8_part (wsV RX8 186 RX7 yX7_hasPlace wsX7_hasPlace) := goodIn_app (goodIn_of _ (by decide +kernel)) ggX8_part_X7_hasPlace
set_option maxRecDepth 20000 in
theorem ggX8_part_X7_chipOf : GoodIn wsX8_part wsX7_chipOf := goodIn_r _ [21, 22, 17, 23, 24, 25, 41, 42, 43, 44, 45, 46] (by decide +kernel) (by decide +kernel)
set_option maxRecDepth 20000 in
theorem gX8_part_X7_chipOf : GoodIn wsX8_part (wsV RX8 190 RX7 yX7_chipOf wsX7_chipOf) := goodIn_app (goodIn_of _ (by decide +kernel)) ggX8_part_X7_chipOf
set_option maxRecDepth 20000 in
theorem ggX8_part_J6_bitCount_0f7a4 : GoodIn wsX8_part wsJ6_bitCount_0f7a4 := goodIn_r _ [29, 30, 31, 32] (by decide +kernel) (by decide +kernel)
set_option maxRecDepth 20000 in
theorem gX8_part_J6_bitCount_0f7a4 : GoodIn wsX8_part (va_wsS RX8 153 yJ6_bitCount_0f7a4 wsJ6_bitCount_0f7a4) := goodIn_app (goodIn_of _ (by decide +kernel)) ggX8_part_J6_bitCount_0f7a4
theorem dX8_part_0 : decode cX8_part 0 = .ok (.aload_n 0, 1) := by decide +kernel
theorem dX8_part_1 : decode cX8_part 1 = .ok (.getfield 24, 3) := by decide +kernel
theorem dX8_part_4 : decode cX8_part 4 = .ok (.iload_n 1, 1) := by decide +kernel
theorem dX8_part_5 : decode cX8_part 5 = .ok (.invokevirtual 119, 3) := by decide +kernel
theorem dX8_part_8 : decode cX8_part 8 = .ok (.ifCond .ne 13, 3) := by decide +kernel
theorem dX8_part_11 : decode cX8_part 11 = .ok (.new 179, 3) := by decide +kernel
theorem dX8_part_14 : decode cX8_part 14 = .ok (.dup, 1) := by decide +kernel
theorem dX8_part_15 : decode cX8_part 15 = .ok (.ldc 181, 2) := by decide +kernel
theorem dX8_part_17 : decode cX8_part 17 = .ok (.invokespecial 183, 3) := by decide +kernel
theorem dX8_part_20 : decode cX8_part 20 = .ok (.athrow, 1) := by decide +kernel
theorem dX8_part_21 : decode cX8_part 21 = .ok (.iload_n 2, 1) := by decide +kernel
theorem dX8_part_22 : decode cX8_part 22 = .ok (.bipush 10, 2) := by decide +kernel
theorem dX8_part_24 : decode cX8_part 24 = .ok (.if_icmp .lt 31, 3) := by decide +kernel
theorem dX8_part_27 : decode cX8_part 27 = .ok (.aload_n 0, 1) := by decide +kernel
theorem dX8_part_28 : decode cX8_part 28 = .ok (.getfield 24, 3) := by decide +kernel
theorem dX8_part_31 : decode cX8_part 31 = .ok (.iload_n 1, 1) := by decide +kernel
theorem dX8_part_32 : decode cX8_part 32 = .ok (.iload_n 2, 1) := by decide +kernel
theorem dX8_part_33 : decode cX8_part 33 = .ok (.bipush 10, 2) := by decide +kernel
theorem dX8_part_35 : decode cX8_part 35 = .ok (.isub, 1) := by decide +kernel
theorem dX8_part_36 : decode cX8_part 36 = .ok (.invokevirtual 186, 3) := by decide +kernel
theorem dX8_part_39 : decode cX8_part 39 = .ok (.ifCond .eq 16, 3) := by decide +kernel
theorem dX8_part_42 : decode cX8_part 42 = .ok (.aload_n 0, 1) := by decide +kernel
theorem dX8_part_43 : decode cX8_part 43 = .ok (.getfield 24, 3) := by decide +kernel
theorem dX8_part_46 : decode cX8_part 46 = .ok (.iload_n 1, 1) := by decide +kernel
theorem dX8_part_47 : decode cX8_part 47 = .ok (.iload_n 2, 1) := by decide +kernel
theorem dX8_part_48 : decode cX8_part 48 = .ok (.bipush 10, 2) := by decide +kernel
theorem dX8_part_50 : decode cX8_part 50 = .ok (.isub, 1) := by decide +kernel
theorem dX8_part_51 : decode cX8_part 51 = .ok (.invokevirtual 190, 3) := by decide +kernel
theorem dX8_part_54 : decode cX8_part 54 = .ok (.ireturn, 1) := by decide +kernel
theorem dX8_part_55 : decode cX8_part 55 = .ok (.iload_n 2, 1) := by decide +kernel
theorem dX8_part_56 : decode cX8_part 56 = .ok (.tableswitch 61 0 2 #[28, 38, 48], 28) := by decide +kernel
theorem dX8_part_84 : decode cX8_part 84 = .ok (.aload_n 0, 1) := by decide +kernel
theorem dX8_part_85 : decode cX8_part 85 = .ok (.getfield 24, 3) := by decide +kernel
theorem dX8_part_88 : decode cX8_part 88 = .ok (.getfield 135, 3) := by decide +kernel
theorem dX8_part_91 : decode cX8_part 91 = .ok (.iload_n 1, 1) := by decide +kernel
theorem dX8_part_92 : decode cX8_part 92 = .ok (.iaload, 1) := by decide +kernel
theorem dX8_part_93 : decode cX8_part 93 = .ok (.ireturn, 1) := by decide +kernel
theorem dX8_part_94 : decode cX8_part 94 = .ok (.aload_n 0, 1) := by decide +kernel
theorem dX8_part_95 : decode cX8_part 95 = .ok (.getfield 24, 3) := by decide +kernel
theorem dX8_part_98 : decode cX8_part 98 = .ok (.getfield 122, 3) := by decide +kernel
theorem dX8_part_101 : decode cX8_part 101 = .ok (.iload_n 1, 1) := by decide +kernel
theorem dX8_part_102 : decode cX8_part 102 = .ok (.iaload, 1) := by decide +kernel
theorem dX8_part_103 : decode cX8_part 103 = .ok (.ireturn, 1) := by decide +kernel
theorem dX8_part_104 : decode cX8_part 104 = .ok (.aload_n 0, 1) := by decide +kernel
theorem dX8_part_105 : decode cX8_part 105 = .ok (.getfield 24, 3) := by decide +kernel
theorem dX8_part_108 : decode cX8_part 108 = .ok (.getfield 138, 3) := by decide +kernel
theorem dX8_part_111 : decode cX8_part 111 = .ok (.iload_n 1, 1) := by decide +kernel
theorem dX8_part_112 : decode cX8_part 112 = .ok (.iaload, 1) := by decide +kernel
theorem dX8_part_113 : decode cX8_part 113 = .ok (.invokestatic 153, 3) := by decide +kernel
theorem dX8_part_116 : decode cX8_part 116 = .ok (.ireturn, 1) := by decide +kernel
theorem dX8_part_117 : decode cX8_part 117 = .ok (.new 179, 3) := by decide +kernel
theorem dX8_part_120 : decode cX8_part 120 = .ok (.dup, 1) := by decide +kernel
theorem dX8_part_121 : decode cX8_part 121 = .ok (.ldc 193, 2) := by decide +kernel
theorem dX8_part_123 : decode cX8_part 123 = .ok (.invokespecial 183, 3) := by decide +kernel
theorem dX8_part_126 : decode cX8_part 126 = .ok (.athrow, 1) := by decide +kernel
abbrev rmX8_part : Room := { frames := 6, cells := 1, slots := 6, locals := 82 }
theorem inX8_part_7 : ∀ w ∈ wsX70, w ∈ wsX8_part := by decide +kernel
theorem inX8_part_8 : ∀ w ∈ wsX80, w ∈ wsX8_part := by decide +kernel
def vX8_part (parts : Int32) (limit : Int32) (len : Nat → Int32) (row : Nat → Int32) (vot : Nat → Int32) (p1 : Int32) (p2 : Int32) (Q : Int32 → Prop) (QX : Prop) : Prop := (preX7_hasPart parts limit p1 ∧ (∀ r_5 : Int32, postX7_hasPart parts limit p1 r_5 → ((¬ r_5 = 0 → ((p2 < (10 : Int32) → ((p2 = (0 : Int32) → (vp_in p1 5 ∧ (Q (len p1.toNatClampNeg)))) ∧ ((p2 = (1 : Int32) → (vp_in p1 5 ∧ (Q (vot p1.toNatClampNeg)))) ∧ ((p2 = (2 : Int32) → (vp_in p1 5 ∧ (∃ (s_113 : Nat), preJ6_bitCount_0f7a4 s_113 (row p1.toNatClampNeg) ∧ (∀ r_113 : Int32, postJ6_bitCount_0f7a4 s_113 (row p1.toNatClampNeg) r_113 → (Q r_113))))) ∧ (¬ p2 = (0 : Int32) → ¬ p2 = (1 : Int32) → ¬ p2 = (2 : Int32) → QX))))) ∧ (¬ p2 < (10 : Int32) → (∃ (T_36 : Cd) (pp_36 : Nat), preX7_hasPlace T_36 pp_36 parts limit len p1 (p2 - (10 : Int32)) ∧ (∀ r_36 : Int32, postX7_hasPlace T_36 pp_36 parts limit len p1 (p2 - (10 : Int32)) r_36 → ((r_36 = 0 → ((p2 = (0 : Int32) → (vp_in p1 5 ∧ (Q (len p1.toNatClampNeg)))) ∧ ((p2 = (1 : Int32) → (vp_in p1 5 ∧ (Q (vot p1.toNatClampNeg)))) ∧ ((p2 = (2 : Int32) → (vp_in p1 5 ∧ (∃ (s_113 : Nat), preJ6_bitCount_0f7a4 s_113 (row p1.toNatClampNeg) ∧ (∀ r_113 : Int32, postJ6_bitCount_0f7a4 s_113 (row p1.toNatClampNeg) r_113 → (Q r_113))))) ∧ (¬ p2 = (0 : Int32) → ¬ p2 = (1 : Int32) → ¬ p2 = (2 : Int32) → QX))))) ∧ (¬ r_36 = 0 → (∃ (T_51 : Cd) (pp_51 : Nat), preX7_chipOf T_51 pp_51 parts limit len row p1 (p2 - (10 : Int32)) ∧ (∀ r_51 : Int32, postX7_chipOf T_51 pp_51 parts limit len row p1 (p2 - (10 : Int32)) r_51 → (Q r_51)))))))))) ∧ (r_5 = 0 → QX))))
set_option maxHeartbeats 4000000 in
set_option maxRecDepth 100000 in
theorem wX8_part (l : Launch) (g : GP) (qX : Nat) (qP : Nat) (qI : Nat) (qt : Nat) (qd : Nat) (qe : Nat) (qsp : Nat) (qrk : Nat) (qty : Nat) (ql : Nat) (qr : Nat) (qv : Nat) (qg : Nat) (sz : Nat) (parts : Int32) (limit : Int32) (len : Nat → Int32) (row : Nat → Int32) (vot : Nat → Int32) (p1 : Int32) (p2 : Int32) {Q : Int32 → Prop} {QX : Prop} (z : Nat × Nat) (hst : l.stackTraces = false) (hv : vX8_part parts limit len row vot p1 p2 Q QX) : vx_Met l yX8_part wsX8_part rmX8_part (va_Pc [.ref qX, .int p1, .int p2] (fun U => U.heap.size = sz ∧ va_P g.1 vwCl [(qX, .inr (8, [.ref qP, .ref qI, .ref qt, .ref qd, .ref qe, .ref qsp, .ref qrk, .ref qty])), (qt, .inr (7, [.ref ql, .ref qr, .ref qv, .ref qg, .int parts, .int limit])), (ql, .inl (g.2 0, 5, .inl len)), (qr, .inl (g.2 0, 5, .inl row)), (qv, .inl (g.2 0, 5, .inl vot))] U.heap ∧ GK g U ∧ va_D (fun _ => True) [(qX, .inr (8, [.ref qP, .ref qI, .ref qt, .ref qd, .ref qe, .ref qsp, .ref qrk, .ref qty])), (qt, .inr (7, [.ref ql, .ref qr, .ref qv, .ref qg, .int parts, .int limit])), (ql, .inl (g.2 0, 5, .inl len)), (qr, .inl (g.2 0, 5, .inl row)), (qv, .inl (g.2 0, 5, .inl vot))] ∧ GX z (va_A [(qX, .inr (8, [.ref qP, .ref qI, .ref qt, .ref qd, .ref qe, .ref qsp, .ref qrk, .ref qty])), (qt, .inr (7, [.ref ql, .ref qr, .ref qv, .ref qg, .int parts, .int limit])), (ql, .inl (g.2 0, 5, .inl len)), (qr, .inl (g.2 0, 5, .inl row)), (qv, .inl (g.2 0, 5, .inl vot))] sz) U U.heap)) (va_Qi (fun (r : Int32) (u : Unit) => Q r) (fun (u : Unit) t => va_P g.1 vwCl [(qX, .inr (8, [.ref qP, .ref qI, .ref qt, .ref qd, .ref qe, .ref qsp, .ref qrk, .ref qty])), (qt, .inr (7, [.ref ql, .ref qr, .ref qv, .ref qg, .int parts, .int limit])), (ql, .inl (g.2 0, 5, .inl len)), (qr, .inl (g.2 0, 5, .inl row)), (qv, .inl (g.2 0, 5, .inl vot))] t.heap ∧ va_D (va_A [(qX, .inr (8, [.ref qP, .ref qI, .ref qt, .ref qd, .ref qe, .ref qsp, .ref qrk, .ref qty])), (qt, .inr (7, [.ref ql, .ref qr, .ref qv, .ref qg, .int parts, .int limit])), (ql, .inl (g.2 0, 5, .inl len)), (qr, .inl (g.2 0, 5, .inl row)), (qv, .inl (g.2 0, 5, .inl vot))] sz) [(qX, .inr (8, [.ref qP, .ref qI, .ref qt, .ref qd, .ref qe, .ref qsp, .ref qrk, .ref qty])), (qt, .inr (7, [.ref ql, .ref qr, .ref qv, .ref qg, .int parts, .int limit])), (ql, .inl (g.2 0, 5, .inl len)), (qr, .inl (g.2 0, 5, .inl row)), (qv, .inl (g.2 0, 5, .inl vot))]) (va_A [(qX, .inr (8, [.ref qP, .ref qI, .ref qt, .ref qd, .ref qe, .ref qsp, .ref qrk, .ref qty])), (qt, .inr (7, [.ref ql, .ref qr, .ref qv, .ref qg, .int parts, .int limit])), (ql, .inl (g.2 0, 5, .inl len)), (qr, .inl (g.2 0, 5, .inl row)), (qv, .inl (g.2 0, 5, .inl vot))] sz)) (vx_X (S := Unit) (fun _ => QX) (fun E _ t => E = "java/util/NoSuchElementException" ∧ va_P g.1 vwCl [(qX, .inr (8, [.ref qP, .ref qI, .ref qt, .ref qd, .ref qe, .ref qsp, .ref qrk, .ref qty])), (qt, .inr (7, [.ref ql, .ref qr, .ref qv, .ref qg, .int parts, .int limit])), (ql, .inl (g.2 0, 5, .inl len)), (qr, .inl (g.2 0, 5, .inl row)), (qv, .inl (g.2 0, 5, .inl vot))] t.heap ∧ va_D (va_A [(qX, .inr (8, [.ref qP, .ref qI, .ref qt, .ref qd, .ref qe, .ref qsp, .ref qrk, .ref qty])), (qt, .inr (7, [.ref ql, .ref qr, .ref qv, .ref qg, .int parts, .int limit])), (ql, .inl (g.2 0, 5, .inl len)), (qr, .inl (g.2 0, 5, .inl row)), (qv, .inl (g.2 0, 5, .inl vot))] sz) [(qX, .inr (8, [.ref qP, .ref qI, .ref qt, .ref qd, .ref qe, .ref qsp, .ref qrk, .ref qty])), (qt, .inr (7, [.ref ql, .ref qr, .ref qv, .ref qg, .int parts, .int limit])), (ql, .inl (g.2 0, 5, .inl len)), (qr, .inl (g.2 0, 5, .inl row)), (qv, .inl (g.2 0, 5, .inl vot))]) (va_A [(qX, .inr (8, [.ref qP, .ref qI, .ref qt, .ref qd, .ref qe, .ref qsp, .ref qrk, .ref qty])), (qt, .inr (7, [.ref ql, .ref qr, .ref qv, .ref qg, .int parts, .int limit])), (ql, .inl (g.2 0, 5, .inl len)), (qr, .inl (g.2 0, 5, .inl row)), (qv, .inl (g.2 0, 5, .inl vot))] sz)) 1 6 (va_A [(qX, .inr (8, [.ref qP, .ref qI, .ref qt, .ref qd, .ref qe, .ref qsp, .ref qrk, .ref qty])), (qt, .inr (7, [.ref ql, .ref qr, .ref qv, .ref qg, .int parts, .int limit])), (ql, .inl (g.2 0, 5, .inl len)), (qr, .inl (g.2 0, 5, .inl row)), (qv, .inl (g.2 0, 5, .inl vot))] sz) := by
  refine vx_ofW (cc := cX8_part) (maxL := 3) (ret := (some .int)) (by decide) rfl ?_
  intro p e s m args below meth c s₁ B hml htab hv'
  obtain ⟨rfl, hsz, hP, hG, hD0, hX⟩ := hv'
  have S : CallFix p m c cX8_part 3 s _ wsX8_part RX8 := ⟨B.exec, B.bytes, hml, findClass_of_methodNamed B.named, atoms_spec (ws := wsX8_part) B.pre⟩
  obtain ⟨hx, hb, hml, hown, hts⟩ := id S
  have hK := hG.1
  have hr := B.returns
  have hlocks := B.notSynchronized
  subst hsz
  have hD := hD0.self (sz := s.heap.size)
  generalize hAe : va_A [(qX, .inr (8, [.ref qP, .ref qI, .ref qt, .ref qd, .ref qe, .ref qsp, .ref qrk, .ref qty])), (qt, .inr (7, [.ref ql, .ref qr, .ref qv, .ref qg, .int parts, .int limit])), (ql, .inl (g.2 0, 5, .inl len)), (qr, .inl (g.2 0, 5, .inl row)), (qv, .inl (g.2 0, 5, .inl vot))] s.heap.size = A at hD hX ⊢
  have hA : ∀ q : Nat, s.heap.size ≤ q → A q := fun q h => by rw [← hAe]; exact Or.inr h
  have hS : va_S A s.heap s.heap [] := va_S.rf
  clear hD0 hAe
  have hl := lv_entry ([.ref qX, .int p1, .int p2]) (n := 3) (Nat.le_of_ble_eq_true rfl)
  rw [lg_entry_eq]
  generalize (lg_sl ([.ref qX, .int p1, .int p2]) ++ List.replicate (3 - (lg_sl ([.ref qX, .int p1, .int p2])).length) Slot.unset).toArray = ls at hl ⊢
  have hl : lv_has ls 3 [(0, .ref qX), (1, .int p1), (2, .int p2)] := hl
  unfold vX8_part at hv
  refine lv_aload_n hx hb dX8_part_0 rfl (lv_at hl 0 rfl) ?_
  refine va_get (D := g.1) (ci := 8) (v := .ref qt) (C := RX8) (T := TX8) (N := 8) hx hb hts inX8_part_8 hown hK hP 0 rfl rfl 2 (by decide) (hts (.fieldLink RX8 24 "RangeCodes" "told" "LRangeCodes$Told;") (List.mem_of_getElem? (i := 3) rfl)) (fun _ h9 => h9) rfl dX8_part_1 ?_
  refine lv_iload_n hx hb dX8_part_4 rfl (lv_at hl 1 rfl) ?_
  obtain ⟨ho_1, hv⟩ := hv
  refine vp_callSi (W.runV (As := [.int p1]) (rest := []) S (wX7_hasPart l g qt ql qr qv qg parts limit p1 (sX7_hasPart parts limit p1 ho_1)) (cwV 1 hts gX8_part_X7_hasPart rfl rfl rfl (by decide +kernel) ⟨Nat.le_of_ble_eq_true rfl, Nat.le_of_ble_eq_true rfl⟩) ⟨blindRO, va_recv hK hP (ci := 7) (q0 := 1) rfl rfl, fun U hU hW => ⟨rfl, by rw [hU]; exact hP.sub (ws' := [(qt, .inr (7, [.ref ql, .ref qr, .ref qv, .ref qg, .int parts, .int limit]))]) [1] rfl, hG.warm hW⟩⟩ rfl rfl hl.1 rfl (lv_room (Nat.le_of_ble_eq_true rfl)) dX8_part_5 ⟨Nat.le_of_ble_eq_true rfl, Nat.le_of_ble_eq_true rfl⟩) (fun r_5 hr_5 => ?_)
  have hv := hv r_5 hr_5
  obtain ⟨hvt, hvf⟩ := hv
  refine lv_if_ne (tgt := 21) hx hb dX8_part_8 (by decide) (fun hc => ?_) (fun hc => ?_)
  · have hv := hvt hc
    refine lv_iload_n hx hb dX8_part_21 rfl (lv_at hl 2 rfl) ?_
    refine lv_bipush (v := (10 : Int32)) hx hb dX8_part_22 (by decide) ?_
    obtain ⟨hvt, hvf⟩ := hv
    refine lv_icmp_lt (tgt := 55) hx hb dX8_part_24 (by decide) (fun hc => ?_) (fun hc => ?_)
    · have hv := hvt hc
      refine lv_iload_n hx hb dX8_part_55 rfl (lv_at hl 2 rfl) ?_
      obtain ⟨hvc, hv⟩ := hv
      by_cases hs0 : p2 = (0 : Int32)
      · have hv := hvc hs0
        refine lv_tableIn (tgt := 84) hx hb dX8_part_56 (by rw [hs0]; decide) (by rw [hs0]; decide) (by rw [hs0]; rfl) (by decide) ?_
        refine lv_aload_n hx hb dX8_part_84 rfl (lv_at hl 0 rfl) ?_
        refine va_get (D := g.1) (ci := 8) (v := .ref qt) (C := RX8) (T := TX8) (N := 8) hx hb hts inX8_part_8 hown hK hP 0 rfl rfl 2 (by decide) (hts (.fieldLink RX8 24 "RangeCodes" "told" "LRangeCodes$Told;") (List.mem_of_getElem? (i := 3) rfl)) (fun _ h9 => h9) rfl dX8_part_85 ?_
        refine va_get (D := g.1) (ci := 7) (v := .ref ql) (C := RX7) (T := TX7) (N := 6) hx hb hts inX8_part_7 hown hK hP 1 rfl rfl 0 (by decide) (hts (.fieldLink RX8 135 "RangeCodes$Told" "lengths" "[I") (List.mem_of_getElem? (i := 4) rfl)) (fun _ h9 => h9) rfl dX8_part_88 ?_
        refine lv_iload_n hx hb dX8_part_91 rfl (lv_at hl 1 rfl) ?_
        obtain ⟨ho_2, hv⟩ := hv
        refine va_iald hx hb hK hP 2 0 rfl rfl ho_2 dX8_part_92 ?_
        have hP9 := hP.sub (ws' := [(qX, .inr (8, [.ref qP, .ref qI, .ref qt, .ref qd, .ref qe, .ref qsp, .ref qrk, .ref qty])), (qt, .inr (7, [.ref ql, .ref qr, .ref qv, .ref qg, .int parts, .int limit])), (ql, .inl (g.2 0, 5, .inl len)), (qr, .inl (g.2 0, 5, .inl row)), (qv, .inl (g.2 0, 5, .inl vot))]) [0, 1, 2, 3, 4] rfl
        have hD9 := hD.sub (ws' := [(qX, .inr (8, [.ref qP, .ref qI, .ref qt, .ref qd, .ref qe, .ref qsp, .ref qrk, .ref qty])), (qt, .inr (7, [.ref ql, .ref qr, .ref qv, .ref qg, .int parts, .int limit])), (ql, .inl (g.2 0, 5, .inl len)), (qr, .inl (g.2 0, 5, .inl row)), (qv, .inl (g.2 0, 5, .inl vot))]) [0, 1, 2, 3, 4] (by decide) rfl
        refine W.widen (k := 1) (n := 6) (by decide) (by decide) ?_
        exact vx_ret (W.iret (v := (len p1.toNatClampNeg)) hx hb hr (fun t ht hW => ⟨⟨_, (), rfl, hv, by rw [ht]; exact hP9, hD9⟩, hS.F ht⟩) hS.2.2 dX8_part_93)
      obtain ⟨hvc, hv⟩ := hv
      by_cases hs1 : p2 = (1 : Int32)
      · have hv := hvc hs1
        refine lv_tableIn (tgt := 94) hx hb dX8_part_56 (by rw [hs1]; decide) (by rw [hs1]; decide) (by rw [hs1]; rfl) (by decide) ?_
        refine lv_aload_n hx hb dX8_part_94 rfl (lv_at hl 0 rfl) ?_
        refine va_get (D := g.1) (ci := 8) (v := .ref qt) (C := RX8) (T := TX8) (N := 8) hx hb hts inX8_part_8 hown hK hP 0 rfl rfl 2 (by decide) (hts (.fieldLink RX8 24 "RangeCodes" "told" "LRangeCodes$Told;") (List.mem_of_getElem? (i := 3) rfl)) (fun _ h9 => h9) rfl dX8_part_95 ?_
        refine va_get (D := g.1) (ci := 7) (v := .ref qv) (C := RX7) (T := TX7) (N := 6) hx hb hts inX8_part_7 hown hK hP 1 rfl rfl 2 (by decide) (hts (.fieldLink RX8 122 "RangeCodes$Told" "votes" "[I") (List.mem_of_getElem? (i := 5) rfl)) (fun _ h9 => h9) rfl dX8_part_98 ?_
        refine lv_iload_n hx hb dX8_part_101 rfl (lv_at hl 1 rfl) ?_
        obtain ⟨ho_3, hv⟩ := hv
        refine va_iald hx hb hK hP 4 0 rfl rfl ho_3 dX8_part_102 ?_
        have hP9 := hP.sub (ws' := [(qX, .inr (8, [.ref qP, .ref qI, .ref qt, .ref qd, .ref qe, .ref qsp, .ref qrk, .ref qty])), (qt, .inr (7, [.ref ql, .ref qr, .ref qv, .ref qg, .int parts, .int limit])), (ql, .inl (g.2 0, 5, .inl len)), (qr, .inl (g.2 0, 5, .inl row)), (qv, .inl (g.2 0, 5, .inl vot))]) [0, 1, 2, 3, 4] rfl
        have hD9 := hD.sub (ws' := [(qX, .inr (8, [.ref qP, .ref qI, .ref qt, .ref qd, .ref qe, .ref qsp, .ref qrk, .ref qty])), (qt, .inr (7, [.ref ql, .ref qr, .ref qv, .ref qg, .int parts, .int limit])), (ql, .inl (g.2 0, 5, .inl len)), (qr, .inl (g.2 0, 5, .inl row)), (qv, .inl (g.2 0, 5, .inl vot))]) [0, 1, 2, 3, 4] (by decide) rfl
        refine W.widen (k := 1) (n := 6) (by decide) (by decide) ?_
        exact vx_ret (W.iret (v := (vot p1.toNatClampNeg)) hx hb hr (fun t ht hW => ⟨⟨_, (), rfl, hv, by rw [ht]; exact hP9, hD9⟩, hS.F ht⟩) hS.2.2 dX8_part_103)
      obtain ⟨hvc, hv⟩ := hv
      by_cases hs2 : p2 = (2 : Int32)
      · have hv := hvc hs2
        refine lv_tableIn (tgt := 104) hx hb dX8_part_56 (by rw [hs2]; decide) (by rw [hs2]; decide) (by rw [hs2]; rfl) (by decide) ?_
        refine lv_aload_n hx hb dX8_part_104 rfl (lv_at hl 0 rfl) ?_
        refine va_get (D := g.1) (ci := 8) (v := .ref qt) (C := RX8) (T := TX8) (N := 8) hx hb hts inX8_part_8 hown hK hP 0 rfl rfl 2 (by decide) (hts (.fieldLink RX8 24 "RangeCodes" "told" "LRangeCodes$Told;") (List.mem_of_getElem? (i := 3) rfl)) (fun _ h9 => h9) rfl dX8_part_105 ?_
        refine va_get (D := g.1) (ci := 7) (v := .ref qr) (C := RX7) (T := TX7) (N := 6) hx hb hts inX8_part_7 hown hK hP 1 rfl rfl 1 (by decide) (hts (.fieldLink RX8 138 "RangeCodes$Told" "rows" "[I") (List.mem_of_getElem? (i := 6) rfl)) (fun _ h9 => h9) rfl dX8_part_108 ?_
        refine lv_iload_n hx hb dX8_part_111 rfl (lv_at hl 1 rfl) ?_
        obtain ⟨ho_4, hv⟩ := hv
        refine va_iald hx hb hK hP 3 0 rfl rfl ho_4 dX8_part_112 ?_
        obtain ⟨s_113, ho_5, hv⟩ := hv
        refine vp_callSi (W.runS (As := [.int (row p1.toNatClampNeg)]) (rest := []) S (wJ6_bitCount_0f7a4 l g (row p1.toNatClampNeg) (sJ6_bitCount_0f7a4 s_113 (row p1.toNatClampNeg) ho_5)) (va_cwS 1 hts gX8_part_J6_bitCount_0f7a4 rfl rfl rfl (by decide +kernel) ⟨Nat.le_of_ble_eq_true rfl, Nat.le_of_ble_eq_true rfl⟩) ⟨blindRO, fun U hU hW => ⟨rfl, by rw [hU]; exact hP.sub (ws' := []) [] rfl, hG.warm hW⟩⟩ rfl rfl hl.1 rfl (lv_room (Nat.le_of_ble_eq_true rfl)) dX8_part_113 ⟨Nat.le_of_ble_eq_true rfl, Nat.le_of_ble_eq_true rfl⟩) (fun r_113 hr_113 => ?_)
        have hv := hv r_113 hr_113
        have hP9 := hP.sub (ws' := [(qX, .inr (8, [.ref qP, .ref qI, .ref qt, .ref qd, .ref qe, .ref qsp, .ref qrk, .ref qty])), (qt, .inr (7, [.ref ql, .ref qr, .ref qv, .ref qg, .int parts, .int limit])), (ql, .inl (g.2 0, 5, .inl len)), (qr, .inl (g.2 0, 5, .inl row)), (qv, .inl (g.2 0, 5, .inl vot))]) [0, 1, 2, 3, 4] rfl
        have hD9 := hD.sub (ws' := [(qX, .inr (8, [.ref qP, .ref qI, .ref qt, .ref qd, .ref qe, .ref qsp, .ref qrk, .ref qty])), (qt, .inr (7, [.ref ql, .ref qr, .ref qv, .ref qg, .int parts, .int limit])), (ql, .inl (g.2 0, 5, .inl len)), (qr, .inl (g.2 0, 5, .inl row)), (qv, .inl (g.2 0, 5, .inl vot))]) [0, 1, 2, 3, 4] (by decide) rfl
        refine W.widen (k := 1) (n := 6) (by decide) (by decide) ?_
        exact vx_ret (W.iret (v := r_113) hx hb hr (fun t ht hW => ⟨⟨_, (), rfl, hv, by rw [ht]; exact hP9, hD9⟩, hS.F ht⟩) hS.2.2 dX8_part_116)
      have hv := hv hs0 hs1 hs2
      have hsT : p2.toInt < 0 ∨ 2 < p2.toInt := by
        have ht0 := lv_neT (a := 0) hs0 (by decide)
        have ht1 := lv_neT (a := 1) hs1 (by decide)
        have ht2 := lv_neT (a := 2) hs2 (by decide)
        omega
      refine lv_tableOut (tgt := 117) hx hb dX8_part_56 hsT (by decide) ?_
      have hat : ∀ w ∈ vx_atS RX8 183 "java/util/NoSuchElementException" ["java/lang/RuntimeException", "java/lang/Exception"], w.before _ s = true := vx_hat (L := vx_atS RX8 183 "java/util/NoSuchElementException" ["java/lang/RuntimeException", "java/lang/Exception"]) (B := xwL) (fun w hw => hts w ((by decide +kernel : ∀ w ∈ (vx_atS RX8 183 "java/util/NoSuchElementException" ["java/lang/RuntimeException", "java/lang/Exception"]).filter goodWord, w ∈ wsX8_part) w hw)) (by decide +kernel) (GX.words hX)
      exact vx_throwS hx hb hst (own := RX8) (cls := "java/util/NoSuchElementException") (text := "no such chip, or another what") (names := ["java/lang/RuntimeException", "java/lang/Exception"]) (ik := 179) (is := 193) (ic := 183) (sa := z.2) (A := A) hown (by decide +kernel) (by decide +kernel) (hts (.classLink RX8 179 "java/util/NoSuchElementException") (List.mem_of_getElem? (i := 1) rfl)) (hts (.initialized "java/util/NoSuchElementException") (List.mem_of_getElem? (i := 2) rfl)) hX.2.2.2.1 hat (by decide +kernel) hX.1 hX.2.1 hS (hl.1.trans hml.symm) dX8_part_117 dX8_part_120 dX8_part_121 dX8_part_123 dX8_part_126 (fun x9 h9 => (htab x9 h9).elim) (by decide) (by decide) (by decide) (by decide) hlocks (fun t _ h1 h2 => ⟨(), hv, ⟨rfl, hP.kept (fun k q hk => h2 _ (vx_lt hP hk)), hD⟩, ⟨Nat.le_trans hS.1 h1, fun q a b => (h2 q (Nat.lt_of_lt_of_le a hS.1)).trans (hS.2.1 q a b)⟩⟩) hS.2.2 (by decide) (by decide)
    · have hv := hvf hc
      refine lv_aload_n hx hb dX8_part_27 rfl (lv_at hl 0 rfl) ?_
      refine va_get (D := g.1) (ci := 8) (v := .ref qt) (C := RX8) (T := TX8) (N := 8) hx hb hts inX8_part_8 hown hK hP 0 rfl rfl 2 (by decide) (hts (.fieldLink RX8 24 "RangeCodes" "told" "LRangeCodes$Told;") (List.mem_of_getElem? (i := 3) rfl)) (fun _ h9 => h9) rfl dX8_part_28 ?_
      refine lv_iload_n hx hb dX8_part_31 rfl (lv_at hl 1 rfl) ?_
      refine lv_iload_n hx hb dX8_part_32 rfl (lv_at hl 2 rfl) ?_
      refine lv_bipush (v := (10 : Int32)) hx hb dX8_part_33 (by decide) ?_
      refine lv_isub hx hb dX8_part_35 ?_
      obtain ⟨T_36, pp_36, ho_6, hv⟩ := hv
      refine vp_callSi (W.runV (As := [.int p1, .int (p2 - (10 : Int32))]) (rest := []) S (wX7_hasPlace l g qt ql qr qv qg parts limit len p1 (p2 - (10 : Int32)) (sX7_hasPlace T_36 pp_36 parts limit len p1 (p2 - (10 : Int32)) ho_6)) (cwV 2 hts gX8_part_X7_hasPlace rfl rfl rfl (by decide +kernel) ⟨Nat.le_of_ble_eq_true rfl, Nat.le_of_ble_eq_true rfl⟩) ⟨blindRO, va_recv hK hP (ci := 7) (q0 := 1) rfl rfl, fun U hU hW => ⟨rfl, by rw [hU]; exact hP.sub (ws' := [(qt, .inr (7, [.ref ql, .ref qr, .ref qv, .ref qg, .int parts, .int limit])), (ql, .inl (g.2 0, 5, .inl len))]) [1, 2] rfl, hG.warm hW⟩⟩ rfl rfl hl.1 rfl (lv_room (Nat.le_of_ble_eq_true rfl)) dX8_part_36 ⟨Nat.le_of_ble_eq_true rfl, Nat.le_of_ble_eq_true rfl⟩) (fun r_36 hr_36 => ?_)
      have hv := hv r_36 hr_36
      obtain ⟨hvt, hvf⟩ := hv
      refine lv_if_eq (tgt := 55) hx hb dX8_part_39 (by decide) (fun hc => ?_) (fun hc => ?_)
      · have hv := hvt hc
        refine lv_iload_n hx hb dX8_part_55 rfl (lv_at hl 2 rfl) ?_
        obtain ⟨hvc, hv⟩ := hv
        by_cases hs0 : p2 = (0 : Int32)
        · have hv := hvc hs0
          refine lv_tableIn (tgt := 84) hx hb dX8_part_56 (by rw [hs0]; decide) (by rw [hs0]; decide) (by rw [hs0]; rfl) (by decide) ?_
          refine lv_aload_n hx hb dX8_part_84 rfl (lv_at hl 0 rfl) ?_
          refine va_get (D := g.1) (ci := 8) (v := .ref qt) (C := RX8) (T := TX8) (N := 8) hx hb hts inX8_part_8 hown hK hP 0 rfl rfl 2 (by decide) (hts (.fieldLink RX8 24 "RangeCodes" "told" "LRangeCodes$Told;") (List.mem_of_getElem? (i := 3) rfl)) (fun _ h9 => h9) rfl dX8_part_85 ?_
          refine va_get (D := g.1) (ci := 7) (v := .ref ql) (C := RX7) (T := TX7) (N := 6) hx hb hts inX8_part_7 hown hK hP 1 rfl rfl 0 (by decide) (hts (.fieldLink RX8 135 "RangeCodes$Told" "lengths" "[I") (List.mem_of_getElem? (i := 4) rfl)) (fun _ h9 => h9) rfl dX8_part_88 ?_
          refine lv_iload_n hx hb dX8_part_91 rfl (lv_at hl 1 rfl) ?_
          obtain ⟨ho_7, hv⟩ := hv
          refine va_iald hx hb hK hP 2 0 rfl rfl ho_7 dX8_part_92 ?_
          have hP9 := hP.sub (ws' := [(qX, .inr (8, [.ref qP, .ref qI, .ref qt, .ref qd, .ref qe, .ref qsp, .ref qrk, .ref qty])), (qt, .inr (7, [.ref ql, .ref qr, .ref qv, .ref qg, .int parts, .int limit])), (ql, .inl (g.2 0, 5, .inl len)), (qr, .inl (g.2 0, 5, .inl row)), (qv, .inl (g.2 0, 5, .inl vot))]) [0, 1, 2, 3, 4] rfl
          have hD9 := hD.sub (ws' := [(qX, .inr (8, [.ref qP, .ref qI, .ref qt, .ref qd, .ref qe, .ref qsp, .ref qrk, .ref qty])), (qt, .inr (7, [.ref ql, .ref qr, .ref qv, .ref qg, .int parts, .int limit])), (ql, .inl (g.2 0, 5, .inl len)), (qr, .inl (g.2 0, 5, .inl row)), (qv, .inl (g.2 0, 5, .inl vot))]) [0, 1, 2, 3, 4] (by decide) rfl
          refine W.widen (k := 1) (n := 6) (by decide) (by decide) ?_
          exact vx_ret (W.iret (v := (len p1.toNatClampNeg)) hx hb hr (fun t ht hW => ⟨⟨_, (), rfl, hv, by rw [ht]; exact hP9, hD9⟩, hS.F ht⟩) hS.2.2 dX8_part_93)
        obtain ⟨hvc, hv⟩ := hv
        by_cases hs1 : p2 = (1 : Int32)
        · have hv := hvc hs1
          refine lv_tableIn (tgt := 94) hx hb dX8_part_56 (by rw [hs1]; decide) (by rw [hs1]; decide) (by rw [hs1]; rfl) (by decide) ?_
          refine lv_aload_n hx hb dX8_part_94 rfl (lv_at hl 0 rfl) ?_
          refine va_get (D := g.1) (ci := 8) (v := .ref qt) (C := RX8) (T := TX8) (N := 8) hx hb hts inX8_part_8 hown hK hP 0 rfl rfl 2 (by decide) (hts (.fieldLink RX8 24 "RangeCodes" "told" "LRangeCodes$Told;") (List.mem_of_getElem? (i := 3) rfl)) (fun _ h9 => h9) rfl dX8_part_95 ?_
          refine va_get (D := g.1) (ci := 7) (v := .ref qv) (C := RX7) (T := TX7) (N := 6) hx hb hts inX8_part_7 hown hK hP 1 rfl rfl 2 (by decide) (hts (.fieldLink RX8 122 "RangeCodes$Told" "votes" "[I") (List.mem_of_getElem? (i := 5) rfl)) (fun _ h9 => h9) rfl dX8_part_98 ?_
          refine lv_iload_n hx hb dX8_part_101 rfl (lv_at hl 1 rfl) ?_
          obtain ⟨ho_8, hv⟩ := hv
          refine va_iald hx hb hK hP 4 0 rfl rfl ho_8 dX8_part_102 ?_
          have hP9 := hP.sub (ws' := [(qX, .inr (8, [.ref qP, .ref qI, .ref qt, .ref qd, .ref qe, .ref qsp, .ref qrk, .ref qty])), (qt, .inr (7, [.ref ql, .ref qr, .ref qv, .ref qg, .int parts, .int limit])), (ql, .inl (g.2 0, 5, .inl len)), (qr, .inl (g.2 0, 5, .inl row)), (qv, .inl (g.2 0, 5, .inl vot))]) [0, 1, 2, 3, 4] rfl
          have hD9 := hD.sub (ws' := [(qX, .inr (8, [.ref qP, .ref qI, .ref qt, .ref qd, .ref qe, .ref qsp, .ref qrk, .ref qty])), (qt, .inr (7, [.ref ql, .ref qr, .ref qv, .ref qg, .int parts, .int limit])), (ql, .inl (g.2 0, 5, .inl len)), (qr, .inl (g.2 0, 5, .inl row)), (qv, .inl (g.2 0, 5, .inl vot))]) [0, 1, 2, 3, 4] (by decide) rfl
          refine W.widen (k := 1) (n := 6) (by decide) (by decide) ?_
          exact vx_ret (W.iret (v := (vot p1.toNatClampNeg)) hx hb hr (fun t ht hW => ⟨⟨_, (), rfl, hv, by rw [ht]; exact hP9, hD9⟩, hS.F ht⟩) hS.2.2 dX8_part_103)
        obtain ⟨hvc, hv⟩ := hv
        by_cases hs2 : p2 = (2 : Int32)
        · have hv := hvc hs2
          refine lv_tableIn (tgt := 104) hx hb dX8_part_56 (by rw [hs2]; decide) (by rw [hs2]; decide) (by rw [hs2]; rfl) (by decide) ?_
          refine lv_aload_n hx hb dX8_part_104 rfl (lv_at hl 0 rfl) ?_
          refine va_get (D := g.1) (ci := 8) (v := .ref qt) (C := RX8) (T := TX8) (N := 8) hx hb hts inX8_part_8 hown hK hP 0 rfl rfl 2 (by decide) (hts (.fieldLink RX8 24 "RangeCodes" "told" "LRangeCodes$Told;") (List.mem_of_getElem? (i := 3) rfl)) (fun _ h9 => h9) rfl dX8_part_105 ?_
          refine va_get (D := g.1) (ci := 7) (v := .ref qr) (C := RX7) (T := TX7) (N := 6) hx hb hts inX8_part_7 hown hK hP 1 rfl rfl 1 (by decide) (hts (.fieldLink RX8 138 "RangeCodes$Told" "rows" "[I") (List.mem_of_getElem? (i := 6) rfl)) (fun _ h9 => h9) rfl dX8_part_108 ?_
          refine lv_iload_n hx hb dX8_part_111 rfl (lv_at hl 1 rfl) ?_
          obtain ⟨ho_9, hv⟩ := hv
          refine va_iald hx hb hK hP 3 0 rfl rfl ho_9 dX8_part_112 ?_
          obtain ⟨s_113, ho_10, hv⟩ := hv
          refine vp_callSi (W.runS (As := [.int (row p1.toNatClampNeg)]) (rest := []) S (wJ6_bitCount_0f7a4 l g (row p1.toNatClampNeg) (sJ6_bitCount_0f7a4 s_113 (row p1.toNatClampNeg) ho_10)) (va_cwS 1 hts gX8_part_J6_bitCount_0f7a4 rfl rfl rfl (by decide +kernel) ⟨Nat.le_of_ble_eq_true rfl, Nat.le_of_ble_eq_true rfl⟩) ⟨blindRO, fun U hU hW => ⟨rfl, by rw [hU]; exact hP.sub (ws' := []) [] rfl, hG.warm hW⟩⟩ rfl rfl hl.1 rfl (lv_room (Nat.le_of_ble_eq_true rfl)) dX8_part_113 ⟨Nat.le_of_ble_eq_true rfl, Nat.le_of_ble_eq_true rfl⟩) (fun r_113 hr_113 => ?_)
          have hv := hv r_113 hr_113
          have hP9 := hP.sub (ws' := [(qX, .inr (8, [.ref qP, .ref qI, .ref qt, .ref qd, .ref qe, .ref qsp, .ref qrk, .ref qty])), (qt, .inr (7, [.ref ql, .ref qr, .ref qv, .ref qg, .int parts, .int limit])), (ql, .inl (g.2 0, 5, .inl len)), (qr, .inl (g.2 0, 5, .inl row)), (qv, .inl (g.2 0, 5, .inl vot))]) [0, 1, 2, 3, 4] rfl
          have hD9 := hD.sub (ws' := [(qX, .inr (8, [.ref qP, .ref qI, .ref qt, .ref qd, .ref qe, .ref qsp, .ref qrk, .ref qty])), (qt, .inr (7, [.ref ql, .ref qr, .ref qv, .ref qg, .int parts, .int limit])), (ql, .inl (g.2 0, 5, .inl len)), (qr, .inl (g.2 0, 5, .inl row)), (qv, .inl (g.2 0, 5, .inl vot))]) [0, 1, 2, 3, 4] (by decide) rfl
          refine W.widen (k := 1) (n := 6) (by decide) (by decide) ?_
          exact vx_ret (W.iret (v := r_113) hx hb hr (fun t ht hW => ⟨⟨_, (), rfl, hv, by rw [ht]; exact hP9, hD9⟩, hS.F ht⟩) hS.2.2 dX8_part_116)
        have hv := hv hs0 hs1 hs2
        have hsT : p2.toInt < 0 ∨ 2 < p2.toInt := by
          have ht0 := lv_neT (a := 0) hs0 (by decide)
          have ht1 := lv_neT (a := 1) hs1 (by decide)
          have ht2 := lv_neT (a := 2) hs2 (by decide)
          omega
        refine lv_tableOut (tgt := 117) hx hb dX8_part_56 hsT (by decide) ?_
        have hat : ∀ w ∈ vx_atS RX8 183 "java/util/NoSuchElementException" ["java/lang/RuntimeException", "java/lang/Exception"], w.before _ s = true := vx_hat (L := vx_atS RX8 183 "java/util/NoSuchElementException" ["java/lang/RuntimeException", "java/lang/Exception"]) (B := xwL) (fun w hw => hts w ((by decide +kernel : ∀ w ∈ (vx_atS RX8 183 "java/util/NoSuchElementException" ["java/lang/RuntimeException", "java/lang/Exception"]).filter goodWord, w ∈ wsX8_part) w hw)) (by decide +kernel) (GX.words hX)
        exact vx_throwS hx hb hst (own := RX8) (cls := "java/util/NoSuchElementException") (text := "no such chip, or another what") (names := ["java/lang/RuntimeException", "java/lang/Exception"]) (ik := 179) (is := 193) (ic := 183) (sa := z.2) (A := A) hown (by decide +kernel) (by decide +kernel) (hts (.classLink RX8 179 "java/util/NoSuchElementException") (List.mem_of_getElem? (i := 1) rfl)) (hts (.initialized "java/util/NoSuchElementException") (List.mem_of_getElem? (i := 2) rfl)) hX.2.2.2.1 hat (by decide +kernel) hX.1 hX.2.1 hS (hl.1.trans hml.symm) dX8_part_117 dX8_part_120 dX8_part_121 dX8_part_123 dX8_part_126 (fun x9 h9 => (htab x9 h9).elim) (by decide) (by decide) (by decide) (by decide) hlocks (fun t _ h1 h2 => ⟨(), hv, ⟨rfl, hP.kept (fun k q hk => h2 _ (vx_lt hP hk)), hD⟩, ⟨Nat.le_trans hS.1 h1, fun q a b => (h2 q (Nat.lt_of_lt_of_le a hS.1)).trans (hS.2.1 q a b)⟩⟩) hS.2.2 (by decide) (by decide)
      · have hv := hvf hc
        refine lv_aload_n hx hb dX8_part_42 rfl (lv_at hl 0 rfl) ?_
        refine va_get (D := g.1) (ci := 8) (v := .ref qt) (C := RX8) (T := TX8) (N := 8) hx hb hts inX8_part_8 hown hK hP 0 rfl rfl 2 (by decide) (hts (.fieldLink RX8 24 "RangeCodes" "told" "LRangeCodes$Told;") (List.mem_of_getElem? (i := 3) rfl)) (fun _ h9 => h9) rfl dX8_part_43 ?_
        refine lv_iload_n hx hb dX8_part_46 rfl (lv_at hl 1 rfl) ?_
        refine lv_iload_n hx hb dX8_part_47 rfl (lv_at hl 2 rfl) ?_
        refine lv_bipush (v := (10 : Int32)) hx hb dX8_part_48 (by decide) ?_
        refine lv_isub hx hb dX8_part_50 ?_
        obtain ⟨T_51, pp_51, ho_11, hv⟩ := hv
        refine vp_callSi (W.runV (As := [.int p1, .int (p2 - (10 : Int32))]) (rest := []) S (wX7_chipOf l g qt ql qr qv qg parts limit len row p1 (p2 - (10 : Int32)) (sX7_chipOf T_51 pp_51 parts limit len row p1 (p2 - (10 : Int32)) ho_11)) (cwV 2 hts gX8_part_X7_chipOf rfl rfl rfl (by decide +kernel) ⟨Nat.le_of_ble_eq_true rfl, Nat.le_of_ble_eq_true rfl⟩) ⟨blindRO, va_recv hK hP (ci := 7) (q0 := 1) rfl rfl, fun U hU hW => ⟨rfl, by rw [hU]; exact hP.sub (ws' := [(qt, .inr (7, [.ref ql, .ref qr, .ref qv, .ref qg, .int parts, .int limit])), (ql, .inl (g.2 0, 5, .inl len)), (qr, .inl (g.2 0, 5, .inl row))]) [1, 2, 3] rfl, hG.warm hW⟩⟩ rfl rfl hl.1 rfl (lv_room (Nat.le_of_ble_eq_true rfl)) dX8_part_51 ⟨Nat.le_of_ble_eq_true rfl, Nat.le_of_ble_eq_true rfl⟩) (fun r_51 hr_51 => ?_)
        have hv := hv r_51 hr_51
        have hP9 := hP.sub (ws' := [(qX, .inr (8, [.ref qP, .ref qI, .ref qt, .ref qd, .ref qe, .ref qsp, .ref qrk, .ref qty])), (qt, .inr (7, [.ref ql, .ref qr, .ref qv, .ref qg, .int parts, .int limit])), (ql, .inl (g.2 0, 5, .inl len)), (qr, .inl (g.2 0, 5, .inl row)), (qv, .inl (g.2 0, 5, .inl vot))]) [0, 1, 2, 3, 4] rfl
        have hD9 := hD.sub (ws' := [(qX, .inr (8, [.ref qP, .ref qI, .ref qt, .ref qd, .ref qe, .ref qsp, .ref qrk, .ref qty])), (qt, .inr (7, [.ref ql, .ref qr, .ref qv, .ref qg, .int parts, .int limit])), (ql, .inl (g.2 0, 5, .inl len)), (qr, .inl (g.2 0, 5, .inl row)), (qv, .inl (g.2 0, 5, .inl vot))]) [0, 1, 2, 3, 4] (by decide) rfl
        refine W.widen (k := 1) (n := 6) (by decide) (by decide) ?_
        exact vx_ret (W.iret (v := r_51) hx hb hr (fun t ht hW => ⟨⟨_, (), rfl, hv, by rw [ht]; exact hP9, hD9⟩, hS.F ht⟩) hS.2.2 dX8_part_54)
  · have hv := hvf hc
    have hat : ∀ w ∈ vx_atS RX8 183 "java/util/NoSuchElementException" ["java/lang/RuntimeException", "java/lang/Exception"], w.before _ s = true := vx_hat (L := vx_atS RX8 183 "java/util/NoSuchElementException" ["java/lang/RuntimeException", "java/lang/Exception"]) (B := xwL) (fun w hw => hts w ((by decide +kernel : ∀ w ∈ (vx_atS RX8 183 "java/util/NoSuchElementException" ["java/lang/RuntimeException", "java/lang/Exception"]).filter goodWord, w ∈ wsX8_part) w hw)) (by decide +kernel) (GX.words hX)
    exact vx_throwS hx hb hst (own := RX8) (cls := "java/util/NoSuchElementException") (text := "no such part") (names := ["java/lang/RuntimeException", "java/lang/Exception"]) (ik := 179) (is := 181) (ic := 183) (sa := z.1) (A := A) hown (by decide +kernel) (by decide +kernel) (hts (.classLink RX8 179 "java/util/NoSuchElementException") (List.mem_of_getElem? (i := 1) rfl)) (hts (.initialized "java/util/NoSuchElementException") (List.mem_of_getElem? (i := 2) rfl)) hX.2.2.1 hat (by decide +kernel) hX.1 hX.2.1 hS (hl.1.trans hml.symm) dX8_part_11 dX8_part_14 dX8_part_15 dX8_part_17 dX8_part_20 (fun x9 h9 => (htab x9 h9).elim) (by decide) (by decide) (by decide) (by decide) hlocks (fun t _ h1 h2 => ⟨(), hv, ⟨rfl, hP.kept (fun k q hk => h2 _ (vx_lt hP hk)), hD⟩, ⟨Nat.le_trans hS.1 h1, fun q a b => (h2 q (Nat.lt_of_lt_of_le a hS.1)).trans (hS.2.1 q a b)⟩⟩) hS.2.2 (by decide) (by decide)
abbrev preX8_part (T : Cd) (G0 : Lg) (G1 : Lg) (lim : Nat) (parts : Int32) (limit : Int32) (len : Nat → Int32) (row : Nat → Int32) (vot : Nat → Int32) (p1 : Int32) (p2 : Int32) : Prop := isN T parts ∧ isL T len ∧ isR T row ∧ isV T vot
abbrev postX8_part (T : Cd) (G0 : Lg) (G1 : Lg) (lim : Nat) (parts : Int32) (limit : Int32) (len : Nat → Int32) (row : Nat → Int32) (vot : Nat → Int32) (p1 : Int32) (p2 : Int32) (r : Int32) : Prop := okPa T p1.toInt p2.toInt ∧ r.toInt = spPa T p1.toInt p2.toInt
theorem sX8_part (T : Cd) (G0 : Lg) (G1 : Lg) (lim : Nat) (parts : Int32) (limit : Int32) (len : Nat → Int32) (row : Nat → Int32) (vot : Nat → Int32) (p1 : Int32) (p2 : Int32) (H : preX8_part T G0 G1 lim parts limit len row vot p1 p2) : vX8_part parts limit len row vot p1 p2 (postX8_part T G0 G1 lim parts limit len row vot p1 p2) (¬ okPa T p1.toInt p2.toInt) := by
  obtain ⟨hN, hL, hR, hV⟩ := H
  have hn5 := hN.2
  refine ⟨trivial, fun r hr => ?_⟩
  have hr : r = if 0 ≤ p1.toInt ∧ p1.toInt < (cn T : Int) then 1 else 0 := by rw [← hN.1]; exact hr
  by_cases c : 0 ≤ p1.toInt ∧ p1.toInt < (cn T : Int)
  · rw [if_pos c] at hr
    rw [hr]
    refine ⟨fun _ => ?_, fun d => absurd d (by decide)⟩
    obtain ⟨p, hp⟩ : ∃ p : Nat, p1.toInt = (p : Int) := ⟨p1.toInt.toNat, by omega⟩
    have ep : p1.toInt.toNat = p := by omega
    have hpn : p < cn T := by omega
    have hLp := hL p hpn
    have hRp := hR p hpn
    have hVp := hV p hpn
    have h13 : 2 ^ cL T p ≤ 8192 := p13_le hLp.2.2
    have hin := q_in (N := 5) hp (by omega)
    have sw : ¬ (10 ≤ p2.toInt ∧ p2.toInt < 10 + (cL T p : Int)) → ((p2 = (0 : Int32) → (vp_in p1 5 ∧ postX8_part T G0 G1 lim parts limit len row vot p1 p2 (len p1.toNatClampNeg))) ∧ ((p2 = (1 : Int32) → (vp_in p1 5 ∧ postX8_part T G0 G1 lim parts limit len row vot p1 p2 (vot p1.toNatClampNeg))) ∧ ((p2 = (2 : Int32) → (vp_in p1 5 ∧ (∃ s : Nat, preJ6_bitCount_0f7a4 s (row p1.toNatClampNeg) ∧ (∀ r : Int32, postJ6_bitCount_0f7a4 s (row p1.toNatClampNeg) r → postX8_part T G0 G1 lim parts limit len row vot p1 p2 r)))) ∧ (¬ p2 = (0 : Int32) → ¬ p2 = (1 : Int32) → ¬ p2 = (2 : Int32) → ¬ okPa T p1.toInt p2.toInt)))) := fun no => by
      rw [q_cl hp]
      simp only [fa_eq p2, z0, z1, z2]
      unfold postX8_part okPa spPa
      rw [ep]
      refine ⟨fun d => ⟨hin, ⟨c, Or.inl (by omega)⟩, ?_⟩, fun d => ⟨hin, ⟨c, Or.inl (by omega)⟩, ?_⟩, fun d => ⟨hin, cR T p, ⟨hRp.1, by omega⟩, fun r hr => ⟨⟨c, Or.inl (by omega)⟩, ?_⟩⟩, fun d1 d2 d3 q => ?_⟩
      · rw [if_pos d]; exact hLp.1
      · rw [if_neg (by omega), if_pos d]; exact hVp.1
      · rw [if_neg (by omega), if_neg (by omega), if_pos d]; exact hr
      · rcases q.2 with z | z
        · omega
        · exact no z
    rw [q_lt (y := (10 : Int32)) rfl z10]
    have s10 := sub10 p2
    refine ⟨fun d => sw (fun z => by omega), fun d => ⟨T, p, ⟨hL, hn5, hp, hpn⟩, fun r2 hr2 => ?_⟩⟩
    have e10 : (p2 - (10 : Int32)).toInt = p2.toInt - 10 := by omega
    have hr2 : r2 = if 0 ≤ (p2 - (10 : Int32)).toInt ∧ (p2 - (10 : Int32)).toInt < (cL T p : Int) then 1 else 0 := hr2
    rw [e10] at hr2
    by_cases d2 : 0 ≤ p2.toInt - 10 ∧ p2.toInt - 10 < (cL T p : Int)
    · rw [if_pos d2] at hr2
      rw [hr2]
      refine ⟨fun q => absurd q (by decide), fun _ => ⟨T, p, ⟨hn5, hL, hR, hp, hpn⟩, fun r3 hr3 => ⟨⟨c, Or.inr (by rw [ep]; omega)⟩, ?_⟩⟩⟩
      have hr3 : r3 = if chB T p (p2 - (10 : Int32)).toInt then 1 else 0 := hr3
      have ec : chB T p (p2.toInt - 10) = (cR T p).testBit (p2.toInt - 10).toNat := by
        unfold chB
        rw [Int.emod_eq_of_lt d2.1 d2.2]
      have n0 : ¬ p2.toInt = 0 := by omega
      have n1 : ¬ p2.toInt = 1 := by omega
      have n2 : ¬ p2.toInt = 2 := by omega
      rw [hr3, e10, ec]
      unfold spPa
      rw [ep]
      simp only [if_neg n0, if_neg n1, if_neg n2]
      split <;> rfl
    · rw [if_neg d2] at hr2
      rw [hr2]
      exact ⟨fun _ => sw (fun z => by omega), fun q => absurd rfl q⟩
  · rw [if_neg c] at hr
    rw [hr]
    exact ⟨fun q => absurd rfl q, fun _ q => c q.1⟩
set_option maxRecDepth 20000 in
theorem ggX9_part_X9_isPart : GoodIn wsX9_part wsX9_isPart := goodIn_r _ [6, 7, 8, 9, 5, 10, 21, 22, 23, 24, 25, 26, 27, 28, 29, 30, 31, 32, 33, 34, 35, 36, 37, 38, 39, 40, 41, 42, 43, 44, 45, 46, 47, 48, 49] (by decide +kernel) (by decide +kernel)
set_option maxRecDepth 20000 in
theorem gX9_part_X9_isPart : GoodIn wsX9_part (wsV RX9 192 RX9 yX9_isPart wsX9_isPart) := goodIn_app (goodIn_of _ (by decide +kernel)) ggX9_part_X9_isPart
set_option maxRecDepth 20000 in
theorem ggX9_part_X9_in : GoodIn wsX9_part wsX9_in := goodIn_r _ [10] (by decide +kernel) (by decide +kernel)
set_option maxRecDepth 20000 in
theorem gX9_part_X9_in : GoodIn wsX9_part (va_wsS RX9 63 yX9_in wsX9_in) := goodIn_app (goodIn_of _ (by decide +kernel)) ggX9_part_X9_in
set_option maxRecDepth 20000 in
theorem ggX9_part_X9_of : GoodIn wsX9_part wsX9_of := goodIn_r _ [14, 7, 21, 22, 23, 24, 25, 26, 27, 28, 29, 30, 31, 32, 33, 34, 35, 36, 37, 38, 39, 40, 41, 42, 43, 44, 45, 46, 47, 48, 49] (by decide +kernel) (by decide +kernel)
set_option maxRecDepth 20000 in
theorem gX9_part_X9_of : GoodIn wsX9_part (wsV RX9 195 RX9 yX9_of wsX9_of) := goodIn_app (goodIn_of _ (by decide +kernel)) ggX9_part_X9_of
set_option maxRecDepth 20000 in
theorem ggX9_part_X9_ones : GoodIn wsX9_part wsX9_ones := goodIn_r _ [17] (by decide +kernel) (by decide +kernel)
set_option maxRecDepth 20000 in
theorem gX9_part_X9_ones : GoodIn wsX9_part (va_wsS RX9 216 yX9_ones wsX9_ones) := goodIn_app (goodIn_of _ (by decide +kernel)) ggX9_part_X9_ones
set_option maxRecDepth 20000 in
theorem ggX9_part_X9_has : GoodIn wsX9_part wsX9_has := goodIn_r _ [20] (by decide +kernel) (by decide +kernel)
set_option maxRecDepth 20000 in
theorem gX9_part_X9_has : GoodIn wsX9_part (va_wsS RX9 201 yX9_has wsX9_has) := goodIn_app (goodIn_of _ (by decide +kernel)) ggX9_part_X9_has
theorem dX9_part_0 : decode cX9_part 0 = .ok (.aload_n 0, 1) := by decide +kernel
theorem dX9_part_1 : decode cX9_part 1 = .ok (.aload_n 0, 1) := by decide +kernel
theorem dX9_part_2 : decode cX9_part 2 = .ok (.iload_n 1, 1) := by decide +kernel
theorem dX9_part_3 : decode cX9_part 3 = .ok (.invokevirtual 192, 3) := by decide +kernel
theorem dX9_part_6 : decode cX9_part 6 = .ok (.ifCond .eq 35, 3) := by decide +kernel
theorem dX9_part_9 : decode cX9_part 9 = .ok (.iload_n 2, 1) := by decide +kernel
theorem dX9_part_10 : decode cX9_part 10 = .ok (.iconst 0, 1) := by decide +kernel
theorem dX9_part_11 : decode cX9_part 11 = .ok (.iconst 2, 1) := by decide +kernel
theorem dX9_part_12 : decode cX9_part 12 = .ok (.invokestatic 63, 3) := by decide +kernel
theorem dX9_part_15 : decode cX9_part 15 = .ok (.ifCond .ne 22, 3) := by decide +kernel
theorem dX9_part_18 : decode cX9_part 18 = .ok (.iload_n 2, 1) := by decide +kernel
theorem dX9_part_19 : decode cX9_part 19 = .ok (.bipush 10, 2) := by decide +kernel
theorem dX9_part_21 : decode cX9_part 21 = .ok (.isub, 1) := by decide +kernel
theorem dX9_part_22 : decode cX9_part 22 = .ok (.iconst 0, 1) := by decide +kernel
theorem dX9_part_23 : decode cX9_part 23 = .ok (.aload_n 0, 1) := by decide +kernel
theorem dX9_part_24 : decode cX9_part 24 = .ok (.iload_n 1, 1) := by decide +kernel
theorem dX9_part_25 : decode cX9_part 25 = .ok (.iconst 0, 1) := by decide +kernel
theorem dX9_part_26 : decode cX9_part 26 = .ok (.invokevirtual 195, 3) := by decide +kernel
theorem dX9_part_29 : decode cX9_part 29 = .ok (.iconst 1, 1) := by decide +kernel
theorem dX9_part_30 : decode cX9_part 30 = .ok (.isub, 1) := by decide +kernel
theorem dX9_part_31 : decode cX9_part 31 = .ok (.invokestatic 63, 3) := by decide +kernel
theorem dX9_part_34 : decode cX9_part 34 = .ok (.ifCond .eq 7, 3) := by decide +kernel
theorem dX9_part_37 : decode cX9_part 37 = .ok (.iconst 0, 1) := by decide +kernel
theorem dX9_part_38 : decode cX9_part 38 = .ok (.goto 4, 3) := by decide +kernel
theorem dX9_part_41 : decode cX9_part 41 = .ok (.iconst 1, 1) := by decide +kernel
theorem dX9_part_42 : decode cX9_part 42 = .ok (.putfield 51, 3) := by decide +kernel
theorem dX9_part_45 : decode cX9_part 45 = .ok (.aload_n 0, 1) := by decide +kernel
theorem dX9_part_46 : decode cX9_part 46 = .ok (.getfield 51, 3) := by decide +kernel
theorem dX9_part_49 : decode cX9_part 49 = .ok (.ifCond .le 5, 3) := by decide +kernel
theorem dX9_part_52 : decode cX9_part 52 = .ok (.iconst 0, 1) := by decide +kernel
theorem dX9_part_53 : decode cX9_part 53 = .ok (.ireturn, 1) := by decide +kernel
theorem dX9_part_54 : decode cX9_part 54 = .ok (.iload_n 2, 1) := by decide +kernel
theorem dX9_part_55 : decode cX9_part 55 = .ok (.iconst 2, 1) := by decide +kernel
theorem dX9_part_56 : decode cX9_part 56 = .ok (.if_icmp .ne 15, 3) := by decide +kernel
theorem dX9_part_59 : decode cX9_part 59 = .ok (.aload_n 0, 1) := by decide +kernel
theorem dX9_part_60 : decode cX9_part 60 = .ok (.iload_n 1, 1) := by decide +kernel
theorem dX9_part_61 : decode cX9_part 61 = .ok (.iconst 2, 1) := by decide +kernel
theorem dX9_part_62 : decode cX9_part 62 = .ok (.invokevirtual 195, 3) := by decide +kernel
theorem dX9_part_65 : decode cX9_part 65 = .ok (.invokestatic 216, 3) := by decide +kernel
theorem dX9_part_68 : decode cX9_part 68 = .ok (.goto 38, 3) := by decide +kernel
theorem dX9_part_71 : decode cX9_part 71 = .ok (.iload_n 2, 1) := by decide +kernel
theorem dX9_part_72 : decode cX9_part 72 = .ok (.iconst 2, 1) := by decide +kernel
theorem dX9_part_73 : decode cX9_part 73 = .ok (.if_icmp .ge 12, 3) := by decide +kernel
theorem dX9_part_76 : decode cX9_part 76 = .ok (.aload_n 0, 1) := by decide +kernel
theorem dX9_part_77 : decode cX9_part 77 = .ok (.iload_n 1, 1) := by decide +kernel
theorem dX9_part_78 : decode cX9_part 78 = .ok (.iload_n 2, 1) := by decide +kernel
theorem dX9_part_79 : decode cX9_part 79 = .ok (.invokevirtual 195, 3) := by decide +kernel
theorem dX9_part_82 : decode cX9_part 82 = .ok (.goto 24, 3) := by decide +kernel
theorem dX9_part_85 : decode cX9_part 85 = .ok (.aload_n 0, 1) := by decide +kernel
theorem dX9_part_86 : decode cX9_part 86 = .ok (.iload_n 1, 1) := by decide +kernel
theorem dX9_part_87 : decode cX9_part 87 = .ok (.iconst 2, 1) := by decide +kernel
theorem dX9_part_88 : decode cX9_part 88 = .ok (.invokevirtual 195, 3) := by decide +kernel
theorem dX9_part_91 : decode cX9_part 91 = .ok (.iload_n 2, 1) := by decide +kernel
theorem dX9_part_92 : decode cX9_part 92 = .ok (.bipush 10, 2) := by decide +kernel
theorem dX9_part_94 : decode cX9_part 94 = .ok (.isub, 1) := by decide +kernel
theorem dX9_part_95 : decode cX9_part 95 = .ok (.invokestatic 201, 3) := by decide +kernel
theorem dX9_part_98 : decode cX9_part 98 = .ok (.ifCond .eq 7, 3) := by decide +kernel
theorem dX9_part_101 : decode cX9_part 101 = .ok (.iconst 1, 1) := by decide +kernel
theorem dX9_part_102 : decode cX9_part 102 = .ok (.goto 4, 3) := by decide +kernel
theorem dX9_part_105 : decode cX9_part 105 = .ok (.iconst 0, 1) := by decide +kernel
theorem dX9_part_106 : decode cX9_part 106 = .ok (.ireturn, 1) := by decide +kernel
abbrev rmX9_part : Room := { frames := 2, cells := 0, slots := 0, locals := 43 }
theorem inX9_part_9 : ∀ w ∈ wsX90, w ∈ wsX9_part := by decide +kernel
def vX9_part_c42 (J : Nat → Int64) (al : Nat → Int32) (p1 : Int32) (p2 : Int32) (Q : Int32 → (Nat → Int32) → Prop) (s0 : Int32) (F : Nat → Int32) : Prop := ((s0 ≤ 0 → ((¬ p2 = (2 : Int32) → (((2 : Int32) ≤ p2 → (∃ (p_88 : Nat) (w_88 : Nat), preX9_of p_88 w_88 (upd F 0 s0) J al p1 (2 : Int32) ∧ (∀ r_88 : Int32, postX9_of p_88 w_88 (upd F 0 s0) J al p1 (2 : Int32) r_88 → (∃ (s_95 : Nat) (k_95 : Nat), preX9_has s_95 k_95 r_88 (p2 - (10 : Int32)) ∧ (∀ r_95 : Int32, postX9_has s_95 k_95 r_88 (p2 - (10 : Int32)) r_95 → ((r_95 = 0 → (Q (0 : Int32) (upd F 0 s0))) ∧ (¬ r_95 = 0 → (Q (1 : Int32) (upd F 0 s0))))))))) ∧ (¬ (2 : Int32) ≤ p2 → (∃ (p_79 : Nat) (w_79 : Nat), preX9_of p_79 w_79 (upd F 0 s0) J al p1 p2 ∧ (∀ r_79 : Int32, postX9_of p_79 w_79 (upd F 0 s0) J al p1 p2 r_79 → (Q r_79 (upd F 0 s0))))))) ∧ (p2 = (2 : Int32) → (∃ (p_62 : Nat) (w_62 : Nat), preX9_of p_62 w_62 (upd F 0 s0) J al p1 (2 : Int32) ∧ (∀ r_62 : Int32, postX9_of p_62 w_62 (upd F 0 s0) J al p1 (2 : Int32) r_62 → (∃ (s_65 : Nat), preX9_ones s_65 r_62 ∧ (∀ r_65 : Int32, postX9_ones s_65 r_62 r_65 → (Q r_65 (upd F 0 s0))))))))) ∧ (¬ s0 ≤ 0 → (Q (0 : Int32) (upd F 0 s0))))
set_option maxHeartbeats 4000000 in
set_option maxRecDepth 100000 in
theorem kX9_part_c42 {p : Program} {l : Launch} {e : Env} {s : State} {m : MethodId} {args : Array Value} {below : List Frame} {meth : Method} {c : Code} {g : GP} {qM : Nat} {q1 : Nat} {q2 : Nat} {q3 : Nat} {q4 : Nat} {q5 : Nat} {q6 : Nat} {q7 : Nat} {q8 : Nat} {q9 : Nat} {q10 : Nat} {q11 : Nat} {J : Nat → Int64} {al : Nat → Int32} {p1 : Int32} {p2 : Int32} {Q : Int32 → (Nat → Int32) → Prop} {A : Nat → Prop} (S : CallFix p m c cX9_part 3 s args wsX9_part RX9) (hr : meth.sig.returnType = (some .int)) (hlocks : meth.locks = false) (hG : GK g s) (hA : ∀ q : Nat, s.heap.size ≤ q → A q) : ∀ (s0 : Int32) (F : Nat → Int32), vX9_part_c42 J al p1 p2 Q s0 F → ∀ (H : Heap) (locs : List Loc), va_P g.1 vwCl [(qM, .inr (9, [.int (F 0), .ref q1, .ref q2, .ref q3, .int (F 4), .int (F 5), .int (F 6), .int (F 7), .int (F 8), .int (F 9), .long (J 10), .int (F 11), .int (F 12), .int (F 13), .ref q4, .int (F 15), .ref q5, .ref q6, .ref q7, .int (F 19), .ref q8, .int (F 21), .int (F 22), .int (F 23), .int (F 24), .ref q9, .ref q10, .ref q11, .long (J 28)])), (q1, .inl (g.2 0, 376, .inl al))] H → va_D A [(qM, .inr (9, [.int (F 0), .ref q1, .ref q2, .ref q3, .int (F 4), .int (F 5), .int (F 6), .int (F 7), .int (F 8), .int (F 9), .long (J 10), .int (F 11), .int (F 12), .int (F 13), .ref q4, .int (F 15), .ref q5, .ref q6, .ref q7, .int (F 19), .ref q8, .int (F 21), .int (F 22), .int (F 23), .int (F 24), .ref q9, .ref q10, .ref q11, .long (J 28)])), (q1, .inl (g.2 0, 376, .inl al))] → va_S A s.heap H locs → ∀ (ls : Array Slot), lv_has ls 3 [(0, .ref qM), (1, .int p1), (2, .int p2)] → W p l e (headSpec wsX9_part rmX9_part).room s m args below meth c H locs 0 0 (MQ below (va_Qi (fun (r : Int32) (u : (Nat → Int32)) => Q r u) (fun (u : (Nat → Int32)) t => va_P g.1 vwCl [(qM, .inr (9, [.int (u 0), .ref q1, .ref q2, .ref q3, .int (u 4), .int (u 5), .int (u 6), .int (u 7), .int (u 8), .int (u 9), .long (J 10), .int (u 11), .int (u 12), .int (u 13), .ref q4, .int (u 15), .ref q5, .ref q6, .ref q7, .int (u 19), .ref q8, .int (u 21), .int (u 22), .int (u 23), .int (u 24), .ref q9, .ref q10, .ref q11, .long (J 28)])), (q1, .inl (g.2 0, 376, .inl al))] t.heap ∧ va_D A [(qM, .inr (9, [.int (u 0), .ref q1, .ref q2, .ref q3, .int (u 4), .int (u 5), .int (u 6), .int (u 7), .int (u 8), .int (u 9), .long (J 10), .int (u 11), .int (u 12), .int (u 13), .ref q4, .int (u 15), .ref q5, .ref q6, .ref q7, .int (u 19), .ref q8, .int (u 21), .int (u 22), .int (u 23), .int (u 24), .ref q9, .ref q10, .ref q11, .long (J 28)])), (q1, .inl (g.2 0, 376, .inl al))]) A) args s 0 0 A) (F0 m 42 ls [.int s0, .ref qM]) := by
  obtain ⟨hx, hb, hml, hown, hts⟩ := id S
  have hK := hG.1
  intro s0 F hv H locs hP hD hS ls hl
  unfold vX9_part_c42 at hv
  refine va_put (D := g.1) (ci := 9) (v := .int s0) (ty := .int) (C := RX9) (T := TX9) (N := 29) hx hb hts inX9_part_9 tyX9 tyX9_ok nmX9 hown hK hP hD hS 0 rfl rfl 0 (by decide) (hts (.fieldLink RX9 51 "RangeCodesModel" "raised" "I") (List.mem_of_getElem? (i := 1) rfl)) (fun _ h9 => h9) rfl (by decide +kernel) rfl rfl (Nat.le_of_ble_eq_true rfl) dX9_part_42 (fun H locs hP hD hS => ?_)
  have hP : va_P g.1 vwCl [(qM, .inr (9, [.int s0, .ref q1, .ref q2, .ref q3, .int (F 4), .int (F 5), .int (F 6), .int (F 7), .int (F 8), .int (F 9), .long (J 10), .int (F 11), .int (F 12), .int (F 13), .ref q4, .int (F 15), .ref q5, .ref q6, .ref q7, .int (F 19), .ref q8, .int (F 21), .int (F 22), .int (F 23), .int (F 24), .ref q9, .ref q10, .ref q11, .long (J 28)])), (q1, .inl (g.2 0, 376, .inl al))] H := hP
  have hD : va_D A [(qM, .inr (9, [.int s0, .ref q1, .ref q2, .ref q3, .int (F 4), .int (F 5), .int (F 6), .int (F 7), .int (F 8), .int (F 9), .long (J 10), .int (F 11), .int (F 12), .int (F 13), .ref q4, .int (F 15), .ref q5, .ref q6, .ref q7, .int (F 19), .ref q8, .int (F 21), .int (F 22), .int (F 23), .int (F 24), .ref q9, .ref q10, .ref q11, .long (J 28)])), (q1, .inl (g.2 0, 376, .inl al))] := hD
  refine lv_aload_n hx hb dX9_part_45 rfl (lv_at hl 0 rfl) ?_
  refine va_get (D := g.1) (ci := 9) (v := .int s0) (C := RX9) (T := TX9) (N := 29) hx hb hts inX9_part_9 hown hK hP 0 rfl rfl 0 (by decide) (hts (.fieldLink RX9 51 "RangeCodesModel" "raised" "I") (List.mem_of_getElem? (i := 1) rfl)) (fun _ h9 => h9) rfl dX9_part_46 ?_
  obtain ⟨hvt, hvf⟩ := hv
  refine lv_if_le (tgt := 54) hx hb dX9_part_49 (by decide) (fun hc => ?_) (fun hc => ?_)
  · have hv := hvt hc
    refine lv_iload_n hx hb dX9_part_54 rfl (lv_at hl 2 rfl) ?_
    refine lv_iconst (v := (2 : Int32)) hx hb dX9_part_55 (by decide) ?_
    obtain ⟨hvt, hvf⟩ := hv
    refine lv_icmp_ne (tgt := 71) hx hb dX9_part_56 (by decide) (fun hc => ?_) (fun hc => ?_)
    · have hv := hvt hc
      refine lv_iload_n hx hb dX9_part_71 rfl (lv_at hl 2 rfl) ?_
      refine lv_iconst (v := (2 : Int32)) hx hb dX9_part_72 (by decide) ?_
      obtain ⟨hvt, hvf⟩ := hv
      refine lv_icmp_ge (tgt := 85) hx hb dX9_part_73 (by decide) (fun hc => ?_) (fun hc => ?_)
      · have hv := hvt hc
        refine lv_aload_n hx hb dX9_part_85 rfl (lv_at hl 0 rfl) ?_
        refine lv_iload_n hx hb dX9_part_86 rfl (lv_at hl 1 rfl) ?_
        refine lv_iconst (v := (2 : Int32)) hx hb dX9_part_87 (by decide) ?_
        obtain ⟨p_88, w_88, ho_1, hv⟩ := hv
        refine vp_callSi (W.runV (As := [.int p1, .int (2 : Int32)]) (rest := []) S (wX9_of l g qM q1 q2 q3 q4 q5 q6 q7 q8 q9 q10 q11 (upd F 0 s0) J al p1 (2 : Int32) (sX9_of p_88 w_88 (upd F 0 s0) J al p1 (2 : Int32) ho_1)) (cwV 2 hts gX9_part_X9_of rfl rfl rfl (by decide +kernel) ⟨Nat.le_of_ble_eq_true rfl, Nat.le_of_ble_eq_true rfl⟩) ⟨blindRO, va_recv hK hP (ci := 9) (q0 := 0) rfl rfl, fun U hU hW => ⟨rfl, by rw [hU]; exact hP.sub (ws' := [(qM, .inr (9, [.int ((upd F 0 s0) 0), .ref q1, .ref q2, .ref q3, .int ((upd F 0 s0) 4), .int ((upd F 0 s0) 5), .int ((upd F 0 s0) 6), .int ((upd F 0 s0) 7), .int ((upd F 0 s0) 8), .int ((upd F 0 s0) 9), .long (J 10), .int ((upd F 0 s0) 11), .int ((upd F 0 s0) 12), .int ((upd F 0 s0) 13), .ref q4, .int ((upd F 0 s0) 15), .ref q5, .ref q6, .ref q7, .int ((upd F 0 s0) 19), .ref q8, .int ((upd F 0 s0) 21), .int ((upd F 0 s0) 22), .int ((upd F 0 s0) 23), .int ((upd F 0 s0) 24), .ref q9, .ref q10, .ref q11, .long (J 28)])), (q1, .inl (g.2 0, 376, .inl al))]) [0, 1] rfl, hG.warm hW⟩⟩ rfl rfl hl.1 rfl (lv_room (Nat.le_of_ble_eq_true rfl)) dX9_part_88 ⟨Nat.le_of_ble_eq_true rfl, Nat.le_of_ble_eq_true rfl⟩) (fun r_88 hr_88 => ?_)
        have hv := hv r_88 hr_88
        refine lv_iload_n hx hb dX9_part_91 rfl (lv_at hl 2 rfl) ?_
        refine lv_bipush (v := (10 : Int32)) hx hb dX9_part_92 (by decide) ?_
        refine lv_isub hx hb dX9_part_94 ?_
        obtain ⟨s_95, k_95, ho_2, hv⟩ := hv
        refine vp_callSi (W.runS (As := [.int r_88, .int (p2 - (10 : Int32))]) (rest := []) S (wX9_has l g r_88 (p2 - (10 : Int32)) (sX9_has s_95 k_95 r_88 (p2 - (10 : Int32)) ho_2)) (va_cwS 2 hts gX9_part_X9_has rfl rfl rfl (by decide +kernel) ⟨Nat.le_of_ble_eq_true rfl, Nat.le_of_ble_eq_true rfl⟩) ⟨blindRO, fun U hU hW => ⟨rfl, by rw [hU]; exact hP.sub (ws' := []) [] rfl, hG.warm hW⟩⟩ rfl rfl hl.1 rfl (lv_room (Nat.le_of_ble_eq_true rfl)) dX9_part_95 ⟨Nat.le_of_ble_eq_true rfl, Nat.le_of_ble_eq_true rfl⟩) (fun r_95 hr_95 => ?_)
        have hv := hv r_95 hr_95
        obtain ⟨hvt, hvf⟩ := hv
        refine lv_if_eq (tgt := 105) hx hb dX9_part_98 (by decide) (fun hc => ?_) (fun hc => ?_)
        · have hv := hvt hc
          refine lv_iconst (v := (0 : Int32)) hx hb dX9_part_105 (by decide) ?_
          have hP9 := hP.sub (ws' := [(qM, .inr (9, [.int ((upd F 0 s0) 0), .ref q1, .ref q2, .ref q3, .int ((upd F 0 s0) 4), .int ((upd F 0 s0) 5), .int ((upd F 0 s0) 6), .int ((upd F 0 s0) 7), .int ((upd F 0 s0) 8), .int ((upd F 0 s0) 9), .long (J 10), .int ((upd F 0 s0) 11), .int ((upd F 0 s0) 12), .int ((upd F 0 s0) 13), .ref q4, .int ((upd F 0 s0) 15), .ref q5, .ref q6, .ref q7, .int ((upd F 0 s0) 19), .ref q8, .int ((upd F 0 s0) 21), .int ((upd F 0 s0) 22), .int ((upd F 0 s0) 23), .int ((upd F 0 s0) 24), .ref q9, .ref q10, .ref q11, .long (J 28)])), (q1, .inl (g.2 0, 376, .inl al))]) [0, 1] rfl
          have hD9 := hD.sub (ws' := [(qM, .inr (9, [.int ((upd F 0 s0) 0), .ref q1, .ref q2, .ref q3, .int ((upd F 0 s0) 4), .int ((upd F 0 s0) 5), .int ((upd F 0 s0) 6), .int ((upd F 0 s0) 7), .int ((upd F 0 s0) 8), .int ((upd F 0 s0) 9), .long (J 10), .int ((upd F 0 s0) 11), .int ((upd F 0 s0) 12), .int ((upd F 0 s0) 13), .ref q4, .int ((upd F 0 s0) 15), .ref q5, .ref q6, .ref q7, .int ((upd F 0 s0) 19), .ref q8, .int ((upd F 0 s0) 21), .int ((upd F 0 s0) 22), .int ((upd F 0 s0) 23), .int ((upd F 0 s0) 24), .ref q9, .ref q10, .ref q11, .long (J 28)])), (q1, .inl (g.2 0, 376, .inl al))]) [0, 1] (by decide) rfl
          exact W.iret (v := (0 : Int32)) hx hb hr (fun t ht hW => ⟨⟨_, ((upd F 0 s0)), rfl, hv, by rw [ht]; exact hP9, hD9⟩, hS.F ht⟩) hS.2.2 dX9_part_106
        · have hv := hvf hc
          refine lv_iconst (v := (1 : Int32)) hx hb dX9_part_101 (by decide) ?_
          refine lv_goto (tgt := 106) hx hb dX9_part_102 (by decide) ?_
          have hP9 := hP.sub (ws' := [(qM, .inr (9, [.int ((upd F 0 s0) 0), .ref q1, .ref q2, .ref q3, .int ((upd F 0 s0) 4), .int ((upd F 0 s0) 5), .int ((upd F 0 s0) 6), .int ((upd F 0 s0) 7), .int ((upd F 0 s0) 8), .int ((upd F 0 s0) 9), .long (J 10), .int ((upd F 0 s0) 11), .int ((upd F 0 s0) 12), .int ((upd F 0 s0) 13), .ref q4, .int ((upd F 0 s0) 15), .ref q5, .ref q6, .ref q7, .int ((upd F 0 s0) 19), .ref q8, .int ((upd F 0 s0) 21), .int ((upd F 0 s0) 22), .int ((upd F 0 s0) 23), .int ((upd F 0 s0) 24), .ref q9, .ref q10, .ref q11, .long (J 28)])), (q1, .inl (g.2 0, 376, .inl al))]) [0, 1] rfl
          have hD9 := hD.sub (ws' := [(qM, .inr (9, [.int ((upd F 0 s0) 0), .ref q1, .ref q2, .ref q3, .int ((upd F 0 s0) 4), .int ((upd F 0 s0) 5), .int ((upd F 0 s0) 6), .int ((upd F 0 s0) 7), .int ((upd F 0 s0) 8), .int ((upd F 0 s0) 9), .long (J 10), .int ((upd F 0 s0) 11), .int ((upd F 0 s0) 12), .int ((upd F 0 s0) 13), .ref q4, .int ((upd F 0 s0) 15), .ref q5, .ref q6, .ref q7, .int ((upd F 0 s0) 19), .ref q8, .int ((upd F 0 s0) 21), .int ((upd F 0 s0) 22), .int ((upd F 0 s0) 23), .int ((upd F 0 s0) 24), .ref q9, .ref q10, .ref q11, .long (J 28)])), (q1, .inl (g.2 0, 376, .inl al))]) [0, 1] (by decide) rfl
          exact W.iret (v := (1 : Int32)) hx hb hr (fun t ht hW => ⟨⟨_, ((upd F 0 s0)), rfl, hv, by rw [ht]; exact hP9, hD9⟩, hS.F ht⟩) hS.2.2 dX9_part_106
      · have hv := hvf hc
        refine lv_aload_n hx hb dX9_part_76 rfl (lv_at hl 0 rfl) ?_
        refine lv_iload_n hx hb dX9_part_77 rfl (lv_at hl 1 rfl) ?_
        refine lv_iload_n hx hb dX9_part_78 rfl (lv_at hl 2 rfl) ?_
        obtain ⟨p_79, w_79, ho_3, hv⟩ := hv
        refine vp_callSi (W.runV (As := [.int p1, .int p2]) (rest := []) S (wX9_of l g qM q1 q2 q3 q4 q5 q6 q7 q8 q9 q10 q11 (upd F 0 s0) J al p1 p2 (sX9_of p_79 w_79 (upd F 0 s0) J al p1 p2 ho_3)) (cwV 2 hts gX9_part_X9_of rfl rfl rfl (by decide +kernel) ⟨Nat.le_of_ble_eq_true rfl, Nat.le_of_ble_eq_true rfl⟩) ⟨blindRO, va_recv hK hP (ci := 9) (q0 := 0) rfl rfl, fun U hU hW => ⟨rfl, by rw [hU]; exact hP.sub (ws' := [(qM, .inr (9, [.int ((upd F 0 s0) 0), .ref q1, .ref q2, .ref q3, .int ((upd F 0 s0) 4), .int ((upd F 0 s0) 5), .int ((upd F 0 s0) 6), .int ((upd F 0 s0) 7), .int ((upd F 0 s0) 8), .int ((upd F 0 s0) 9), .long (J 10), .int ((upd F 0 s0) 11), .int ((upd F 0 s0) 12), .int ((upd F 0 s0) 13), .ref q4, .int ((upd F 0 s0) 15), .ref q5, .ref q6, .ref q7, .int ((upd F 0 s0) 19), .ref q8, .int ((upd F 0 s0) 21), .int ((upd F 0 s0) 22), .int ((upd F 0 s0) 23), .int ((upd F 0 s0) 24), .ref q9, .ref q10, .ref q11, .long (J 28)])), (q1, .inl (g.2 0, 376, .inl al))]) [0, 1] rfl, hG.warm hW⟩⟩ rfl rfl hl.1 rfl (lv_room (Nat.le_of_ble_eq_true rfl)) dX9_part_79 ⟨Nat.le_of_ble_eq_true rfl, Nat.le_of_ble_eq_true rfl⟩) (fun r_79 hr_79 => ?_)
        have hv := hv r_79 hr_79
        refine lv_goto (tgt := 106) hx hb dX9_part_82 (by decide) ?_
        have hP9 := hP.sub (ws' := [(qM, .inr (9, [.int ((upd F 0 s0) 0), .ref q1, .ref q2, .ref q3, .int ((upd F 0 s0) 4), .int ((upd F 0 s0) 5), .int ((upd F 0 s0) 6), .int ((upd F 0 s0) 7), .int ((upd F 0 s0) 8), .int ((upd F 0 s0) 9), .long (J 10), .int ((upd F 0 s0) 11), .int ((upd F 0 s0) 12), .int ((upd F 0 s0) 13), .ref q4, .int ((upd F 0 s0) 15), .ref q5, .ref q6, .ref q7, .int ((upd F 0 s0) 19), .ref q8, .int ((upd F 0 s0) 21), .int ((upd F 0 s0) 22), .int ((upd F 0 s0) 23), .int ((upd F 0 s0) 24), .ref q9, .ref q10, .ref q11, .long (J 28)])), (q1, .inl (g.2 0, 376, .inl al))]) [0, 1] rfl
        have hD9 := hD.sub (ws' := [(qM, .inr (9, [.int ((upd F 0 s0) 0), .ref q1, .ref q2, .ref q3, .int ((upd F 0 s0) 4), .int ((upd F 0 s0) 5), .int ((upd F 0 s0) 6), .int ((upd F 0 s0) 7), .int ((upd F 0 s0) 8), .int ((upd F 0 s0) 9), .long (J 10), .int ((upd F 0 s0) 11), .int ((upd F 0 s0) 12), .int ((upd F 0 s0) 13), .ref q4, .int ((upd F 0 s0) 15), .ref q5, .ref q6, .ref q7, .int ((upd F 0 s0) 19), .ref q8, .int ((upd F 0 s0) 21), .int ((upd F 0 s0) 22), .int ((upd F 0 s0) 23), .int ((upd F 0 s0) 24), .ref q9, .ref q10, .ref q11, .long (J 28)])), (q1, .inl (g.2 0, 376, .inl al))]) [0, 1] (by decide) rfl
        exact W.iret (v := r_79) hx hb hr (fun t ht hW => ⟨⟨_, ((upd F 0 s0)), rfl, hv, by rw [ht]; exact hP9, hD9⟩, hS.F ht⟩) hS.2.2 dX9_part_106
    · have hv := hvf hc
      refine lv_aload_n hx hb dX9_part_59 rfl (lv_at hl 0 rfl) ?_
      refine lv_iload_n hx hb dX9_part_60 rfl (lv_at hl 1 rfl) ?_
      refine lv_iconst (v := (2 : Int32)) hx hb dX9_part_61 (by decide) ?_
      obtain ⟨p_62, w_62, ho_4, hv⟩ := hv
      refine vp_callSi (W.runV (As := [.int p1, .int (2 : Int32)]) (rest := []) S (wX9_of l g qM q1 q2 q3 q4 q5 q6 q7 q8 q9 q10 q11 (upd F 0 s0) J al p1 (2 : Int32) (sX9_of p_62 w_62 (upd F 0 s0) J al p1 (2 : Int32) ho_4)) (cwV 2 hts gX9_part_X9_of rfl rfl rfl (by decide +kernel) ⟨Nat.le_of_ble_eq_true rfl, Nat.le_of_ble_eq_true rfl⟩) ⟨blindRO, va_recv hK hP (ci := 9) (q0 := 0) rfl rfl, fun U hU hW => ⟨rfl, by rw [hU]; exact hP.sub (ws' := [(qM, .inr (9, [.int ((upd F 0 s0) 0), .ref q1, .ref q2, .ref q3, .int ((upd F 0 s0) 4), .int ((upd F 0 s0) 5), .int ((upd F 0 s0) 6), .int ((upd F 0 s0) 7), .int ((upd F 0 s0) 8), .int ((upd F 0 s0) 9), .long (J 10), .int ((upd F 0 s0) 11), .int ((upd F 0 s0) 12), .int ((upd F 0 s0) 13), .ref q4, .int ((upd F 0 s0) 15), .ref q5, .ref q6, .ref q7, .int ((upd F 0 s0) 19), .ref q8, .int ((upd F 0 s0) 21), .int ((upd F 0 s0) 22), .int ((upd F 0 s0) 23), .int ((upd F 0 s0) 24), .ref q9, .ref q10, .ref q11, .long (J 28)])), (q1, .inl (g.2 0, 376, .inl al))]) [0, 1] rfl, hG.warm hW⟩⟩ rfl rfl hl.1 rfl (lv_room (Nat.le_of_ble_eq_true rfl)) dX9_part_62 ⟨Nat.le_of_ble_eq_true rfl, Nat.le_of_ble_eq_true rfl⟩) (fun r_62 hr_62 => ?_)
      have hv := hv r_62 hr_62
      obtain ⟨s_65, ho_5, hv⟩ := hv
      refine vp_callSi (W.runS (As := [.int r_62]) (rest := []) S (wX9_ones l g r_62 (sX9_ones s_65 r_62 ho_5)) (va_cwS 1 hts gX9_part_X9_ones rfl rfl rfl (by decide +kernel) ⟨Nat.le_of_ble_eq_true rfl, Nat.le_of_ble_eq_true rfl⟩) ⟨blindRO, fun U hU hW => ⟨rfl, by rw [hU]; exact hP.sub (ws' := []) [] rfl, hG.warm hW⟩⟩ rfl rfl hl.1 rfl (lv_room (Nat.le_of_ble_eq_true rfl)) dX9_part_65 ⟨Nat.le_of_ble_eq_true rfl, Nat.le_of_ble_eq_true rfl⟩) (fun r_65 hr_65 => ?_)
      have hv := hv r_65 hr_65
      refine lv_goto (tgt := 106) hx hb dX9_part_68 (by decide) ?_
      have hP9 := hP.sub (ws' := [(qM, .inr (9, [.int ((upd F 0 s0) 0), .ref q1, .ref q2, .ref q3, .int ((upd F 0 s0) 4), .int ((upd F 0 s0) 5), .int ((upd F 0 s0) 6), .int ((upd F 0 s0) 7), .int ((upd F 0 s0) 8), .int ((upd F 0 s0) 9), .long (J 10), .int ((upd F 0 s0) 11), .int ((upd F 0 s0) 12), .int ((upd F 0 s0) 13), .ref q4, .int ((upd F 0 s0) 15), .ref q5, .ref q6, .ref q7, .int ((upd F 0 s0) 19), .ref q8, .int ((upd F 0 s0) 21), .int ((upd F 0 s0) 22), .int ((upd F 0 s0) 23), .int ((upd F 0 s0) 24), .ref q9, .ref q10, .ref q11, .long (J 28)])), (q1, .inl (g.2 0, 376, .inl al))]) [0, 1] rfl
      have hD9 := hD.sub (ws' := [(qM, .inr (9, [.int ((upd F 0 s0) 0), .ref q1, .ref q2, .ref q3, .int ((upd F 0 s0) 4), .int ((upd F 0 s0) 5), .int ((upd F 0 s0) 6), .int ((upd F 0 s0) 7), .int ((upd F 0 s0) 8), .int ((upd F 0 s0) 9), .long (J 10), .int ((upd F 0 s0) 11), .int ((upd F 0 s0) 12), .int ((upd F 0 s0) 13), .ref q4, .int ((upd F 0 s0) 15), .ref q5, .ref q6, .ref q7, .int ((upd F 0 s0) 19), .ref q8, .int ((upd F 0 s0) 21), .int ((upd F 0 s0) 22), .int ((upd F 0 s0) 23), .int ((upd F 0 s0) 24), .ref q9, .ref q10, .ref q11, .long (J 28)])), (q1, .inl (g.2 0, 376, .inl al))]) [0, 1] (by decide) rfl
      exact W.iret (v := r_65) hx hb hr (fun t ht hW => ⟨⟨_, ((upd F 0 s0)), rfl, hv, by rw [ht]; exact hP9, hD9⟩, hS.F ht⟩) hS.2.2 dX9_part_106
  · have hv := hvf hc
    refine lv_iconst (v := (0 : Int32)) hx hb dX9_part_52 (by decide) ?_
    have hP9 := hP.sub (ws' := [(qM, .inr (9, [.int ((upd F 0 s0) 0), .ref q1, .ref q2, .ref q3, .int ((upd F 0 s0) 4), .int ((upd F 0 s0) 5), .int ((upd F 0 s0) 6), .int ((upd F 0 s0) 7), .int ((upd F 0 s0) 8), .int ((upd F 0 s0) 9), .long (J 10), .int ((upd F 0 s0) 11), .int ((upd F 0 s0) 12), .int ((upd F 0 s0) 13), .ref q4, .int ((upd F 0 s0) 15), .ref q5, .ref q6, .ref q7, .int ((upd F 0 s0) 19), .ref q8, .int ((upd F 0 s0) 21), .int ((upd F 0 s0) 22), .int ((upd F 0 s0) 23), .int ((upd F 0 s0) 24), .ref q9, .ref q10, .ref q11, .long (J 28)])), (q1, .inl (g.2 0, 376, .inl al))]) [0, 1] rfl
    have hD9 := hD.sub (ws' := [(qM, .inr (9, [.int ((upd F 0 s0) 0), .ref q1, .ref q2, .ref q3, .int ((upd F 0 s0) 4), .int ((upd F 0 s0) 5), .int ((upd F 0 s0) 6), .int ((upd F 0 s0) 7), .int ((upd F 0 s0) 8), .int ((upd F 0 s0) 9), .long (J 10), .int ((upd F 0 s0) 11), .int ((upd F 0 s0) 12), .int ((upd F 0 s0) 13), .ref q4, .int ((upd F 0 s0) 15), .ref q5, .ref q6, .ref q7, .int ((upd F 0 s0) 19), .ref q8, .int ((upd F 0 s0) 21), .int ((upd F 0 s0) 22), .int ((upd F 0 s0) 23), .int ((upd F 0 s0) 24), .ref q9, .ref q10, .ref q11, .long (J 28)])), (q1, .inl (g.2 0, 376, .inl al))]) [0, 1] (by decide) rfl
    exact W.iret (v := (0 : Int32)) hx hb hr (fun t ht hW => ⟨⟨_, ((upd F 0 s0)), rfl, hv, by rw [ht]; exact hP9, hD9⟩, hS.F ht⟩) hS.2.2 dX9_part_53
def vX9_part_c41 (J : Nat → Int64) (al : Nat → Int32) (p1 : Int32) (p2 : Int32) (Q : Int32 → (Nat → Int32) → Prop) (F : Nat → Int32) : Prop := (vX9_part_c42 J al p1 p2 Q (1 : Int32) F)
set_option maxHeartbeats 4000000 in
set_option maxRecDepth 100000 in
theorem kX9_part_c41 {p : Program} {l : Launch} {e : Env} {s : State} {m : MethodId} {args : Array Value} {below : List Frame} {meth : Method} {c : Code} {g : GP} {qM : Nat} {q1 : Nat} {q2 : Nat} {q3 : Nat} {q4 : Nat} {q5 : Nat} {q6 : Nat} {q7 : Nat} {q8 : Nat} {q9 : Nat} {q10 : Nat} {q11 : Nat} {J : Nat → Int64} {al : Nat → Int32} {p1 : Int32} {p2 : Int32} {Q : Int32 → (Nat → Int32) → Prop} {A : Nat → Prop} (S : CallFix p m c cX9_part 3 s args wsX9_part RX9) (hr : meth.sig.returnType = (some .int)) (hlocks : meth.locks = false) (hG : GK g s) (hA : ∀ q : Nat, s.heap.size ≤ q → A q) : ∀ (F : Nat → Int32), vX9_part_c41 J al p1 p2 Q F → ∀ (H : Heap) (locs : List Loc), va_P g.1 vwCl [(qM, .inr (9, [.int (F 0), .ref q1, .ref q2, .ref q3, .int (F 4), .int (F 5), .int (F 6), .int (F 7), .int (F 8), .int (F 9), .long (J 10), .int (F 11), .int (F 12), .int (F 13), .ref q4, .int (F 15), .ref q5, .ref q6, .ref q7, .int (F 19), .ref q8, .int (F 21), .int (F 22), .int (F 23), .int (F 24), .ref q9, .ref q10, .ref q11, .long (J 28)])), (q1, .inl (g.2 0, 376, .inl al))] H → va_D A [(qM, .inr (9, [.int (F 0), .ref q1, .ref q2, .ref q3, .int (F 4), .int (F 5), .int (F 6), .int (F 7), .int (F 8), .int (F 9), .long (J 10), .int (F 11), .int (F 12), .int (F 13), .ref q4, .int (F 15), .ref q5, .ref q6, .ref q7, .int (F 19), .ref q8, .int (F 21), .int (F 22), .int (F 23), .int (F 24), .ref q9, .ref q10, .ref q11, .long (J 28)])), (q1, .inl (g.2 0, 376, .inl al))] → va_S A s.heap H locs → ∀ (ls : Array Slot), lv_has ls 3 [(0, .ref qM), (1, .int p1), (2, .int p2)] → W p l e (headSpec wsX9_part rmX9_part).room s m args below meth c H locs 0 0 (MQ below (va_Qi (fun (r : Int32) (u : (Nat → Int32)) => Q r u) (fun (u : (Nat → Int32)) t => va_P g.1 vwCl [(qM, .inr (9, [.int (u 0), .ref q1, .ref q2, .ref q3, .int (u 4), .int (u 5), .int (u 6), .int (u 7), .int (u 8), .int (u 9), .long (J 10), .int (u 11), .int (u 12), .int (u 13), .ref q4, .int (u 15), .ref q5, .ref q6, .ref q7, .int (u 19), .ref q8, .int (u 21), .int (u 22), .int (u 23), .int (u 24), .ref q9, .ref q10, .ref q11, .long (J 28)])), (q1, .inl (g.2 0, 376, .inl al))] t.heap ∧ va_D A [(qM, .inr (9, [.int (u 0), .ref q1, .ref q2, .ref q3, .int (u 4), .int (u 5), .int (u 6), .int (u 7), .int (u 8), .int (u 9), .long (J 10), .int (u 11), .int (u 12), .int (u 13), .ref q4, .int (u 15), .ref q5, .ref q6, .ref q7, .int (u 19), .ref q8, .int (u 21), .int (u 22), .int (u 23), .int (u 24), .ref q9, .ref q10, .ref q11, .long (J 28)])), (q1, .inl (g.2 0, 376, .inl al))]) A) args s 0 0 A) (F0 m 41 ls [.ref qM]) := by
  obtain ⟨hx, hb, hml, hown, hts⟩ := id S
  have hK := hG.1
  intro F hv H locs hP hD hS ls hl
  unfold vX9_part_c41 at hv
  refine lv_iconst (v := (1 : Int32)) hx hb dX9_part_41 (by decide) ?_
  exact kX9_part_c42 S hr hlocks hG hA _ _ hv _ _ (hP.sub (ws' := [(qM, .inr (9, [.int (F 0), .ref q1, .ref q2, .ref q3, .int (F 4), .int (F 5), .int (F 6), .int (F 7), .int (F 8), .int (F 9), .long (J 10), .int (F 11), .int (F 12), .int (F 13), .ref q4, .int (F 15), .ref q5, .ref q6, .ref q7, .int (F 19), .ref q8, .int (F 21), .int (F 22), .int (F 23), .int (F 24), .ref q9, .ref q10, .ref q11, .long (J 28)])), (q1, .inl (g.2 0, 376, .inl al))]) [0, 1] rfl) (hD.sub (ws' := [(qM, .inr (9, [.int (F 0), .ref q1, .ref q2, .ref q3, .int (F 4), .int (F 5), .int (F 6), .int (F 7), .int (F 8), .int (F 9), .long (J 10), .int (F 11), .int (F 12), .int (F 13), .ref q4, .int (F 15), .ref q5, .ref q6, .ref q7, .int (F 19), .ref q8, .int (F 21), .int (F 22), .int (F 23), .int (F 24), .ref q9, .ref q10, .ref q11, .long (J 28)])), (q1, .inl (g.2 0, 376, .inl al))]) [0, 1] (by decide) rfl) hS ls (lv_sub hl [0, 1, 2] rfl)
def vX9_part_c37 (J : Nat → Int64) (al : Nat → Int32) (p1 : Int32) (p2 : Int32) (Q : Int32 → (Nat → Int32) → Prop) (F : Nat → Int32) : Prop := (vX9_part_c42 J al p1 p2 Q (0 : Int32) F)
set_option maxHeartbeats 4000000 in
set_option maxRecDepth 100000 in
theorem kX9_part_c37 {p : Program} {l : Launch} {e : Env} {s : State} {m : MethodId} {args : Array Value} {below : List Frame} {meth : Method} {c : Code} {g : GP} {qM : Nat} {q1 : Nat} {q2 : Nat} {q3 : Nat} {q4 : Nat} {q5 : Nat} {q6 : Nat} {q7 : Nat} {q8 : Nat} {q9 : Nat} {q10 : Nat} {q11 : Nat} {J : Nat → Int64} {al : Nat → Int32} {p1 : Int32} {p2 : Int32} {Q : Int32 → (Nat → Int32) → Prop} {A : Nat → Prop} (S : CallFix p m c cX9_part 3 s args wsX9_part RX9) (hr : meth.sig.returnType = (some .int)) (hlocks : meth.locks = false) (hG : GK g s) (hA : ∀ q : Nat, s.heap.size ≤ q → A q) : ∀ (F : Nat → Int32), vX9_part_c37 J al p1 p2 Q F → ∀ (H : Heap) (locs : List Loc), va_P g.1 vwCl [(qM, .inr (9, [.int (F 0), .ref q1, .ref q2, .ref q3, .int (F 4), .int (F 5), .int (F 6), .int (F 7), .int (F 8), .int (F 9), .long (J 10), .int (F 11), .int (F 12), .int (F 13), .ref q4, .int (F 15), .ref q5, .ref q6, .ref q7, .int (F 19), .ref q8, .int (F 21), .int (F 22), .int (F 23), .int (F 24), .ref q9, .ref q10, .ref q11, .long (J 28)])), (q1, .inl (g.2 0, 376, .inl al))] H → va_D A [(qM, .inr (9, [.int (F 0), .ref q1, .ref q2, .ref q3, .int (F 4), .int (F 5), .int (F 6), .int (F 7), .int (F 8), .int (F 9), .long (J 10), .int (F 11), .int (F 12), .int (F 13), .ref q4, .int (F 15), .ref q5, .ref q6, .ref q7, .int (F 19), .ref q8, .int (F 21), .int (F 22), .int (F 23), .int (F 24), .ref q9, .ref q10, .ref q11, .long (J 28)])), (q1, .inl (g.2 0, 376, .inl al))] → va_S A s.heap H locs → ∀ (ls : Array Slot), lv_has ls 3 [(0, .ref qM), (1, .int p1), (2, .int p2)] → W p l e (headSpec wsX9_part rmX9_part).room s m args below meth c H locs 0 0 (MQ below (va_Qi (fun (r : Int32) (u : (Nat → Int32)) => Q r u) (fun (u : (Nat → Int32)) t => va_P g.1 vwCl [(qM, .inr (9, [.int (u 0), .ref q1, .ref q2, .ref q3, .int (u 4), .int (u 5), .int (u 6), .int (u 7), .int (u 8), .int (u 9), .long (J 10), .int (u 11), .int (u 12), .int (u 13), .ref q4, .int (u 15), .ref q5, .ref q6, .ref q7, .int (u 19), .ref q8, .int (u 21), .int (u 22), .int (u 23), .int (u 24), .ref q9, .ref q10, .ref q11, .long (J 28)])), (q1, .inl (g.2 0, 376, .inl al))] t.heap ∧ va_D A [(qM, .inr (9, [.int (u 0), .ref q1, .ref q2, .ref q3, .int (u 4), .int (u 5), .int (u 6), .int (u 7), .int (u 8), .int (u 9), .long (J 10), .int (u 11), .int (u 12), .int (u 13), .ref q4, .int (u 15), .ref q5, .ref q6, .ref q7, .int (u 19), .ref q8, .int (u 21), .int (u 22), .int (u 23), .int (u 24), .ref q9, .ref q10, .ref q11, .long (J 28)])), (q1, .inl (g.2 0, 376, .inl al))]) A) args s 0 0 A) (F0 m 37 ls [.ref qM]) := by
  obtain ⟨hx, hb, hml, hown, hts⟩ := id S
  have hK := hG.1
  intro F hv H locs hP hD hS ls hl
  unfold vX9_part_c37 at hv
  refine lv_iconst (v := (0 : Int32)) hx hb dX9_part_37 (by decide) ?_
  refine lv_goto (tgt := 42) hx hb dX9_part_38 (by decide) ?_
  exact kX9_part_c42 S hr hlocks hG hA _ _ hv _ _ (hP.sub (ws' := [(qM, .inr (9, [.int (F 0), .ref q1, .ref q2, .ref q3, .int (F 4), .int (F 5), .int (F 6), .int (F 7), .int (F 8), .int (F 9), .long (J 10), .int (F 11), .int (F 12), .int (F 13), .ref q4, .int (F 15), .ref q5, .ref q6, .ref q7, .int (F 19), .ref q8, .int (F 21), .int (F 22), .int (F 23), .int (F 24), .ref q9, .ref q10, .ref q11, .long (J 28)])), (q1, .inl (g.2 0, 376, .inl al))]) [0, 1] rfl) (hD.sub (ws' := [(qM, .inr (9, [.int (F 0), .ref q1, .ref q2, .ref q3, .int (F 4), .int (F 5), .int (F 6), .int (F 7), .int (F 8), .int (F 9), .long (J 10), .int (F 11), .int (F 12), .int (F 13), .ref q4, .int (F 15), .ref q5, .ref q6, .ref q7, .int (F 19), .ref q8, .int (F 21), .int (F 22), .int (F 23), .int (F 24), .ref q9, .ref q10, .ref q11, .long (J 28)])), (q1, .inl (g.2 0, 376, .inl al))]) [0, 1] (by decide) rfl) hS ls (lv_sub hl [0, 1, 2] rfl)
def vX9_part (F : Nat → Int32) (J : Nat → Int64) (al : Nat → Int32) (p1 : Int32) (p2 : Int32) (Q : Int32 → (Nat → Int32) → Prop) : Prop := (∃ (n_3 : Nat), preX9_isPart n_3 F J al p1 ∧ (∀ r_3 : Int32, postX9_isPart n_3 F J al p1 r_3 → ((r_3 = 0 → (vX9_part_c41 J al p1 p2 Q F)) ∧ (¬ r_3 = 0 → (preX9_in p2 (0 : Int32) (2 : Int32) ∧ (∀ r_12 : Int32, postX9_in p2 (0 : Int32) (2 : Int32) r_12 → ((¬ r_12 = 0 → (vX9_part_c37 J al p1 p2 Q F)) ∧ (r_12 = 0 → (∃ (p_26 : Nat) (w_26 : Nat), preX9_of p_26 w_26 F J al p1 (0 : Int32) ∧ (∀ r_26 : Int32, postX9_of p_26 w_26 F J al p1 (0 : Int32) r_26 → (preX9_in (p2 - (10 : Int32)) (0 : Int32) (r_26 - (1 : Int32)) ∧ (∀ r_31 : Int32, postX9_in (p2 - (10 : Int32)) (0 : Int32) (r_26 - (1 : Int32)) r_31 → ((r_31 = 0 → (vX9_part_c41 J al p1 p2 Q F)) ∧ (¬ r_31 = 0 → (vX9_part_c37 J al p1 p2 Q F)))))))))))))))
set_option maxHeartbeats 4000000 in
set_option maxRecDepth 100000 in
theorem wX9_part (l : Launch) (g : GP) (qM : Nat) (q1 : Nat) (q2 : Nat) (q3 : Nat) (q4 : Nat) (q5 : Nat) (q6 : Nat) (q7 : Nat) (q8 : Nat) (q9 : Nat) (q10 : Nat) (q11 : Nat) (sz : Nat) (F : Nat → Int32) (J : Nat → Int64) (al : Nat → Int32) (p1 : Int32) (p2 : Int32) {Q : Int32 → (Nat → Int32) → Prop} (hv : vX9_part F J al p1 p2 Q) : Met l yX9_part wsX9_part rmX9_part (va_Pc [.ref qM, .int p1, .int p2] (fun U => U.heap.size = sz ∧ va_P g.1 vwCl [(qM, .inr (9, [.int (F 0), .ref q1, .ref q2, .ref q3, .int (F 4), .int (F 5), .int (F 6), .int (F 7), .int (F 8), .int (F 9), .long (J 10), .int (F 11), .int (F 12), .int (F 13), .ref q4, .int (F 15), .ref q5, .ref q6, .ref q7, .int (F 19), .ref q8, .int (F 21), .int (F 22), .int (F 23), .int (F 24), .ref q9, .ref q10, .ref q11, .long (J 28)])), (q1, .inl (g.2 0, 376, .inl al))] U.heap ∧ GK g U ∧ va_D (fun _ => True) [(qM, .inr (9, [.int (F 0), .ref q1, .ref q2, .ref q3, .int (F 4), .int (F 5), .int (F 6), .int (F 7), .int (F 8), .int (F 9), .long (J 10), .int (F 11), .int (F 12), .int (F 13), .ref q4, .int (F 15), .ref q5, .ref q6, .ref q7, .int (F 19), .ref q8, .int (F 21), .int (F 22), .int (F 23), .int (F 24), .ref q9, .ref q10, .ref q11, .long (J 28)])), (q1, .inl (g.2 0, 376, .inl al))])) (va_Qi (fun (r : Int32) (u : (Nat → Int32)) => Q r u) (fun (u : (Nat → Int32)) t => va_P g.1 vwCl [(qM, .inr (9, [.int (u 0), .ref q1, .ref q2, .ref q3, .int (u 4), .int (u 5), .int (u 6), .int (u 7), .int (u 8), .int (u 9), .long (J 10), .int (u 11), .int (u 12), .int (u 13), .ref q4, .int (u 15), .ref q5, .ref q6, .ref q7, .int (u 19), .ref q8, .int (u 21), .int (u 22), .int (u 23), .int (u 24), .ref q9, .ref q10, .ref q11, .long (J 28)])), (q1, .inl (g.2 0, 376, .inl al))] t.heap ∧ va_D (va_A [(qM, .inr (9, [.int (F 0), .ref q1, .ref q2, .ref q3, .int (F 4), .int (F 5), .int (F 6), .int (F 7), .int (F 8), .int (F 9), .long (J 10), .int (F 11), .int (F 12), .int (F 13), .ref q4, .int (F 15), .ref q5, .ref q6, .ref q7, .int (F 19), .ref q8, .int (F 21), .int (F 22), .int (F 23), .int (F 24), .ref q9, .ref q10, .ref q11, .long (J 28)])), (q1, .inl (g.2 0, 376, .inl al))] sz) [(qM, .inr (9, [.int (u 0), .ref q1, .ref q2, .ref q3, .int (u 4), .int (u 5), .int (u 6), .int (u 7), .int (u 8), .int (u 9), .long (J 10), .int (u 11), .int (u 12), .int (u 13), .ref q4, .int (u 15), .ref q5, .ref q6, .ref q7, .int (u 19), .ref q8, .int (u 21), .int (u 22), .int (u 23), .int (u 24), .ref q9, .ref q10, .ref q11, .long (J 28)])), (q1, .inl (g.2 0, 376, .inl al))]) (va_A [(qM, .inr (9, [.int (F 0), .ref q1, .ref q2, .ref q3, .int (F 4), .int (F 5), .int (F 6), .int (F 7), .int (F 8), .int (F 9), .long (J 10), .int (F 11), .int (F 12), .int (F 13), .ref q4, .int (F 15), .ref q5, .ref q6, .ref q7, .int (F 19), .ref q8, .int (F 21), .int (F 22), .int (F 23), .int (F 24), .ref q9, .ref q10, .ref q11, .long (J 28)])), (q1, .inl (g.2 0, 376, .inl al))] sz)) 0 0 (va_A [(qM, .inr (9, [.int (F 0), .ref q1, .ref q2, .ref q3, .int (F 4), .int (F 5), .int (F 6), .int (F 7), .int (F 8), .int (F 9), .long (J 10), .int (F 11), .int (F 12), .int (F 13), .ref q4, .int (F 15), .ref q5, .ref q6, .ref q7, .int (F 19), .ref q8, .int (F 21), .int (F 22), .int (F 23), .int (F 24), .ref q9, .ref q10, .ref q11, .long (J 28)])), (q1, .inl (g.2 0, 376, .inl al))] sz) := by
  refine Met.ofW (cc := cX9_part) (maxL := 3) (ret := (some .int)) (by decide) rfl ?_
  intro p e s m args below meth c s₁ B hml hv'
  obtain ⟨rfl, hsz, hP, hG, hD0⟩ := hv'
  have S : CallFix p m c cX9_part 3 s _ wsX9_part RX9 := ⟨B.exec, B.bytes, hml, findClass_of_methodNamed B.named, atoms_spec (ws := wsX9_part) B.pre⟩
  obtain ⟨hx, hb, hml, hown, hts⟩ := id S
  have hK := hG.1
  have hr := B.returns
  have hlocks := B.notSynchronized
  subst hsz
  have hD := hD0.self (sz := s.heap.size)
  generalize hAe : va_A [(qM, .inr (9, [.int (F 0), .ref q1, .ref q2, .ref q3, .int (F 4), .int (F 5), .int (F 6), .int (F 7), .int (F 8), .int (F 9), .long (J 10), .int (F 11), .int (F 12), .int (F 13), .ref q4, .int (F 15), .ref q5, .ref q6, .ref q7, .int (F 19), .ref q8, .int (F 21), .int (F 22), .int (F 23), .int (F 24), .ref q9, .ref q10, .ref q11, .long (J 28)])), (q1, .inl (g.2 0, 376, .inl al))] s.heap.size = A at hD ⊢
  have hA : ∀ q : Nat, s.heap.size ≤ q → A q := fun q h => by rw [← hAe]; exact Or.inr h
  have hS : va_S A s.heap s.heap [] := va_S.rf
  clear hD0 hAe
  have hl := lv_entry ([.ref qM, .int p1, .int p2]) (n := 3) (Nat.le_of_ble_eq_true rfl)
  rw [lg_entry_eq]
  generalize (lg_sl ([.ref qM, .int p1, .int p2]) ++ List.replicate (3 - (lg_sl ([.ref qM, .int p1, .int p2])).length) Slot.unset).toArray = ls at hl ⊢
  have hl : lv_has ls 3 [(0, .ref qM), (1, .int p1), (2, .int p2)] := hl
  unfold vX9_part at hv
  refine lv_aload_n hx hb dX9_part_0 rfl (lv_at hl 0 rfl) ?_
  refine lv_aload_n hx hb dX9_part_1 rfl (lv_at hl 0 rfl) ?_
  refine lv_iload_n hx hb dX9_part_2 rfl (lv_at hl 1 rfl) ?_
  obtain ⟨n_3, ho_1, hv⟩ := hv
  refine vp_callSi (W.runV (As := [.int p1]) (rest := [.ref qM]) S (wX9_isPart l g qM q1 q2 q3 q4 q5 q6 q7 q8 q9 q10 q11 F J al p1 (sX9_isPart n_3 F J al p1 ho_1)) (cwV 1 hts gX9_part_X9_isPart rfl rfl rfl (by decide +kernel) ⟨Nat.le_of_ble_eq_true rfl, Nat.le_of_ble_eq_true rfl⟩) ⟨blindRO, va_recv hK hP (ci := 9) (q0 := 0) rfl rfl, fun U hU hW => ⟨rfl, by rw [hU]; exact hP.sub (ws' := [(qM, .inr (9, [.int (F 0), .ref q1, .ref q2, .ref q3, .int (F 4), .int (F 5), .int (F 6), .int (F 7), .int (F 8), .int (F 9), .long (J 10), .int (F 11), .int (F 12), .int (F 13), .ref q4, .int (F 15), .ref q5, .ref q6, .ref q7, .int (F 19), .ref q8, .int (F 21), .int (F 22), .int (F 23), .int (F 24), .ref q9, .ref q10, .ref q11, .long (J 28)])), (q1, .inl (g.2 0, 376, .inl al))]) [0, 1] rfl, hG.warm hW⟩⟩ rfl rfl hl.1 rfl (lv_room (Nat.le_of_ble_eq_true rfl)) dX9_part_3 ⟨Nat.le_of_ble_eq_true rfl, Nat.le_of_ble_eq_true rfl⟩) (fun r_3 hr_3 => ?_)
  have hv := hv r_3 hr_3
  obtain ⟨hvt, hvf⟩ := hv
  refine lv_if_eq (tgt := 41) hx hb dX9_part_6 (by decide) (fun hc => ?_) (fun hc => ?_)
  · have hv := hvt hc
    exact kX9_part_c41 S hr hlocks hG hA _ hv _ _ (hP.sub (ws' := [(qM, .inr (9, [.int (F 0), .ref q1, .ref q2, .ref q3, .int (F 4), .int (F 5), .int (F 6), .int (F 7), .int (F 8), .int (F 9), .long (J 10), .int (F 11), .int (F 12), .int (F 13), .ref q4, .int (F 15), .ref q5, .ref q6, .ref q7, .int (F 19), .ref q8, .int (F 21), .int (F 22), .int (F 23), .int (F 24), .ref q9, .ref q10, .ref q11, .long (J 28)])), (q1, .inl (g.2 0, 376, .inl al))]) [0, 1] rfl) (hD.sub (ws' := [(qM, .inr (9, [.int (F 0), .ref q1, .ref q2, .ref q3, .int (F 4), .int (F 5), .int (F 6), .int (F 7), .int (F 8), .int (F 9), .long (J 10), .int (F 11), .int (F 12), .int (F 13), .ref q4, .int (F 15), .ref q5, .ref q6, .ref q7, .int (F 19), .ref q8, .int (F 21), .int (F 22), .int (F 23), .int (F 24), .ref q9, .ref q10, .ref q11, .long (J 28)])), (q1, .inl (g.2 0, 376, .inl al))]) [0, 1] (by decide) rfl) hS ls (lv_sub hl [0, 1, 2] rfl)
  · have hv := hvf hc
    refine lv_iload_n hx hb dX9_part_9 rfl (lv_at hl 2 rfl) ?_
    refine lv_iconst (v := (0 : Int32)) hx hb dX9_part_10 (by decide) ?_
    refine lv_iconst (v := (2 : Int32)) hx hb dX9_part_11 (by decide) ?_
    obtain ⟨ho_2, hv⟩ := hv
    refine vp_callSi (W.runS (As := [.int p2, .int (0 : Int32), .int (2 : Int32)]) (rest := [.ref qM]) S (wX9_in l g p2 (0 : Int32) (2 : Int32) (sX9_in p2 (0 : Int32) (2 : Int32) ho_2)) (va_cwS 3 hts gX9_part_X9_in rfl rfl rfl (by decide +kernel) ⟨Nat.le_of_ble_eq_true rfl, Nat.le_of_ble_eq_true rfl⟩) ⟨blindRO, fun U hU hW => ⟨rfl, by rw [hU]; exact hP.sub (ws' := []) [] rfl, hG.warm hW⟩⟩ rfl rfl hl.1 rfl (lv_room (Nat.le_of_ble_eq_true rfl)) dX9_part_12 ⟨Nat.le_of_ble_eq_true rfl, Nat.le_of_ble_eq_true rfl⟩) (fun r_12 hr_12 => ?_)
    have hv := hv r_12 hr_12
    obtain ⟨hvt, hvf⟩ := hv
    refine lv_if_ne (tgt := 37) hx hb dX9_part_15 (by decide) (fun hc => ?_) (fun hc => ?_)
    · have hv := hvt hc
      exact kX9_part_c37 S hr hlocks hG hA _ hv _ _ (hP.sub (ws' := [(qM, .inr (9, [.int (F 0), .ref q1, .ref q2, .ref q3, .int (F 4), .int (F 5), .int (F 6), .int (F 7), .int (F 8), .int (F 9), .long (J 10), .int (F 11), .int (F 12), .int (F 13), .ref q4, .int (F 15), .ref q5, .ref q6, .ref q7, .int (F 19), .ref q8, .int (F 21), .int (F 22), .int (F 23), .int (F 24), .ref q9, .ref q10, .ref q11, .long (J 28)])), (q1, .inl (g.2 0, 376, .inl al))]) [0, 1] rfl) (hD.sub (ws' := [(qM, .inr (9, [.int (F 0), .ref q1, .ref q2, .ref q3, .int (F 4), .int (F 5), .int (F 6), .int (F 7), .int (F 8), .int (F 9), .long (J 10), .int (F 11), .int (F 12), .int (F 13), .ref q4, .int (F 15), .ref q5, .ref q6, .ref q7, .int (F 19), .ref q8, .int (F 21), .int (F 22), .int (F 23), .int (F 24), .ref q9, .ref q10, .ref q11, .long (J 28)])), (q1, .inl (g.2 0, 376, .inl al))]) [0, 1] (by decide) rfl) hS ls (lv_sub hl [0, 1, 2] rfl)
    · have hv := hvf hc
      refine lv_iload_n hx hb dX9_part_18 rfl (lv_at hl 2 rfl) ?_
      refine lv_bipush (v := (10 : Int32)) hx hb dX9_part_19 (by decide) ?_
      refine lv_isub hx hb dX9_part_21 ?_
      refine lv_iconst (v := (0 : Int32)) hx hb dX9_part_22 (by decide) ?_
      refine lv_aload_n hx hb dX9_part_23 rfl (lv_at hl 0 rfl) ?_
      refine lv_iload_n hx hb dX9_part_24 rfl (lv_at hl 1 rfl) ?_
      refine lv_iconst (v := (0 : Int32)) hx hb dX9_part_25 (by decide) ?_
      obtain ⟨p_26, w_26, ho_3, hv⟩ := hv
      refine vp_callSi (W.runV (As := [.int p1, .int (0 : Int32)]) (rest := [.int (0 : Int32), .int (p2 - (10 : Int32)), .ref qM]) S (wX9_of l g qM q1 q2 q3 q4 q5 q6 q7 q8 q9 q10 q11 F J al p1 (0 : Int32) (sX9_of p_26 w_26 F J al p1 (0 : Int32) ho_3)) (cwV 2 hts gX9_part_X9_of rfl rfl rfl (by decide +kernel) ⟨Nat.le_of_ble_eq_true rfl, Nat.le_of_ble_eq_true rfl⟩) ⟨blindRO, va_recv hK hP (ci := 9) (q0 := 0) rfl rfl, fun U hU hW => ⟨rfl, by rw [hU]; exact hP.sub (ws' := [(qM, .inr (9, [.int (F 0), .ref q1, .ref q2, .ref q3, .int (F 4), .int (F 5), .int (F 6), .int (F 7), .int (F 8), .int (F 9), .long (J 10), .int (F 11), .int (F 12), .int (F 13), .ref q4, .int (F 15), .ref q5, .ref q6, .ref q7, .int (F 19), .ref q8, .int (F 21), .int (F 22), .int (F 23), .int (F 24), .ref q9, .ref q10, .ref q11, .long (J 28)])), (q1, .inl (g.2 0, 376, .inl al))]) [0, 1] rfl, hG.warm hW⟩⟩ rfl rfl hl.1 rfl (lv_room (Nat.le_of_ble_eq_true rfl)) dX9_part_26 ⟨Nat.le_of_ble_eq_true rfl, Nat.le_of_ble_eq_true rfl⟩) (fun r_26 hr_26 => ?_)
      have hv := hv r_26 hr_26
      refine lv_iconst (v := (1 : Int32)) hx hb dX9_part_29 (by decide) ?_
      refine lv_isub hx hb dX9_part_30 ?_
      obtain ⟨ho_4, hv⟩ := hv
      refine vp_callSi (W.runS (As := [.int (p2 - (10 : Int32)), .int (0 : Int32), .int (r_26 - (1 : Int32))]) (rest := [.ref qM]) S (wX9_in l g (p2 - (10 : Int32)) (0 : Int32) (r_26 - (1 : Int32)) (sX9_in (p2 - (10 : Int32)) (0 : Int32) (r_26 - (1 : Int32)) ho_4)) (va_cwS 3 hts gX9_part_X9_in rfl rfl rfl (by decide +kernel) ⟨Nat.le_of_ble_eq_true rfl, Nat.le_of_ble_eq_true rfl⟩) ⟨blindRO, fun U hU hW => ⟨rfl, by rw [hU]; exact hP.sub (ws' := []) [] rfl, hG.warm hW⟩⟩ rfl rfl hl.1 rfl (lv_room (Nat.le_of_ble_eq_true rfl)) dX9_part_31 ⟨Nat.le_of_ble_eq_true rfl, Nat.le_of_ble_eq_true rfl⟩) (fun r_31 hr_31 => ?_)
      have hv := hv r_31 hr_31
      obtain ⟨hvt, hvf⟩ := hv
      refine lv_if_eq (tgt := 41) hx hb dX9_part_34 (by decide) (fun hc => ?_) (fun hc => ?_)
      · have hv := hvt hc
        exact kX9_part_c41 S hr hlocks hG hA _ hv _ _ (hP.sub (ws' := [(qM, .inr (9, [.int (F 0), .ref q1, .ref q2, .ref q3, .int (F 4), .int (F 5), .int (F 6), .int (F 7), .int (F 8), .int (F 9), .long (J 10), .int (F 11), .int (F 12), .int (F 13), .ref q4, .int (F 15), .ref q5, .ref q6, .ref q7, .int (F 19), .ref q8, .int (F 21), .int (F 22), .int (F 23), .int (F 24), .ref q9, .ref q10, .ref q11, .long (J 28)])), (q1, .inl (g.2 0, 376, .inl al))]) [0, 1] rfl) (hD.sub (ws' := [(qM, .inr (9, [.int (F 0), .ref q1, .ref q2, .ref q3, .int (F 4), .int (F 5), .int (F 6), .int (F 7), .int (F 8), .int (F 9), .long (J 10), .int (F 11), .int (F 12), .int (F 13), .ref q4, .int (F 15), .ref q5, .ref q6, .ref q7, .int (F 19), .ref q8, .int (F 21), .int (F 22), .int (F 23), .int (F 24), .ref q9, .ref q10, .ref q11, .long (J 28)])), (q1, .inl (g.2 0, 376, .inl al))]) [0, 1] (by decide) rfl) hS ls (lv_sub hl [0, 1, 2] rfl)
      · have hv := hvf hc
        exact kX9_part_c37 S hr hlocks hG hA _ hv _ _ (hP.sub (ws' := [(qM, .inr (9, [.int (F 0), .ref q1, .ref q2, .ref q3, .int (F 4), .int (F 5), .int (F 6), .int (F 7), .int (F 8), .int (F 9), .long (J 10), .int (F 11), .int (F 12), .int (F 13), .ref q4, .int (F 15), .ref q5, .ref q6, .ref q7, .int (F 19), .ref q8, .int (F 21), .int (F 22), .int (F 23), .int (F 24), .ref q9, .ref q10, .ref q11, .long (J 28)])), (q1, .inl (g.2 0, 376, .inl al))]) [0, 1] rfl) (hD.sub (ws' := [(qM, .inr (9, [.int (F 0), .ref q1, .ref q2, .ref q3, .int (F 4), .int (F 5), .int (F 6), .int (F 7), .int (F 8), .int (F 9), .long (J 10), .int (F 11), .int (F 12), .int (F 13), .ref q4, .int (F 15), .ref q5, .ref q6, .ref q7, .int (F 19), .ref q8, .int (F 21), .int (F 22), .int (F 23), .int (F 24), .ref q9, .ref q10, .ref q11, .long (J 28)])), (q1, .inl (g.2 0, 376, .inl al))]) [0, 1] (by decide) rfl) hS ls (lv_sub hl [0, 1, 2] rfl)
abbrev preX9_part (T : Cd) (G0 : Lg) (G1 : Lg) (lim : Nat) (F : Nat → Int32) (J : Nat → Int64) (al : Nat → Int32) (p1 : Int32) (p2 : Int32) : Prop := fcR T G0 G1 lim al
abbrev postX9_part (T : Cd) (G0 : Lg) (G1 : Lg) (lim : Nat) (F : Nat → Int32) (J : Nat → Int64) (al : Nat → Int32) (p1 : Int32) (p2 : Int32) (r : Int32) (F' : Nat → Int32) : Prop := (okPa T p1.toInt p2.toInt → F' 0 = 0 ∧ r.toInt = spPa T p1.toInt p2.toInt) ∧ (¬ okPa T p1.toInt p2.toInt → F' 0 = 1)
theorem sX9_part_37 (T : Cd) (G0 : Lg) (G1 : Lg) (lim : Nat) (F : Nat → Int32) (J : Nat → Int64) (al : Nat → Int32) (p1 : Int32) (p2 : Int32) (H : preX9_part T G0 G1 lim F J al p1 p2) (ok : okPa T p1.toInt p2.toInt) : vX9_part_c42 J al p1 p2 (postX9_part T G0 G1 lim F J al p1 p2) (0 : Int32) F := by
  obtain ⟨hT, -⟩ := id H
  have hn5 := hT.1.2
  obtain ⟨c, ow⟩ := id ok
  obtain ⟨p, hp⟩ : ∃ p : Nat, p1.toInt = (p : Int) := ⟨p1.toInt.toNat, by omega⟩
  have ep : p1.toInt.toNat = p := by omega
  have hpn : p < cn T := by omega
  have hLp := mT_L hT hpn
  have hRp := mT_R hT hpn
  have hVp := mT_V hT hpn
  have h13 : 2 ^ cL T p ≤ 8192 := p13_le hLp.2.2
  have s10 := sub10 p2
  rw [ep] at ow
  have fin : ∀ r : Int32, r.toInt = spPa T p1.toInt p2.toInt → postX9_part T G0 G1 lim F J al p1 p2 r (upd F 0 (0 : Int32)) := fun r hr => ⟨fun _ => ⟨upd_eq, hr⟩, fun q => absurd ok q⟩
  unfold spPa at fin
  rw [ep] at fin
  refine ⟨fun _ => ?_, fun q => absurd (by decide) q⟩
  rw [fa_eq p2, z2, fa_le, z2]
  refine ⟨fun d => ⟨fun d2 => ⟨p, 2, ⟨hp, rfl, by omega⟩, fun r hr => ?_⟩, fun d2 => ⟨p, p2.toInt.toNat, ⟨hp, by omega, by omega⟩, fun r hr => fin r ?_⟩⟩, fun d => ⟨p, 2, ⟨hp, rfl, by omega⟩, fun r hr => ⟨cR T p, ?_, fun r2 hr2 => fin r2 ?_⟩⟩⟩
  · have hr : r.toInt = (cR T p : Int) := by rw [hr]; exact hRp.1
    refine ⟨cR T p, (p2.toInt - 10).toNat, ⟨hr, by omega, by omega⟩, fun r2 hr2 => ?_⟩
    have hr2 : r2 = if (cR T p).testBit (p2.toInt - 10).toNat then 1 else 0 := hr2
    rw [hr2, q_ifB]
    refine ⟨fun z => fin 0 ?_, fun z => fin 1 ?_⟩
    · rw [if_neg (by omega), if_neg (by omega), if_neg (by omega), if_neg (by rw [z]; decide)]; rfl
    · rw [if_neg (by omega), if_neg (by omega), if_neg (by omega), if_pos (by simpa using z)]; rfl
  · have hr : r = al (5 + 3 * p + p2.toInt.toNat) := hr
    rcases (show p2.toInt = 0 ∨ p2.toInt = 1 by omega) with z | z
    · rw [if_pos z, hr, z]; exact hLp.1
    · rw [if_neg (by omega), if_pos z, hr, z]; exact hVp.1
  · rw [show r = al (5 + 3 * p + 2) from hr]; exact hRp.1
  · rw [if_neg (by omega), if_neg (by omega), if_pos d]; exact hr2
theorem sX9_part_41 (T : Cd) (G0 : Lg) (G1 : Lg) (lim : Nat) (F : Nat → Int32) (J : Nat → Int64) (al : Nat → Int32) (p1 : Int32) (p2 : Int32) (no : ¬ okPa T p1.toInt p2.toInt) : vX9_part_c42 J al p1 p2 (postX9_part T G0 G1 lim F J al p1 p2) (1 : Int32) F := ⟨fun q => absurd q (by decide), fun _ => ⟨fun q => absurd q no, fun _ => upd_eq⟩⟩
theorem sX9_part (T : Cd) (G0 : Lg) (G1 : Lg) (lim : Nat) (F : Nat → Int32) (J : Nat → Int64) (al : Nat → Int32) (p1 : Int32) (p2 : Int32) (H : preX9_part T G0 G1 lim F J al p1 p2) : vX9_part F J al p1 p2 (postX9_part T G0 G1 lim F J al p1 p2) := by
  obtain ⟨hT, -⟩ := id H
  have hn5 := hT.1.2
  refine ⟨cn T, hT.1.1, fun r hr => ?_⟩
  have hr : r = if 0 ≤ p1.toInt ∧ p1.toInt < (cn T : Int) then 1 else 0 := hr
  by_cases c : 0 ≤ p1.toInt ∧ p1.toInt < (cn T : Int)
  · rw [if_pos c] at hr
    rw [hr]
    refine ⟨fun d => absurd d (by decide), fun _ => ⟨trivial, fun r2 hr2 => ?_⟩⟩
    have hr2 : r2 = if (0 : Int32).toInt ≤ p2.toInt ∧ p2.toInt ≤ (2 : Int32).toInt then 1 else 0 := hr2
    rw [z0, z2] at hr2
    by_cases d : 0 ≤ p2.toInt ∧ p2.toInt ≤ 2
    · rw [if_pos d] at hr2
      rw [hr2]
      exact ⟨fun _ => sX9_part_37 T G0 G1 lim F J al p1 p2 H ⟨c, Or.inl d⟩, fun q => absurd q (by decide)⟩
    · rw [if_neg d] at hr2
      rw [hr2]
      refine ⟨fun q => absurd rfl q, fun _ => ?_⟩
      obtain ⟨p, hp⟩ : ∃ p : Nat, p1.toInt = (p : Int) := ⟨p1.toInt.toNat, by omega⟩
      have ep : p1.toInt.toNat = p := by omega
      have hLp := mT_L hT (p := p) (by omega)
      refine ⟨p, 0, ⟨hp, rfl, by omega⟩, fun r3 hr3 => ⟨trivial, fun r4 hr4 => ?_⟩⟩
      have hr3 : r3.toInt = (cL T p : Int) := by rw [hr3]; exact hLp.1
      have e1 : (r3 - (1 : Int32)).toInt = (cL T p : Int) - 1 := q_sub hr3 z1 (by omega) (by omega)
      have hr4 : r4 = if (0 : Int32).toInt ≤ (p2 - (10 : Int32)).toInt ∧ (p2 - (10 : Int32)).toInt ≤ (r3 - (1 : Int32)).toInt then 1 else 0 := hr4
      rw [z0, e1] at hr4
      have s10 := sub10 p2
      by_cases f : 10 ≤ p2.toInt ∧ p2.toInt < 10 + (cL T p : Int)
      · rw [if_pos (by omega)] at hr4
        rw [hr4]
        exact ⟨fun q => absurd q (by decide), fun _ => sX9_part_37 T G0 G1 lim F J al p1 p2 H ⟨c, Or.inr (by rw [ep]; exact f)⟩⟩
      · rw [if_neg (by omega)] at hr4
        rw [hr4]
        refine ⟨fun _ => sX9_part_41 T G0 G1 lim F J al p1 p2 (fun q => ?_), fun q => absurd rfl q⟩
        rcases q.2 with z | z
        · exact d z
        · rw [ep] at z; exact f z
  · rw [if_neg c] at hr
    rw [hr]
    exact ⟨fun _ => sX9_part_41 T G0 G1 lim F J al p1 p2 (fun q => c q.1), fun q => absurd rfl q⟩
