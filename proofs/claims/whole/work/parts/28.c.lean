theorem dX9_upper_0 : decode cX9_upper 0 = .ok (.lconst 0, 1) := by decide +kernel
theorem dX9_upper_1 : decode cX9_upper 1 = .ok (.lstore 4, 2) := by decide +kernel
theorem dX9_upper_3 : decode cX9_upper 3 = .ok (.aload_n 0, 1) := by decide +kernel
theorem dX9_upper_4 : decode cX9_upper 4 = .ok (.lconst 1, 1) := by decide +kernel
theorem dX9_upper_5 : decode cX9_upper 5 = .ok (.putfield 315, 3) := by decide +kernel
theorem dX9_upper_8 : decode cX9_upper 8 = .ok (.iconst 0, 1) := by decide +kernel
theorem dX9_upper_9 : decode cX9_upper 9 = .ok (.istore 6, 2) := by decide +kernel
theorem dX9_upper_11 : decode cX9_upper 11 = .ok (.iload 6, 2) := by decide +kernel
theorem dX9_upper_13 : decode cX9_upper 13 = .ok (.iload_n 1, 1) := by decide +kernel
theorem dX9_upper_14 : decode cX9_upper 14 = .ok (.if_icmp .ge 21, 3) := by decide +kernel
theorem dX9_upper_17 : decode cX9_upper 17 = .ok (.aload_n 0, 1) := by decide +kernel
theorem dX9_upper_18 : decode cX9_upper 18 = .ok (.dup, 1) := by decide +kernel
theorem dX9_upper_19 : decode cX9_upper 19 = .ok (.getfield 315, 3) := by decide +kernel
theorem dX9_upper_22 : decode cX9_upper 22 = .ok (.ldc2_w 318, 3) := by decide +kernel
theorem dX9_upper_25 : decode cX9_upper 25 = .ok (.lmul, 1) := by decide +kernel
theorem dX9_upper_26 : decode cX9_upper 26 = .ok (.putfield 315, 3) := by decide +kernel
theorem dX9_upper_29 : decode cX9_upper 29 = .ok (.iinc 6 1, 3) := by decide +kernel
theorem dX9_upper_32 : decode cX9_upper 32 = .ok (.goto (-21), 3) := by decide +kernel
theorem dX9_upper_35 : decode cX9_upper 35 = .ok (.lconst 1, 1) := by decide +kernel
theorem dX9_upper_36 : decode cX9_upper 36 = .ok (.lstore 6, 2) := by decide +kernel
theorem dX9_upper_38 : decode cX9_upper 38 = .ok (.iconst 0, 1) := by decide +kernel
theorem dX9_upper_39 : decode cX9_upper 39 = .ok (.istore 8, 2) := by decide +kernel
theorem dX9_upper_41 : decode cX9_upper 41 = .ok (.iload 8, 2) := by decide +kernel
theorem dX9_upper_43 : decode cX9_upper 43 = .ok (.iload_n 1, 1) := by decide +kernel
theorem dX9_upper_44 : decode cX9_upper 44 = .ok (.if_icmp .gt 83, 3) := by decide +kernel
theorem dX9_upper_47 : decode cX9_upper 47 = .ok (.lload 6, 2) := by decide +kernel
theorem dX9_upper_49 : decode cX9_upper 49 = .ok (.lstore 9, 2) := by decide +kernel
theorem dX9_upper_51 : decode cX9_upper 51 = .ok (.iconst 0, 1) := by decide +kernel
theorem dX9_upper_52 : decode cX9_upper 52 = .ok (.istore 11, 2) := by decide +kernel
theorem dX9_upper_54 : decode cX9_upper 54 = .ok (.iload 11, 2) := by decide +kernel
theorem dX9_upper_56 : decode cX9_upper 56 = .ok (.iload_n 1, 1) := by decide +kernel
theorem dX9_upper_57 : decode cX9_upper 57 = .ok (.if_icmp .ge 31, 3) := by decide +kernel
theorem dX9_upper_60 : decode cX9_upper 60 = .ok (.lload 9, 2) := by decide +kernel
theorem dX9_upper_62 : decode cX9_upper 62 = .ok (.iload 11, 2) := by decide +kernel
theorem dX9_upper_64 : decode cX9_upper 64 = .ok (.iload 8, 2) := by decide +kernel
theorem dX9_upper_66 : decode cX9_upper 66 = .ok (.if_icmp .ge 8, 3) := by decide +kernel
theorem dX9_upper_69 : decode cX9_upper 69 = .ok (.iload_n 2, 1) := by decide +kernel
theorem dX9_upper_70 : decode cX9_upper 70 = .ok (.i2l, 1) := by decide +kernel
theorem dX9_upper_71 : decode cX9_upper 71 = .ok (.goto 8, 3) := by decide +kernel
theorem dX9_upper_74 : decode cX9_upper 74 = .ok (.bipush 10, 2) := by decide +kernel
theorem dX9_upper_76 : decode cX9_upper 76 = .ok (.iload_n 2, 1) := by decide +kernel
theorem dX9_upper_77 : decode cX9_upper 77 = .ok (.isub, 1) := by decide +kernel
theorem dX9_upper_78 : decode cX9_upper 78 = .ok (.i2l, 1) := by decide +kernel
theorem dX9_upper_79 : decode cX9_upper 79 = .ok (.lmul, 1) := by decide +kernel
theorem dX9_upper_80 : decode cX9_upper 80 = .ok (.lstore 9, 2) := by decide +kernel
theorem dX9_upper_82 : decode cX9_upper 82 = .ok (.iinc 11 1, 3) := by decide +kernel
theorem dX9_upper_85 : decode cX9_upper 85 = .ok (.goto (-31), 3) := by decide +kernel
theorem dX9_upper_88 : decode cX9_upper 88 = .ok (.lload 4, 2) := by decide +kernel
theorem dX9_upper_90 : decode cX9_upper 90 = .ok (.iload 8, 2) := by decide +kernel
theorem dX9_upper_92 : decode cX9_upper 92 = .ok (.iload_n 3, 1) := by decide +kernel
theorem dX9_upper_93 : decode cX9_upper 93 = .ok (.if_icmp .lt 8, 3) := by decide +kernel
theorem dX9_upper_96 : decode cX9_upper 96 = .ok (.lload 9, 2) := by decide +kernel
theorem dX9_upper_98 : decode cX9_upper 98 = .ok (.goto 4, 3) := by decide +kernel
theorem dX9_upper_101 : decode cX9_upper 101 = .ok (.lconst 0, 1) := by decide +kernel
theorem dX9_upper_102 : decode cX9_upper 102 = .ok (.ladd, 1) := by decide +kernel
theorem dX9_upper_103 : decode cX9_upper 103 = .ok (.lstore 4, 2) := by decide +kernel
theorem dX9_upper_105 : decode cX9_upper 105 = .ok (.lload 6, 2) := by decide +kernel
theorem dX9_upper_107 : decode cX9_upper 107 = .ok (.iload_n 1, 1) := by decide +kernel
theorem dX9_upper_108 : decode cX9_upper 108 = .ok (.iload 8, 2) := by decide +kernel
theorem dX9_upper_110 : decode cX9_upper 110 = .ok (.isub, 1) := by decide +kernel
theorem dX9_upper_111 : decode cX9_upper 111 = .ok (.i2l, 1) := by decide +kernel
theorem dX9_upper_112 : decode cX9_upper 112 = .ok (.lmul, 1) := by decide +kernel
theorem dX9_upper_113 : decode cX9_upper 113 = .ok (.iload 8, 2) := by decide +kernel
theorem dX9_upper_115 : decode cX9_upper 115 = .ok (.iconst 1, 1) := by decide +kernel
theorem dX9_upper_116 : decode cX9_upper 116 = .ok (.iadd, 1) := by decide +kernel
theorem dX9_upper_117 : decode cX9_upper 117 = .ok (.i2l, 1) := by decide +kernel
theorem dX9_upper_118 : decode cX9_upper 118 = .ok (.ldiv, 1) := by decide +kernel
theorem dX9_upper_119 : decode cX9_upper 119 = .ok (.lstore 6, 2) := by decide +kernel
theorem dX9_upper_121 : decode cX9_upper 121 = .ok (.iinc 8 1, 3) := by decide +kernel
theorem dX9_upper_124 : decode cX9_upper 124 = .ok (.goto (-83), 3) := by decide +kernel
theorem dX9_upper_127 : decode cX9_upper 127 = .ok (.lload 4, 2) := by decide +kernel
theorem dX9_upper_129 : decode cX9_upper 129 = .ok (.lreturn, 1) := by decide +kernel
abbrev rmX9_upper : Room := { frames := 0, cells := 0, slots := 0, locals := 0 }
theorem inX9_upper_9 : ∀ w ∈ wsX90, w ∈ wsX9_upper := by decide +kernel
def vX9_upper_c102 (F : Nat → Int32) (p1 : Int32) (p2 : Int32) (p3 : Int32) (Q : Int64 → (Nat → Int64) → Prop) (K41 : Int64 → Int64 → Int32 → (Nat → Int64) → Prop) (x6 : Int64) (x8 : Int32) (s0 : Int64) (s1 : Int64) (J : Nat → Int64) : Prop := (¬ ((x8 + (1 : Int32)).toInt64) = 0 ∧ (∀ y_119 : Int64, y_119 = ((x6 * ((p1 - x8).toInt64)) / ((x8 + (1 : Int32)).toInt64)) → (K41 (s1 + s0) y_119 (x8 + (1 : Int32)) J)))
set_option maxHeartbeats 4000000 in
set_option maxRecDepth 100000 in
theorem kX9_upper_c102 {p : Program} {l : Launch} {e : Env} {s : State} {m : MethodId} {args : Array Value} {below : List Frame} {meth : Method} {c : Code} {g : GP} {qM : Nat} {q1 : Nat} {q2 : Nat} {q3 : Nat} {q4 : Nat} {q5 : Nat} {q6 : Nat} {q7 : Nat} {q8 : Nat} {q9 : Nat} {q10 : Nat} {q11 : Nat} {F : Nat → Int32} {p1 : Int32} {p2 : Int32} {p3 : Int32} {Q : Int64 → (Nat → Int64) → Prop} {A : Nat → Prop} {K41 : Int64 → Int64 → Int32 → (Nat → Int64) → Prop} (S : CallFix p m c cX9_upper 12 s args wsX9_upper RX9) (hr : meth.sig.returnType = (some .long)) (hlocks : meth.locks = false) (hG : GK g s) (hA : ∀ q : Nat, s.heap.size ≤ q → A q) (kk41 : ∀ (x4 : Int64) (x6 : Int64) (x8 : Int32) (J : Nat → Int64), K41 x4 x6 x8 J → ∀ (H : Heap) (locs : List Loc), va_P g.1 vwCl [(qM, .inr (9, [.int (F 0), .ref q1, .ref q2, .ref q3, .int (F 4), .int (F 5), .int (F 6), .int (F 7), .int (F 8), .int (F 9), .long (J 10), .int (F 11), .int (F 12), .int (F 13), .ref q4, .int (F 15), .ref q5, .ref q6, .ref q7, .int (F 19), .ref q8, .int (F 21), .int (F 22), .int (F 23), .int (F 24), .ref q9, .ref q10, .ref q11, .long (J 28)]))] H → va_D A [(qM, .inr (9, [.int (F 0), .ref q1, .ref q2, .ref q3, .int (F 4), .int (F 5), .int (F 6), .int (F 7), .int (F 8), .int (F 9), .long (J 10), .int (F 11), .int (F 12), .int (F 13), .ref q4, .int (F 15), .ref q5, .ref q6, .ref q7, .int (F 19), .ref q8, .int (F 21), .int (F 22), .int (F 23), .int (F 24), .ref q9, .ref q10, .ref q11, .long (J 28)]))] → va_S A s.heap H locs → ∀ (ls : Array Slot), lv_has ls 12 [(1, .int p1), (2, .int p2), (3, .int p3), (4, .long x4), (6, .long x6), (8, .int x8)] → W p l e (headSpec wsX9_upper rmX9_upper).room s m args below meth c H locs 0 0 (MQ below (va_Ql (fun (r : Int64) (u : (Nat → Int64)) => Q r u) (fun (u : (Nat → Int64)) t => va_P g.1 vwCl [(qM, .inr (9, [.int (F 0), .ref q1, .ref q2, .ref q3, .int (F 4), .int (F 5), .int (F 6), .int (F 7), .int (F 8), .int (F 9), .long (u 10), .int (F 11), .int (F 12), .int (F 13), .ref q4, .int (F 15), .ref q5, .ref q6, .ref q7, .int (F 19), .ref q8, .int (F 21), .int (F 22), .int (F 23), .int (F 24), .ref q9, .ref q10, .ref q11, .long (u 28)]))] t.heap ∧ va_D A [(qM, .inr (9, [.int (F 0), .ref q1, .ref q2, .ref q3, .int (F 4), .int (F 5), .int (F 6), .int (F 7), .int (F 8), .int (F 9), .long (u 10), .int (F 11), .int (F 12), .int (F 13), .ref q4, .int (F 15), .ref q5, .ref q6, .ref q7, .int (F 19), .ref q8, .int (F 21), .int (F 22), .int (F 23), .int (F 24), .ref q9, .ref q10, .ref q11, .long (u 28)]))]) A) args s 0 0 A) (F0 m 41 ls [])) : ∀ (x6 : Int64) (x8 : Int32) (s0 : Int64) (s1 : Int64) (J : Nat → Int64), vX9_upper_c102 F p1 p2 p3 Q K41 x6 x8 s0 s1 J → ∀ (H : Heap) (locs : List Loc), va_P g.1 vwCl [(qM, .inr (9, [.int (F 0), .ref q1, .ref q2, .ref q3, .int (F 4), .int (F 5), .int (F 6), .int (F 7), .int (F 8), .int (F 9), .long (J 10), .int (F 11), .int (F 12), .int (F 13), .ref q4, .int (F 15), .ref q5, .ref q6, .ref q7, .int (F 19), .ref q8, .int (F 21), .int (F 22), .int (F 23), .int (F 24), .ref q9, .ref q10, .ref q11, .long (J 28)]))] H → va_D A [(qM, .inr (9, [.int (F 0), .ref q1, .ref q2, .ref q3, .int (F 4), .int (F 5), .int (F 6), .int (F 7), .int (F 8), .int (F 9), .long (J 10), .int (F 11), .int (F 12), .int (F 13), .ref q4, .int (F 15), .ref q5, .ref q6, .ref q7, .int (F 19), .ref q8, .int (F 21), .int (F 22), .int (F 23), .int (F 24), .ref q9, .ref q10, .ref q11, .long (J 28)]))] → va_S A s.heap H locs → ∀ (ls : Array Slot), lv_has ls 12 [(1, .int p1), (2, .int p2), (3, .int p3), (6, .long x6), (8, .int x8)] → W p l e (headSpec wsX9_upper rmX9_upper).room s m args below meth c H locs 0 0 (MQ below (va_Ql (fun (r : Int64) (u : (Nat → Int64)) => Q r u) (fun (u : (Nat → Int64)) t => va_P g.1 vwCl [(qM, .inr (9, [.int (F 0), .ref q1, .ref q2, .ref q3, .int (F 4), .int (F 5), .int (F 6), .int (F 7), .int (F 8), .int (F 9), .long (u 10), .int (F 11), .int (F 12), .int (F 13), .ref q4, .int (F 15), .ref q5, .ref q6, .ref q7, .int (F 19), .ref q8, .int (F 21), .int (F 22), .int (F 23), .int (F 24), .ref q9, .ref q10, .ref q11, .long (u 28)]))] t.heap ∧ va_D A [(qM, .inr (9, [.int (F 0), .ref q1, .ref q2, .ref q3, .int (F 4), .int (F 5), .int (F 6), .int (F 7), .int (F 8), .int (F 9), .long (u 10), .int (F 11), .int (F 12), .int (F 13), .ref q4, .int (F 15), .ref q5, .ref q6, .ref q7, .int (F 19), .ref q8, .int (F 21), .int (F 22), .int (F 23), .int (F 24), .ref q9, .ref q10, .ref q11, .long (u 28)]))]) A) args s 0 0 A) (F0 m 102 ls [.long s0, .long s1]) := by
  obtain ⟨hx, hb, hml, hown, hts⟩ := id S
  have hK := hG.1
  intro x6 x8 s0 s1 J hv H locs hP hD hS ls hl
  unfold vX9_upper_c102 at hv
  refine lv_ladd hx hb dX9_upper_102 ?_
  refine lv_lstore (lv' := [(4, .long (s1 + s0)), (1, .int p1), (2, .int p2), (3, .int p3), (6, .long x6), (8, .int x8)]) hx hb dX9_upper_103 hl (by decide) rfl (fun ls hl => ?_)
  refine lv_lload hx hb dX9_upper_105 (lv_at hl 4 rfl) ?_
  refine lv_iload_n hx hb dX9_upper_107 rfl (lv_at hl 1 rfl) ?_
  refine lv_iload hx hb dX9_upper_108 (lv_at hl 5 rfl) ?_
  refine lv_isub hx hb dX9_upper_110 ?_
  refine lv_i2l (v := ((p1 - x8).toInt64)) hx hb dX9_upper_111 rfl ?_
  refine lv_lmul hx hb dX9_upper_112 ?_
  refine lv_iload hx hb dX9_upper_113 (lv_at hl 5 rfl) ?_
  refine lv_iconst (v := (1 : Int32)) hx hb dX9_upper_115 (by decide) ?_
  refine lv_iadd hx hb dX9_upper_116 ?_
  refine lv_i2l (v := ((x8 + (1 : Int32)).toInt64)) hx hb dX9_upper_117 rfl ?_
  obtain ⟨ho_1, hv⟩ := hv
  refine lv_ldiv hx hb dX9_upper_118 ho_1 ?_
  refine lv_topl (fun y_119 ey_119 => ?_)
  have hv := hv y_119 ey_119
  refine lv_lstore (lv' := [(6, .long y_119), (4, .long (s1 + s0)), (1, .int p1), (2, .int p2), (3, .int p3), (8, .int x8)]) hx hb dX9_upper_119 hl (by decide) rfl (fun ls hl => ?_)
  refine lv_iinc (v := (x8 + (1 : Int32))) (lv' := [(8, .int (x8 + (1 : Int32))), (6, .long y_119), (4, .long (s1 + s0)), (1, .int p1), (2, .int p2), (3, .int p3)]) hx hb dX9_upper_121 hl (k := 5) rfl rfl (by decide) rfl (fun ls hl => ?_)
  refine lv_goto (tgt := 41) hx hb dX9_upper_124 (by decide) ?_
  exact kk41 _ _ _ _ hv _ _ (hP.sub (ws' := [(qM, .inr (9, [.int (F 0), .ref q1, .ref q2, .ref q3, .int (F 4), .int (F 5), .int (F 6), .int (F 7), .int (F 8), .int (F 9), .long (J 10), .int (F 11), .int (F 12), .int (F 13), .ref q4, .int (F 15), .ref q5, .ref q6, .ref q7, .int (F 19), .ref q8, .int (F 21), .int (F 22), .int (F 23), .int (F 24), .ref q9, .ref q10, .ref q11, .long (J 28)]))]) [0] rfl) (hD.sub (ws' := [(qM, .inr (9, [.int (F 0), .ref q1, .ref q2, .ref q3, .int (F 4), .int (F 5), .int (F 6), .int (F 7), .int (F 8), .int (F 9), .long (J 10), .int (F 11), .int (F 12), .int (F 13), .ref q4, .int (F 15), .ref q5, .ref q6, .ref q7, .int (F 19), .ref q8, .int (F 21), .int (F 22), .int (F 23), .int (F 24), .ref q9, .ref q10, .ref q11, .long (J 28)]))]) [0] (by decide) rfl) hS ls (lv_sub hl [3, 4, 5, 2, 1, 0] rfl)
def vX9_upper_c54 (F : Nat → Int32) (p1 : Int32) (p2 : Int32) (p3 : Int32) (Q : Int64 → (Nat → Int64) → Prop) (K41 : Int64 → Int64 → Int32 → (Nat → Int64) → Prop) : Nat → Int64 → Int64 → Int32 → Int64 → Int32 → (Nat → Int64) → Prop
  | 0, _, _, _, _, _, _ => False
  | n + 1, x4, x6, x8, x9, x11, J => ((p1 ≤ x11 → ((x8 < p3 → (vX9_upper_c102 F p1 p2 p3 Q K41 x6 x8 (0 : Int64) x4 J)) ∧ (¬ x8 < p3 → (vX9_upper_c102 F p1 p2 p3 Q K41 x6 x8 x9 x4 J)))) ∧ (¬ p1 ≤ x11 → ((x8 ≤ x11 → (∀ y_80 : Int64, y_80 = (x9 * (((10 : Int32) - p2).toInt64)) → (vX9_upper_c54 F p1 p2 p3 Q K41 n x4 x6 x8 y_80 (x11 + (1 : Int32)) J))) ∧ (¬ x8 ≤ x11 → (vX9_upper_c54 F p1 p2 p3 Q K41 n x4 x6 x8 (x9 * (p2.toInt64)) (x11 + (1 : Int32)) J)))))
set_option maxHeartbeats 4000000 in
set_option maxRecDepth 100000 in
theorem kX9_upper_c54 {p : Program} {l : Launch} {e : Env} {s : State} {m : MethodId} {args : Array Value} {below : List Frame} {meth : Method} {c : Code} {g : GP} {qM : Nat} {q1 : Nat} {q2 : Nat} {q3 : Nat} {q4 : Nat} {q5 : Nat} {q6 : Nat} {q7 : Nat} {q8 : Nat} {q9 : Nat} {q10 : Nat} {q11 : Nat} {F : Nat → Int32} {p1 : Int32} {p2 : Int32} {p3 : Int32} {Q : Int64 → (Nat → Int64) → Prop} {A : Nat → Prop} {K41 : Int64 → Int64 → Int32 → (Nat → Int64) → Prop} (S : CallFix p m c cX9_upper 12 s args wsX9_upper RX9) (hr : meth.sig.returnType = (some .long)) (hlocks : meth.locks = false) (hG : GK g s) (hA : ∀ q : Nat, s.heap.size ≤ q → A q) (kk41 : ∀ (x4 : Int64) (x6 : Int64) (x8 : Int32) (J : Nat → Int64), K41 x4 x6 x8 J → ∀ (H : Heap) (locs : List Loc), va_P g.1 vwCl [(qM, .inr (9, [.int (F 0), .ref q1, .ref q2, .ref q3, .int (F 4), .int (F 5), .int (F 6), .int (F 7), .int (F 8), .int (F 9), .long (J 10), .int (F 11), .int (F 12), .int (F 13), .ref q4, .int (F 15), .ref q5, .ref q6, .ref q7, .int (F 19), .ref q8, .int (F 21), .int (F 22), .int (F 23), .int (F 24), .ref q9, .ref q10, .ref q11, .long (J 28)]))] H → va_D A [(qM, .inr (9, [.int (F 0), .ref q1, .ref q2, .ref q3, .int (F 4), .int (F 5), .int (F 6), .int (F 7), .int (F 8), .int (F 9), .long (J 10), .int (F 11), .int (F 12), .int (F 13), .ref q4, .int (F 15), .ref q5, .ref q6, .ref q7, .int (F 19), .ref q8, .int (F 21), .int (F 22), .int (F 23), .int (F 24), .ref q9, .ref q10, .ref q11, .long (J 28)]))] → va_S A s.heap H locs → ∀ (ls : Array Slot), lv_has ls 12 [(1, .int p1), (2, .int p2), (3, .int p3), (4, .long x4), (6, .long x6), (8, .int x8)] → W p l e (headSpec wsX9_upper rmX9_upper).room s m args below meth c H locs 0 0 (MQ below (va_Ql (fun (r : Int64) (u : (Nat → Int64)) => Q r u) (fun (u : (Nat → Int64)) t => va_P g.1 vwCl [(qM, .inr (9, [.int (F 0), .ref q1, .ref q2, .ref q3, .int (F 4), .int (F 5), .int (F 6), .int (F 7), .int (F 8), .int (F 9), .long (u 10), .int (F 11), .int (F 12), .int (F 13), .ref q4, .int (F 15), .ref q5, .ref q6, .ref q7, .int (F 19), .ref q8, .int (F 21), .int (F 22), .int (F 23), .int (F 24), .ref q9, .ref q10, .ref q11, .long (u 28)]))] t.heap ∧ va_D A [(qM, .inr (9, [.int (F 0), .ref q1, .ref q2, .ref q3, .int (F 4), .int (F 5), .int (F 6), .int (F 7), .int (F 8), .int (F 9), .long (u 10), .int (F 11), .int (F 12), .int (F 13), .ref q4, .int (F 15), .ref q5, .ref q6, .ref q7, .int (F 19), .ref q8, .int (F 21), .int (F 22), .int (F 23), .int (F 24), .ref q9, .ref q10, .ref q11, .long (u 28)]))]) A) args s 0 0 A) (F0 m 41 ls [])) : ∀ (n : Nat), ∀ (x4 : Int64) (x6 : Int64) (x8 : Int32) (x9 : Int64) (x11 : Int32) (J : Nat → Int64), vX9_upper_c54 F p1 p2 p3 Q K41 n x4 x6 x8 x9 x11 J → ∀ (H : Heap) (locs : List Loc), va_P g.1 vwCl [(qM, .inr (9, [.int (F 0), .ref q1, .ref q2, .ref q3, .int (F 4), .int (F 5), .int (F 6), .int (F 7), .int (F 8), .int (F 9), .long (J 10), .int (F 11), .int (F 12), .int (F 13), .ref q4, .int (F 15), .ref q5, .ref q6, .ref q7, .int (F 19), .ref q8, .int (F 21), .int (F 22), .int (F 23), .int (F 24), .ref q9, .ref q10, .ref q11, .long (J 28)]))] H → va_D A [(qM, .inr (9, [.int (F 0), .ref q1, .ref q2, .ref q3, .int (F 4), .int (F 5), .int (F 6), .int (F 7), .int (F 8), .int (F 9), .long (J 10), .int (F 11), .int (F 12), .int (F 13), .ref q4, .int (F 15), .ref q5, .ref q6, .ref q7, .int (F 19), .ref q8, .int (F 21), .int (F 22), .int (F 23), .int (F 24), .ref q9, .ref q10, .ref q11, .long (J 28)]))] → va_S A s.heap H locs → ∀ (ls : Array Slot), lv_has ls 12 [(1, .int p1), (2, .int p2), (3, .int p3), (4, .long x4), (6, .long x6), (8, .int x8), (9, .long x9), (11, .int x11)] → W p l e (headSpec wsX9_upper rmX9_upper).room s m args below meth c H locs 0 0 (MQ below (va_Ql (fun (r : Int64) (u : (Nat → Int64)) => Q r u) (fun (u : (Nat → Int64)) t => va_P g.1 vwCl [(qM, .inr (9, [.int (F 0), .ref q1, .ref q2, .ref q3, .int (F 4), .int (F 5), .int (F 6), .int (F 7), .int (F 8), .int (F 9), .long (u 10), .int (F 11), .int (F 12), .int (F 13), .ref q4, .int (F 15), .ref q5, .ref q6, .ref q7, .int (F 19), .ref q8, .int (F 21), .int (F 22), .int (F 23), .int (F 24), .ref q9, .ref q10, .ref q11, .long (u 28)]))] t.heap ∧ va_D A [(qM, .inr (9, [.int (F 0), .ref q1, .ref q2, .ref q3, .int (F 4), .int (F 5), .int (F 6), .int (F 7), .int (F 8), .int (F 9), .long (u 10), .int (F 11), .int (F 12), .int (F 13), .ref q4, .int (F 15), .ref q5, .ref q6, .ref q7, .int (F 19), .ref q8, .int (F 21), .int (F 22), .int (F 23), .int (F 24), .ref q9, .ref q10, .ref q11, .long (u 28)]))]) A) args s 0 0 A) (F0 m 54 ls []) := by
  obtain ⟨hx, hb, hml, hown, hts⟩ := id S
  have hK := hG.1
  intro n
  induction n with
  | zero => intro x4 x6 x8 x9 x11 J hv; exact hv.elim
  | succ n ih =>
    intro x4 x6 x8 x9 x11 J hv H locs hP hD hS ls hl
    refine lv_iload hx hb dX9_upper_54 (lv_at hl 7 rfl) ?_
    refine lv_iload_n hx hb dX9_upper_56 rfl (lv_at hl 0 rfl) ?_
    obtain ⟨hvt, hvf⟩ := hv
    refine lv_icmp_ge (tgt := 88) hx hb dX9_upper_57 (by decide) (fun hc => ?_) (fun hc => ?_)
    · have hv := hvt hc
      refine lv_lload hx hb dX9_upper_88 (lv_at hl 3 rfl) ?_
      refine lv_iload hx hb dX9_upper_90 (lv_at hl 5 rfl) ?_
      refine lv_iload_n hx hb dX9_upper_92 rfl (lv_at hl 2 rfl) ?_
      obtain ⟨hvt, hvf⟩ := hv
      refine lv_icmp_lt (tgt := 101) hx hb dX9_upper_93 (by decide) (fun hc => ?_) (fun hc => ?_)
      · have hv := hvt hc
        refine lv_lconst (v := (0 : Int64)) hx hb dX9_upper_101 (by decide) ?_
        exact kX9_upper_c102 S hr hlocks hG hA kk41 _ _ _ _ _ hv _ _ (hP.sub (ws' := [(qM, .inr (9, [.int (F 0), .ref q1, .ref q2, .ref q3, .int (F 4), .int (F 5), .int (F 6), .int (F 7), .int (F 8), .int (F 9), .long (J 10), .int (F 11), .int (F 12), .int (F 13), .ref q4, .int (F 15), .ref q5, .ref q6, .ref q7, .int (F 19), .ref q8, .int (F 21), .int (F 22), .int (F 23), .int (F 24), .ref q9, .ref q10, .ref q11, .long (J 28)]))]) [0] rfl) (hD.sub (ws' := [(qM, .inr (9, [.int (F 0), .ref q1, .ref q2, .ref q3, .int (F 4), .int (F 5), .int (F 6), .int (F 7), .int (F 8), .int (F 9), .long (J 10), .int (F 11), .int (F 12), .int (F 13), .ref q4, .int (F 15), .ref q5, .ref q6, .ref q7, .int (F 19), .ref q8, .int (F 21), .int (F 22), .int (F 23), .int (F 24), .ref q9, .ref q10, .ref q11, .long (J 28)]))]) [0] (by decide) rfl) hS ls (lv_sub hl [0, 1, 2, 4, 5] rfl)
      · have hv := hvf hc
        refine lv_lload hx hb dX9_upper_96 (lv_at hl 6 rfl) ?_
        refine lv_goto (tgt := 102) hx hb dX9_upper_98 (by decide) ?_
        exact kX9_upper_c102 S hr hlocks hG hA kk41 _ _ _ _ _ hv _ _ (hP.sub (ws' := [(qM, .inr (9, [.int (F 0), .ref q1, .ref q2, .ref q3, .int (F 4), .int (F 5), .int (F 6), .int (F 7), .int (F 8), .int (F 9), .long (J 10), .int (F 11), .int (F 12), .int (F 13), .ref q4, .int (F 15), .ref q5, .ref q6, .ref q7, .int (F 19), .ref q8, .int (F 21), .int (F 22), .int (F 23), .int (F 24), .ref q9, .ref q10, .ref q11, .long (J 28)]))]) [0] rfl) (hD.sub (ws' := [(qM, .inr (9, [.int (F 0), .ref q1, .ref q2, .ref q3, .int (F 4), .int (F 5), .int (F 6), .int (F 7), .int (F 8), .int (F 9), .long (J 10), .int (F 11), .int (F 12), .int (F 13), .ref q4, .int (F 15), .ref q5, .ref q6, .ref q7, .int (F 19), .ref q8, .int (F 21), .int (F 22), .int (F 23), .int (F 24), .ref q9, .ref q10, .ref q11, .long (J 28)]))]) [0] (by decide) rfl) hS ls (lv_sub hl [0, 1, 2, 4, 5] rfl)
    · have hv := hvf hc
      refine lv_lload hx hb dX9_upper_60 (lv_at hl 6 rfl) ?_
      refine lv_iload hx hb dX9_upper_62 (lv_at hl 7 rfl) ?_
      refine lv_iload hx hb dX9_upper_64 (lv_at hl 5 rfl) ?_
      obtain ⟨hvt, hvf⟩ := hv
      refine lv_icmp_ge (tgt := 74) hx hb dX9_upper_66 (by decide) (fun hc => ?_) (fun hc => ?_)
      · have hv := hvt hc
        refine lv_bipush (v := (10 : Int32)) hx hb dX9_upper_74 (by decide) ?_
        refine lv_iload_n hx hb dX9_upper_76 rfl (lv_at hl 1 rfl) ?_
        refine lv_isub hx hb dX9_upper_77 ?_
        refine lv_i2l (v := (((10 : Int32) - p2).toInt64)) hx hb dX9_upper_78 rfl ?_
        refine lv_lmul hx hb dX9_upper_79 ?_
        refine lv_topl (fun y_80 ey_80 => ?_)
        have hv := hv y_80 ey_80
        refine lv_lstore (lv' := [(9, .long y_80), (1, .int p1), (2, .int p2), (3, .int p3), (4, .long x4), (6, .long x6), (8, .int x8), (11, .int x11)]) hx hb dX9_upper_80 hl (by decide) rfl (fun ls hl => ?_)
        refine lv_iinc (v := (x11 + (1 : Int32))) (lv' := [(11, .int (x11 + (1 : Int32))), (9, .long y_80), (1, .int p1), (2, .int p2), (3, .int p3), (4, .long x4), (6, .long x6), (8, .int x8)]) hx hb dX9_upper_82 hl (k := 7) rfl rfl (by decide) rfl (fun ls hl => ?_)
        refine lv_goto (tgt := 54) hx hb dX9_upper_85 (by decide) ?_
        exact ih _ _ _ _ _ _ hv _ _ (hP.sub (ws' := [(qM, .inr (9, [.int (F 0), .ref q1, .ref q2, .ref q3, .int (F 4), .int (F 5), .int (F 6), .int (F 7), .int (F 8), .int (F 9), .long (J 10), .int (F 11), .int (F 12), .int (F 13), .ref q4, .int (F 15), .ref q5, .ref q6, .ref q7, .int (F 19), .ref q8, .int (F 21), .int (F 22), .int (F 23), .int (F 24), .ref q9, .ref q10, .ref q11, .long (J 28)]))]) [0] rfl) (hD.sub (ws' := [(qM, .inr (9, [.int (F 0), .ref q1, .ref q2, .ref q3, .int (F 4), .int (F 5), .int (F 6), .int (F 7), .int (F 8), .int (F 9), .long (J 10), .int (F 11), .int (F 12), .int (F 13), .ref q4, .int (F 15), .ref q5, .ref q6, .ref q7, .int (F 19), .ref q8, .int (F 21), .int (F 22), .int (F 23), .int (F 24), .ref q9, .ref q10, .ref q11, .long (J 28)]))]) [0] (by decide) rfl) hS ls (lv_sub hl [2, 3, 4, 5, 6, 7, 1, 0] rfl)
      · have hv := hvf hc
        refine lv_iload_n hx hb dX9_upper_69 rfl (lv_at hl 1 rfl) ?_
        refine lv_i2l (v := (p2.toInt64)) hx hb dX9_upper_70 rfl ?_
        refine lv_goto (tgt := 79) hx hb dX9_upper_71 (by decide) ?_
        refine lv_lmul hx hb dX9_upper_79 ?_
        refine lv_lstore (lv' := [(9, .long (x9 * (p2.toInt64))), (1, .int p1), (2, .int p2), (3, .int p3), (4, .long x4), (6, .long x6), (8, .int x8), (11, .int x11)]) hx hb dX9_upper_80 hl (by decide) rfl (fun ls hl => ?_)
        refine lv_iinc (v := (x11 + (1 : Int32))) (lv' := [(11, .int (x11 + (1 : Int32))), (9, .long (x9 * (p2.toInt64))), (1, .int p1), (2, .int p2), (3, .int p3), (4, .long x4), (6, .long x6), (8, .int x8)]) hx hb dX9_upper_82 hl (k := 7) rfl rfl (by decide) rfl (fun ls hl => ?_)
        refine lv_goto (tgt := 54) hx hb dX9_upper_85 (by decide) ?_
        exact ih _ _ _ _ _ _ hv _ _ (hP.sub (ws' := [(qM, .inr (9, [.int (F 0), .ref q1, .ref q2, .ref q3, .int (F 4), .int (F 5), .int (F 6), .int (F 7), .int (F 8), .int (F 9), .long (J 10), .int (F 11), .int (F 12), .int (F 13), .ref q4, .int (F 15), .ref q5, .ref q6, .ref q7, .int (F 19), .ref q8, .int (F 21), .int (F 22), .int (F 23), .int (F 24), .ref q9, .ref q10, .ref q11, .long (J 28)]))]) [0] rfl) (hD.sub (ws' := [(qM, .inr (9, [.int (F 0), .ref q1, .ref q2, .ref q3, .int (F 4), .int (F 5), .int (F 6), .int (F 7), .int (F 8), .int (F 9), .long (J 10), .int (F 11), .int (F 12), .int (F 13), .ref q4, .int (F 15), .ref q5, .ref q6, .ref q7, .int (F 19), .ref q8, .int (F 21), .int (F 22), .int (F 23), .int (F 24), .ref q9, .ref q10, .ref q11, .long (J 28)]))]) [0] (by decide) rfl) hS ls (lv_sub hl [2, 3, 4, 5, 6, 7, 1, 0] rfl)
def vX9_upper_c41 (F : Nat → Int32) (p1 : Int32) (p2 : Int32) (p3 : Int32) (Q : Int64 → (Nat → Int64) → Prop) : Nat → Int64 → Int64 → Int32 → (Nat → Int64) → Prop
  | 0, _, _, _, _ => False
  | n + 1, x4, x6, x8, J => ((p1 < x8 → (Q x4 J)) ∧ (¬ p1 < x8 → (∃ nn, vX9_upper_c54 F p1 p2 p3 Q (vX9_upper_c41 F p1 p2 p3 Q n) nn x4 x6 x8 x6 (0 : Int32) J)))
set_option maxHeartbeats 4000000 in
set_option maxRecDepth 100000 in
theorem kX9_upper_c41 {p : Program} {l : Launch} {e : Env} {s : State} {m : MethodId} {args : Array Value} {below : List Frame} {meth : Method} {c : Code} {g : GP} {qM : Nat} {q1 : Nat} {q2 : Nat} {q3 : Nat} {q4 : Nat} {q5 : Nat} {q6 : Nat} {q7 : Nat} {q8 : Nat} {q9 : Nat} {q10 : Nat} {q11 : Nat} {F : Nat → Int32} {p1 : Int32} {p2 : Int32} {p3 : Int32} {Q : Int64 → (Nat → Int64) → Prop} {A : Nat → Prop} (S : CallFix p m c cX9_upper 12 s args wsX9_upper RX9) (hr : meth.sig.returnType = (some .long)) (hlocks : meth.locks = false) (hG : GK g s) (hA : ∀ q : Nat, s.heap.size ≤ q → A q) : ∀ (n : Nat), ∀ (x4 : Int64) (x6 : Int64) (x8 : Int32) (J : Nat → Int64), vX9_upper_c41 F p1 p2 p3 Q n x4 x6 x8 J → ∀ (H : Heap) (locs : List Loc), va_P g.1 vwCl [(qM, .inr (9, [.int (F 0), .ref q1, .ref q2, .ref q3, .int (F 4), .int (F 5), .int (F 6), .int (F 7), .int (F 8), .int (F 9), .long (J 10), .int (F 11), .int (F 12), .int (F 13), .ref q4, .int (F 15), .ref q5, .ref q6, .ref q7, .int (F 19), .ref q8, .int (F 21), .int (F 22), .int (F 23), .int (F 24), .ref q9, .ref q10, .ref q11, .long (J 28)]))] H → va_D A [(qM, .inr (9, [.int (F 0), .ref q1, .ref q2, .ref q3, .int (F 4), .int (F 5), .int (F 6), .int (F 7), .int (F 8), .int (F 9), .long (J 10), .int (F 11), .int (F 12), .int (F 13), .ref q4, .int (F 15), .ref q5, .ref q6, .ref q7, .int (F 19), .ref q8, .int (F 21), .int (F 22), .int (F 23), .int (F 24), .ref q9, .ref q10, .ref q11, .long (J 28)]))] → va_S A s.heap H locs → ∀ (ls : Array Slot), lv_has ls 12 [(1, .int p1), (2, .int p2), (3, .int p3), (4, .long x4), (6, .long x6), (8, .int x8)] → W p l e (headSpec wsX9_upper rmX9_upper).room s m args below meth c H locs 0 0 (MQ below (va_Ql (fun (r : Int64) (u : (Nat → Int64)) => Q r u) (fun (u : (Nat → Int64)) t => va_P g.1 vwCl [(qM, .inr (9, [.int (F 0), .ref q1, .ref q2, .ref q3, .int (F 4), .int (F 5), .int (F 6), .int (F 7), .int (F 8), .int (F 9), .long (u 10), .int (F 11), .int (F 12), .int (F 13), .ref q4, .int (F 15), .ref q5, .ref q6, .ref q7, .int (F 19), .ref q8, .int (F 21), .int (F 22), .int (F 23), .int (F 24), .ref q9, .ref q10, .ref q11, .long (u 28)]))] t.heap ∧ va_D A [(qM, .inr (9, [.int (F 0), .ref q1, .ref q2, .ref q3, .int (F 4), .int (F 5), .int (F 6), .int (F 7), .int (F 8), .int (F 9), .long (u 10), .int (F 11), .int (F 12), .int (F 13), .ref q4, .int (F 15), .ref q5, .ref q6, .ref q7, .int (F 19), .ref q8, .int (F 21), .int (F 22), .int (F 23), .int (F 24), .ref q9, .ref q10, .ref q11, .long (u 28)]))]) A) args s 0 0 A) (F0 m 41 ls []) := by
  obtain ⟨hx, hb, hml, hown, hts⟩ := id S
  have hK := hG.1
  intro n
  induction n with
  | zero => intro x4 x6 x8 J hv; exact hv.elim
  | succ n ih =>
    intro x4 x6 x8 J hv H locs hP hD hS ls hl
    refine lv_iload hx hb dX9_upper_41 (lv_at hl 5 rfl) ?_
    refine lv_iload_n hx hb dX9_upper_43 rfl (lv_at hl 0 rfl) ?_
    obtain ⟨hvt, hvf⟩ := hv
    refine lv_icmp_gt (tgt := 127) hx hb dX9_upper_44 (by decide) (fun hc => ?_) (fun hc => ?_)
    · have hv := hvt hc
      refine lv_lload hx hb dX9_upper_127 (lv_at hl 3 rfl) ?_
      have hP9 := hP.sub (ws' := [(qM, .inr (9, [.int (F 0), .ref q1, .ref q2, .ref q3, .int (F 4), .int (F 5), .int (F 6), .int (F 7), .int (F 8), .int (F 9), .long (J 10), .int (F 11), .int (F 12), .int (F 13), .ref q4, .int (F 15), .ref q5, .ref q6, .ref q7, .int (F 19), .ref q8, .int (F 21), .int (F 22), .int (F 23), .int (F 24), .ref q9, .ref q10, .ref q11, .long (J 28)]))]) [0] rfl
      have hD9 := hD.sub (ws' := [(qM, .inr (9, [.int (F 0), .ref q1, .ref q2, .ref q3, .int (F 4), .int (F 5), .int (F 6), .int (F 7), .int (F 8), .int (F 9), .long (J 10), .int (F 11), .int (F 12), .int (F 13), .ref q4, .int (F 15), .ref q5, .ref q6, .ref q7, .int (F 19), .ref q8, .int (F 21), .int (F 22), .int (F 23), .int (F 24), .ref q9, .ref q10, .ref q11, .long (J 28)]))]) [0] (by decide) rfl
      exact W.lret (v := x4) hx hb hr (fun t ht hW => ⟨⟨_, (J), rfl, hv, by rw [ht]; exact hP9, hD9⟩, hS.F ht⟩) hS.2.2 dX9_upper_129
    · have hv := hvf hc
      refine lv_lload hx hb dX9_upper_47 (lv_at hl 4 rfl) ?_
      refine lv_lstore (lv' := [(9, .long x6), (1, .int p1), (2, .int p2), (3, .int p3), (4, .long x4), (6, .long x6), (8, .int x8)]) hx hb dX9_upper_49 hl (by decide) rfl (fun ls hl => ?_)
      refine lv_iconst (v := (0 : Int32)) hx hb dX9_upper_51 (by decide) ?_
      refine lv_istore (lv' := [(11, .int (0 : Int32)), (9, .long x6), (1, .int p1), (2, .int p2), (3, .int p3), (4, .long x4), (6, .long x6), (8, .int x8)]) hx hb dX9_upper_52 hl (by decide) rfl (fun ls hl => ?_)
      obtain ⟨nn, hv⟩ := hv
      exact kX9_upper_c54 S hr hlocks hG hA ih nn _ _ _ _ _ _ hv _ _ (hP.sub (ws' := [(qM, .inr (9, [.int (F 0), .ref q1, .ref q2, .ref q3, .int (F 4), .int (F 5), .int (F 6), .int (F 7), .int (F 8), .int (F 9), .long (J 10), .int (F 11), .int (F 12), .int (F 13), .ref q4, .int (F 15), .ref q5, .ref q6, .ref q7, .int (F 19), .ref q8, .int (F 21), .int (F 22), .int (F 23), .int (F 24), .ref q9, .ref q10, .ref q11, .long (J 28)]))]) [0] rfl) (hD.sub (ws' := [(qM, .inr (9, [.int (F 0), .ref q1, .ref q2, .ref q3, .int (F 4), .int (F 5), .int (F 6), .int (F 7), .int (F 8), .int (F 9), .long (J 10), .int (F 11), .int (F 12), .int (F 13), .ref q4, .int (F 15), .ref q5, .ref q6, .ref q7, .int (F 19), .ref q8, .int (F 21), .int (F 22), .int (F 23), .int (F 24), .ref q9, .ref q10, .ref q11, .long (J 28)]))]) [0] (by decide) rfl) hS ls (lv_sub hl [2, 3, 4, 5, 6, 7, 1, 0] rfl)
def vX9_upper_c11 (F : Nat → Int32) (p1 : Int32) (p2 : Int32) (p3 : Int32) (Q : Int64 → (Nat → Int64) → Prop) : Nat → Int64 → Int32 → (Nat → Int64) → Prop
  | 0, _, _, _ => False
  | n + 1, x4, x6, J => ((p1 ≤ x6 → (∃ nn, vX9_upper_c41 F p1 p2 p3 Q nn x4 (1 : Int64) (0 : Int32) J)) ∧ (¬ p1 ≤ x6 → (vX9_upper_c11 F p1 p2 p3 Q n x4 (x6 + (1 : Int32)) (vp_updL J 28 ((J 28) * (10 : Int64))))))
set_option maxHeartbeats 4000000 in
set_option maxRecDepth 100000 in
theorem kX9_upper_c11 {p : Program} {l : Launch} {e : Env} {s : State} {m : MethodId} {args : Array Value} {below : List Frame} {meth : Method} {c : Code} {g : GP} {qM : Nat} {q1 : Nat} {q2 : Nat} {q3 : Nat} {q4 : Nat} {q5 : Nat} {q6 : Nat} {q7 : Nat} {q8 : Nat} {q9 : Nat} {q10 : Nat} {q11 : Nat} {F : Nat → Int32} {p1 : Int32} {p2 : Int32} {p3 : Int32} {Q : Int64 → (Nat → Int64) → Prop} {A : Nat → Prop} (S : CallFix p m c cX9_upper 12 s args wsX9_upper RX9) (hr : meth.sig.returnType = (some .long)) (hlocks : meth.locks = false) (hG : GK g s) (hA : ∀ q : Nat, s.heap.size ≤ q → A q) : ∀ (n : Nat), ∀ (x4 : Int64) (x6 : Int32) (J : Nat → Int64), vX9_upper_c11 F p1 p2 p3 Q n x4 x6 J → ∀ (H : Heap) (locs : List Loc), va_P g.1 vwCl [(qM, .inr (9, [.int (F 0), .ref q1, .ref q2, .ref q3, .int (F 4), .int (F 5), .int (F 6), .int (F 7), .int (F 8), .int (F 9), .long (J 10), .int (F 11), .int (F 12), .int (F 13), .ref q4, .int (F 15), .ref q5, .ref q6, .ref q7, .int (F 19), .ref q8, .int (F 21), .int (F 22), .int (F 23), .int (F 24), .ref q9, .ref q10, .ref q11, .long (J 28)]))] H → va_D A [(qM, .inr (9, [.int (F 0), .ref q1, .ref q2, .ref q3, .int (F 4), .int (F 5), .int (F 6), .int (F 7), .int (F 8), .int (F 9), .long (J 10), .int (F 11), .int (F 12), .int (F 13), .ref q4, .int (F 15), .ref q5, .ref q6, .ref q7, .int (F 19), .ref q8, .int (F 21), .int (F 22), .int (F 23), .int (F 24), .ref q9, .ref q10, .ref q11, .long (J 28)]))] → va_S A s.heap H locs → ∀ (ls : Array Slot), lv_has ls 12 [(0, .ref qM), (1, .int p1), (2, .int p2), (3, .int p3), (4, .long x4), (6, .int x6)] → W p l e (headSpec wsX9_upper rmX9_upper).room s m args below meth c H locs 0 0 (MQ below (va_Ql (fun (r : Int64) (u : (Nat → Int64)) => Q r u) (fun (u : (Nat → Int64)) t => va_P g.1 vwCl [(qM, .inr (9, [.int (F 0), .ref q1, .ref q2, .ref q3, .int (F 4), .int (F 5), .int (F 6), .int (F 7), .int (F 8), .int (F 9), .long (u 10), .int (F 11), .int (F 12), .int (F 13), .ref q4, .int (F 15), .ref q5, .ref q6, .ref q7, .int (F 19), .ref q8, .int (F 21), .int (F 22), .int (F 23), .int (F 24), .ref q9, .ref q10, .ref q11, .long (u 28)]))] t.heap ∧ va_D A [(qM, .inr (9, [.int (F 0), .ref q1, .ref q2, .ref q3, .int (F 4), .int (F 5), .int (F 6), .int (F 7), .int (F 8), .int (F 9), .long (u 10), .int (F 11), .int (F 12), .int (F 13), .ref q4, .int (F 15), .ref q5, .ref q6, .ref q7, .int (F 19), .ref q8, .int (F 21), .int (F 22), .int (F 23), .int (F 24), .ref q9, .ref q10, .ref q11, .long (u 28)]))]) A) args s 0 0 A) (F0 m 11 ls []) := by
  obtain ⟨hx, hb, hml, hown, hts⟩ := id S
  have hK := hG.1
  intro n
  induction n with
  | zero => intro x4 x6 J hv; exact hv.elim
  | succ n ih =>
    intro x4 x6 J hv H locs hP hD hS ls hl
    refine lv_iload hx hb dX9_upper_11 (lv_at hl 5 rfl) ?_
    refine lv_iload_n hx hb dX9_upper_13 rfl (lv_at hl 1 rfl) ?_
    obtain ⟨hvt, hvf⟩ := hv
    refine lv_icmp_ge (tgt := 35) hx hb dX9_upper_14 (by decide) (fun hc => ?_) (fun hc => ?_)
    · have hv := hvt hc
      refine lv_lconst (v := (1 : Int64)) hx hb dX9_upper_35 (by decide) ?_
      refine lv_lstore (lv' := [(6, .long (1 : Int64)), (0, .ref qM), (1, .int p1), (2, .int p2), (3, .int p3), (4, .long x4)]) hx hb dX9_upper_36 hl (by decide) rfl (fun ls hl => ?_)
      refine lv_iconst (v := (0 : Int32)) hx hb dX9_upper_38 (by decide) ?_
      refine lv_istore (lv' := [(8, .int (0 : Int32)), (6, .long (1 : Int64)), (0, .ref qM), (1, .int p1), (2, .int p2), (3, .int p3), (4, .long x4)]) hx hb dX9_upper_39 hl (by decide) rfl (fun ls hl => ?_)
      obtain ⟨nn, hv⟩ := hv
      exact kX9_upper_c41 S hr hlocks hG hA nn _ _ _ _ hv _ _ (hP.sub (ws' := [(qM, .inr (9, [.int (F 0), .ref q1, .ref q2, .ref q3, .int (F 4), .int (F 5), .int (F 6), .int (F 7), .int (F 8), .int (F 9), .long (J 10), .int (F 11), .int (F 12), .int (F 13), .ref q4, .int (F 15), .ref q5, .ref q6, .ref q7, .int (F 19), .ref q8, .int (F 21), .int (F 22), .int (F 23), .int (F 24), .ref q9, .ref q10, .ref q11, .long (J 28)]))]) [0] rfl) (hD.sub (ws' := [(qM, .inr (9, [.int (F 0), .ref q1, .ref q2, .ref q3, .int (F 4), .int (F 5), .int (F 6), .int (F 7), .int (F 8), .int (F 9), .long (J 10), .int (F 11), .int (F 12), .int (F 13), .ref q4, .int (F 15), .ref q5, .ref q6, .ref q7, .int (F 19), .ref q8, .int (F 21), .int (F 22), .int (F 23), .int (F 24), .ref q9, .ref q10, .ref q11, .long (J 28)]))]) [0] (by decide) rfl) hS ls (lv_sub hl [3, 4, 5, 6, 1, 0] rfl)
    · have hv := hvf hc
      refine lv_aload_n hx hb dX9_upper_17 rfl (lv_at hl 0 rfl) ?_
      refine lv_dup hx hb dX9_upper_18 rfl ?_
      refine va_get (D := g.1) (ci := 9) (v := .long (J 28)) (C := RX9) (T := TX9) (N := 29) hx hb hts inX9_upper_9 hown hK hP 0 rfl rfl 28 (by decide) (hts (.fieldLink RX9 315 "RangeCodesModel" "under" "J") (List.mem_of_getElem? (i := 1) rfl)) (fun _ h9 => h9) rfl dX9_upper_19 ?_
      refine lv_ldc2 (v := (10 : Int64)) hx hb hown (hts (.constantLong RX9 318 (10)) (List.mem_of_getElem? (i := 2) rfl)) dX9_upper_22 ?_
      refine lv_lmul hx hb dX9_upper_25 ?_
      refine va_put (D := g.1) (ci := 9) (v := .long ((J 28) * (10 : Int64))) (ty := .long) (C := RX9) (T := TX9) (N := 29) hx hb hts inX9_upper_9 tyX9 tyX9_ok nmX9 hown hK hP hD hS 0 rfl rfl 28 (by decide) (hts (.fieldLink RX9 315 "RangeCodesModel" "under" "J") (List.mem_of_getElem? (i := 1) rfl)) (fun _ h9 => h9) rfl (by decide +kernel) rfl rfl (Nat.le_of_ble_eq_true rfl) dX9_upper_26 (fun H locs hP hD hS => ?_)
      have hP : va_P g.1 vwCl [(qM, .inr (9, [.int (F 0), .ref q1, .ref q2, .ref q3, .int (F 4), .int (F 5), .int (F 6), .int (F 7), .int (F 8), .int (F 9), .long (J 10), .int (F 11), .int (F 12), .int (F 13), .ref q4, .int (F 15), .ref q5, .ref q6, .ref q7, .int (F 19), .ref q8, .int (F 21), .int (F 22), .int (F 23), .int (F 24), .ref q9, .ref q10, .ref q11, .long ((J 28) * (10 : Int64))]))] H := hP
      have hD : va_D A [(qM, .inr (9, [.int (F 0), .ref q1, .ref q2, .ref q3, .int (F 4), .int (F 5), .int (F 6), .int (F 7), .int (F 8), .int (F 9), .long (J 10), .int (F 11), .int (F 12), .int (F 13), .ref q4, .int (F 15), .ref q5, .ref q6, .ref q7, .int (F 19), .ref q8, .int (F 21), .int (F 22), .int (F 23), .int (F 24), .ref q9, .ref q10, .ref q11, .long ((J 28) * (10 : Int64))]))] := hD
      refine lv_iinc (v := (x6 + (1 : Int32))) (lv' := [(6, .int (x6 + (1 : Int32))), (0, .ref qM), (1, .int p1), (2, .int p2), (3, .int p3), (4, .long x4)]) hx hb dX9_upper_29 hl (k := 5) rfl rfl (by decide) rfl (fun ls hl => ?_)
      refine lv_goto (tgt := 11) hx hb dX9_upper_32 (by decide) ?_
      exact ih _ _ _ hv _ _ (hP.sub (ws' := [(qM, .inr (9, [.int (F 0), .ref q1, .ref q2, .ref q3, .int (F 4), .int (F 5), .int (F 6), .int (F 7), .int (F 8), .int (F 9), .long ((vp_updL J 28 ((J 28) * (10 : Int64))) 10), .int (F 11), .int (F 12), .int (F 13), .ref q4, .int (F 15), .ref q5, .ref q6, .ref q7, .int (F 19), .ref q8, .int (F 21), .int (F 22), .int (F 23), .int (F 24), .ref q9, .ref q10, .ref q11, .long ((vp_updL J 28 ((J 28) * (10 : Int64))) 28)]))]) [0] rfl) (hD.sub (ws' := [(qM, .inr (9, [.int (F 0), .ref q1, .ref q2, .ref q3, .int (F 4), .int (F 5), .int (F 6), .int (F 7), .int (F 8), .int (F 9), .long ((vp_updL J 28 ((J 28) * (10 : Int64))) 10), .int (F 11), .int (F 12), .int (F 13), .ref q4, .int (F 15), .ref q5, .ref q6, .ref q7, .int (F 19), .ref q8, .int (F 21), .int (F 22), .int (F 23), .int (F 24), .ref q9, .ref q10, .ref q11, .long ((vp_updL J 28 ((J 28) * (10 : Int64))) 28)]))]) [0] (by decide) rfl) hS ls (lv_sub hl [1, 2, 3, 4, 5, 0] rfl)
def vX9_upper (F : Nat → Int32) (J : Nat → Int64) (p1 : Int32) (p2 : Int32) (p3 : Int32) (Q : Int64 → (Nat → Int64) → Prop) : Prop := (∃ nn, vX9_upper_c11 F p1 p2 p3 Q nn (0 : Int64) (0 : Int32) (vp_updL J 28 (1 : Int64)))
set_option maxHeartbeats 4000000 in
set_option maxRecDepth 100000 in
theorem wX9_upper (l : Launch) (g : GP) (qM : Nat) (q1 : Nat) (q2 : Nat) (q3 : Nat) (q4 : Nat) (q5 : Nat) (q6 : Nat) (q7 : Nat) (q8 : Nat) (q9 : Nat) (q10 : Nat) (q11 : Nat) (sz : Nat) (F : Nat → Int32) (J : Nat → Int64) (p1 : Int32) (p2 : Int32) (p3 : Int32) {Q : Int64 → (Nat → Int64) → Prop} (hv : vX9_upper F J p1 p2 p3 Q) : Met l yX9_upper wsX9_upper rmX9_upper (va_Pc [.ref qM, .int p1, .int p2, .int p3] (fun U => U.heap.size = sz ∧ va_P g.1 vwCl [(qM, .inr (9, [.int (F 0), .ref q1, .ref q2, .ref q3, .int (F 4), .int (F 5), .int (F 6), .int (F 7), .int (F 8), .int (F 9), .long (J 10), .int (F 11), .int (F 12), .int (F 13), .ref q4, .int (F 15), .ref q5, .ref q6, .ref q7, .int (F 19), .ref q8, .int (F 21), .int (F 22), .int (F 23), .int (F 24), .ref q9, .ref q10, .ref q11, .long (J 28)]))] U.heap ∧ GK g U ∧ va_D (fun _ => True) [(qM, .inr (9, [.int (F 0), .ref q1, .ref q2, .ref q3, .int (F 4), .int (F 5), .int (F 6), .int (F 7), .int (F 8), .int (F 9), .long (J 10), .int (F 11), .int (F 12), .int (F 13), .ref q4, .int (F 15), .ref q5, .ref q6, .ref q7, .int (F 19), .ref q8, .int (F 21), .int (F 22), .int (F 23), .int (F 24), .ref q9, .ref q10, .ref q11, .long (J 28)]))])) (va_Ql (fun (r : Int64) (u : (Nat → Int64)) => Q r u) (fun (u : (Nat → Int64)) t => va_P g.1 vwCl [(qM, .inr (9, [.int (F 0), .ref q1, .ref q2, .ref q3, .int (F 4), .int (F 5), .int (F 6), .int (F 7), .int (F 8), .int (F 9), .long (u 10), .int (F 11), .int (F 12), .int (F 13), .ref q4, .int (F 15), .ref q5, .ref q6, .ref q7, .int (F 19), .ref q8, .int (F 21), .int (F 22), .int (F 23), .int (F 24), .ref q9, .ref q10, .ref q11, .long (u 28)]))] t.heap ∧ va_D (va_A [(qM, .inr (9, [.int (F 0), .ref q1, .ref q2, .ref q3, .int (F 4), .int (F 5), .int (F 6), .int (F 7), .int (F 8), .int (F 9), .long (J 10), .int (F 11), .int (F 12), .int (F 13), .ref q4, .int (F 15), .ref q5, .ref q6, .ref q7, .int (F 19), .ref q8, .int (F 21), .int (F 22), .int (F 23), .int (F 24), .ref q9, .ref q10, .ref q11, .long (J 28)]))] sz) [(qM, .inr (9, [.int (F 0), .ref q1, .ref q2, .ref q3, .int (F 4), .int (F 5), .int (F 6), .int (F 7), .int (F 8), .int (F 9), .long (u 10), .int (F 11), .int (F 12), .int (F 13), .ref q4, .int (F 15), .ref q5, .ref q6, .ref q7, .int (F 19), .ref q8, .int (F 21), .int (F 22), .int (F 23), .int (F 24), .ref q9, .ref q10, .ref q11, .long (u 28)]))]) (va_A [(qM, .inr (9, [.int (F 0), .ref q1, .ref q2, .ref q3, .int (F 4), .int (F 5), .int (F 6), .int (F 7), .int (F 8), .int (F 9), .long (J 10), .int (F 11), .int (F 12), .int (F 13), .ref q4, .int (F 15), .ref q5, .ref q6, .ref q7, .int (F 19), .ref q8, .int (F 21), .int (F 22), .int (F 23), .int (F 24), .ref q9, .ref q10, .ref q11, .long (J 28)]))] sz)) 0 0 (va_A [(qM, .inr (9, [.int (F 0), .ref q1, .ref q2, .ref q3, .int (F 4), .int (F 5), .int (F 6), .int (F 7), .int (F 8), .int (F 9), .long (J 10), .int (F 11), .int (F 12), .int (F 13), .ref q4, .int (F 15), .ref q5, .ref q6, .ref q7, .int (F 19), .ref q8, .int (F 21), .int (F 22), .int (F 23), .int (F 24), .ref q9, .ref q10, .ref q11, .long (J 28)]))] sz) := by
  refine Met.ofW (cc := cX9_upper) (maxL := 12) (ret := (some .long)) (by decide) rfl ?_
  intro p e s m args below meth c s₁ B hml hv'
  obtain ⟨rfl, hsz, hP, hG, hD0⟩ := hv'
  have S : CallFix p m c cX9_upper 12 s _ wsX9_upper RX9 := ⟨B.exec, B.bytes, hml, findClass_of_methodNamed B.named, atoms_spec (ws := wsX9_upper) B.pre⟩
  obtain ⟨hx, hb, hml, hown, hts⟩ := id S
  have hK := hG.1
  have hr := B.returns
  have hlocks := B.notSynchronized
  subst hsz
  have hD := hD0.self (sz := s.heap.size)
  generalize hAe : va_A [(qM, .inr (9, [.int (F 0), .ref q1, .ref q2, .ref q3, .int (F 4), .int (F 5), .int (F 6), .int (F 7), .int (F 8), .int (F 9), .long (J 10), .int (F 11), .int (F 12), .int (F 13), .ref q4, .int (F 15), .ref q5, .ref q6, .ref q7, .int (F 19), .ref q8, .int (F 21), .int (F 22), .int (F 23), .int (F 24), .ref q9, .ref q10, .ref q11, .long (J 28)]))] s.heap.size = A at hD ⊢
  have hA : ∀ q : Nat, s.heap.size ≤ q → A q := fun q h => by rw [← hAe]; exact Or.inr h
  have hS : va_S A s.heap s.heap [] := va_S.rf
  clear hD0 hAe
  have hl := lv_entry ([.ref qM, .int p1, .int p2, .int p3]) (n := 12) (Nat.le_of_ble_eq_true rfl)
  rw [lg_entry_eq]
  generalize (lg_sl ([.ref qM, .int p1, .int p2, .int p3]) ++ List.replicate (12 - (lg_sl ([.ref qM, .int p1, .int p2, .int p3])).length) Slot.unset).toArray = ls at hl ⊢
  have hl : lv_has ls 12 [(0, .ref qM), (1, .int p1), (2, .int p2), (3, .int p3)] := hl
  unfold vX9_upper at hv
  refine lv_lconst (v := (0 : Int64)) hx hb dX9_upper_0 (by decide) ?_
  refine lv_lstore (lv' := [(4, .long (0 : Int64)), (0, .ref qM), (1, .int p1), (2, .int p2), (3, .int p3)]) hx hb dX9_upper_1 hl (by decide) rfl (fun ls hl => ?_)
  refine lv_aload_n hx hb dX9_upper_3 rfl (lv_at hl 1 rfl) ?_
  refine lv_lconst (v := (1 : Int64)) hx hb dX9_upper_4 (by decide) ?_
  refine va_put (D := g.1) (ci := 9) (v := .long (1 : Int64)) (ty := .long) (C := RX9) (T := TX9) (N := 29) hx hb hts inX9_upper_9 tyX9 tyX9_ok nmX9 hown hK hP hD hS 0 rfl rfl 28 (by decide) (hts (.fieldLink RX9 315 "RangeCodesModel" "under" "J") (List.mem_of_getElem? (i := 1) rfl)) (fun _ h9 => h9) rfl (by decide +kernel) rfl rfl (Nat.le_of_ble_eq_true rfl) dX9_upper_5 (fun H locs hP hD hS => ?_)
  have hP : va_P g.1 vwCl [(qM, .inr (9, [.int (F 0), .ref q1, .ref q2, .ref q3, .int (F 4), .int (F 5), .int (F 6), .int (F 7), .int (F 8), .int (F 9), .long (J 10), .int (F 11), .int (F 12), .int (F 13), .ref q4, .int (F 15), .ref q5, .ref q6, .ref q7, .int (F 19), .ref q8, .int (F 21), .int (F 22), .int (F 23), .int (F 24), .ref q9, .ref q10, .ref q11, .long (1 : Int64)]))] H := hP
  have hD : va_D A [(qM, .inr (9, [.int (F 0), .ref q1, .ref q2, .ref q3, .int (F 4), .int (F 5), .int (F 6), .int (F 7), .int (F 8), .int (F 9), .long (J 10), .int (F 11), .int (F 12), .int (F 13), .ref q4, .int (F 15), .ref q5, .ref q6, .ref q7, .int (F 19), .ref q8, .int (F 21), .int (F 22), .int (F 23), .int (F 24), .ref q9, .ref q10, .ref q11, .long (1 : Int64)]))] := hD
  refine lv_iconst (v := (0 : Int32)) hx hb dX9_upper_8 (by decide) ?_
  refine lv_istore (lv' := [(6, .int (0 : Int32)), (4, .long (0 : Int64)), (0, .ref qM), (1, .int p1), (2, .int p2), (3, .int p3)]) hx hb dX9_upper_9 hl (by decide) rfl (fun ls hl => ?_)
  obtain ⟨nn, hv⟩ := hv
  exact kX9_upper_c11 S hr hlocks hG hA nn _ _ _ hv _ _ (hP.sub (ws' := [(qM, .inr (9, [.int (F 0), .ref q1, .ref q2, .ref q3, .int (F 4), .int (F 5), .int (F 6), .int (F 7), .int (F 8), .int (F 9), .long ((vp_updL J 28 (1 : Int64)) 10), .int (F 11), .int (F 12), .int (F 13), .ref q4, .int (F 15), .ref q5, .ref q6, .ref q7, .int (F 19), .ref q8, .int (F 21), .int (F 22), .int (F 23), .int (F 24), .ref q9, .ref q10, .ref q11, .long ((vp_updL J 28 (1 : Int64)) 28)]))]) [0] rfl) (hD.sub (ws' := [(qM, .inr (9, [.int (F 0), .ref q1, .ref q2, .ref q3, .int (F 4), .int (F 5), .int (F 6), .int (F 7), .int (F 8), .int (F 9), .long ((vp_updL J 28 (1 : Int64)) 10), .int (F 11), .int (F 12), .int (F 13), .ref q4, .int (F 15), .ref q5, .ref q6, .ref q7, .int (F 19), .ref q8, .int (F 21), .int (F 22), .int (F 23), .int (F 24), .ref q9, .ref q10, .ref q11, .long ((vp_updL J 28 (1 : Int64)) 28)]))]) [0] (by decide) rfl) hS ls (lv_sub hl [2, 3, 4, 5, 1, 0] rfl)
def ppN (p k : Nat) : Nat → Nat
  | 0 => 1
  | i + 1 => ppN p k i * (if i < k then p else 10 - p)
theorem ppN_k (p k : Nat) : ∀ j, j ≤ k → ppN p k j = p ^ j
  | 0, _ => rfl
  | j + 1, h => by rw [ppN, ppN_k p k j (by omega), if_pos (by omega), Nat.pow_succ]
theorem ppN_n (p k : Nat) : ∀ j, ppN p k (k + j) = p ^ k * (10 - p) ^ j
  | 0 => by rw [Nat.add_zero, ppN_k p k k (Nat.le_refl _), Nat.pow_zero, Nat.mul_one]
  | j + 1 => by rw [show k + (j + 1) = k + j + 1 by omega, ppN, ppN_n p k j, if_neg (by omega), Nat.pow_succ, Nat.mul_assoc]
theorem uL_eq (J : Nat → Int64) (k : Nat) (v : Int64) : vp_updL J k v k = v := by unfold vp_updL; rw [if_pos rfl]
theorem q_lNi {x : Int32} {a : Nat} (h : x.toInt = (a : Int)) : x.toInt64 = lN a := q_lc (q_i2l h)
abbrev preX9_upper (n : Nat) (p : Nat) (m : Nat) (F : Nat → Int32) (J : Nat → Int64) (p1 : Int32) (p2 : Int32) (p3 : Int32) : Prop := p1.toInt = (n : Int) ∧ n ≤ 18 ∧ p2.toInt = (p : Int) ∧ p ≤ 10 ∧ p3.toInt = (m : Int)
abbrev postX9_upper (n : Nat) (p : Nat) (m : Nat) (F : Nat → Int32) (J : Nat → Int64) (p1 : Int32) (p2 : Int32) (p3 : Int32) (r : Int64) (J' : Nat → Int64) : Prop := r.toInt = ((us n p m (n + 1) : Nat) : Int) ∧ (J' 28).toInt = ((10 ^ n : Nat) : Int)
theorem sX9_upper_54 (n : Nat) (p : Nat) (m : Nat) (F : Nat → Int32) (J : Nat → Int64) (p1 : Int32) (p2 : Int32) (p3 : Int32) (H : preX9_upper n p m F J p1 p2 p3) (Q : Int64 → (Nat → Int64) → Prop) (K : Int64 → Int64 → Int32 → (Nat → Int64) → Prop) (k : Nat) (hk : k ≤ n) (x4 x6 : Int64) (x8 : Int32) (h4 : x4.toInt = ((us n p m k : Nat) : Int)) (h6 : x6.toInt = ((vR n k : Nat) : Int)) (h8 : x8.toInt = (k : Int)) (hK : ∀ (a b : Int64), a.toInt = ((us n p m (k + 1) : Nat) : Int) → b.toInt = ((vR n (k + 1) : Nat) : Int) → K a b (x8 + (1 : Int32)) J) : ∀ (f i : Nat) (x9 : Int64) (x11 : Int32), x9 = lN (vR n k * ppN p k i) → x11.toInt = (i : Int) → i ≤ n → n + 1 ≤ i + f → vX9_upper_c54 F p1 p2 p3 Q K f x4 x6 x8 x9 x11 J
  | 0, i, x9, x11, _, _, hi, hf => absurd hf (by omega)
  | f + 1, i, x9, x11, h9, h11, hi, hf => by
    obtain ⟨h1, hn, h2, hp, h3⟩ := id H
    have h11s := q_1 h11 (by omega)
    rw [vX9_upper_c54, q_le h1 h11]
    refine ⟨fun hc => ?_, fun hc => ?_⟩
    · have : i = n := by omega
      subst this
      have hpp : ppN p k i = p ^ k * (10 - p) ^ (i - k) := by
        have := ppN_n p k (i - k)
        rw [show k + (i - k) = i by omega] at this; exact this
      rw [hpp] at h9
      have hv := vR_le i (by omega) k (by omega)
      have hnx := us_le hn hp m (k := k + 1) (by omega)
      have fin : ∀ s0 : Int64, s0.toInt = ((if m ≤ k then vR i k * (p ^ k * (10 - p) ^ (i - k)) else 0 : Nat) : Int) → vX9_upper_c102 F p1 p2 p3 Q K x6 x8 s0 x4 J := by
        intro s0 hs0
        have h8s := q_1 h8 (by omega)
        have e8 := q_i2l h8s
        have e18 := q_i2l (q_subN h1 h8 hk (by omega))
        refine ⟨by rw [q_l0 e8]; omega, fun y hy => hK _ _ ?_ ?_⟩
        · rw [us] at hnx ⊢
          exact q_laddN h4 hs0 (by omega)
        · have hmm : vR i k * (i - k) ≤ 100000 * 18 := Nat.mul_le_mul hv (by omega)
          rw [hy, vR]
          exact q_ldiv (q_lmulN h6 e18 (by omega)) e8 (by omega)
      rw [q_lt h8 h3]
      refine ⟨fun hz => fin _ (by rw [if_neg (by omega)]; rfl), fun hz => fin _ ?_⟩
      rw [if_pos (by omega), h9]
      rw [us, if_pos (by omega)] at hnx
      exact pk_lT (by omega)
    · rw [q_le h8 h11]
      refine ⟨fun hz y hy => sX9_upper_54 n p m F J p1 p2 p3 H Q K k hk x4 x6 x8 h4 h6 h8 hK f (i + 1) _ _ ?_ h11s (by omega) (by omega), fun hz => sX9_upper_54 n p m F J p1 p2 p3 H Q K k hk x4 x6 x8 h4 h6 h8 hK f (i + 1) _ _ ?_ h11s (by omega) (by omega)⟩
      · rw [hy, h9, q_lNi (q_subN (a := 10) rfl h2 (by omega) (by omega)), lN_mul, ppN, if_neg (by omega), Nat.mul_assoc]
      · rw [h9, q_lNi h2, lN_mul, ppN, if_pos (by omega), Nat.mul_assoc]
theorem sX9_upper_41 (n : Nat) (p : Nat) (m : Nat) (F : Nat → Int32) (J : Nat → Int64) (p1 : Int32) (p2 : Int32) (p3 : Int32) (H : preX9_upper n p m F J p1 p2 p3) (h28 : (J 28).toInt = ((10 ^ n : Nat) : Int)) (Q : Int64 → (Nat → Int64) → Prop) (hQ : ∀ (r : Int64), r.toInt = ((us n p m (n + 1) : Nat) : Int) → Q r J) : ∀ (f k : Nat) (x4 x6 : Int64) (x8 : Int32), x4.toInt = ((us n p m k : Nat) : Int) → x6.toInt = ((vR n k : Nat) : Int) → x8.toInt = (k : Int) → k ≤ n + 1 → n + 2 ≤ k + f → vX9_upper_c41 F p1 p2 p3 Q f x4 x6 x8 J
  | 0, k, x4, x6, x8, _, _, _, hk, hf => absurd hf (by omega)
  | f + 1, k, x4, x6, x8, h4, h6, h8, hk, hf => by
    obtain ⟨h1, hn, h2, hp, h3⟩ := id H
    rw [vX9_upper_c41, q_lt h1 h8]
    refine ⟨fun hc => ?_, fun hc => ⟨n + 1, sX9_upper_54 n p m F J p1 p2 p3 H Q _ k (by omega) x4 x6 x8 h4 h6 h8 (fun a b ha hb => sX9_upper_41 n p m F J p1 p2 p3 H h28 Q hQ f (k + 1) a b _ ha hb (q_1 h8 (by omega)) (by omega) (by omega)) _ 0 _ _ ?_ rfl (by omega) (by omega)⟩⟩
    · have : k = n + 1 := by omega
      subst this
      exact hQ _ h4
    · rw [ppN, Nat.mul_one]; exact q_lc h6
theorem sX9_upper_11 (n p m : Nat) (F : Nat → Int32) (p1 p2 p3 : Int32) (H : p1.toInt = (n : Int) ∧ n ≤ 18 ∧ p2.toInt = (p : Int) ∧ p ≤ 10 ∧ p3.toInt = (m : Int)) (Q : Int64 → (Nat → Int64) → Prop) (hQ : ∀ (r : Int64) (J' : Nat → Int64), r.toInt = ((us n p m (n + 1) : Nat) : Int) → (J' 28).toInt = ((10 ^ n : Nat) : Int) → Q r J') : ∀ (f i : Nat) (x6 : Int32) (J : Nat → Int64), x6.toInt = (i : Int) → (J 28).toInt = ((10 ^ i : Nat) : Int) → i ≤ n → n + 1 ≤ i + f → vX9_upper_c11 F p1 p2 p3 Q f (0 : Int64) x6 J
  | 0, i, x6, J, _, _, hi, hf => absurd hf (by omega)
  | f + 1, i, x6, J, h6, hJ, hi, hf => by
    obtain ⟨h1, hn, h2, hp, h3⟩ := id H
    rw [vX9_upper_c11, q_le h1 h6]
    refine ⟨fun hc => ?_, fun hc => sX9_upper_11 n p m F p1 p2 p3 H Q hQ f (i + 1) _ _ (q_1 h6 (by omega)) ?_ (by omega) (by omega)⟩
    · have : i = n := by omega
      subst this
      exact ⟨i + 2, sX9_upper_41 i p m F J p1 p2 p3 H hJ Q (fun r hr => hQ r J hr hJ) _ 0 _ _ _ rfl rfl rfl (by omega) (by omega)⟩
    · have h10 := p10_le (n := i + 1) (by omega)
      rw [uL_eq, Nat.pow_succ]
      rw [Nat.pow_succ] at h10
      exact q_lmulN (b := 10) hJ rfl (by omega)
theorem sX9_upper (n : Nat) (p : Nat) (m : Nat) (F : Nat → Int32) (J : Nat → Int64) (p1 : Int32) (p2 : Int32) (p3 : Int32) (H : preX9_upper n p m F J p1 p2 p3) : vX9_upper F J p1 p2 p3 (postX9_upper n p m F J p1 p2 p3) := ⟨n + 1, sX9_upper_11 n p m F p1 p2 p3 H _ (fun r J' h1 h2 => ⟨h1, h2⟩) _ 0 0 _ rfl (by rw [uL_eq]; rfl) (by omega) (by omega)⟩
set_option maxRecDepth 20000 in
theorem ggX9_chance_X9_in : GoodIn wsX9_chance wsX9_in := goodIn_r _ [7] (by decide +kernel) (by decide +kernel)
set_option maxRecDepth 20000 in
theorem gX9_chance_X9_in : GoodIn wsX9_chance (va_wsS RX9 63 yX9_in wsX9_in) := goodIn_app (goodIn_of _ (by decide +kernel)) ggX9_chance_X9_in
set_option maxRecDepth 20000 in
theorem ggX9_chance_X9_upper : GoodIn wsX9_chance wsX9_upper := goodIn_r _ [11, 3, 12, 16, 17, 18, 19, 20, 21, 22, 23, 24, 25, 26, 27, 28, 29, 30, 31, 32, 33, 34, 35, 36, 37, 38, 39, 40, 41, 42, 43, 44] (by decide +kernel) (by decide +kernel)
set_option maxRecDepth 20000 in
theorem gX9_chance_X9_upper : GoodIn wsX9_chance (wsV RX9 322 RX9 yX9_upper wsX9_upper) := goodIn_app (goodIn_of _ (by decide +kernel)) ggX9_chance_X9_upper
set_option maxRecDepth 20000 in
theorem ggX9_chance_X9_measure : GoodIn wsX9_chance wsX9_measure := goodIn_r _ [15] (by decide +kernel) (by decide +kernel)
set_option maxRecDepth 20000 in
theorem gX9_chance_X9_measure : GoodIn wsX9_chance (va_wsS RX9 59 yX9_measure wsX9_measure) := goodIn_app (goodIn_of _ (by decide +kernel)) ggX9_chance_X9_measure
theorem dX9_chance_0 : decode cX9_chance 0 = .ok (.aload_n 0, 1) := by decide +kernel
theorem dX9_chance_1 : decode cX9_chance 1 = .ok (.iconst 0, 1) := by decide +kernel
theorem dX9_chance_2 : decode cX9_chance 2 = .ok (.putfield 51, 3) := by decide +kernel
theorem dX9_chance_5 : decode cX9_chance 5 = .ok (.iload_n 1, 1) := by decide +kernel
theorem dX9_chance_6 : decode cX9_chance 6 = .ok (.iconst 0, 1) := by decide +kernel
theorem dX9_chance_7 : decode cX9_chance 7 = .ok (.bipush 18, 2) := by decide +kernel
theorem dX9_chance_9 : decode cX9_chance 9 = .ok (.invokestatic 63, 3) := by decide +kernel
theorem dX9_chance_12 : decode cX9_chance 12 = .ok (.ifCond .eq 23, 3) := by decide +kernel
theorem dX9_chance_15 : decode cX9_chance 15 = .ok (.iload_n 2, 1) := by decide +kernel
theorem dX9_chance_16 : decode cX9_chance 16 = .ok (.iconst 0, 1) := by decide +kernel
theorem dX9_chance_17 : decode cX9_chance 17 = .ok (.bipush 10, 2) := by decide +kernel
theorem dX9_chance_19 : decode cX9_chance 19 = .ok (.invokestatic 63, 3) := by decide +kernel
theorem dX9_chance_22 : decode cX9_chance 22 = .ok (.ifCond .eq 13, 3) := by decide +kernel
theorem dX9_chance_25 : decode cX9_chance 25 = .ok (.iload_n 3, 1) := by decide +kernel
theorem dX9_chance_26 : decode cX9_chance 26 = .ok (.iconst 0, 1) := by decide +kernel
theorem dX9_chance_27 : decode cX9_chance 27 = .ok (.bipush 18, 2) := by decide +kernel
theorem dX9_chance_29 : decode cX9_chance 29 = .ok (.invokestatic 63, 3) := by decide +kernel
theorem dX9_chance_32 : decode cX9_chance 32 = .ok (.ifCond .ne 7, 3) := by decide +kernel
theorem dX9_chance_35 : decode cX9_chance 35 = .ok (.ldc2_w 320, 3) := by decide +kernel
theorem dX9_chance_38 : decode cX9_chance 38 = .ok (.lreturn, 1) := by decide +kernel
theorem dX9_chance_39 : decode cX9_chance 39 = .ok (.aload_n 0, 1) := by decide +kernel
theorem dX9_chance_40 : decode cX9_chance 40 = .ok (.iload_n 1, 1) := by decide +kernel
theorem dX9_chance_41 : decode cX9_chance 41 = .ok (.iload_n 2, 1) := by decide +kernel
theorem dX9_chance_42 : decode cX9_chance 42 = .ok (.iload_n 3, 1) := by decide +kernel
theorem dX9_chance_43 : decode cX9_chance 43 = .ok (.invokevirtual 322, 3) := by decide +kernel
theorem dX9_chance_46 : decode cX9_chance 46 = .ok (.lstore 5, 2) := by decide +kernel
theorem dX9_chance_48 : decode cX9_chance 48 = .ok (.lload 5, 2) := by decide +kernel
theorem dX9_chance_50 : decode cX9_chance 50 = .ok (.aload_n 0, 1) := by decide +kernel
theorem dX9_chance_51 : decode cX9_chance 51 = .ok (.getfield 315, 3) := by decide +kernel
theorem dX9_chance_54 : decode cX9_chance 54 = .ok (.invokestatic 59, 3) := by decide +kernel
theorem dX9_chance_57 : decode cX9_chance 57 = .ok (.lstore 7, 2) := by decide +kernel
theorem dX9_chance_59 : decode cX9_chance 59 = .ok (.iload 4, 2) := by decide +kernel
theorem dX9_chance_61 : decode cX9_chance 61 = .ok (.ifCond .eq 10, 3) := by decide +kernel
theorem dX9_chance_64 : decode cX9_chance 64 = .ok (.aload_n 0, 1) := by decide +kernel
theorem dX9_chance_65 : decode cX9_chance 65 = .ok (.getfield 315, 3) := by decide +kernel
theorem dX9_chance_68 : decode cX9_chance 68 = .ok (.goto 5, 3) := by decide +kernel
theorem dX9_chance_71 : decode cX9_chance 71 = .ok (.lload 5, 2) := by decide +kernel
theorem dX9_chance_73 : decode cX9_chance 73 = .ok (.lload 7, 2) := by decide +kernel
theorem dX9_chance_75 : decode cX9_chance 75 = .ok (.ldiv, 1) := by decide +kernel
theorem dX9_chance_76 : decode cX9_chance 76 = .ok (.lreturn, 1) := by decide +kernel
abbrev rmX9_chance : Room := { frames := 1, cells := 0, slots := 0, locals := 31 }
theorem inX9_chance_9 : ∀ w ∈ wsX90, w ∈ wsX9_chance := by decide +kernel
def vX9_chance (F : Nat → Int32) (J : Nat → Int64) (p1 : Int32) (p2 : Int32) (p3 : Int32) (p4 : Int32) (Q : Int64 → (Nat → Int32) → (Nat → Int64) → Prop) : Prop := (preX9_in p1 (0 : Int32) (18 : Int32) ∧ (∀ r_9 : Int32, postX9_in p1 (0 : Int32) (18 : Int32) r_9 → ((r_9 = 0 → (Q (-1 : Int64) (upd F 0 (0 : Int32)) J)) ∧ (¬ r_9 = 0 → (preX9_in p2 (0 : Int32) (10 : Int32) ∧ (∀ r_19 : Int32, postX9_in p2 (0 : Int32) (10 : Int32) r_19 → ((r_19 = 0 → (Q (-1 : Int64) (upd F 0 (0 : Int32)) J)) ∧ (¬ r_19 = 0 → (preX9_in p3 (0 : Int32) (18 : Int32) ∧ (∀ r_29 : Int32, postX9_in p3 (0 : Int32) (18 : Int32) r_29 → ((¬ r_29 = 0 → (∃ (n_43 : Nat) (p_43 : Nat) (m_43 : Nat), preX9_upper n_43 p_43 m_43 (upd F 0 (0 : Int32)) J p1 p2 p3 ∧ (∀ (r_43 : Int64) (J_43 : Nat → Int64), postX9_upper n_43 p_43 m_43 (upd F 0 (0 : Int32)) J p1 p2 p3 r_43 J_43 → (∃ (a_54 : Nat) (b_54 : Nat), preX9_measure a_54 b_54 r_43 (J_43 28) ∧ (∀ r_54 : Int64, postX9_measure a_54 b_54 r_43 (J_43 28) r_54 → ((p4 = 0 → (¬ r_54 = 0 ∧ (Q (r_43 / r_54) (upd F 0 (0 : Int32)) J_43))) ∧ (¬ p4 = 0 → (¬ r_54 = 0 ∧ (Q ((J_43 28) / r_54) (upd F 0 (0 : Int32)) J_43))))))))) ∧ (r_29 = 0 → (Q (-1 : Int64) (upd F 0 (0 : Int32)) J)))))))))))))
set_option maxHeartbeats 4000000 in
set_option maxRecDepth 100000 in
theorem wX9_chance (l : Launch) (g : GP) (qM : Nat) (q1 : Nat) (q2 : Nat) (q3 : Nat) (q4 : Nat) (q5 : Nat) (q6 : Nat) (q7 : Nat) (q8 : Nat) (q9 : Nat) (q10 : Nat) (q11 : Nat) (sz : Nat) (F : Nat → Int32) (J : Nat → Int64) (p1 : Int32) (p2 : Int32) (p3 : Int32) (p4 : Int32) {Q : Int64 → (Nat → Int32) → (Nat → Int64) → Prop} (hv : vX9_chance F J p1 p2 p3 p4 Q) : Met l yX9_chance wsX9_chance rmX9_chance (va_Pc [.ref qM, .int p1, .int p2, .int p3, .int p4] (fun U => U.heap.size = sz ∧ va_P g.1 vwCl [(qM, .inr (9, [.int (F 0), .ref q1, .ref q2, .ref q3, .int (F 4), .int (F 5), .int (F 6), .int (F 7), .int (F 8), .int (F 9), .long (J 10), .int (F 11), .int (F 12), .int (F 13), .ref q4, .int (F 15), .ref q5, .ref q6, .ref q7, .int (F 19), .ref q8, .int (F 21), .int (F 22), .int (F 23), .int (F 24), .ref q9, .ref q10, .ref q11, .long (J 28)]))] U.heap ∧ GK g U ∧ va_D (fun _ => True) [(qM, .inr (9, [.int (F 0), .ref q1, .ref q2, .ref q3, .int (F 4), .int (F 5), .int (F 6), .int (F 7), .int (F 8), .int (F 9), .long (J 10), .int (F 11), .int (F 12), .int (F 13), .ref q4, .int (F 15), .ref q5, .ref q6, .ref q7, .int (F 19), .ref q8, .int (F 21), .int (F 22), .int (F 23), .int (F 24), .ref q9, .ref q10, .ref q11, .long (J 28)]))])) (va_Ql (fun (r : Int64) (u : (Nat → Int32) × (Nat → Int64)) => Q r u.1 u.2) (fun (u : (Nat → Int32) × (Nat → Int64)) t => va_P g.1 vwCl [(qM, .inr (9, [.int (u.1 0), .ref q1, .ref q2, .ref q3, .int (u.1 4), .int (u.1 5), .int (u.1 6), .int (u.1 7), .int (u.1 8), .int (u.1 9), .long (u.2 10), .int (u.1 11), .int (u.1 12), .int (u.1 13), .ref q4, .int (u.1 15), .ref q5, .ref q6, .ref q7, .int (u.1 19), .ref q8, .int (u.1 21), .int (u.1 22), .int (u.1 23), .int (u.1 24), .ref q9, .ref q10, .ref q11, .long (u.2 28)]))] t.heap ∧ va_D (va_A [(qM, .inr (9, [.int (F 0), .ref q1, .ref q2, .ref q3, .int (F 4), .int (F 5), .int (F 6), .int (F 7), .int (F 8), .int (F 9), .long (J 10), .int (F 11), .int (F 12), .int (F 13), .ref q4, .int (F 15), .ref q5, .ref q6, .ref q7, .int (F 19), .ref q8, .int (F 21), .int (F 22), .int (F 23), .int (F 24), .ref q9, .ref q10, .ref q11, .long (J 28)]))] sz) [(qM, .inr (9, [.int (u.1 0), .ref q1, .ref q2, .ref q3, .int (u.1 4), .int (u.1 5), .int (u.1 6), .int (u.1 7), .int (u.1 8), .int (u.1 9), .long (u.2 10), .int (u.1 11), .int (u.1 12), .int (u.1 13), .ref q4, .int (u.1 15), .ref q5, .ref q6, .ref q7, .int (u.1 19), .ref q8, .int (u.1 21), .int (u.1 22), .int (u.1 23), .int (u.1 24), .ref q9, .ref q10, .ref q11, .long (u.2 28)]))]) (va_A [(qM, .inr (9, [.int (F 0), .ref q1, .ref q2, .ref q3, .int (F 4), .int (F 5), .int (F 6), .int (F 7), .int (F 8), .int (F 9), .long (J 10), .int (F 11), .int (F 12), .int (F 13), .ref q4, .int (F 15), .ref q5, .ref q6, .ref q7, .int (F 19), .ref q8, .int (F 21), .int (F 22), .int (F 23), .int (F 24), .ref q9, .ref q10, .ref q11, .long (J 28)]))] sz)) 0 0 (va_A [(qM, .inr (9, [.int (F 0), .ref q1, .ref q2, .ref q3, .int (F 4), .int (F 5), .int (F 6), .int (F 7), .int (F 8), .int (F 9), .long (J 10), .int (F 11), .int (F 12), .int (F 13), .ref q4, .int (F 15), .ref q5, .ref q6, .ref q7, .int (F 19), .ref q8, .int (F 21), .int (F 22), .int (F 23), .int (F 24), .ref q9, .ref q10, .ref q11, .long (J 28)]))] sz) := by
  refine Met.ofW (cc := cX9_chance) (maxL := 9) (ret := (some .long)) (by decide) rfl ?_
  intro p e s m args below meth c s₁ B hml hv'
  obtain ⟨rfl, hsz, hP, hG, hD0⟩ := hv'
  have S : CallFix p m c cX9_chance 9 s _ wsX9_chance RX9 := ⟨B.exec, B.bytes, hml, findClass_of_methodNamed B.named, atoms_spec (ws := wsX9_chance) B.pre⟩
  obtain ⟨hx, hb, hml, hown, hts⟩ := id S
  have hK := hG.1
  have hr := B.returns
  have hlocks := B.notSynchronized
  subst hsz
  have hD := hD0.self (sz := s.heap.size)
  generalize hAe : va_A [(qM, .inr (9, [.int (F 0), .ref q1, .ref q2, .ref q3, .int (F 4), .int (F 5), .int (F 6), .int (F 7), .int (F 8), .int (F 9), .long (J 10), .int (F 11), .int (F 12), .int (F 13), .ref q4, .int (F 15), .ref q5, .ref q6, .ref q7, .int (F 19), .ref q8, .int (F 21), .int (F 22), .int (F 23), .int (F 24), .ref q9, .ref q10, .ref q11, .long (J 28)]))] s.heap.size = A at hD ⊢
  have hA : ∀ q : Nat, s.heap.size ≤ q → A q := fun q h => by rw [← hAe]; exact Or.inr h
  have hS : va_S A s.heap s.heap [] := va_S.rf
  clear hD0 hAe
  have hl := lv_entry ([.ref qM, .int p1, .int p2, .int p3, .int p4]) (n := 9) (Nat.le_of_ble_eq_true rfl)
  rw [lg_entry_eq]
  generalize (lg_sl ([.ref qM, .int p1, .int p2, .int p3, .int p4]) ++ List.replicate (9 - (lg_sl ([.ref qM, .int p1, .int p2, .int p3, .int p4])).length) Slot.unset).toArray = ls at hl ⊢
  have hl : lv_has ls 9 [(0, .ref qM), (1, .int p1), (2, .int p2), (3, .int p3), (4, .int p4)] := hl
  unfold vX9_chance at hv
  refine lv_aload_n hx hb dX9_chance_0 rfl (lv_at hl 0 rfl) ?_
  refine lv_iconst (v := (0 : Int32)) hx hb dX9_chance_1 (by decide) ?_
  refine va_put (D := g.1) (ci := 9) (v := .int (0 : Int32)) (ty := .int) (C := RX9) (T := TX9) (N := 29) hx hb hts inX9_chance_9 tyX9 tyX9_ok nmX9 hown hK hP hD hS 0 rfl rfl 0 (by decide) (hts (.fieldLink RX9 51 "RangeCodesModel" "raised" "I") (List.mem_of_getElem? (i := 1) rfl)) (fun _ h9 => h9) rfl (by decide +kernel) rfl rfl (Nat.le_of_ble_eq_true rfl) dX9_chance_2 (fun H locs hP hD hS => ?_)
  have hP : va_P g.1 vwCl [(qM, .inr (9, [.int (0 : Int32), .ref q1, .ref q2, .ref q3, .int (F 4), .int (F 5), .int (F 6), .int (F 7), .int (F 8), .int (F 9), .long (J 10), .int (F 11), .int (F 12), .int (F 13), .ref q4, .int (F 15), .ref q5, .ref q6, .ref q7, .int (F 19), .ref q8, .int (F 21), .int (F 22), .int (F 23), .int (F 24), .ref q9, .ref q10, .ref q11, .long (J 28)]))] H := hP
  have hD : va_D A [(qM, .inr (9, [.int (0 : Int32), .ref q1, .ref q2, .ref q3, .int (F 4), .int (F 5), .int (F 6), .int (F 7), .int (F 8), .int (F 9), .long (J 10), .int (F 11), .int (F 12), .int (F 13), .ref q4, .int (F 15), .ref q5, .ref q6, .ref q7, .int (F 19), .ref q8, .int (F 21), .int (F 22), .int (F 23), .int (F 24), .ref q9, .ref q10, .ref q11, .long (J 28)]))] := hD
  refine lv_iload_n hx hb dX9_chance_5 rfl (lv_at hl 1 rfl) ?_
  refine lv_iconst (v := (0 : Int32)) hx hb dX9_chance_6 (by decide) ?_
  refine lv_bipush (v := (18 : Int32)) hx hb dX9_chance_7 (by decide) ?_
  obtain ⟨ho_1, hv⟩ := hv
  refine vp_callSi (W.runS (As := [.int p1, .int (0 : Int32), .int (18 : Int32)]) (rest := []) S (wX9_in l g p1 (0 : Int32) (18 : Int32) (sX9_in p1 (0 : Int32) (18 : Int32) ho_1)) (va_cwS 3 hts gX9_chance_X9_in rfl rfl rfl (by decide +kernel) ⟨Nat.le_of_ble_eq_true rfl, Nat.le_of_ble_eq_true rfl⟩) ⟨blindRO, fun U hU hW => ⟨rfl, by rw [hU]; exact hP.sub (ws' := []) [] rfl, hG.warm hW⟩⟩ rfl rfl hl.1 rfl (lv_room (Nat.le_of_ble_eq_true rfl)) dX9_chance_9 ⟨Nat.le_of_ble_eq_true rfl, Nat.le_of_ble_eq_true rfl⟩) (fun r_9 hr_9 => ?_)
  have hv := hv r_9 hr_9
  obtain ⟨hvt, hvf⟩ := hv
  refine lv_if_eq (tgt := 35) hx hb dX9_chance_12 (by decide) (fun hc => ?_) (fun hc => ?_)
  · have hv := hvt hc
    refine lv_ldc2 (v := (-1 : Int64)) hx hb hown (hts (.constantLong RX9 320 (-1)) (List.mem_of_getElem? (i := 2) rfl)) dX9_chance_35 ?_
    have hP9 := hP.sub (ws' := [(qM, .inr (9, [.int ((upd F 0 (0 : Int32)) 0), .ref q1, .ref q2, .ref q3, .int ((upd F 0 (0 : Int32)) 4), .int ((upd F 0 (0 : Int32)) 5), .int ((upd F 0 (0 : Int32)) 6), .int ((upd F 0 (0 : Int32)) 7), .int ((upd F 0 (0 : Int32)) 8), .int ((upd F 0 (0 : Int32)) 9), .long (J 10), .int ((upd F 0 (0 : Int32)) 11), .int ((upd F 0 (0 : Int32)) 12), .int ((upd F 0 (0 : Int32)) 13), .ref q4, .int ((upd F 0 (0 : Int32)) 15), .ref q5, .ref q6, .ref q7, .int ((upd F 0 (0 : Int32)) 19), .ref q8, .int ((upd F 0 (0 : Int32)) 21), .int ((upd F 0 (0 : Int32)) 22), .int ((upd F 0 (0 : Int32)) 23), .int ((upd F 0 (0 : Int32)) 24), .ref q9, .ref q10, .ref q11, .long (J 28)]))]) [0] rfl
    have hD9 := hD.sub (ws' := [(qM, .inr (9, [.int ((upd F 0 (0 : Int32)) 0), .ref q1, .ref q2, .ref q3, .int ((upd F 0 (0 : Int32)) 4), .int ((upd F 0 (0 : Int32)) 5), .int ((upd F 0 (0 : Int32)) 6), .int ((upd F 0 (0 : Int32)) 7), .int ((upd F 0 (0 : Int32)) 8), .int ((upd F 0 (0 : Int32)) 9), .long (J 10), .int ((upd F 0 (0 : Int32)) 11), .int ((upd F 0 (0 : Int32)) 12), .int ((upd F 0 (0 : Int32)) 13), .ref q4, .int ((upd F 0 (0 : Int32)) 15), .ref q5, .ref q6, .ref q7, .int ((upd F 0 (0 : Int32)) 19), .ref q8, .int ((upd F 0 (0 : Int32)) 21), .int ((upd F 0 (0 : Int32)) 22), .int ((upd F 0 (0 : Int32)) 23), .int ((upd F 0 (0 : Int32)) 24), .ref q9, .ref q10, .ref q11, .long (J 28)]))]) [0] (by decide) rfl
    exact W.lret (v := (-1 : Int64)) hx hb hr (fun t ht hW => ⟨⟨_, ((upd F 0 (0 : Int32)), J), rfl, hv, by rw [ht]; exact hP9, hD9⟩, hS.F ht⟩) hS.2.2 dX9_chance_38
  · have hv := hvf hc
    refine lv_iload_n hx hb dX9_chance_15 rfl (lv_at hl 2 rfl) ?_
    refine lv_iconst (v := (0 : Int32)) hx hb dX9_chance_16 (by decide) ?_
    refine lv_bipush (v := (10 : Int32)) hx hb dX9_chance_17 (by decide) ?_
    obtain ⟨ho_2, hv⟩ := hv
    refine vp_callSi (W.runS (As := [.int p2, .int (0 : Int32), .int (10 : Int32)]) (rest := []) S (wX9_in l g p2 (0 : Int32) (10 : Int32) (sX9_in p2 (0 : Int32) (10 : Int32) ho_2)) (va_cwS 3 hts gX9_chance_X9_in rfl rfl rfl (by decide +kernel) ⟨Nat.le_of_ble_eq_true rfl, Nat.le_of_ble_eq_true rfl⟩) ⟨blindRO, fun U hU hW => ⟨rfl, by rw [hU]; exact hP.sub (ws' := []) [] rfl, hG.warm hW⟩⟩ rfl rfl hl.1 rfl (lv_room (Nat.le_of_ble_eq_true rfl)) dX9_chance_19 ⟨Nat.le_of_ble_eq_true rfl, Nat.le_of_ble_eq_true rfl⟩) (fun r_19 hr_19 => ?_)
    have hv := hv r_19 hr_19
    obtain ⟨hvt, hvf⟩ := hv
    refine lv_if_eq (tgt := 35) hx hb dX9_chance_22 (by decide) (fun hc => ?_) (fun hc => ?_)
    · have hv := hvt hc
      refine lv_ldc2 (v := (-1 : Int64)) hx hb hown (hts (.constantLong RX9 320 (-1)) (List.mem_of_getElem? (i := 2) rfl)) dX9_chance_35 ?_
      have hP9 := hP.sub (ws' := [(qM, .inr (9, [.int ((upd F 0 (0 : Int32)) 0), .ref q1, .ref q2, .ref q3, .int ((upd F 0 (0 : Int32)) 4), .int ((upd F 0 (0 : Int32)) 5), .int ((upd F 0 (0 : Int32)) 6), .int ((upd F 0 (0 : Int32)) 7), .int ((upd F 0 (0 : Int32)) 8), .int ((upd F 0 (0 : Int32)) 9), .long (J 10), .int ((upd F 0 (0 : Int32)) 11), .int ((upd F 0 (0 : Int32)) 12), .int ((upd F 0 (0 : Int32)) 13), .ref q4, .int ((upd F 0 (0 : Int32)) 15), .ref q5, .ref q6, .ref q7, .int ((upd F 0 (0 : Int32)) 19), .ref q8, .int ((upd F 0 (0 : Int32)) 21), .int ((upd F 0 (0 : Int32)) 22), .int ((upd F 0 (0 : Int32)) 23), .int ((upd F 0 (0 : Int32)) 24), .ref q9, .ref q10, .ref q11, .long (J 28)]))]) [0] rfl
      have hD9 := hD.sub (ws' := [(qM, .inr (9, [.int ((upd F 0 (0 : Int32)) 0), .ref q1, .ref q2, .ref q3, .int ((upd F 0 (0 : Int32)) 4), .int ((upd F 0 (0 : Int32)) 5), .int ((upd F 0 (0 : Int32)) 6), .int ((upd F 0 (0 : Int32)) 7), .int ((upd F 0 (0 : Int32)) 8), .int ((upd F 0 (0 : Int32)) 9), .long (J 10), .int ((upd F 0 (0 : Int32)) 11), .int ((upd F 0 (0 : Int32)) 12), .int ((upd F 0 (0 : Int32)) 13), .ref q4, .int ((upd F 0 (0 : Int32)) 15), .ref q5, .ref q6, .ref q7, .int ((upd F 0 (0 : Int32)) 19), .ref q8, .int ((upd F 0 (0 : Int32)) 21), .int ((upd F 0 (0 : Int32)) 22), .int ((upd F 0 (0 : Int32)) 23), .int ((upd F 0 (0 : Int32)) 24), .ref q9, .ref q10, .ref q11, .long (J 28)]))]) [0] (by decide) rfl
      exact W.lret (v := (-1 : Int64)) hx hb hr (fun t ht hW => ⟨⟨_, ((upd F 0 (0 : Int32)), J), rfl, hv, by rw [ht]; exact hP9, hD9⟩, hS.F ht⟩) hS.2.2 dX9_chance_38
    · have hv := hvf hc
      refine lv_iload_n hx hb dX9_chance_25 rfl (lv_at hl 3 rfl) ?_
      refine lv_iconst (v := (0 : Int32)) hx hb dX9_chance_26 (by decide) ?_
      refine lv_bipush (v := (18 : Int32)) hx hb dX9_chance_27 (by decide) ?_
      obtain ⟨ho_3, hv⟩ := hv
      refine vp_callSi (W.runS (As := [.int p3, .int (0 : Int32), .int (18 : Int32)]) (rest := []) S (wX9_in l g p3 (0 : Int32) (18 : Int32) (sX9_in p3 (0 : Int32) (18 : Int32) ho_3)) (va_cwS 3 hts gX9_chance_X9_in rfl rfl rfl (by decide +kernel) ⟨Nat.le_of_ble_eq_true rfl, Nat.le_of_ble_eq_true rfl⟩) ⟨blindRO, fun U hU hW => ⟨rfl, by rw [hU]; exact hP.sub (ws' := []) [] rfl, hG.warm hW⟩⟩ rfl rfl hl.1 rfl (lv_room (Nat.le_of_ble_eq_true rfl)) dX9_chance_29 ⟨Nat.le_of_ble_eq_true rfl, Nat.le_of_ble_eq_true rfl⟩) (fun r_29 hr_29 => ?_)
      have hv := hv r_29 hr_29
      obtain ⟨hvt, hvf⟩ := hv
      refine lv_if_ne (tgt := 39) hx hb dX9_chance_32 (by decide) (fun hc => ?_) (fun hc => ?_)
      · have hv := hvt hc
        refine lv_aload_n hx hb dX9_chance_39 rfl (lv_at hl 0 rfl) ?_
        refine lv_iload_n hx hb dX9_chance_40 rfl (lv_at hl 1 rfl) ?_
        refine lv_iload_n hx hb dX9_chance_41 rfl (lv_at hl 2 rfl) ?_
        refine lv_iload_n hx hb dX9_chance_42 rfl (lv_at hl 3 rfl) ?_
        obtain ⟨n_43, p_43, m_43, ho_4, hv⟩ := hv
        have hPc := hP.sub (ws' := [(qM, .inr (9, [.int ((upd F 0 (0 : Int32)) 0), .ref q1, .ref q2, .ref q3, .int ((upd F 0 (0 : Int32)) 4), .int ((upd F 0 (0 : Int32)) 5), .int ((upd F 0 (0 : Int32)) 6), .int ((upd F 0 (0 : Int32)) 7), .int ((upd F 0 (0 : Int32)) 8), .int ((upd F 0 (0 : Int32)) 9), .long (J 10), .int ((upd F 0 (0 : Int32)) 11), .int ((upd F 0 (0 : Int32)) 12), .int ((upd F 0 (0 : Int32)) 13), .ref q4, .int ((upd F 0 (0 : Int32)) 15), .ref q5, .ref q6, .ref q7, .int ((upd F 0 (0 : Int32)) 19), .ref q8, .int ((upd F 0 (0 : Int32)) 21), .int ((upd F 0 (0 : Int32)) 22), .int ((upd F 0 (0 : Int32)) 23), .int ((upd F 0 (0 : Int32)) 24), .ref q9, .ref q10, .ref q11, .long (J 28)]))]) [0] rfl
        have hDc := hD.sub (ws' := [(qM, .inr (9, [.int ((upd F 0 (0 : Int32)) 0), .ref q1, .ref q2, .ref q3, .int ((upd F 0 (0 : Int32)) 4), .int ((upd F 0 (0 : Int32)) 5), .int ((upd F 0 (0 : Int32)) 6), .int ((upd F 0 (0 : Int32)) 7), .int ((upd F 0 (0 : Int32)) 8), .int ((upd F 0 (0 : Int32)) 9), .long (J 10), .int ((upd F 0 (0 : Int32)) 11), .int ((upd F 0 (0 : Int32)) 12), .int ((upd F 0 (0 : Int32)) 13), .ref q4, .int ((upd F 0 (0 : Int32)) 15), .ref q5, .ref q6, .ref q7, .int ((upd F 0 (0 : Int32)) 19), .ref q8, .int ((upd F 0 (0 : Int32)) 21), .int ((upd F 0 (0 : Int32)) 22), .int ((upd F 0 (0 : Int32)) 23), .int ((upd F 0 (0 : Int32)) 24), .ref q9, .ref q10, .ref q11, .long (J 28)]))]) [0] (by decide) rfl
        have hFc := va_free (wc := [(qM, .inr (9, [.int ((upd F 0 (0 : Int32)) 0), .ref q1, .ref q2, .ref q3, .int ((upd F 0 (0 : Int32)) 4), .int ((upd F 0 (0 : Int32)) 5), .int ((upd F 0 (0 : Int32)) 6), .int ((upd F 0 (0 : Int32)) 7), .int ((upd F 0 (0 : Int32)) 8), .int ((upd F 0 (0 : Int32)) 9), .long (J 10), .int ((upd F 0 (0 : Int32)) 11), .int ((upd F 0 (0 : Int32)) 12), .int ((upd F 0 (0 : Int32)) 13), .ref q4, .int ((upd F 0 (0 : Int32)) 15), .ref q5, .ref q6, .ref q7, .int ((upd F 0 (0 : Int32)) 19), .ref q8, .int ((upd F 0 (0 : Int32)) 21), .int ((upd F 0 (0 : Int32)) 22), .int ((upd F 0 (0 : Int32)) 23), .int ((upd F 0 (0 : Int32)) 24), .ref q9, .ref q10, .ref q11, .long (J 28)]))]) hD hS hA [0] rfl
        refine va_calll (va_runV (As := [.int p1, .int p2, .int p3]) (rest := []) S (wX9_upper l g qM q1 q2 q3 q4 q5 q6 q7 q8 q9 q10 q11 H.size (upd F 0 (0 : Int32)) J p1 p2 p3 (sX9_upper n_43 p_43 m_43 (upd F 0 (0 : Int32)) J p1 p2 p3 ho_4)) (cwV 3 hts gX9_chance_X9_upper rfl rfl rfl (by decide +kernel) ⟨Nat.le_of_ble_eq_true rfl, Nat.le_of_ble_eq_true rfl⟩) ⟨blindRW, va_recv hK hP (ci := 9) (q0 := 0) rfl rfl, fun U hU hW => ⟨rfl, by rw [hU], by rw [hU]; exact hPc, hG.warm hW, hDc.weaken (fun _ _ _ _ => trivial)⟩⟩ rfl rfl hl.1 rfl (lv_room (Nat.le_of_ble_eq_true rfl)) dX9_chance_43 ⟨Nat.le_of_ble_eq_true rfl, Nat.le_of_ble_eq_true rfl⟩) hS (fun q _ h => hFc q h) hFc (fun r_43 u t H1 locs ht hvm hw hB hz1 hk1 hS => ?_)
        obtain ⟨J_43, rfl⟩ : ∃ z, z = u := ⟨_, rfl⟩
        obtain ⟨hP1, hD1⟩ := hB
        rw [ht] at hP1
        have hv := hv r_43 J_43 hw
        obtain ⟨hP, hD⟩ := va_join (wr := []) (w1 := [(qM, .inr (9, [.int ((upd F 0 (0 : Int32)) 0), .ref q1, .ref q2, .ref q3, .int ((upd F 0 (0 : Int32)) 4), .int ((upd F 0 (0 : Int32)) 5), .int ((upd F 0 (0 : Int32)) 6), .int ((upd F 0 (0 : Int32)) 7), .int ((upd F 0 (0 : Int32)) 8), .int ((upd F 0 (0 : Int32)) 9), .long (J_43 10), .int ((upd F 0 (0 : Int32)) 11), .int ((upd F 0 (0 : Int32)) 12), .int ((upd F 0 (0 : Int32)) 13), .ref q4, .int ((upd F 0 (0 : Int32)) 15), .ref q5, .ref q6, .ref q7, .int ((upd F 0 (0 : Int32)) 19), .ref q8, .int ((upd F 0 (0 : Int32)) 21), .int ((upd F 0 (0 : Int32)) 22), .int ((upd F 0 (0 : Int32)) 23), .int ((upd F 0 (0 : Int32)) 24), .ref q9, .ref q10, .ref q11, .long (J_43 28)]))]) hP hD [0] [] rfl rfl (by decide) (by decide) hk1 hFc hP1 hD1
        clear hP1 hD1 hPc hDc hFc hk1
        generalize H1 = H at hP hS ⊢
        have hP : va_P g.1 vwCl [(qM, .inr (9, [.int ((upd F 0 (0 : Int32)) 0), .ref q1, .ref q2, .ref q3, .int ((upd F 0 (0 : Int32)) 4), .int ((upd F 0 (0 : Int32)) 5), .int ((upd F 0 (0 : Int32)) 6), .int ((upd F 0 (0 : Int32)) 7), .int ((upd F 0 (0 : Int32)) 8), .int ((upd F 0 (0 : Int32)) 9), .long (J_43 10), .int ((upd F 0 (0 : Int32)) 11), .int ((upd F 0 (0 : Int32)) 12), .int ((upd F 0 (0 : Int32)) 13), .ref q4, .int ((upd F 0 (0 : Int32)) 15), .ref q5, .ref q6, .ref q7, .int ((upd F 0 (0 : Int32)) 19), .ref q8, .int ((upd F 0 (0 : Int32)) 21), .int ((upd F 0 (0 : Int32)) 22), .int ((upd F 0 (0 : Int32)) 23), .int ((upd F 0 (0 : Int32)) 24), .ref q9, .ref q10, .ref q11, .long (J_43 28)]))] H := hP
        have hD : va_D A [(qM, .inr (9, [.int ((upd F 0 (0 : Int32)) 0), .ref q1, .ref q2, .ref q3, .int ((upd F 0 (0 : Int32)) 4), .int ((upd F 0 (0 : Int32)) 5), .int ((upd F 0 (0 : Int32)) 6), .int ((upd F 0 (0 : Int32)) 7), .int ((upd F 0 (0 : Int32)) 8), .int ((upd F 0 (0 : Int32)) 9), .long (J_43 10), .int ((upd F 0 (0 : Int32)) 11), .int ((upd F 0 (0 : Int32)) 12), .int ((upd F 0 (0 : Int32)) 13), .ref q4, .int ((upd F 0 (0 : Int32)) 15), .ref q5, .ref q6, .ref q7, .int ((upd F 0 (0 : Int32)) 19), .ref q8, .int ((upd F 0 (0 : Int32)) 21), .int ((upd F 0 (0 : Int32)) 22), .int ((upd F 0 (0 : Int32)) 23), .int ((upd F 0 (0 : Int32)) 24), .ref q9, .ref q10, .ref q11, .long (J_43 28)]))] := hD
        refine lv_lstore (lv' := [(5, .long r_43), (0, .ref qM), (1, .int p1), (2, .int p2), (3, .int p3), (4, .int p4)]) hx hb dX9_chance_46 hl (by decide) rfl (fun ls hl => ?_)
        refine lv_lload hx hb dX9_chance_48 (lv_at hl 0 rfl) ?_
        refine lv_aload_n hx hb dX9_chance_50 rfl (lv_at hl 1 rfl) ?_
        refine va_get (D := g.1) (ci := 9) (v := .long (J_43 28)) (C := RX9) (T := TX9) (N := 29) hx hb hts inX9_chance_9 hown hK hP 0 rfl rfl 28 (by decide) (hts (.fieldLink RX9 315 "RangeCodesModel" "under" "J") (List.mem_of_getElem? (i := 3) rfl)) (fun _ h9 => h9) rfl dX9_chance_51 ?_
        obtain ⟨a_54, b_54, ho_5, hv⟩ := hv
        refine vp_callSl (W.runS (As := [.long r_43, .long (J_43 28)]) (rest := []) S (wX9_measure l g r_43 (J_43 28) (sX9_measure a_54 b_54 r_43 (J_43 28) ho_5)) (va_cwS 2 hts gX9_chance_X9_measure rfl rfl rfl (by decide +kernel) ⟨Nat.le_of_ble_eq_true rfl, Nat.le_of_ble_eq_true rfl⟩) ⟨blindRO, fun U hU hW => ⟨rfl, by rw [hU]; exact hP.sub (ws' := []) [] rfl, hG.warm hW⟩⟩ rfl rfl hl.1 rfl (lv_room (Nat.le_of_ble_eq_true rfl)) dX9_chance_54 ⟨Nat.le_of_ble_eq_true rfl, Nat.le_of_ble_eq_true rfl⟩) (fun r_54 hr_54 => ?_)
        have hv := hv r_54 hr_54
        refine lv_lstore (lv' := [(7, .long r_54), (5, .long r_43), (0, .ref qM), (1, .int p1), (2, .int p2), (3, .int p3), (4, .int p4)]) hx hb dX9_chance_57 hl (by decide) rfl (fun ls hl => ?_)
        refine lv_iload hx hb dX9_chance_59 (lv_at hl 6 rfl) ?_
        obtain ⟨hvt, hvf⟩ := hv
        refine lv_if_eq (tgt := 71) hx hb dX9_chance_61 (by decide) (fun hc => ?_) (fun hc => ?_)
        · have hv := hvt hc
          refine lv_lload hx hb dX9_chance_71 (lv_at hl 1 rfl) ?_
          refine lv_lload hx hb dX9_chance_73 (lv_at hl 0 rfl) ?_
          obtain ⟨ho_6, hv⟩ := hv
          refine lv_ldiv hx hb dX9_chance_75 ho_6 ?_
          have hP9 := hP.sub (ws' := [(qM, .inr (9, [.int ((upd F 0 (0 : Int32)) 0), .ref q1, .ref q2, .ref q3, .int ((upd F 0 (0 : Int32)) 4), .int ((upd F 0 (0 : Int32)) 5), .int ((upd F 0 (0 : Int32)) 6), .int ((upd F 0 (0 : Int32)) 7), .int ((upd F 0 (0 : Int32)) 8), .int ((upd F 0 (0 : Int32)) 9), .long (J_43 10), .int ((upd F 0 (0 : Int32)) 11), .int ((upd F 0 (0 : Int32)) 12), .int ((upd F 0 (0 : Int32)) 13), .ref q4, .int ((upd F 0 (0 : Int32)) 15), .ref q5, .ref q6, .ref q7, .int ((upd F 0 (0 : Int32)) 19), .ref q8, .int ((upd F 0 (0 : Int32)) 21), .int ((upd F 0 (0 : Int32)) 22), .int ((upd F 0 (0 : Int32)) 23), .int ((upd F 0 (0 : Int32)) 24), .ref q9, .ref q10, .ref q11, .long (J_43 28)]))]) [0] rfl
          have hD9 := hD.sub (ws' := [(qM, .inr (9, [.int ((upd F 0 (0 : Int32)) 0), .ref q1, .ref q2, .ref q3, .int ((upd F 0 (0 : Int32)) 4), .int ((upd F 0 (0 : Int32)) 5), .int ((upd F 0 (0 : Int32)) 6), .int ((upd F 0 (0 : Int32)) 7), .int ((upd F 0 (0 : Int32)) 8), .int ((upd F 0 (0 : Int32)) 9), .long (J_43 10), .int ((upd F 0 (0 : Int32)) 11), .int ((upd F 0 (0 : Int32)) 12), .int ((upd F 0 (0 : Int32)) 13), .ref q4, .int ((upd F 0 (0 : Int32)) 15), .ref q5, .ref q6, .ref q7, .int ((upd F 0 (0 : Int32)) 19), .ref q8, .int ((upd F 0 (0 : Int32)) 21), .int ((upd F 0 (0 : Int32)) 22), .int ((upd F 0 (0 : Int32)) 23), .int ((upd F 0 (0 : Int32)) 24), .ref q9, .ref q10, .ref q11, .long (J_43 28)]))]) [0] (by decide) rfl
          exact W.lret (v := (r_43 / r_54)) hx hb hr (fun t ht hW => ⟨⟨_, ((upd F 0 (0 : Int32)), J_43), rfl, hv, by rw [ht]; exact hP9, hD9⟩, hS.F ht⟩) hS.2.2 dX9_chance_76
        · have hv := hvf hc
          refine lv_aload_n hx hb dX9_chance_64 rfl (lv_at hl 2 rfl) ?_
          refine va_get (D := g.1) (ci := 9) (v := .long (J_43 28)) (C := RX9) (T := TX9) (N := 29) hx hb hts inX9_chance_9 hown hK hP 0 rfl rfl 28 (by decide) (hts (.fieldLink RX9 315 "RangeCodesModel" "under" "J") (List.mem_of_getElem? (i := 3) rfl)) (fun _ h9 => h9) rfl dX9_chance_65 ?_
          refine lv_goto (tgt := 73) hx hb dX9_chance_68 (by decide) ?_
          refine lv_lload hx hb dX9_chance_73 (lv_at hl 0 rfl) ?_
          obtain ⟨ho_7, hv⟩ := hv
          refine lv_ldiv hx hb dX9_chance_75 ho_7 ?_
          have hP9 := hP.sub (ws' := [(qM, .inr (9, [.int ((upd F 0 (0 : Int32)) 0), .ref q1, .ref q2, .ref q3, .int ((upd F 0 (0 : Int32)) 4), .int ((upd F 0 (0 : Int32)) 5), .int ((upd F 0 (0 : Int32)) 6), .int ((upd F 0 (0 : Int32)) 7), .int ((upd F 0 (0 : Int32)) 8), .int ((upd F 0 (0 : Int32)) 9), .long (J_43 10), .int ((upd F 0 (0 : Int32)) 11), .int ((upd F 0 (0 : Int32)) 12), .int ((upd F 0 (0 : Int32)) 13), .ref q4, .int ((upd F 0 (0 : Int32)) 15), .ref q5, .ref q6, .ref q7, .int ((upd F 0 (0 : Int32)) 19), .ref q8, .int ((upd F 0 (0 : Int32)) 21), .int ((upd F 0 (0 : Int32)) 22), .int ((upd F 0 (0 : Int32)) 23), .int ((upd F 0 (0 : Int32)) 24), .ref q9, .ref q10, .ref q11, .long (J_43 28)]))]) [0] rfl
          have hD9 := hD.sub (ws' := [(qM, .inr (9, [.int ((upd F 0 (0 : Int32)) 0), .ref q1, .ref q2, .ref q3, .int ((upd F 0 (0 : Int32)) 4), .int ((upd F 0 (0 : Int32)) 5), .int ((upd F 0 (0 : Int32)) 6), .int ((upd F 0 (0 : Int32)) 7), .int ((upd F 0 (0 : Int32)) 8), .int ((upd F 0 (0 : Int32)) 9), .long (J_43 10), .int ((upd F 0 (0 : Int32)) 11), .int ((upd F 0 (0 : Int32)) 12), .int ((upd F 0 (0 : Int32)) 13), .ref q4, .int ((upd F 0 (0 : Int32)) 15), .ref q5, .ref q6, .ref q7, .int ((upd F 0 (0 : Int32)) 19), .ref q8, .int ((upd F 0 (0 : Int32)) 21), .int ((upd F 0 (0 : Int32)) 22), .int ((upd F 0 (0 : Int32)) 23), .int ((upd F 0 (0 : Int32)) 24), .ref q9, .ref q10, .ref q11, .long (J_43 28)]))]) [0] (by decide) rfl
          exact W.lret (v := ((J_43 28) / r_54)) hx hb hr (fun t ht hW => ⟨⟨_, ((upd F 0 (0 : Int32)), J_43), rfl, hv, by rw [ht]; exact hP9, hD9⟩, hS.F ht⟩) hS.2.2 dX9_chance_76
      · have hv := hvf hc
        refine lv_ldc2 (v := (-1 : Int64)) hx hb hown (hts (.constantLong RX9 320 (-1)) (List.mem_of_getElem? (i := 2) rfl)) dX9_chance_35 ?_
        have hP9 := hP.sub (ws' := [(qM, .inr (9, [.int ((upd F 0 (0 : Int32)) 0), .ref q1, .ref q2, .ref q3, .int ((upd F 0 (0 : Int32)) 4), .int ((upd F 0 (0 : Int32)) 5), .int ((upd F 0 (0 : Int32)) 6), .int ((upd F 0 (0 : Int32)) 7), .int ((upd F 0 (0 : Int32)) 8), .int ((upd F 0 (0 : Int32)) 9), .long (J 10), .int ((upd F 0 (0 : Int32)) 11), .int ((upd F 0 (0 : Int32)) 12), .int ((upd F 0 (0 : Int32)) 13), .ref q4, .int ((upd F 0 (0 : Int32)) 15), .ref q5, .ref q6, .ref q7, .int ((upd F 0 (0 : Int32)) 19), .ref q8, .int ((upd F 0 (0 : Int32)) 21), .int ((upd F 0 (0 : Int32)) 22), .int ((upd F 0 (0 : Int32)) 23), .int ((upd F 0 (0 : Int32)) 24), .ref q9, .ref q10, .ref q11, .long (J 28)]))]) [0] rfl
        have hD9 := hD.sub (ws' := [(qM, .inr (9, [.int ((upd F 0 (0 : Int32)) 0), .ref q1, .ref q2, .ref q3, .int ((upd F 0 (0 : Int32)) 4), .int ((upd F 0 (0 : Int32)) 5), .int ((upd F 0 (0 : Int32)) 6), .int ((upd F 0 (0 : Int32)) 7), .int ((upd F 0 (0 : Int32)) 8), .int ((upd F 0 (0 : Int32)) 9), .long (J 10), .int ((upd F 0 (0 : Int32)) 11), .int ((upd F 0 (0 : Int32)) 12), .int ((upd F 0 (0 : Int32)) 13), .ref q4, .int ((upd F 0 (0 : Int32)) 15), .ref q5, .ref q6, .ref q7, .int ((upd F 0 (0 : Int32)) 19), .ref q8, .int ((upd F 0 (0 : Int32)) 21), .int ((upd F 0 (0 : Int32)) 22), .int ((upd F 0 (0 : Int32)) 23), .int ((upd F 0 (0 : Int32)) 24), .ref q9, .ref q10, .ref q11, .long (J 28)]))]) [0] (by decide) rfl
        exact W.lret (v := (-1 : Int64)) hx hb hr (fun t ht hW => ⟨⟨_, ((upd F 0 (0 : Int32)), J), rfl, hv, by rw [ht]; exact hP9, hD9⟩, hS.F ht⟩) hS.2.2 dX9_chance_38
abbrev preX9_chance (F : Nat → Int32) (J : Nat → Int64) (p1 : Int32) (p2 : Int32) (p3 : Int32) (p4 : Int32) : Prop := True
abbrev postX9_chance (F : Nat → Int32) (J : Nat → Int64) (p1 : Int32) (p2 : Int32) (p3 : Int32) (p4 : Int32) (r : Int64) (F' : Nat → Int32) (J' : Nat → Int64) : Prop := r.toInt = spChance p1.toInt p2.toInt p3.toInt p4.toInt
theorem sX9_chance (F : Nat → Int32) (J : Nat → Int64) (p1 : Int32) (p2 : Int32) (p3 : Int32) (p4 : Int32) (H : preX9_chance F J p1 p2 p3 p4) : vX9_chance F J p1 p2 p3 p4 (postX9_chance F J p1 p2 p3 p4) := by
  have no : ¬ ((0 ≤ p1.toInt ∧ p1.toInt ≤ 18) ∧ (0 ≤ p2.toInt ∧ p2.toInt ≤ 10) ∧ (0 ≤ p3.toInt ∧ p3.toInt ≤ 18)) → (-1 : Int64).toInt = spChance p1.toInt p2.toInt p3.toInt p4.toInt := fun q => by
    unfold spChance; rw [if_neg q]; rfl
  refine ⟨trivial, fun r hr => ?_⟩
  have hr : r = if 0 ≤ p1.toInt ∧ p1.toInt ≤ 18 then 1 else 0 := hr
  rw [hr, q_if1]
  refine ⟨fun a => no (fun q => a q.1), fun a => ⟨trivial, fun r2 hr2 => ?_⟩⟩
  have a := Decidable.not_not.mp a
  have hr2 : r2 = if 0 ≤ p2.toInt ∧ p2.toInt ≤ 10 then 1 else 0 := hr2
  rw [hr2, q_if1]
  refine ⟨fun b => no (fun q => b q.2.1), fun b => ⟨trivial, fun r3 hr3 => ?_⟩⟩
  have b := Decidable.not_not.mp b
  have hr3 : r3 = if 0 ≤ p3.toInt ∧ p3.toInt ≤ 18 then 1 else 0 := hr3
  rw [hr3, q_if1]
  refine ⟨fun c => ?_, fun c => no (fun q => c q.2.2)⟩
  have c := Decidable.not_not.mp c
  refine ⟨p1.toInt.toNat, p2.toInt.toNat, p3.toInt.toNat, ⟨by omega, by omega, by omega, by omega, by omega⟩, fun u J2 hu => ?_⟩
  obtain ⟨hu, hJ⟩ := hu
  refine ⟨_, _, ⟨hu, hJ⟩, fun g hg => ?_⟩
  have hg : g.toInt = ((Nat.gcd (us p1.toInt.toNat p2.toInt.toNat p3.toInt.toNat (p1.toInt.toNat + 1)) (10 ^ p1.toInt.toNat) : Nat) : Int) := hg
  have ce := ch_end (c := 0) (us_le (show p1.toInt.toNat ≤ 18 by omega) (show p2.toInt.toNat ≤ 10 by omega) p3.toInt.toNat (Nat.le_refl _)) (Nat.pow_pos (by decide)) (p10_le (show p1.toInt.toNat ≤ 18 by omega)) hu hJ hg
  unfold postX9_chance spChance
  rw [if_pos ⟨a, b, c⟩, q_l0 hg, fa_eq p4, z0]
  refine ⟨fun q => ⟨by omega, ?_⟩, fun q => ⟨by omega, ?_⟩⟩
  · rw [if_pos q]; exact ce.2.1
  · rw [if_neg q]; exact ce.2.2
set_option maxRecDepth 20000 in
theorem ggX9_bar_X9_in : GoodIn wsX9_bar wsX9_in := goodIn_r _ [7] (by decide +kernel) (by decide +kernel)
set_option maxRecDepth 20000 in
theorem gX9_bar_X9_in : GoodIn wsX9_bar (va_wsS RX9 63 yX9_in wsX9_in) := goodIn_app (goodIn_of _ (by decide +kernel)) ggX9_bar_X9_in
set_option maxRecDepth 20000 in
theorem ggX9_bar_X9_upper : GoodIn wsX9_bar wsX9_upper := goodIn_r _ [11, 2, 12, 16, 17, 18, 19, 20, 21, 22, 23, 24, 25, 26, 27, 28, 29, 30, 31, 32, 33, 34, 35, 36, 37, 38, 39, 40, 41, 42, 43, 44] (by decide +kernel) (by decide +kernel)
set_option maxRecDepth 20000 in
theorem gX9_bar_X9_upper : GoodIn wsX9_bar (wsV RX9 322 RX9 yX9_upper wsX9_upper) := goodIn_app (goodIn_of _ (by decide +kernel)) ggX9_bar_X9_upper
set_option maxRecDepth 20000 in
theorem ggX9_bar_X9_measure : GoodIn wsX9_bar wsX9_measure := goodIn_r _ [15] (by decide +kernel) (by decide +kernel)
set_option maxRecDepth 20000 in
theorem gX9_bar_X9_measure : GoodIn wsX9_bar (va_wsS RX9 59 yX9_measure wsX9_measure) := goodIn_app (goodIn_of _ (by decide +kernel)) ggX9_bar_X9_measure
theorem dX9_bar_0 : decode cX9_bar 0 = .ok (.aload_n 0, 1) := by decide +kernel
theorem dX9_bar_1 : decode cX9_bar 1 = .ok (.iconst 0, 1) := by decide +kernel
theorem dX9_bar_2 : decode cX9_bar 2 = .ok (.putfield 51, 3) := by decide +kernel
theorem dX9_bar_5 : decode cX9_bar 5 = .ok (.iload_n 1, 1) := by decide +kernel
theorem dX9_bar_6 : decode cX9_bar 6 = .ok (.iconst 1, 1) := by decide +kernel
theorem dX9_bar_7 : decode cX9_bar 7 = .ok (.bipush 18, 2) := by decide +kernel
theorem dX9_bar_9 : decode cX9_bar 9 = .ok (.invokestatic 63, 3) := by decide +kernel
theorem dX9_bar_12 : decode cX9_bar 12 = .ok (.ifCond .eq 14, 3) := by decide +kernel
theorem dX9_bar_15 : decode cX9_bar 15 = .ok (.iload_n 2, 1) := by decide +kernel
theorem dX9_bar_16 : decode cX9_bar 16 = .ok (.iconst 0, 1) := by decide +kernel
theorem dX9_bar_17 : decode cX9_bar 17 = .ok (.sipush 1000, 3) := by decide +kernel
theorem dX9_bar_20 : decode cX9_bar 20 = .ok (.invokestatic 63, 3) := by decide +kernel
theorem dX9_bar_23 : decode cX9_bar 23 = .ok (.ifCond .ne 5, 3) := by decide +kernel
theorem dX9_bar_26 : decode cX9_bar 26 = .ok (.iconst (-1), 1) := by decide +kernel
theorem dX9_bar_27 : decode cX9_bar 27 = .ok (.ireturn, 1) := by decide +kernel
theorem dX9_bar_28 : decode cX9_bar 28 = .ok (.iconst 0, 1) := by decide +kernel
theorem dX9_bar_29 : decode cX9_bar 29 = .ok (.istore_n 3, 1) := by decide +kernel
theorem dX9_bar_30 : decode cX9_bar 30 = .ok (.iload_n 3, 1) := by decide +kernel
theorem dX9_bar_31 : decode cX9_bar 31 = .ok (.iload_n 1, 1) := by decide +kernel
theorem dX9_bar_32 : decode cX9_bar 32 = .ok (.if_icmp .gt 54, 3) := by decide +kernel
theorem dX9_bar_35 : decode cX9_bar 35 = .ok (.aload_n 0, 1) := by decide +kernel
theorem dX9_bar_36 : decode cX9_bar 36 = .ok (.iload_n 1, 1) := by decide +kernel
theorem dX9_bar_37 : decode cX9_bar 37 = .ok (.iconst 5, 1) := by decide +kernel
theorem dX9_bar_38 : decode cX9_bar 38 = .ok (.iload_n 3, 1) := by decide +kernel
theorem dX9_bar_39 : decode cX9_bar 39 = .ok (.invokevirtual 322, 3) := by decide +kernel
theorem dX9_bar_42 : decode cX9_bar 42 = .ok (.lstore 4, 2) := by decide +kernel
theorem dX9_bar_44 : decode cX9_bar 44 = .ok (.lload 4, 2) := by decide +kernel
theorem dX9_bar_46 : decode cX9_bar 46 = .ok (.aload_n 0, 1) := by decide +kernel
theorem dX9_bar_47 : decode cX9_bar 47 = .ok (.getfield 315, 3) := by decide +kernel
theorem dX9_bar_50 : decode cX9_bar 50 = .ok (.invokestatic 59, 3) := by decide +kernel
theorem dX9_bar_53 : decode cX9_bar 53 = .ok (.lstore 6, 2) := by decide +kernel
theorem dX9_bar_55 : decode cX9_bar 55 = .ok (.lload 4, 2) := by decide +kernel
theorem dX9_bar_57 : decode cX9_bar 57 = .ok (.lload 6, 2) := by decide +kernel
theorem dX9_bar_59 : decode cX9_bar 59 = .ok (.ldiv, 1) := by decide +kernel
theorem dX9_bar_60 : decode cX9_bar 60 = .ok (.ldc2_w 326, 3) := by decide +kernel
theorem dX9_bar_63 : decode cX9_bar 63 = .ok (.lmul, 1) := by decide +kernel
theorem dX9_bar_64 : decode cX9_bar 64 = .ok (.iload_n 2, 1) := by decide +kernel
theorem dX9_bar_65 : decode cX9_bar 65 = .ok (.i2l, 1) := by decide +kernel
theorem dX9_bar_66 : decode cX9_bar 66 = .ok (.aload_n 0, 1) := by decide +kernel
theorem dX9_bar_67 : decode cX9_bar 67 = .ok (.getfield 315, 3) := by decide +kernel
theorem dX9_bar_70 : decode cX9_bar 70 = .ok (.lload 6, 2) := by decide +kernel
theorem dX9_bar_72 : decode cX9_bar 72 = .ok (.ldiv, 1) := by decide +kernel
theorem dX9_bar_73 : decode cX9_bar 73 = .ok (.lmul, 1) := by decide +kernel
theorem dX9_bar_74 : decode cX9_bar 74 = .ok (.lcmp, 1) := by decide +kernel
theorem dX9_bar_75 : decode cX9_bar 75 = .ok (.ifCond .gt 5, 3) := by decide +kernel
theorem dX9_bar_78 : decode cX9_bar 78 = .ok (.iload_n 3, 1) := by decide +kernel
theorem dX9_bar_79 : decode cX9_bar 79 = .ok (.ireturn, 1) := by decide +kernel
theorem dX9_bar_80 : decode cX9_bar 80 = .ok (.iinc 3 1, 3) := by decide +kernel
theorem dX9_bar_83 : decode cX9_bar 83 = .ok (.goto (-53), 3) := by decide +kernel
theorem dX9_bar_86 : decode cX9_bar 86 = .ok (.iload_n 1, 1) := by decide +kernel
theorem dX9_bar_87 : decode cX9_bar 87 = .ok (.iconst 1, 1) := by decide +kernel
theorem dX9_bar_88 : decode cX9_bar 88 = .ok (.iadd, 1) := by decide +kernel
theorem dX9_bar_89 : decode cX9_bar 89 = .ok (.ireturn, 1) := by decide +kernel
abbrev rmX9_bar : Room := { frames := 1, cells := 0, slots := 0, locals := 31 }
theorem inX9_bar_9 : ∀ w ∈ wsX90, w ∈ wsX9_bar := by decide +kernel
def vX9_bar_c30 (p1 : Int32) (p2 : Int32) (Q : Int32 → (Nat → Int32) → (Nat → Int64) → Prop) : Nat → Int32 → (Nat → Int32) → (Nat → Int64) → Prop
  | 0, _, _, _ => False
  | n + 1, x3, F, J => ((p1 < x3 → (Q (p1 + (1 : Int32)) F J)) ∧ (¬ p1 < x3 → (∃ (n_39 : Nat) (p_39 : Nat) (m_39 : Nat), preX9_upper n_39 p_39 m_39 F J p1 (5 : Int32) x3 ∧ (∀ (r_39 : Int64) (J_39 : Nat → Int64), postX9_upper n_39 p_39 m_39 F J p1 (5 : Int32) x3 r_39 J_39 → (∃ (a_50 : Nat) (b_50 : Nat), preX9_measure a_50 b_50 r_39 (J_39 28) ∧ (∀ r_50 : Int64, postX9_measure a_50 b_50 r_39 (J_39 28) r_50 → (¬ r_50 = 0 ∧ (¬ r_50 = 0 ∧ ((0 < (lg_cmp ((r_39 / r_50) * (1000 : Int64)) ((p2.toInt64) * ((J_39 28) / r_50))) → (vX9_bar_c30 p1 p2 Q n (x3 + (1 : Int32)) F J_39)) ∧ (¬ 0 < (lg_cmp ((r_39 / r_50) * (1000 : Int64)) ((p2.toInt64) * ((J_39 28) / r_50))) → (Q x3 F J_39)))))))))))
set_option maxHeartbeats 4000000 in
set_option maxRecDepth 100000 in
theorem kX9_bar_c30 {p : Program} {l : Launch} {e : Env} {s : State} {m : MethodId} {args : Array Value} {below : List Frame} {meth : Method} {c : Code} {g : GP} {qM : Nat} {q1 : Nat} {q2 : Nat} {q3 : Nat} {q4 : Nat} {q5 : Nat} {q6 : Nat} {q7 : Nat} {q8 : Nat} {q9 : Nat} {q10 : Nat} {q11 : Nat}  {p1 : Int32} {p2 : Int32} {Q : Int32 → (Nat → Int32) → (Nat → Int64) → Prop} {A : Nat → Prop} (S : CallFix p m c cX9_bar 8 s args wsX9_bar RX9) (hr : meth.sig.returnType = (some .int)) (hlocks : meth.locks = false) (hG : GK g s) (hA : ∀ q : Nat, s.heap.size ≤ q → A q) : ∀ (n : Nat), ∀ (x3 : Int32) (F : Nat → Int32) (J : Nat → Int64), vX9_bar_c30 p1 p2 Q n x3 F J → ∀ (H : Heap) (locs : List Loc), va_P g.1 vwCl [(qM, .inr (9, [.int (F 0), .ref q1, .ref q2, .ref q3, .int (F 4), .int (F 5), .int (F 6), .int (F 7), .int (F 8), .int (F 9), .long (J 10), .int (F 11), .int (F 12), .int (F 13), .ref q4, .int (F 15), .ref q5, .ref q6, .ref q7, .int (F 19), .ref q8, .int (F 21), .int (F 22), .int (F 23), .int (F 24), .ref q9, .ref q10, .ref q11, .long (J 28)]))] H → va_D A [(qM, .inr (9, [.int (F 0), .ref q1, .ref q2, .ref q3, .int (F 4), .int (F 5), .int (F 6), .int (F 7), .int (F 8), .int (F 9), .long (J 10), .int (F 11), .int (F 12), .int (F 13), .ref q4, .int (F 15), .ref q5, .ref q6, .ref q7, .int (F 19), .ref q8, .int (F 21), .int (F 22), .int (F 23), .int (F 24), .ref q9, .ref q10, .ref q11, .long (J 28)]))] → va_S A s.heap H locs → ∀ (ls : Array Slot), lv_has ls 8 [(0, .ref qM), (1, .int p1), (2, .int p2), (3, .int x3)] → W p l e (headSpec wsX9_bar rmX9_bar).room s m args below meth c H locs 0 0 (MQ below (va_Qi (fun (r : Int32) (u : (Nat → Int32) × (Nat → Int64)) => Q r u.1 u.2) (fun (u : (Nat → Int32) × (Nat → Int64)) t => va_P g.1 vwCl [(qM, .inr (9, [.int (u.1 0), .ref q1, .ref q2, .ref q3, .int (u.1 4), .int (u.1 5), .int (u.1 6), .int (u.1 7), .int (u.1 8), .int (u.1 9), .long (u.2 10), .int (u.1 11), .int (u.1 12), .int (u.1 13), .ref q4, .int (u.1 15), .ref q5, .ref q6, .ref q7, .int (u.1 19), .ref q8, .int (u.1 21), .int (u.1 22), .int (u.1 23), .int (u.1 24), .ref q9, .ref q10, .ref q11, .long (u.2 28)]))] t.heap ∧ va_D A [(qM, .inr (9, [.int (u.1 0), .ref q1, .ref q2, .ref q3, .int (u.1 4), .int (u.1 5), .int (u.1 6), .int (u.1 7), .int (u.1 8), .int (u.1 9), .long (u.2 10), .int (u.1 11), .int (u.1 12), .int (u.1 13), .ref q4, .int (u.1 15), .ref q5, .ref q6, .ref q7, .int (u.1 19), .ref q8, .int (u.1 21), .int (u.1 22), .int (u.1 23), .int (u.1 24), .ref q9, .ref q10, .ref q11, .long (u.2 28)]))]) A) args s 0 0 A) (F0 m 30 ls []) := by
  obtain ⟨hx, hb, hml, hown, hts⟩ := id S
  have hK := hG.1
  intro n
  induction n with
  | zero => intro x3 F J hv; exact hv.elim
  | succ n ih =>
    intro x3 F J hv H locs hP hD hS ls hl
    refine lv_iload_n hx hb dX9_bar_30 rfl (lv_at hl 3 rfl) ?_
    refine lv_iload_n hx hb dX9_bar_31 rfl (lv_at hl 1 rfl) ?_
    obtain ⟨hvt, hvf⟩ := hv
    refine lv_icmp_gt (tgt := 86) hx hb dX9_bar_32 (by decide) (fun hc => ?_) (fun hc => ?_)
    · have hv := hvt hc
      refine lv_iload_n hx hb dX9_bar_86 rfl (lv_at hl 1 rfl) ?_
      refine lv_iconst (v := (1 : Int32)) hx hb dX9_bar_87 (by decide) ?_
      refine lv_iadd hx hb dX9_bar_88 ?_
      have hP9 := hP.sub (ws' := [(qM, .inr (9, [.int (F 0), .ref q1, .ref q2, .ref q3, .int (F 4), .int (F 5), .int (F 6), .int (F 7), .int (F 8), .int (F 9), .long (J 10), .int (F 11), .int (F 12), .int (F 13), .ref q4, .int (F 15), .ref q5, .ref q6, .ref q7, .int (F 19), .ref q8, .int (F 21), .int (F 22), .int (F 23), .int (F 24), .ref q9, .ref q10, .ref q11, .long (J 28)]))]) [0] rfl
      have hD9 := hD.sub (ws' := [(qM, .inr (9, [.int (F 0), .ref q1, .ref q2, .ref q3, .int (F 4), .int (F 5), .int (F 6), .int (F 7), .int (F 8), .int (F 9), .long (J 10), .int (F 11), .int (F 12), .int (F 13), .ref q4, .int (F 15), .ref q5, .ref q6, .ref q7, .int (F 19), .ref q8, .int (F 21), .int (F 22), .int (F 23), .int (F 24), .ref q9, .ref q10, .ref q11, .long (J 28)]))]) [0] (by decide) rfl
      exact W.iret (v := (p1 + (1 : Int32))) hx hb hr (fun t ht hW => ⟨⟨_, (F, J), rfl, hv, by rw [ht]; exact hP9, hD9⟩, hS.F ht⟩) hS.2.2 dX9_bar_89
    · have hv := hvf hc
      refine lv_aload_n hx hb dX9_bar_35 rfl (lv_at hl 0 rfl) ?_
      refine lv_iload_n hx hb dX9_bar_36 rfl (lv_at hl 1 rfl) ?_
      refine lv_iconst (v := (5 : Int32)) hx hb dX9_bar_37 (by decide) ?_
      refine lv_iload_n hx hb dX9_bar_38 rfl (lv_at hl 3 rfl) ?_
      obtain ⟨n_39, p_39, m_39, ho_1, hv⟩ := hv
      have hPc := hP.sub (ws' := [(qM, .inr (9, [.int (F 0), .ref q1, .ref q2, .ref q3, .int (F 4), .int (F 5), .int (F 6), .int (F 7), .int (F 8), .int (F 9), .long (J 10), .int (F 11), .int (F 12), .int (F 13), .ref q4, .int (F 15), .ref q5, .ref q6, .ref q7, .int (F 19), .ref q8, .int (F 21), .int (F 22), .int (F 23), .int (F 24), .ref q9, .ref q10, .ref q11, .long (J 28)]))]) [0] rfl
      have hDc := hD.sub (ws' := [(qM, .inr (9, [.int (F 0), .ref q1, .ref q2, .ref q3, .int (F 4), .int (F 5), .int (F 6), .int (F 7), .int (F 8), .int (F 9), .long (J 10), .int (F 11), .int (F 12), .int (F 13), .ref q4, .int (F 15), .ref q5, .ref q6, .ref q7, .int (F 19), .ref q8, .int (F 21), .int (F 22), .int (F 23), .int (F 24), .ref q9, .ref q10, .ref q11, .long (J 28)]))]) [0] (by decide) rfl
      have hFc := va_free (wc := [(qM, .inr (9, [.int (F 0), .ref q1, .ref q2, .ref q3, .int (F 4), .int (F 5), .int (F 6), .int (F 7), .int (F 8), .int (F 9), .long (J 10), .int (F 11), .int (F 12), .int (F 13), .ref q4, .int (F 15), .ref q5, .ref q6, .ref q7, .int (F 19), .ref q8, .int (F 21), .int (F 22), .int (F 23), .int (F 24), .ref q9, .ref q10, .ref q11, .long (J 28)]))]) hD hS hA [0] rfl
      refine va_calll (va_runV (As := [.int p1, .int (5 : Int32), .int x3]) (rest := []) S (wX9_upper l g qM q1 q2 q3 q4 q5 q6 q7 q8 q9 q10 q11 H.size F J p1 (5 : Int32) x3 (sX9_upper n_39 p_39 m_39 F J p1 (5 : Int32) x3 ho_1)) (cwV 3 hts gX9_bar_X9_upper rfl rfl rfl (by decide +kernel) ⟨Nat.le_of_ble_eq_true rfl, Nat.le_of_ble_eq_true rfl⟩) ⟨blindRW, va_recv hK hP (ci := 9) (q0 := 0) rfl rfl, fun U hU hW => ⟨rfl, by rw [hU], by rw [hU]; exact hPc, hG.warm hW, hDc.weaken (fun _ _ _ _ => trivial)⟩⟩ rfl rfl hl.1 rfl (lv_room (Nat.le_of_ble_eq_true rfl)) dX9_bar_39 ⟨Nat.le_of_ble_eq_true rfl, Nat.le_of_ble_eq_true rfl⟩) hS (fun q _ h => hFc q h) hFc (fun r_39 u t H1 locs ht hvm hw hB hz1 hk1 hS => ?_)
      obtain ⟨J_39, rfl⟩ : ∃ z, z = u := ⟨_, rfl⟩
      obtain ⟨hP1, hD1⟩ := hB
      rw [ht] at hP1
      have hv := hv r_39 J_39 hw
      obtain ⟨hP, hD⟩ := va_join (wr := []) (w1 := [(qM, .inr (9, [.int (F 0), .ref q1, .ref q2, .ref q3, .int (F 4), .int (F 5), .int (F 6), .int (F 7), .int (F 8), .int (F 9), .long (J_39 10), .int (F 11), .int (F 12), .int (F 13), .ref q4, .int (F 15), .ref q5, .ref q6, .ref q7, .int (F 19), .ref q8, .int (F 21), .int (F 22), .int (F 23), .int (F 24), .ref q9, .ref q10, .ref q11, .long (J_39 28)]))]) hP hD [0] [] rfl rfl (by decide) (by decide) hk1 hFc hP1 hD1
      clear hP1 hD1 hPc hDc hFc hk1
      generalize H1 = H at hP hS ⊢
      have hP : va_P g.1 vwCl [(qM, .inr (9, [.int (F 0), .ref q1, .ref q2, .ref q3, .int (F 4), .int (F 5), .int (F 6), .int (F 7), .int (F 8), .int (F 9), .long (J_39 10), .int (F 11), .int (F 12), .int (F 13), .ref q4, .int (F 15), .ref q5, .ref q6, .ref q7, .int (F 19), .ref q8, .int (F 21), .int (F 22), .int (F 23), .int (F 24), .ref q9, .ref q10, .ref q11, .long (J_39 28)]))] H := hP
      have hD : va_D A [(qM, .inr (9, [.int (F 0), .ref q1, .ref q2, .ref q3, .int (F 4), .int (F 5), .int (F 6), .int (F 7), .int (F 8), .int (F 9), .long (J_39 10), .int (F 11), .int (F 12), .int (F 13), .ref q4, .int (F 15), .ref q5, .ref q6, .ref q7, .int (F 19), .ref q8, .int (F 21), .int (F 22), .int (F 23), .int (F 24), .ref q9, .ref q10, .ref q11, .long (J_39 28)]))] := hD
      refine lv_lstore (lv' := [(4, .long r_39), (0, .ref qM), (1, .int p1), (2, .int p2), (3, .int x3)]) hx hb dX9_bar_42 hl (by decide) rfl (fun ls hl => ?_)
      refine lv_lload hx hb dX9_bar_44 (lv_at hl 0 rfl) ?_
      refine lv_aload_n hx hb dX9_bar_46 rfl (lv_at hl 1 rfl) ?_
      refine va_get (D := g.1) (ci := 9) (v := .long (J_39 28)) (C := RX9) (T := TX9) (N := 29) hx hb hts inX9_bar_9 hown hK hP 0 rfl rfl 28 (by decide) (hts (.fieldLink RX9 315 "RangeCodesModel" "under" "J") (List.mem_of_getElem? (i := 2) rfl)) (fun _ h9 => h9) rfl dX9_bar_47 ?_
      obtain ⟨a_50, b_50, ho_2, hv⟩ := hv
      refine vp_callSl (W.runS (As := [.long r_39, .long (J_39 28)]) (rest := []) S (wX9_measure l g r_39 (J_39 28) (sX9_measure a_50 b_50 r_39 (J_39 28) ho_2)) (va_cwS 2 hts gX9_bar_X9_measure rfl rfl rfl (by decide +kernel) ⟨Nat.le_of_ble_eq_true rfl, Nat.le_of_ble_eq_true rfl⟩) ⟨blindRO, fun U hU hW => ⟨rfl, by rw [hU]; exact hP.sub (ws' := []) [] rfl, hG.warm hW⟩⟩ rfl rfl hl.1 rfl (lv_room (Nat.le_of_ble_eq_true rfl)) dX9_bar_50 ⟨Nat.le_of_ble_eq_true rfl, Nat.le_of_ble_eq_true rfl⟩) (fun r_50 hr_50 => ?_)
      have hv := hv r_50 hr_50
      refine lv_lstore (lv' := [(6, .long r_50), (4, .long r_39), (0, .ref qM), (1, .int p1), (2, .int p2), (3, .int x3)]) hx hb dX9_bar_53 hl (by decide) rfl (fun ls hl => ?_)
      refine lv_lload hx hb dX9_bar_55 (lv_at hl 1 rfl) ?_
      refine lv_lload hx hb dX9_bar_57 (lv_at hl 0 rfl) ?_
      obtain ⟨ho_3, hv⟩ := hv
      refine lv_ldiv hx hb dX9_bar_59 ho_3 ?_
      refine lv_ldc2 (v := (1000 : Int64)) hx hb hown (hts (.constantLong RX9 326 (1000)) (List.mem_of_getElem? (i := 3) rfl)) dX9_bar_60 ?_
      refine lv_lmul hx hb dX9_bar_63 ?_
      refine lv_iload_n hx hb dX9_bar_64 rfl (lv_at hl 4 rfl) ?_
      refine lv_i2l (v := (p2.toInt64)) hx hb dX9_bar_65 rfl ?_
      refine lv_aload_n hx hb dX9_bar_66 rfl (lv_at hl 2 rfl) ?_
      refine va_get (D := g.1) (ci := 9) (v := .long (J_39 28)) (C := RX9) (T := TX9) (N := 29) hx hb hts inX9_bar_9 hown hK hP 0 rfl rfl 28 (by decide) (hts (.fieldLink RX9 315 "RangeCodesModel" "under" "J") (List.mem_of_getElem? (i := 2) rfl)) (fun _ h9 => h9) rfl dX9_bar_67 ?_
      refine lv_lload hx hb dX9_bar_70 (lv_at hl 0 rfl) ?_
      obtain ⟨ho_4, hv⟩ := hv
      refine lv_ldiv hx hb dX9_bar_72 ho_4 ?_
      refine lv_lmul hx hb dX9_bar_73 ?_
      refine W.lcmp hx hb dX9_bar_74 ?_
      obtain ⟨hvt, hvf⟩ := hv
      refine lv_if_gt (tgt := 80) hx hb dX9_bar_75 (by decide) (fun hc => ?_) (fun hc => ?_)
      · have hv := hvt hc
        refine lv_iinc (v := (x3 + (1 : Int32))) (lv' := [(3, .int (x3 + (1 : Int32))), (6, .long r_50), (4, .long r_39), (0, .ref qM), (1, .int p1), (2, .int p2)]) hx hb dX9_bar_80 hl (k := 5) rfl rfl (by decide) rfl (fun ls hl => ?_)
        refine lv_goto (tgt := 30) hx hb dX9_bar_83 (by decide) ?_
        exact ih _ _ _ hv _ _ (hP.sub (ws' := [(qM, .inr (9, [.int (F 0), .ref q1, .ref q2, .ref q3, .int (F 4), .int (F 5), .int (F 6), .int (F 7), .int (F 8), .int (F 9), .long (J_39 10), .int (F 11), .int (F 12), .int (F 13), .ref q4, .int (F 15), .ref q5, .ref q6, .ref q7, .int (F 19), .ref q8, .int (F 21), .int (F 22), .int (F 23), .int (F 24), .ref q9, .ref q10, .ref q11, .long (J_39 28)]))]) [0] rfl) (hD.sub (ws' := [(qM, .inr (9, [.int (F 0), .ref q1, .ref q2, .ref q3, .int (F 4), .int (F 5), .int (F 6), .int (F 7), .int (F 8), .int (F 9), .long (J_39 10), .int (F 11), .int (F 12), .int (F 13), .ref q4, .int (F 15), .ref q5, .ref q6, .ref q7, .int (F 19), .ref q8, .int (F 21), .int (F 22), .int (F 23), .int (F 24), .ref q9, .ref q10, .ref q11, .long (J_39 28)]))]) [0] (by decide) rfl) hS ls (lv_sub hl [3, 4, 5, 0] rfl)
      · have hv := hvf hc
        refine lv_iload_n hx hb dX9_bar_78 rfl (lv_at hl 5 rfl) ?_
        have hP9 := hP.sub (ws' := [(qM, .inr (9, [.int (F 0), .ref q1, .ref q2, .ref q3, .int (F 4), .int (F 5), .int (F 6), .int (F 7), .int (F 8), .int (F 9), .long (J_39 10), .int (F 11), .int (F 12), .int (F 13), .ref q4, .int (F 15), .ref q5, .ref q6, .ref q7, .int (F 19), .ref q8, .int (F 21), .int (F 22), .int (F 23), .int (F 24), .ref q9, .ref q10, .ref q11, .long (J_39 28)]))]) [0] rfl
        have hD9 := hD.sub (ws' := [(qM, .inr (9, [.int (F 0), .ref q1, .ref q2, .ref q3, .int (F 4), .int (F 5), .int (F 6), .int (F 7), .int (F 8), .int (F 9), .long (J_39 10), .int (F 11), .int (F 12), .int (F 13), .ref q4, .int (F 15), .ref q5, .ref q6, .ref q7, .int (F 19), .ref q8, .int (F 21), .int (F 22), .int (F 23), .int (F 24), .ref q9, .ref q10, .ref q11, .long (J_39 28)]))]) [0] (by decide) rfl
        exact W.iret (v := x3) hx hb hr (fun t ht hW => ⟨⟨_, (F, J_39), rfl, hv, by rw [ht]; exact hP9, hD9⟩, hS.F ht⟩) hS.2.2 dX9_bar_79
def vX9_bar (F : Nat → Int32) (J : Nat → Int64) (p1 : Int32) (p2 : Int32) (Q : Int32 → (Nat → Int32) → (Nat → Int64) → Prop) : Prop := (preX9_in p1 (1 : Int32) (18 : Int32) ∧ (∀ r_9 : Int32, postX9_in p1 (1 : Int32) (18 : Int32) r_9 → ((r_9 = 0 → (Q (-1 : Int32) (upd F 0 (0 : Int32)) J)) ∧ (¬ r_9 = 0 → (preX9_in p2 (0 : Int32) (1000 : Int32) ∧ (∀ r_20 : Int32, postX9_in p2 (0 : Int32) (1000 : Int32) r_20 → ((¬ r_20 = 0 → (∃ nn, vX9_bar_c30 p1 p2 Q nn (0 : Int32) (upd F 0 (0 : Int32)) J)) ∧ (r_20 = 0 → (Q (-1 : Int32) (upd F 0 (0 : Int32)) J)))))))))
set_option maxHeartbeats 4000000 in
set_option maxRecDepth 100000 in
theorem wX9_bar (l : Launch) (g : GP) (qM : Nat) (q1 : Nat) (q2 : Nat) (q3 : Nat) (q4 : Nat) (q5 : Nat) (q6 : Nat) (q7 : Nat) (q8 : Nat) (q9 : Nat) (q10 : Nat) (q11 : Nat) (sz : Nat) (F : Nat → Int32) (J : Nat → Int64) (p1 : Int32) (p2 : Int32) {Q : Int32 → (Nat → Int32) → (Nat → Int64) → Prop} (hv : vX9_bar F J p1 p2 Q) : Met l yX9_bar wsX9_bar rmX9_bar (va_Pc [.ref qM, .int p1, .int p2] (fun U => U.heap.size = sz ∧ va_P g.1 vwCl [(qM, .inr (9, [.int (F 0), .ref q1, .ref q2, .ref q3, .int (F 4), .int (F 5), .int (F 6), .int (F 7), .int (F 8), .int (F 9), .long (J 10), .int (F 11), .int (F 12), .int (F 13), .ref q4, .int (F 15), .ref q5, .ref q6, .ref q7, .int (F 19), .ref q8, .int (F 21), .int (F 22), .int (F 23), .int (F 24), .ref q9, .ref q10, .ref q11, .long (J 28)]))] U.heap ∧ GK g U ∧ va_D (fun _ => True) [(qM, .inr (9, [.int (F 0), .ref q1, .ref q2, .ref q3, .int (F 4), .int (F 5), .int (F 6), .int (F 7), .int (F 8), .int (F 9), .long (J 10), .int (F 11), .int (F 12), .int (F 13), .ref q4, .int (F 15), .ref q5, .ref q6, .ref q7, .int (F 19), .ref q8, .int (F 21), .int (F 22), .int (F 23), .int (F 24), .ref q9, .ref q10, .ref q11, .long (J 28)]))])) (va_Qi (fun (r : Int32) (u : (Nat → Int32) × (Nat → Int64)) => Q r u.1 u.2) (fun (u : (Nat → Int32) × (Nat → Int64)) t => va_P g.1 vwCl [(qM, .inr (9, [.int (u.1 0), .ref q1, .ref q2, .ref q3, .int (u.1 4), .int (u.1 5), .int (u.1 6), .int (u.1 7), .int (u.1 8), .int (u.1 9), .long (u.2 10), .int (u.1 11), .int (u.1 12), .int (u.1 13), .ref q4, .int (u.1 15), .ref q5, .ref q6, .ref q7, .int (u.1 19), .ref q8, .int (u.1 21), .int (u.1 22), .int (u.1 23), .int (u.1 24), .ref q9, .ref q10, .ref q11, .long (u.2 28)]))] t.heap ∧ va_D (va_A [(qM, .inr (9, [.int (F 0), .ref q1, .ref q2, .ref q3, .int (F 4), .int (F 5), .int (F 6), .int (F 7), .int (F 8), .int (F 9), .long (J 10), .int (F 11), .int (F 12), .int (F 13), .ref q4, .int (F 15), .ref q5, .ref q6, .ref q7, .int (F 19), .ref q8, .int (F 21), .int (F 22), .int (F 23), .int (F 24), .ref q9, .ref q10, .ref q11, .long (J 28)]))] sz) [(qM, .inr (9, [.int (u.1 0), .ref q1, .ref q2, .ref q3, .int (u.1 4), .int (u.1 5), .int (u.1 6), .int (u.1 7), .int (u.1 8), .int (u.1 9), .long (u.2 10), .int (u.1 11), .int (u.1 12), .int (u.1 13), .ref q4, .int (u.1 15), .ref q5, .ref q6, .ref q7, .int (u.1 19), .ref q8, .int (u.1 21), .int (u.1 22), .int (u.1 23), .int (u.1 24), .ref q9, .ref q10, .ref q11, .long (u.2 28)]))]) (va_A [(qM, .inr (9, [.int (F 0), .ref q1, .ref q2, .ref q3, .int (F 4), .int (F 5), .int (F 6), .int (F 7), .int (F 8), .int (F 9), .long (J 10), .int (F 11), .int (F 12), .int (F 13), .ref q4, .int (F 15), .ref q5, .ref q6, .ref q7, .int (F 19), .ref q8, .int (F 21), .int (F 22), .int (F 23), .int (F 24), .ref q9, .ref q10, .ref q11, .long (J 28)]))] sz)) 0 0 (va_A [(qM, .inr (9, [.int (F 0), .ref q1, .ref q2, .ref q3, .int (F 4), .int (F 5), .int (F 6), .int (F 7), .int (F 8), .int (F 9), .long (J 10), .int (F 11), .int (F 12), .int (F 13), .ref q4, .int (F 15), .ref q5, .ref q6, .ref q7, .int (F 19), .ref q8, .int (F 21), .int (F 22), .int (F 23), .int (F 24), .ref q9, .ref q10, .ref q11, .long (J 28)]))] sz) := by
  refine Met.ofW (cc := cX9_bar) (maxL := 8) (ret := (some .int)) (by decide) rfl ?_
  intro p e s m args below meth c s₁ B hml hv'
  obtain ⟨rfl, hsz, hP, hG, hD0⟩ := hv'
  have S : CallFix p m c cX9_bar 8 s _ wsX9_bar RX9 := ⟨B.exec, B.bytes, hml, findClass_of_methodNamed B.named, atoms_spec (ws := wsX9_bar) B.pre⟩
  obtain ⟨hx, hb, hml, hown, hts⟩ := id S
  have hK := hG.1
  have hr := B.returns
  have hlocks := B.notSynchronized
  subst hsz
  have hD := hD0.self (sz := s.heap.size)
  generalize hAe : va_A [(qM, .inr (9, [.int (F 0), .ref q1, .ref q2, .ref q3, .int (F 4), .int (F 5), .int (F 6), .int (F 7), .int (F 8), .int (F 9), .long (J 10), .int (F 11), .int (F 12), .int (F 13), .ref q4, .int (F 15), .ref q5, .ref q6, .ref q7, .int (F 19), .ref q8, .int (F 21), .int (F 22), .int (F 23), .int (F 24), .ref q9, .ref q10, .ref q11, .long (J 28)]))] s.heap.size = A at hD ⊢
  have hA : ∀ q : Nat, s.heap.size ≤ q → A q := fun q h => by rw [← hAe]; exact Or.inr h
  have hS : va_S A s.heap s.heap [] := va_S.rf
  clear hD0 hAe
  have hl := lv_entry ([.ref qM, .int p1, .int p2]) (n := 8) (Nat.le_of_ble_eq_true rfl)
  rw [lg_entry_eq]
  generalize (lg_sl ([.ref qM, .int p1, .int p2]) ++ List.replicate (8 - (lg_sl ([.ref qM, .int p1, .int p2])).length) Slot.unset).toArray = ls at hl ⊢
  have hl : lv_has ls 8 [(0, .ref qM), (1, .int p1), (2, .int p2)] := hl
  unfold vX9_bar at hv
  refine lv_aload_n hx hb dX9_bar_0 rfl (lv_at hl 0 rfl) ?_
  refine lv_iconst (v := (0 : Int32)) hx hb dX9_bar_1 (by decide) ?_
  refine va_put (D := g.1) (ci := 9) (v := .int (0 : Int32)) (ty := .int) (C := RX9) (T := TX9) (N := 29) hx hb hts inX9_bar_9 tyX9 tyX9_ok nmX9 hown hK hP hD hS 0 rfl rfl 0 (by decide) (hts (.fieldLink RX9 51 "RangeCodesModel" "raised" "I") (List.mem_of_getElem? (i := 1) rfl)) (fun _ h9 => h9) rfl (by decide +kernel) rfl rfl (Nat.le_of_ble_eq_true rfl) dX9_bar_2 (fun H locs hP hD hS => ?_)
  have hP : va_P g.1 vwCl [(qM, .inr (9, [.int (0 : Int32), .ref q1, .ref q2, .ref q3, .int (F 4), .int (F 5), .int (F 6), .int (F 7), .int (F 8), .int (F 9), .long (J 10), .int (F 11), .int (F 12), .int (F 13), .ref q4, .int (F 15), .ref q5, .ref q6, .ref q7, .int (F 19), .ref q8, .int (F 21), .int (F 22), .int (F 23), .int (F 24), .ref q9, .ref q10, .ref q11, .long (J 28)]))] H := hP
  have hD : va_D A [(qM, .inr (9, [.int (0 : Int32), .ref q1, .ref q2, .ref q3, .int (F 4), .int (F 5), .int (F 6), .int (F 7), .int (F 8), .int (F 9), .long (J 10), .int (F 11), .int (F 12), .int (F 13), .ref q4, .int (F 15), .ref q5, .ref q6, .ref q7, .int (F 19), .ref q8, .int (F 21), .int (F 22), .int (F 23), .int (F 24), .ref q9, .ref q10, .ref q11, .long (J 28)]))] := hD
  refine lv_iload_n hx hb dX9_bar_5 rfl (lv_at hl 1 rfl) ?_
  refine lv_iconst (v := (1 : Int32)) hx hb dX9_bar_6 (by decide) ?_
  refine lv_bipush (v := (18 : Int32)) hx hb dX9_bar_7 (by decide) ?_
  obtain ⟨ho_1, hv⟩ := hv
  refine vp_callSi (W.runS (As := [.int p1, .int (1 : Int32), .int (18 : Int32)]) (rest := []) S (wX9_in l g p1 (1 : Int32) (18 : Int32) (sX9_in p1 (1 : Int32) (18 : Int32) ho_1)) (va_cwS 3 hts gX9_bar_X9_in rfl rfl rfl (by decide +kernel) ⟨Nat.le_of_ble_eq_true rfl, Nat.le_of_ble_eq_true rfl⟩) ⟨blindRO, fun U hU hW => ⟨rfl, by rw [hU]; exact hP.sub (ws' := []) [] rfl, hG.warm hW⟩⟩ rfl rfl hl.1 rfl (lv_room (Nat.le_of_ble_eq_true rfl)) dX9_bar_9 ⟨Nat.le_of_ble_eq_true rfl, Nat.le_of_ble_eq_true rfl⟩) (fun r_9 hr_9 => ?_)
  have hv := hv r_9 hr_9
  obtain ⟨hvt, hvf⟩ := hv
  refine lv_if_eq (tgt := 26) hx hb dX9_bar_12 (by decide) (fun hc => ?_) (fun hc => ?_)
  · have hv := hvt hc
    refine lv_iconst (v := (-1 : Int32)) hx hb dX9_bar_26 (by decide) ?_
    have hP9 := hP.sub (ws' := [(qM, .inr (9, [.int ((upd F 0 (0 : Int32)) 0), .ref q1, .ref q2, .ref q3, .int ((upd F 0 (0 : Int32)) 4), .int ((upd F 0 (0 : Int32)) 5), .int ((upd F 0 (0 : Int32)) 6), .int ((upd F 0 (0 : Int32)) 7), .int ((upd F 0 (0 : Int32)) 8), .int ((upd F 0 (0 : Int32)) 9), .long (J 10), .int ((upd F 0 (0 : Int32)) 11), .int ((upd F 0 (0 : Int32)) 12), .int ((upd F 0 (0 : Int32)) 13), .ref q4, .int ((upd F 0 (0 : Int32)) 15), .ref q5, .ref q6, .ref q7, .int ((upd F 0 (0 : Int32)) 19), .ref q8, .int ((upd F 0 (0 : Int32)) 21), .int ((upd F 0 (0 : Int32)) 22), .int ((upd F 0 (0 : Int32)) 23), .int ((upd F 0 (0 : Int32)) 24), .ref q9, .ref q10, .ref q11, .long (J 28)]))]) [0] rfl
    have hD9 := hD.sub (ws' := [(qM, .inr (9, [.int ((upd F 0 (0 : Int32)) 0), .ref q1, .ref q2, .ref q3, .int ((upd F 0 (0 : Int32)) 4), .int ((upd F 0 (0 : Int32)) 5), .int ((upd F 0 (0 : Int32)) 6), .int ((upd F 0 (0 : Int32)) 7), .int ((upd F 0 (0 : Int32)) 8), .int ((upd F 0 (0 : Int32)) 9), .long (J 10), .int ((upd F 0 (0 : Int32)) 11), .int ((upd F 0 (0 : Int32)) 12), .int ((upd F 0 (0 : Int32)) 13), .ref q4, .int ((upd F 0 (0 : Int32)) 15), .ref q5, .ref q6, .ref q7, .int ((upd F 0 (0 : Int32)) 19), .ref q8, .int ((upd F 0 (0 : Int32)) 21), .int ((upd F 0 (0 : Int32)) 22), .int ((upd F 0 (0 : Int32)) 23), .int ((upd F 0 (0 : Int32)) 24), .ref q9, .ref q10, .ref q11, .long (J 28)]))]) [0] (by decide) rfl
    exact W.iret (v := (-1 : Int32)) hx hb hr (fun t ht hW => ⟨⟨_, ((upd F 0 (0 : Int32)), J), rfl, hv, by rw [ht]; exact hP9, hD9⟩, hS.F ht⟩) hS.2.2 dX9_bar_27
  · have hv := hvf hc
    refine lv_iload_n hx hb dX9_bar_15 rfl (lv_at hl 2 rfl) ?_
    refine lv_iconst (v := (0 : Int32)) hx hb dX9_bar_16 (by decide) ?_
    refine lv_sipush (v := (1000 : Int32)) hx hb dX9_bar_17 (by decide) ?_
    obtain ⟨ho_2, hv⟩ := hv
    refine vp_callSi (W.runS (As := [.int p2, .int (0 : Int32), .int (1000 : Int32)]) (rest := []) S (wX9_in l g p2 (0 : Int32) (1000 : Int32) (sX9_in p2 (0 : Int32) (1000 : Int32) ho_2)) (va_cwS 3 hts gX9_bar_X9_in rfl rfl rfl (by decide +kernel) ⟨Nat.le_of_ble_eq_true rfl, Nat.le_of_ble_eq_true rfl⟩) ⟨blindRO, fun U hU hW => ⟨rfl, by rw [hU]; exact hP.sub (ws' := []) [] rfl, hG.warm hW⟩⟩ rfl rfl hl.1 rfl (lv_room (Nat.le_of_ble_eq_true rfl)) dX9_bar_20 ⟨Nat.le_of_ble_eq_true rfl, Nat.le_of_ble_eq_true rfl⟩) (fun r_20 hr_20 => ?_)
    have hv := hv r_20 hr_20
    obtain ⟨hvt, hvf⟩ := hv
    refine lv_if_ne (tgt := 28) hx hb dX9_bar_23 (by decide) (fun hc => ?_) (fun hc => ?_)
    · have hv := hvt hc
      refine lv_iconst (v := (0 : Int32)) hx hb dX9_bar_28 (by decide) ?_
      refine lv_istore_n (lv' := [(3, .int (0 : Int32)), (0, .ref qM), (1, .int p1), (2, .int p2)]) hx hb dX9_bar_29 rfl hl (by decide) rfl (fun ls hl => ?_)
      obtain ⟨nn, hv⟩ := hv
      exact kX9_bar_c30 S hr hlocks hG hA nn _ _ _ hv _ _ (hP.sub (ws' := [(qM, .inr (9, [.int ((upd F 0 (0 : Int32)) 0), .ref q1, .ref q2, .ref q3, .int ((upd F 0 (0 : Int32)) 4), .int ((upd F 0 (0 : Int32)) 5), .int ((upd F 0 (0 : Int32)) 6), .int ((upd F 0 (0 : Int32)) 7), .int ((upd F 0 (0 : Int32)) 8), .int ((upd F 0 (0 : Int32)) 9), .long (J 10), .int ((upd F 0 (0 : Int32)) 11), .int ((upd F 0 (0 : Int32)) 12), .int ((upd F 0 (0 : Int32)) 13), .ref q4, .int ((upd F 0 (0 : Int32)) 15), .ref q5, .ref q6, .ref q7, .int ((upd F 0 (0 : Int32)) 19), .ref q8, .int ((upd F 0 (0 : Int32)) 21), .int ((upd F 0 (0 : Int32)) 22), .int ((upd F 0 (0 : Int32)) 23), .int ((upd F 0 (0 : Int32)) 24), .ref q9, .ref q10, .ref q11, .long (J 28)]))]) [0] rfl) (hD.sub (ws' := [(qM, .inr (9, [.int ((upd F 0 (0 : Int32)) 0), .ref q1, .ref q2, .ref q3, .int ((upd F 0 (0 : Int32)) 4), .int ((upd F 0 (0 : Int32)) 5), .int ((upd F 0 (0 : Int32)) 6), .int ((upd F 0 (0 : Int32)) 7), .int ((upd F 0 (0 : Int32)) 8), .int ((upd F 0 (0 : Int32)) 9), .long (J 10), .int ((upd F 0 (0 : Int32)) 11), .int ((upd F 0 (0 : Int32)) 12), .int ((upd F 0 (0 : Int32)) 13), .ref q4, .int ((upd F 0 (0 : Int32)) 15), .ref q5, .ref q6, .ref q7, .int ((upd F 0 (0 : Int32)) 19), .ref q8, .int ((upd F 0 (0 : Int32)) 21), .int ((upd F 0 (0 : Int32)) 22), .int ((upd F 0 (0 : Int32)) 23), .int ((upd F 0 (0 : Int32)) 24), .ref q9, .ref q10, .ref q11, .long (J 28)]))]) [0] (by decide) rfl) hS ls (lv_sub hl [1, 2, 3, 0] rfl)
    · have hv := hvf hc
      refine lv_iconst (v := (-1 : Int32)) hx hb dX9_bar_26 (by decide) ?_
      have hP9 := hP.sub (ws' := [(qM, .inr (9, [.int ((upd F 0 (0 : Int32)) 0), .ref q1, .ref q2, .ref q3, .int ((upd F 0 (0 : Int32)) 4), .int ((upd F 0 (0 : Int32)) 5), .int ((upd F 0 (0 : Int32)) 6), .int ((upd F 0 (0 : Int32)) 7), .int ((upd F 0 (0 : Int32)) 8), .int ((upd F 0 (0 : Int32)) 9), .long (J 10), .int ((upd F 0 (0 : Int32)) 11), .int ((upd F 0 (0 : Int32)) 12), .int ((upd F 0 (0 : Int32)) 13), .ref q4, .int ((upd F 0 (0 : Int32)) 15), .ref q5, .ref q6, .ref q7, .int ((upd F 0 (0 : Int32)) 19), .ref q8, .int ((upd F 0 (0 : Int32)) 21), .int ((upd F 0 (0 : Int32)) 22), .int ((upd F 0 (0 : Int32)) 23), .int ((upd F 0 (0 : Int32)) 24), .ref q9, .ref q10, .ref q11, .long (J 28)]))]) [0] rfl
      have hD9 := hD.sub (ws' := [(qM, .inr (9, [.int ((upd F 0 (0 : Int32)) 0), .ref q1, .ref q2, .ref q3, .int ((upd F 0 (0 : Int32)) 4), .int ((upd F 0 (0 : Int32)) 5), .int ((upd F 0 (0 : Int32)) 6), .int ((upd F 0 (0 : Int32)) 7), .int ((upd F 0 (0 : Int32)) 8), .int ((upd F 0 (0 : Int32)) 9), .long (J 10), .int ((upd F 0 (0 : Int32)) 11), .int ((upd F 0 (0 : Int32)) 12), .int ((upd F 0 (0 : Int32)) 13), .ref q4, .int ((upd F 0 (0 : Int32)) 15), .ref q5, .ref q6, .ref q7, .int ((upd F 0 (0 : Int32)) 19), .ref q8, .int ((upd F 0 (0 : Int32)) 21), .int ((upd F 0 (0 : Int32)) 22), .int ((upd F 0 (0 : Int32)) 23), .int ((upd F 0 (0 : Int32)) 24), .ref q9, .ref q10, .ref q11, .long (J 28)]))]) [0] (by decide) rfl
      exact W.iret (v := (-1 : Int32)) hx hb hr (fun t ht hW => ⟨⟨_, ((upd F 0 (0 : Int32)), J), rfl, hv, by rw [ht]; exact hP9, hD9⟩, hS.F ht⟩) hS.2.2 dX9_bar_27
theorem ba_red {u w a c g : Nat} (hg : 0 < g) (hu : g ∣ u) (hw : g ∣ w) : u / g * a ≤ c * (w / g) ↔ u * a ≤ c * w := by
  obtain ⟨x, rfl⟩ := hu
  obtain ⟨y, rfl⟩ := hw
  rw [Nat.mul_div_cancel_left x hg, Nat.mul_div_cancel_left y hg, Nat.mul_assoc, Nat.mul_left_comm c g y]
  exact (Nat.mul_le_mul_left_iff hg).symm
theorem ba_m {n q m : Nat} (hm : m ≤ n) : us n 5 m (n + 1) * 1000 ≤ q * 10 ^ n ↔ tpW n (n + 1 - m) * 1000 ≤ q * 2 ^ n := by
  have e := us_5 (n := n) (n + 1 - m) (by omega)
  rw [show n + 1 - (n + 1 - m) = m by omega] at e
  have e10 : 10 ^ n = 5 ^ n * 2 ^ n := by rw [← Nat.mul_pow]
  rw [e, e10, Nat.mul_comm (tpW n (n + 1 - m)), Nat.mul_assoc, Nat.mul_left_comm q]
  exact Nat.mul_le_mul_left_iff (Nat.pow_pos (by decide))
theorem sX9_bar_30 (n q : Nat) (p1 p2 : Int32) (h1 : p1.toInt = (n : Int)) (hn1 : 1 ≤ n) (hn : n ≤ 18) (h2 : p2.toInt = (q : Int)) (hq : q ≤ 1000) (Q : Int32 → (Nat → Int32) → (Nat → Int64) → Prop) (hQ : ∀ (r : Int32) F' J', r.toInt = ((n + 1 - fa_first (baB n (q * 2 ^ n)) (n + 1) : Nat) : Int) → Q r F' J') : ∀ (f m : Nat) (x3 : Int32) (F : Nat → Int32) (J : Nat → Int64), x3.toInt = (m : Int) → (∀ i, i < m → ¬ tpW n (n + 1 - i) * 1000 ≤ q * 2 ^ n) → m ≤ n + 1 → n + 2 ≤ m + f → vX9_bar_c30 p1 p2 Q f x3 F J
  | 0, m, x3, F, J, _, _, hm, hf => absurd hf (by omega)
  | f + 1, m, x3, F, J, h3, hb, hm, hf => by
    have h10 := p10_le hn
    have hff : ∀ k, k ≤ n + 1 → (∀ i, i < k → ¬ tpW n (n + 1 - i) * 1000 ≤ q * 2 ^ n) → (k = n + 1 ∨ tpW n (n + 1 - k) * 1000 ≤ q * 2 ^ n) → fa_first (baB n (q * 2 ^ n)) (n + 1) = n + 1 - k := by
      intro k hk hno hyes
      have ok : ∀ i, i < n + 1 - k → baB n (q * 2 ^ n) i = false := fun i hi => by
        rcases hyes with z | z
        · omega
        · have hmono := tpW_k n (i + 1) (n + 1 - k) (by omega)
          exact decide_eq_false (fun w => w (Nat.le_trans (Nat.mul_le_mul_right 1000 hmono) z))
      rcases Nat.eq_zero_or_pos k with z | z
      · subst z
        exact ff_none ok
      · refine ff_eq (by omega) (decide_eq_true ?_) ok
        have := hno (k - 1) (by omega)
        rw [show n + 1 - (k - 1) = n + 1 - k + 1 by omega] at this
        exact this
    rw [vX9_bar_c30, q_lt h1 h3]
    refine ⟨fun hc => hQ _ _ _ ?_, fun hc => ⟨n, 5, m, ⟨h1, hn, rfl, by omega, h3⟩, fun u J2 hu => ?_⟩⟩
    · have : m = n + 1 := by omega
      subst this
      rw [hff (n + 1) (Nat.le_refl _) hb (Or.inl rfl), q_1 h1 (by omega)]
      omega
    · obtain ⟨hu, hJ⟩ := hu
      refine ⟨_, _, ⟨hu, hJ⟩, fun g hg => ?_⟩
      have hg : g.toInt = ((Nat.gcd (us n 5 m (n + 1)) (10 ^ n) : Nat) : Int) := hg
      have hul := us_le hn (show 5 ≤ 10 by omega) m (Nat.le_refl (n + 1))
      have ce := ch_end (c := 0) hul (Nat.pow_pos (by decide)) h10 hu hJ hg
      have hul2 : us n 5 m (n + 1) / Nat.gcd (us n 5 m (n + 1)) (10 ^ n) * 1000 < 9223372036854775808 := by
        have e5 : us n 5 m (n + 1) = tpW n (n + 1 - m) * 5 ^ n := by
          have e := us_5 (n := n) (n + 1 - m) (by omega)
          rw [show n + 1 - (n + 1 - m) = m by omega] at e; exact e
        have h5 : 5 ^ n ∣ Nat.gcd (us n 5 m (n + 1)) (10 ^ n) := Nat.dvd_gcd (by rw [e5]; exact Nat.dvd_mul_left _ _) (by rw [show 10 ^ n = 5 ^ n * 2 ^ n by rw [← Nat.mul_pow]]; exact Nat.dvd_mul_right _ _)
        have h5l := Nat.le_of_dvd ce.1 h5
        have hdv : us n 5 m (n + 1) / Nat.gcd (us n 5 m (n + 1)) (10 ^ n) ≤ us n 5 m (n + 1) / 5 ^ n := Nat.div_le_div_left h5l (Nat.pow_pos (by decide))
        have hdv2 : us n 5 m (n + 1) / 5 ^ n = tpW n (n + 1 - m) := by rw [e5]; exact Nat.mul_div_cancel _ (Nat.pow_pos (by decide))
        have := tpW_le hn (n + 1 - m) (by omega)
        omega
      have hwl2 : q * (10 ^ n / Nat.gcd (us n 5 m (n + 1)) (10 ^ n)) < 9223372036854775808 := by
        have e5 : us n 5 m (n + 1) = tpW n (n + 1 - m) * 5 ^ n := by
          have e := us_5 (n := n) (n + 1 - m) (by omega)
          rw [show n + 1 - (n + 1 - m) = m by omega] at e; exact e
        have h5 : 5 ^ n ∣ Nat.gcd (us n 5 m (n + 1)) (10 ^ n) := Nat.dvd_gcd (by rw [e5]; exact Nat.dvd_mul_left _ _) (by rw [show 10 ^ n = 5 ^ n * 2 ^ n by rw [← Nat.mul_pow]]; exact Nat.dvd_mul_right _ _)
        have h5l := Nat.le_of_dvd ce.1 h5
        have hdv : 10 ^ n / Nat.gcd (us n 5 m (n + 1)) (10 ^ n) ≤ 10 ^ n / 5 ^ n := Nat.div_le_div_left h5l (Nat.pow_pos (by decide))
        have hdv2 : 10 ^ n / 5 ^ n = 2 ^ n := by rw [show 10 ^ n = 5 ^ n * 2 ^ n by rw [← Nat.mul_pow]]; exact Nat.mul_div_cancel_left _ (Nat.pow_pos (by decide))
        have hp2 : 2 ^ n ≤ 262144 := Nat.pow_le_pow_right (n := 2) (by decide) hn
        have := Nat.mul_le_mul hq (Nat.le_trans hdv (by rw [hdv2]; exact hp2))
        omega
      have e1 := q_lmulN (y := (1000 : Int64)) (b := 1000) ce.2.1 rfl hul2
      have e2 := q_lmulN (q_i2l h2) ce.2.2 hwl2
      rw [q_l0 hg, lg_cmp_gt, Int64.lt_iff_toInt_lt, e1, e2]
      have hiff := (ba_red (a := 1000) (c := q) ce.1 (Nat.gcd_dvd_left (us n 5 m (n + 1)) (10 ^ n)) (Nat.gcd_dvd_right (us n 5 m (n + 1)) (10 ^ n))).trans (ba_m (q := q) (show m ≤ n by omega))
      refine ⟨by have := ce.1; omega, by have := ce.1; omega, fun hz => sX9_bar_30 n q p1 p2 h1 hn1 hn h2 hq Q hQ f (m + 1) _ _ _ (q_1 h3 (by omega)) (fun i hi => ?_) (by omega) (by omega), fun hz => hQ _ _ _ ?_⟩
      · by_cases e : i = m
        · subst e; exact fun w => by have := hiff.mpr w; omega
        · exact hb i (by omega)
      · rw [hff m hm hb (Or.inr (hiff.mp (by omega)))]
        rw [h3]; omega
abbrev preX9_bar (F : Nat → Int32) (J : Nat → Int64) (p1 : Int32) (p2 : Int32) : Prop := True
abbrev postX9_bar (F : Nat → Int32) (J : Nat → Int64) (p1 : Int32) (p2 : Int32) (r : Int32) (F' : Nat → Int32) (J' : Nat → Int64) : Prop := r.toInt = spBar p1.toInt p2.toInt
theorem sX9_bar (F : Nat → Int32) (J : Nat → Int64) (p1 : Int32) (p2 : Int32) (H : preX9_bar F J p1 p2) : vX9_bar F J p1 p2 (postX9_bar F J p1 p2) := by
  have no : ¬ ((1 ≤ p1.toInt ∧ p1.toInt ≤ 18) ∧ (0 ≤ p2.toInt ∧ p2.toInt ≤ 1000)) → (-1 : Int32).toInt = spBar p1.toInt p2.toInt := fun q => by
    unfold spBar; rw [if_neg q]; rfl
  refine ⟨trivial, fun r hr => ?_⟩
  have hr : r = if 1 ≤ p1.toInt ∧ p1.toInt ≤ 18 then 1 else 0 := hr
  rw [hr, q_if1]
  refine ⟨fun a => no (fun q => a q.1), fun a => ⟨trivial, fun r2 hr2 => ?_⟩⟩
  have a := Decidable.not_not.mp a
  have hr2 : r2 = if 0 ≤ p2.toInt ∧ p2.toInt ≤ 1000 then 1 else 0 := hr2
  rw [hr2, q_if1]
  refine ⟨fun b => ?_, fun b => no (fun q => b q.2)⟩
  have b := Decidable.not_not.mp b
  refine ⟨p1.toInt.toNat + 2, sX9_bar_30 p1.toInt.toNat p2.toInt.toNat p1 p2 (by omega) (by omega) (by omega) (by omega) (by omega) _ (fun r3 F' J' hr3 => ?_) _ 0 0 _ _ rfl (fun i hi => absurd hi (by omega)) (by omega) (by omega)⟩
  have hfl := fa_first_le (baB p1.toInt.toNat (p2.toInt.toNat * 2 ^ p1.toInt.toNat)) (p1.toInt.toNat + 1)
  show r3.toInt = spBar p1.toInt p2.toInt
  unfold spBar
  rw [if_pos ⟨a, b⟩, hr3]
  generalize fa_first (baB p1.toInt.toNat (p2.toInt.toNat * 2 ^ p1.toInt.toNat)) (p1.toInt.toNat + 1) = z at hfl ⊢
  clear hr3
  omega
