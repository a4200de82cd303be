def pcsL : List (List Cond) := [wsL_law0_r1, wsL_law0_r2, wsL_law0_r3, wsL_law0_r4, wsL_law0_r5, wsL_law0_r6, wsL_law0_r7, wsL_law0_r8, wsL_law0_r9, wsL_law0_r10, wsL_law0_r11, wsL_law0_r12, wsL_law0_r13, wsL_law0_r14, wsL_law0_r15, wsL_law0_r16, wsL_law0_r17, wsL_law0_r18, wsL_law0_r19, wsL_law0_r20, wsL_law0_r21, wsL_law0_r22, wsL_law0_r23, wsL_law0_r24, wsL_law0_r25, wsL_law0_r26, wsL_law0_r27, wsL_law0_r28, wsL_law0_r29, wsL_law0_r30, wsL_law0_r31, wsL_law0_r32, wsL_law0_r33, wsL_law0_r34, wsL_law0_r35, wsL_law0_r36, wsL_law0_r37, wsL_law0_r38, wsL_law0_r39, wsL_law0_r40, wsL_law0_r41, wsL_law0_r42, wsL_law0_r43, wsL_law0_r44, wsL_law0_r45, wsL_law0_r46, wsL_law0_r47, wsL_law0_r48, wsL_law0_r49, wsL_law0_r50, wsL_law0_r51, wsL_law0_r52, wsX80, wsX90, wsX20, wsX40, wsX00, wsX50, wsX30, wsX60, wsX70, wsX10, xAt.filter goodWord]
theorem pcsL_eq : wsLw = pcsL.flatten := by
  unfold wsLw wsL_law0 pcsL
  simp only [List.flatten_cons, List.flatten_nil, List.append_assoc, List.append_nil, List.nil_append]
theorem goodIn_q {ws : List Cond} (ps : List (Nat × Nat)) (hp : ws = ps.filterMap (fun q => (pcsL.getD q.1 [])[q.2]?)) (h : ws.all goodWord = true) : GoodIn wsLw ws := by
  intro w hw
  have h1 := List.all_eq_true.mp h w hw
  rw [hp] at hw
  obtain ⟨q, -, hi⟩ := List.mem_filterMap.mp hw
  have hm : w ∈ pcsL.getD q.1 [] := List.mem_of_getElem? hi
  refine ⟨?_, good_of_word h1⟩
  rw [pcsL_eq]
  by_cases hq : q.1 < pcsL.length
  · rw [List.getD_eq_getElem?_getD, List.getElem?_eq_getElem hq] at hm
    exact List.mem_flatten.mpr ⟨_, List.getElem_mem hq, hm⟩
  · rw [List.getD_eq_getElem?_getD, List.getElem?_eq_none (Nat.not_lt.mp hq)] at hm
    cases hm
