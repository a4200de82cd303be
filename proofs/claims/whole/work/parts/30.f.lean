set_option maxHeartbeats 4000000 in
set_option maxRecDepth 100000 in
theorem uM_write (l : Launch) (g : GP) (v : GV) (qM : Nat) (s : St) (p1 : Int64) : UCi l g v yX9_write wsX9_write rmX9_write qM [.long p1] 0 0 (MAt g qM s) (fun r u => r.toInt = spWrite (pgN s.1) p1 ∧ MAt g qM (nWr s.1 p1, s.2) u) := by
  rintro w sz ⟨a, F, J, f, pl, rfl, hR⟩
  refine mxI (X := (mC g qM a F J f)) (pl := pl) (w2 := fun u => (mC g qM a u.1 J (va_up (va_up f 0 u.2.1) 1 u.2.2))) (wX9_write l g qM (a 0) (a 1) (a 2) (a 3) (a 4) (a 5) (a 6) (a 7) (a 8) (a 9) (a 10) sz F J (f 0) (f 1) p1 (sX9_write F J (f 0) (f 1) p1 ⟨by rw [hR.1.2.1]; omega, by have := hR.1.2.2.1; rw [hR.1.2.1]; omega⟩)) [0, 1, 2] [3, 4, 5, 6, 7, 8, 9, 10, 11] [9, 10, 11, 0, 1, 2, 3, 4, 5, 6, 7, 8] rfl rfl rfl (by decide) (by decide) (by decide) (by decide) (fun u => rfl) (fun r u h => ?_)
  obtain ⟨h1, h2, h3, h4⟩ := h
  have e : ((f 0) 2).toInt.toNat = pgN s.1 := by rw [hR.1.2.1]; omega
  rw [e] at h1 h2 h4
  have hR2 : RM (nWr s.1 p1, s.2) u.2.1 u.2.2 (f 2) := by rw [h4]; exact RM_wr hR h2 h3
  exact ⟨h1, a, u.1, J, (va_up (va_up f 0 u.2.1) 1 u.2.2), pl, rfl, hR2⟩
set_option maxHeartbeats 4000000 in
set_option maxRecDepth 100000 in
theorem uM_tune (l : Launch) (g : GP) (v : GV) (qM : Nat) (s : St)  : UCi l g v yX9_tune wsX9_tune rmX9_tune qM [] 0 0 (MAt g qM s) (fun r u => r.toInt = spTune (pgX s.1) (pgN s.1) ∧ MAt g qM (nTu s.1, s.2) u) := by
  rintro w sz ⟨a, F, J, f, pl, rfl, hR⟩
  refine mxI (X := (mC g qM a F J f)) (pl := pl) (w2 := fun u => (mC g qM a u.1 u.2.1 (va_up (va_up f 0 u.2.2.1) 3 u.2.2.2))) (wX9_tune l g qM (a 0) (a 1) (a 2) (a 3) (a 4) (a 5) (a 6) (a 7) (a 8) (a 9) (a 10) sz F J (f 0) (f 1) (f 3) (sX9_tune (pgT s.1) (pgA s.1) (pgB s.1) (pgL s.1) (pgX s.1) (pgN s.1) F J (f 0) (f 1) (f 3) ⟨hR.1.1, hR.1.2.1, hR.1.2.2.1, hR.1.2.2.2.2.2⟩)) [0, 1, 2, 4] [3, 5, 6, 7, 8, 9, 10, 11] [8, 9, 10, 0, 11, 1, 2, 3, 4, 5, 6, 7] rfl rfl rfl (by decide) (by decide) (by decide) (by decide) (fun u => rfl) (fun r u h => ?_)
  exact ⟨h.1, a, u.1, u.2.1, (va_up (va_up f 0 u.2.2.1) 3 u.2.2.2), pl, rfl, RM_tu hR h.2.1 h.2.2.1 h.2.2.2.1 h.2.2.2.2.1 h.2.2.2.2.2⟩
set_option maxHeartbeats 4000000 in
set_option maxRecDepth 100000 in
theorem uM_fault (l : Launch) (g : GP) (v : GV) (qM : Nat) (s : St) (p1 : Int32) : UCi l g v yX9_fault wsX9_fault rmX9_fault qM [.int p1] 0 0 (MAt g qM s) (fun r u => r.toInt = spFault s.1 p1.toInt ∧ MAt g qM s u) := by
  rintro w sz ⟨a, F, J, f, pl, rfl, hR⟩
  refine mxI (X := (mC g qM a F J f)) (pl := pl) (w2 := fun u => (mC g qM a u J f)) (wX9_fault l g qM (a 0) (a 1) (a 2) (a 3) (a 4) (a 5) (a 6) (a 7) (a 8) (a 9) (a 10) sz F J (f 0) p1 (sX9_fault F J (f 0) p1 trivial)) [0, 1] [2, 3, 4, 5, 6, 7, 8, 9, 10, 11] [10, 11, 0, 1, 2, 3, 4, 5, 6, 7, 8, 9] rfl rfl rfl (by decide) (by decide) (by decide) (by decide) (fun u => rfl) (fun r u h => ?_)
  have h : r = if p1.toInt = 0 then (f 0) 3 else (f 0) 4 := h
  refine ⟨?_, a, u, J, f, pl, rfl, hR⟩
  unfold spFault
  rw [h]
  by_cases c : p1.toInt = 0
  · rw [if_pos c, if_pos c]; exact hR.1.2.2.2.1
  · rw [if_neg c, if_neg c]; exact hR.1.2.2.2.2.1
set_option maxHeartbeats 4000000 in
set_option maxRecDepth 100000 in
theorem uM_set (l : Launch) (g : GP) (v : GV) (qM : Nat) (s : St) (p1 : Int32) (p2 : Int32) (p3 : Int32) : UCi l g v yX9_set wsX9_set rmX9_set qM [.int p1, .int p2, .int p3] 0 0 (MAt g qM s) (fun r u => r.toInt = spSet (pgA s.1) (pgB s.1) p1.toInt p2.toInt p3.toInt ∧ MAt g qM (nSe s.1 p1.toInt p2.toInt p3.toInt, s.2) u) := by
  rintro w sz ⟨a, F, J, f, pl, rfl, hR⟩
  refine mxI (X := (mC g qM a F J f)) (pl := pl) (w2 := fun u => (mC g qM a u.1 J (va_up f 0 u.2))) (wX9_set l g qM (a 0) (a 1) (a 2) (a 3) (a 4) (a 5) (a 6) (a 7) (a 8) (a 9) (a 10) sz F J (f 0) p1 p2 p3 (sX9_set (pgT s.1) (pgA s.1) (pgB s.1) (pgL s.1) F J (f 0) p1 p2 p3 hR.1.1)) [0, 1] [2, 3, 4, 5, 6, 7, 8, 9, 10, 11] [10, 11, 0, 1, 2, 3, 4, 5, 6, 7, 8, 9] rfl rfl rfl (by decide) (by decide) (by decide) (by decide) (fun u => rfl) (fun r u h => ?_)
  exact ⟨h.1, a, u.1, J, (va_up f 0 u.2), pl, rfl, RM_kp hR h.2.1 h.2.2⟩
set_option maxHeartbeats 4000000 in
set_option maxRecDepth 100000 in
theorem uM_vote (l : Launch) (g : GP) (v : GV) (qM : Nat) (s : St) (p1 : Int32) (p2 : Int32) : UCi l g v yX9_vote wsX9_vote rmX9_vote qM [.int p1, .int p2] 0 0 (MAt g qM s) (fun r u => r.toInt = spVote (pgT s.1) p1.toInt p2.toInt ∧ MAt g qM (nVo s.1 p1.toInt p2.toInt, s.2) u) := by
  rintro w sz ⟨a, F, J, f, pl, rfl, hR⟩
  refine mxI (X := (mC g qM a F J f)) (pl := pl) (w2 := fun u => (mC g qM a u.1 J (va_up f 0 u.2))) (wX9_vote l g qM (a 0) (a 1) (a 2) (a 3) (a 4) (a 5) (a 6) (a 7) (a 8) (a 9) (a 10) sz F J (f 0) p1 p2 (sX9_vote (pgT s.1) (pgA s.1) (pgB s.1) (pgL s.1) F J (f 0) p1 p2 hR.1.1)) [0, 1] [2, 3, 4, 5, 6, 7, 8, 9, 10, 11] [10, 11, 0, 1, 2, 3, 4, 5, 6, 7, 8, 9] rfl rfl rfl (by decide) (by decide) (by decide) (by decide) (fun u => rfl) (fun r u h => ?_)
  exact ⟨h.1, a, u.1, J, (va_up f 0 u.2), pl, rfl, RM_kp hR h.2.1 h.2.2⟩
set_option maxHeartbeats 4000000 in
set_option maxRecDepth 100000 in
theorem uM_limit (l : Launch) (g : GP) (v : GV) (qM : Nat) (s : St) (p1 : Int32) : UCi l g v yX9_limit wsX9_limit rmX9_limit qM [.int p1] 0 0 (MAt g qM s) (fun r u => r.toInt = spLimit (pgL s.1) p1.toInt ∧ MAt g qM (nLi s.1 p1.toInt, s.2) u) := by
  rintro w sz ⟨a, F, J, f, pl, rfl, hR⟩
  refine mxI (X := (mC g qM a F J f)) (pl := pl) (w2 := fun u => (mC g qM a u.1 J (va_up f 0 u.2))) (wX9_limit l g qM (a 0) (a 1) (a 2) (a 3) (a 4) (a 5) (a 6) (a 7) (a 8) (a 9) (a 10) sz F J (f 0) p1 (sX9_limit (pgT s.1) (pgA s.1) (pgB s.1) (pgL s.1) F J (f 0) p1 hR.1.1)) [0, 1] [2, 3, 4, 5, 6, 7, 8, 9, 10, 11] [10, 11, 0, 1, 2, 3, 4, 5, 6, 7, 8, 9] rfl rfl rfl (by decide) (by decide) (by decide) (by decide) (fun u => rfl) (fun r u h => ?_)
  exact ⟨h.1, a, u.1, J, (va_up f 0 u.2), pl, rfl, RM_kp hR h.2.1 h.2.2⟩
set_option maxHeartbeats 4000000 in
set_option maxRecDepth 100000 in
theorem uM_mark (l : Launch) (g : GP) (v : GV) (qM : Nat) (s : St) (p1 : Int32) (p2 : Int32) (p3 : Int32) : UCi l g v yX9_mark wsX9_mark rmX9_mark qM [.int p1, .int p2, .int p3] 0 0 (MAt g qM s) (fun r u => r.toInt = spMark (pgA s.1) (pgB s.1) p1.toInt p2.toInt p3.toInt ∧ MAt g qM (nMa s.1 p1.toInt p2.toInt p3.toInt, s.2) u) := by
  rintro w sz ⟨a, F, J, f, pl, rfl, hR⟩
  refine mxI (X := (mC g qM a F J f)) (pl := pl) (w2 := fun u => (mC g qM a u.1 J (va_up f 0 u.2))) (wX9_mark l g qM (a 0) (a 1) (a 2) (a 3) (a 4) (a 5) (a 6) (a 7) (a 8) (a 9) (a 10) sz F J (f 0) p1 p2 p3 (sX9_mark (pgT s.1) (pgA s.1) (pgB s.1) (pgL s.1) F J (f 0) p1 p2 p3 hR.1.1)) [0, 1] [2, 3, 4, 5, 6, 7, 8, 9, 10, 11] [10, 11, 0, 1, 2, 3, 4, 5, 6, 7, 8, 9] rfl rfl rfl (by decide) (by decide) (by decide) (by decide) (fun u => rfl) (fun r u h => ?_)
  exact ⟨h.1, a, u.1, J, (va_up f 0 u.2), pl, rfl, RM_kp hR h.2.1 h.2.2⟩
set_option maxHeartbeats 4000000 in
set_option maxRecDepth 100000 in
theorem uM_clean (l : Launch) (g : GP) (v : GV) (qM : Nat) (s : St) (p1 : Int32) : UCi l g v yX9_clean wsX9_clean rmX9_clean qM [.int p1] 0 0 (MAt g qM s) (fun r u => r.toInt = spClean (pgA s.1) (pgB s.1) p1.toInt ∧ MAt g qM (nCl s.1 p1.toInt, s.2) u) := by
  rintro w sz ⟨a, F, J, f, pl, rfl, hR⟩
  refine mxI (X := (mC g qM a F J f)) (pl := pl) (w2 := fun u => (mC g qM a u.1 J (va_up f 0 u.2))) (wX9_clean l g qM (a 0) (a 1) (a 2) (a 3) (a 4) (a 5) (a 6) (a 7) (a 8) (a 9) (a 10) sz F J (f 0) p1 (sX9_clean (pgT s.1) (pgA s.1) (pgB s.1) (pgL s.1) F J (f 0) p1 hR.1.1)) [0, 1] [2, 3, 4, 5, 6, 7, 8, 9, 10, 11] [10, 11, 0, 1, 2, 3, 4, 5, 6, 7, 8, 9] rfl rfl rfl (by decide) (by decide) (by decide) (by decide) (fun u => rfl) (fun r u h => ?_)
  exact ⟨h.1, a, u.1, J, (va_up f 0 u.2), pl, rfl, RM_kp hR h.2.1 h.2.2⟩
set_option maxHeartbeats 4000000 in
set_option maxRecDepth 100000 in
theorem uM_turn (l : Launch) (g : GP) (v : GV) (qM : Nat) (s : St) (p1 : Int32) (p2 : Int32) : UCi l g v yX9_turn wsX9_turn rmX9_turn qM [.int p1, .int p2] 0 0 (MAt g qM s) (fun r u => r.toInt = spTurn (pgT s.1) p1.toInt p2.toInt ∧ MAt g qM (nTr s.1 p1.toInt p2.toInt, s.2) u) := by
  rintro w sz ⟨a, F, J, f, pl, rfl, hR⟩
  refine mxI (X := (mC g qM a F J f)) (pl := pl) (w2 := fun u => (mC g qM a u.1 J (va_up f 0 u.2))) (wX9_turn l g qM (a 0) (a 1) (a 2) (a 3) (a 4) (a 5) (a 6) (a 7) (a 8) (a 9) (a 10) sz F J (f 0) p1 p2 (sX9_turn (pgT s.1) (pgA s.1) (pgB s.1) (pgL s.1) F J (f 0) p1 p2 hR.1.1)) [0, 1] [2, 3, 4, 5, 6, 7, 8, 9, 10, 11] [10, 11, 0, 1, 2, 3, 4, 5, 6, 7, 8, 9] rfl rfl rfl (by decide) (by decide) (by decide) (by decide) (fun u => rfl) (fun r u h => ?_)
  exact ⟨h.1, a, u.1, J, (va_up f 0 u.2), pl, rfl, RM_kp hR h.2.1 h.2.2⟩
set_option maxHeartbeats 4000000 in
set_option maxRecDepth 100000 in
theorem uM_swap (l : Launch) (g : GP) (v : GV) (qM : Nat) (s : St) (p1 : Int32) (p2 : Int32) : UCi l g v yX9_swap wsX9_swap rmX9_swap qM [.int p1, .int p2] 0 0 (MAt g qM s) (fun r u => r.toInt = spSwap (pgT s.1) p1.toInt p2.toInt ∧ MAt g qM (nSw s.1 p1.toInt p2.toInt, s.2) u) := by
  rintro w sz ⟨a, F, J, f, pl, rfl, hR⟩
  refine mxI (X := (mC g qM a F J f)) (pl := pl) (w2 := fun u => (mC g qM a u.1 J (va_up f 0 u.2))) (wX9_swap l g qM (a 0) (a 1) (a 2) (a 3) (a 4) (a 5) (a 6) (a 7) (a 8) (a 9) (a 10) sz F J (f 0) p1 p2 (sX9_swap (pgT s.1) (pgA s.1) (pgB s.1) (pgL s.1) F J (f 0) p1 p2 hR.1.1)) [0, 1] [2, 3, 4, 5, 6, 7, 8, 9, 10, 11] [10, 11, 0, 1, 2, 3, 4, 5, 6, 7, 8, 9] rfl rfl rfl (by decide) (by decide) (by decide) (by decide) (fun u => rfl) (fun r u h => ?_)
  exact ⟨h.1, a, u.1, J, (va_up f 0 u.2), pl, rfl, RM_kp hR h.2.1 h.2.2⟩
set_option maxHeartbeats 4000000 in
set_option maxRecDepth 100000 in
theorem uM_enough (l : Launch) (g : GP) (v : GV) (qM : Nat) (s : St) (p1 : Int32) : UCi l g v yX9_enough wsX9_enough rmX9_enough qM [.int p1] 0 0 (MAt g qM s) (fun r u => r.toInt = spEnough (pgT s.1) (pgL s.1) p1.toInt ∧ MAt g qM s u) := by
  rintro w sz ⟨a, F, J, f, pl, rfl, hR⟩
  refine mxI (X := (mC g qM a F J f)) (pl := pl) (w2 := fun u => (mC g qM a u J f)) (wX9_enough l g qM (a 0) (a 1) (a 2) (a 3) (a 4) (a 5) (a 6) (a 7) (a 8) (a 9) (a 10) sz F J (f 0) p1 (sX9_enough (pgT s.1) (pgA s.1) (pgB s.1) (pgL s.1) F J (f 0) p1 hR.1.1)) [0, 1] [2, 3, 4, 5, 6, 7, 8, 9, 10, 11] [10, 11, 0, 1, 2, 3, 4, 5, 6, 7, 8, 9] rfl rfl rfl (by decide) (by decide) (by decide) (by decide) (fun u => rfl) (fun r u h => ?_)
  exact ⟨h, a, u, J, f, pl, rfl, hR⟩
set_option maxHeartbeats 4000000 in
set_option maxRecDepth 100000 in
theorem uM_better (l : Launch) (g : GP) (v : GV) (qM : Nat) (s : St) (p1 : Int32) (p2 : Int32) : UCi l g v yX9_better wsX9_better rmX9_better qM [.int p1, .int p2] 0 0 (MAt g qM s) (fun r u => r.toInt = spBetter (pgT s.1) p1.toInt p2.toInt ∧ MAt g qM s u) := by
  rintro w sz ⟨a, F, J, f, pl, rfl, hR⟩
  refine mxI (X := (mC g qM a F J f)) (pl := pl) (w2 := fun u => (mC g qM a u.1 J (va_up (va_up (va_up f 0 u.2.1) 4 u.2.2.1) 5 u.2.2.2))) (wX9_better l g qM (a 0) (a 1) (a 2) (a 3) (a 4) (a 5) (a 6) (a 7) (a 8) (a 9) (a 10) sz F J (f 0) (f 4) (f 5) p1 p2 (sX9_better (pgT s.1) (pgA s.1) (pgB s.1) (pgL s.1) F J (f 0) (f 4) (f 5) p1 p2 hR.1.1)) [0, 1, 5, 6] [2, 3, 4, 7, 8, 9, 10, 11] [8, 9, 0, 1, 2, 10, 11, 3, 4, 5, 6, 7] rfl rfl rfl (by decide) (by decide) (by decide) (by decide) (fun u => rfl) (fun r u h => ?_)
  exact ⟨h.1, a, u.1, J, (va_up (va_up (va_up f 0 u.2.1) 4 u.2.2.1) 5 u.2.2.2), pl, rfl, by rw [h.2]; exact hR⟩
set_option maxHeartbeats 4000000 in
set_option maxRecDepth 100000 in
theorem uM_code (l : Launch) (g : GP) (v : GV) (qM : Nat) (s : St) (p1 : Int32) : UCi l g v yX9_code wsX9_code rmX9_code qM [.int p1] 0 0 (MAt g qM s) (fun r u => r.toInt = spCode (pgT s.1) (pgL s.1) (pgN s.1) p1.toInt ∧ MAt g qM s u) := by
  rintro w sz ⟨a, F, J, f, pl, rfl, hR⟩
  refine mxI (X := (mC g qM a F J f)) (pl := pl) (w2 := fun u => (mC g qM a u J f)) (wX9_code l g qM (a 0) (a 1) (a 2) (a 3) (a 4) (a 5) (a 6) (a 7) (a 8) (a 9) (a 10) sz F J (f 0) p1 (sX9_code (pgT s.1) (pgA s.1) (pgB s.1) (pgL s.1) F J (f 0) p1 ⟨hR.1.1, by rw [hR.1.2.1]; omega⟩)) [0, 1] [2, 3, 4, 5, 6, 7, 8, 9, 10, 11] [10, 11, 0, 1, 2, 3, 4, 5, 6, 7, 8, 9] rfl rfl rfl (by decide) (by decide) (by decide) (by decide) (fun u => rfl) (fun r u h => ?_)
  have e : ((f 0) 2).toInt.toNat = pgN s.1 := by rw [hR.1.2.1]; omega
  refine ⟨?_, a, u, J, f, pl, rfl, hR⟩
  rw [← e]; exact h
set_option maxHeartbeats 4000000 in
set_option maxRecDepth 100000 in
theorem uM_chip (l : Launch) (g : GP) (v : GV) (qM : Nat) (s : St) (p1 : Int32) : UCi l g v yX9_chip wsX9_chip rmX9_chip qM [.int p1] 0 0 (MAt g qM s) (fun r u => r.toInt = (if coB (pgT s.1) p1.toInt then 1 else 0) ∧ MAt g qM s u) := by
  rintro w sz ⟨a, F, J, f, pl, rfl, hR⟩
  refine mxI (X := (mC g qM a F J f)) (pl := pl) (w2 := fun u => (mC g qM a u J f)) (wX9_chip l g qM (a 0) (a 1) (a 2) (a 3) (a 4) (a 5) (a 6) (a 7) (a 8) (a 9) (a 10) sz F J (f 0) p1 (sX9_chip (pgT s.1) (pgA s.1) (pgB s.1) (pgL s.1) F J (f 0) p1 hR.1.1)) [0, 1] [2, 3, 4, 5, 6, 7, 8, 9, 10, 11] [10, 11, 0, 1, 2, 3, 4, 5, 6, 7, 8, 9] rfl rfl rfl (by decide) (by decide) (by decide) (by decide) (fun u => rfl) (fun r u h => ?_)
  exact ⟨h, a, u, J, f, pl, rfl, hR⟩
set_option maxHeartbeats 4000000 in
set_option maxRecDepth 100000 in
theorem uM_full (l : Launch) (g : GP) (v : GV) (qM : Nat) (s : St) (p1 : Int32) (p2 : Int32) : UCi l g v yX9_full wsX9_full rmX9_full qM [.int p1, .int p2] 0 0 (MAt g qM s) (fun r u => r.toInt = spFull (pgT s.1) p1.toInt p2.toInt ∧ MAt g qM s u) := by
  rintro w sz ⟨a, F, J, f, pl, rfl, hR⟩
  refine mxI (X := (mC g qM a F J f)) (pl := pl) (w2 := fun u => (mC g qM a u.1 J (va_up (va_up f 4 u.2.1) 5 u.2.2))) (wX9_full l g qM (a 0) (a 1) (a 2) (a 3) (a 4) (a 5) (a 6) (a 7) (a 8) (a 9) (a 10) sz F J (f 0) (f 4) (f 5) p1 p2 (sX9_full (pgT s.1) (pgA s.1) (pgB s.1) (pgL s.1) F J (f 0) (f 4) (f 5) p1 p2 hR.1.1)) [0, 1, 5, 6] [2, 3, 4, 7, 8, 9, 10, 11] [8, 9, 0, 1, 2, 10, 11, 3, 4, 5, 6, 7] rfl rfl rfl (by decide) (by decide) (by decide) (by decide) (fun u => rfl) (fun r u h => ?_)
  exact ⟨h, a, u.1, J, (va_up (va_up f 4 u.2.1) 5 u.2.2), pl, rfl, hR⟩
set_option maxHeartbeats 4000000 in
set_option maxRecDepth 100000 in
theorem uM_leg (l : Launch) (g : GP) (v : GV) (qM : Nat) (s : St) (p1 : Int32) (p2 : Int32) : UCi l g v yX9_leg wsX9_leg rmX9_leg qM [.int p1, .int p2] 0 0 (MAt g qM s) (fun r u => r.toInt = spLeg (pgT s.1) (pgA s.1) (pgB s.1) (pgL s.1) p1.toInt p2.toInt ∧ MAt g qM s u) := by
  rintro w sz ⟨a, F, J, f, pl, rfl, hR⟩
  refine mxI (X := (mC g qM a F J f)) (pl := pl) (w2 := fun u => (mC g qM a u.1 J (va_up (va_up f 6 u.2.1) 7 u.2.2))) (wX9_leg l g qM (a 0) (a 1) (a 2) (a 3) (a 4) (a 5) (a 6) (a 7) (a 8) (a 9) (a 10) sz F J (f 0) (f 6) (f 7) p1 p2 (sX9_leg (pgT s.1) (pgA s.1) (pgB s.1) (pgL s.1) F J (f 0) (f 6) (f 7) p1 p2 hR.1.1)) [0, 1, 7, 8] [2, 3, 4, 5, 6, 9, 10, 11] [8, 9, 0, 1, 2, 3, 4, 10, 11, 5, 6, 7] rfl rfl rfl (by decide) (by decide) (by decide) (by decide) (fun u => rfl) (fun r u h => ?_)
  exact ⟨h, a, u.1, J, (va_up (va_up f 6 u.2.1) 7 u.2.2), pl, rfl, hR⟩
set_option maxHeartbeats 4000000 in
set_option maxRecDepth 100000 in
theorem uM_heard (l : Launch) (g : GP) (v : GV) (qM : Nat) (s : St) (p1 : Int32) (p2 : Int32) : UCi l g v yX9_heard wsX9_heard rmX9_heard qM [.int p1, .int p2] 0 0 (MAt g qM s) (fun r u => r.toInt = spHeard (pgT s.1) (pgA s.1) (pgB s.1) (pgL s.1) p1.toInt p2.toInt ∧ MAt g qM s u) := by
  rintro w sz ⟨a, F, J, f, pl, rfl, hR⟩
  refine mxI (X := (mC g qM a F J f)) (pl := pl) (w2 := fun u => (mC g qM a u.1 J (va_up (va_up f 6 u.2.1) 7 u.2.2))) (wX9_heard l g qM (a 0) (a 1) (a 2) (a 3) (a 4) (a 5) (a 6) (a 7) (a 8) (a 9) (a 10) sz F J (f 0) (f 6) (f 7) p1 p2 (sX9_heard (pgT s.1) (pgA s.1) (pgB s.1) (pgL s.1) F J (f 0) (f 6) (f 7) p1 p2 hR.1.1)) [0, 1, 7, 8] [2, 3, 4, 5, 6, 9, 10, 11] [8, 9, 0, 1, 2, 3, 4, 10, 11, 5, 6, 7] rfl rfl rfl (by decide) (by decide) (by decide) (by decide) (fun u => rfl) (fun r u h => ?_)
  exact ⟨h, a, u.1, J, (va_up (va_up f 6 u.2.1) 7 u.2.2), pl, rfl, hR⟩
set_option maxHeartbeats 4000000 in
set_option maxRecDepth 100000 in
theorem uM_match (l : Launch) (g : GP) (v : GV) (qM : Nat) (s : St) (p1 : Int32) (p2 : Int32) (p3 : Int32) : UCi l g v yX9_match wsX9_match rmX9_match qM [.int p1, .int p2, .int p3] 0 0 (MAt g qM s) (fun r u => r.toInt = spMatch (pgT s.1) (pgA s.1) (pgB s.1) (pgL s.1) p1.toInt p2.toInt p3.toInt ∧ MAt g qM s u) := by
  rintro w sz ⟨a, F, J, f, pl, rfl, hR⟩
  refine mxI (X := (mC g qM a F J f)) (pl := pl) (w2 := fun u => (mC g qM a u.1 J (va_up (va_up f 6 u.2.1) 7 u.2.2))) (wX9_match l g qM (a 0) (a 1) (a 2) (a 3) (a 4) (a 5) (a 6) (a 7) (a 8) (a 9) (a 10) sz F J (f 0) (f 6) (f 7) p1 p2 p3 (sX9_match (pgT s.1) (pgA s.1) (pgB s.1) (pgL s.1) F J (f 0) (f 6) (f 7) p1 p2 p3 hR.1.1)) [0, 1, 7, 8] [2, 3, 4, 5, 6, 9, 10, 11] [8, 9, 0, 1, 2, 3, 4, 10, 11, 5, 6, 7] rfl rfl rfl (by decide) (by decide) (by decide) (by decide) (fun u => rfl) (fun r u h => ?_)
  exact ⟨h, a, u.1, J, (va_up (va_up f 6 u.2.1) 7 u.2.2), pl, rfl, hR⟩
set_option maxHeartbeats 4000000 in
set_option maxRecDepth 100000 in
theorem uM_best (l : Launch) (g : GP) (v : GV) (qM : Nat) (s : St) (p1 : Int32) (p2 : Int32) (p3 : Int32) : UCi l g v yX9_best wsX9_best rmX9_best qM [.int p1, .int p2, .int p3] 0 0 (MAt g qM s) (fun r u => r.toInt = spBest (pgT s.1) (pgA s.1) (pgB s.1) (pgL s.1) p1.toInt p2.toInt p3.toInt ∧ MAt g qM s u) := by
  rintro w sz ⟨a, F, J, f, pl, rfl, hR⟩
  refine mxI (X := (mC g qM a F J f)) (pl := pl) (w2 := fun u => (mC g qM a u.1 J (va_up (va_up f 6 u.2.1) 7 u.2.2))) (wX9_best l g qM (a 0) (a 1) (a 2) (a 3) (a 4) (a 5) (a 6) (a 7) (a 8) (a 9) (a 10) sz F J (f 0) (f 6) (f 7) p1 p2 p3 (sX9_best (pgT s.1) (pgA s.1) (pgB s.1) (pgL s.1) F J (f 0) (f 6) (f 7) p1 p2 p3 hR.1.1)) [0, 1, 7, 8] [2, 3, 4, 5, 6, 9, 10, 11] [8, 9, 0, 1, 2, 3, 4, 10, 11, 5, 6, 7] rfl rfl rfl (by decide) (by decide) (by decide) (by decide) (fun u => rfl) (fun r u h => ?_)
  exact ⟨h, a, u.1, J, (va_up (va_up f 6 u.2.1) 7 u.2.2), pl, rfl, hR⟩
