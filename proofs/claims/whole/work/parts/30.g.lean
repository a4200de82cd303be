set_option maxHeartbeats 4000000 in
set_option maxRecDepth 100000 in
theorem uM_fragile (l : Launch) (g : GP) (v : GV) (qM : Nat) (s : St) (p1 : Int32) (p2 : Int32) : UCi l g v yX9_fragile wsX9_fragile rmX9_fragile qM [.int p1, .int p2] 0 0 (MAt g qM s) (fun r u => r.toInt = spFragile (pgT s.1) (pgA s.1) (pgB s.1) (pgL s.1) p1.toInt p2.toInt ∧ MAt g qM s u) := by
  rintro w sz ⟨a, F, J, f, pl, rfl, hR⟩
  refine mxI (X := (mC g qM a F J f)) (pl := pl) (w2 := fun u => (mC g qM a u.1 J (va_up (va_up f 6 u.2.1) 7 u.2.2))) (wX9_fragile l g qM (a 0) (a 1) (a 2) (a 3) (a 4) (a 5) (a 6) (a 7) (a 8) (a 9) (a 10) sz F J (f 0) (f 6) (f 7) p1 p2 (sX9_fragile (pgT s.1) (pgA s.1) (pgB s.1) (pgL s.1) F J (f 0) (f 6) (f 7) p1 p2 hR.1.1)) [0, 1, 7, 8] [2, 3, 4, 5, 6, 9, 10, 11] [8, 9, 0, 1, 2, 3, 4, 10, 11, 5, 6, 7] rfl rfl rfl (by decide) (by decide) (by decide) (by decide) (fun u => rfl) (fun r u h => ?_)
  exact ⟨h, a, u.1, J, (va_up (va_up f 6 u.2.1) 7 u.2.2), pl, rfl, hR⟩
set_option maxHeartbeats 4000000 in
set_option maxRecDepth 100000 in
theorem uM_right (l : Launch) (g : GP) (v : GV) (qM : Nat) (s : St) (p1 : Int32) : UCi l g v yX9_right wsX9_right rmX9_right qM [.int p1] 0 0 (MAt g qM s) (fun r u => r.toInt = spRight (pgT s.1) (pgA s.1) (pgB s.1) (pgL s.1) p1.toInt ∧ MAt g qM s u) := by
  rintro w sz ⟨a, F, J, f, pl, rfl, hR⟩
  refine mxI (X := (mC g qM a F J f)) (pl := pl) (w2 := fun u => (mC g qM a u.1 J (va_up (va_up f 6 u.2.1) 7 u.2.2))) (wX9_right l g qM (a 0) (a 1) (a 2) (a 3) (a 4) (a 5) (a 6) (a 7) (a 8) (a 9) (a 10) sz F J (f 0) (f 6) (f 7) p1 (sX9_right (pgT s.1) (pgA s.1) (pgB s.1) (pgL s.1) F J (f 0) (f 6) (f 7) p1 hR.1.1)) [0, 1, 7, 8] [2, 3, 4, 5, 6, 9, 10, 11] [8, 9, 0, 1, 2, 3, 4, 10, 11, 5, 6, 7] rfl rfl rfl (by decide) (by decide) (by decide) (by decide) (fun u => rfl) (fun r u h => ?_)
  exact ⟨h, a, u.1, J, (va_up (va_up f 6 u.2.1) 7 u.2.2), pl, rfl, hR⟩
set_option maxHeartbeats 4000000 in
set_option maxRecDepth 100000 in
theorem uM_joined (l : Launch) (g : GP) (v : GV) (qM : Nat) (s : St) (p1 : Int32) (p2 : Int32) : UCi l g v yX9_joined wsX9_joined rmX9_joined qM [.int p1, .int p2] 0 0 (MAt g qM s) (fun r u => r.toInt = spJoined (pgT s.1) (pgA s.1) (pgB s.1) (pgL s.1) p1.toInt p2.toInt ∧ MAt g qM s u) := by
  rintro w sz ⟨a, F, J, f, pl, rfl, hR⟩
  refine mxI (X := (mC g qM a F J f)) (pl := pl) (w2 := fun u => (mC g qM a u.1 J (va_up (va_up f 6 u.2.1) 7 u.2.2))) (wX9_joined l g qM (a 0) (a 1) (a 2) (a 3) (a 4) (a 5) (a 6) (a 7) (a 8) (a 9) (a 10) sz F J (f 0) (f 6) (f 7) p1 p2 (sX9_joined (pgT s.1) (pgA s.1) (pgB s.1) (pgL s.1) F J (f 0) (f 6) (f 7) p1 p2 hR.1.1)) [0, 1, 7, 8] [2, 3, 4, 5, 6, 9, 10, 11] [8, 9, 0, 1, 2, 3, 4, 10, 11, 5, 6, 7] rfl rfl rfl (by decide) (by decide) (by decide) (by decide) (fun u => rfl) (fun r u h => ?_)
  exact ⟨h, a, u.1, J, (va_up (va_up f 6 u.2.1) 7 u.2.2), pl, rfl, hR⟩
set_option maxHeartbeats 4000000 in
set_option maxRecDepth 100000 in
theorem uM_found (l : Launch) (g : GP) (v : GV) (qM : Nat) (s : St) (p1 : Int32) (p2 : Int32) : UCi l g v yX9_found wsX9_found rmX9_found qM [.int p1, .int p2] 0 0 (MAt g qM s) (fun r u => r.toInt = spFound (pgT s.1) (pgA s.1) (pgB s.1) (pgL s.1) p1.toInt p2.toInt ∧ MAt g qM s u) := by
  rintro w sz ⟨a, F, J, f, pl, rfl, hR⟩
  refine mxI (X := (mC g qM a F J f)) (pl := pl) (w2 := fun u => (mC g qM a u.1 J (va_up (va_up f 6 u.2.1) 7 u.2.2))) (wX9_found l g qM (a 0) (a 1) (a 2) (a 3) (a 4) (a 5) (a 6) (a 7) (a 8) (a 9) (a 10) sz F J (f 0) (f 6) (f 7) p1 p2 (sX9_found (pgT s.1) (pgA s.1) (pgB s.1) (pgL s.1) F J (f 0) (f 6) (f 7) p1 p2 hR.1.1)) [0, 1, 7, 8] [2, 3, 4, 5, 6, 9, 10, 11] [8, 9, 0, 1, 2, 3, 4, 10, 11, 5, 6, 7] rfl rfl rfl (by decide) (by decide) (by decide) (by decide) (fun u => rfl) (fun r u h => ?_)
  exact ⟨h, a, u.1, J, (va_up (va_up f 6 u.2.1) 7 u.2.2), pl, rfl, hR⟩
set_option maxHeartbeats 4000000 in
set_option maxRecDepth 100000 in
theorem uM_guess (l : Launch) (g : GP) (v : GV) (qM : Nat) (s : St) (p1 : Int32) (p2 : Int32) : UCi l g v yX9_guess wsX9_guess rmX9_guess qM [.int p1, .int p2] 0 0 (MAt g qM s) (fun r u => r.toInt = spGuess (pgT s.1) (pgA s.1) (pgB s.1) (pgL s.1) p1.toInt p2.toInt ∧ MAt g qM s u) := by
  rintro w sz ⟨a, F, J, f, pl, rfl, hR⟩
  refine mxI (X := (mC g qM a F J f)) (pl := pl) (w2 := fun u => (mC g qM a u.1 J (va_up (va_up f 6 u.2.1) 7 u.2.2))) (wX9_guess l g qM (a 0) (a 1) (a 2) (a 3) (a 4) (a 5) (a 6) (a 7) (a 8) (a 9) (a 10) sz F J (f 0) (f 6) (f 7) p1 p2 (sX9_guess (pgT s.1) (pgA s.1) (pgB s.1) (pgL s.1) F J (f 0) (f 6) (f 7) p1 p2 hR.1.1)) [0, 1, 7, 8] [2, 3, 4, 5, 6, 9, 10, 11] [8, 9, 0, 1, 2, 3, 4, 10, 11, 5, 6, 7] rfl rfl rfl (by decide) (by decide) (by decide) (by decide) (fun u => rfl) (fun r u h => ?_)
  exact ⟨h, a, u.1, J, (va_up (va_up f 6 u.2.1) 7 u.2.2), pl, rfl, hR⟩
set_option maxHeartbeats 4000000 in
set_option maxRecDepth 100000 in
theorem uM_likely (l : Launch) (g : GP) (v : GV) (qM : Nat) (s : St) (p1 : Int32) (p2 : Int32) (p3 : Int32) : UCi l g v yX9_likely wsX9_likely rmX9_likely qM [.int p1, .int p2, .int p3] 0 0 (MAt g qM s) (fun r u => r.toInt = spLikely (pgT s.1) (pgA s.1) (pgB s.1) (pgL s.1) p1.toInt p2.toInt p3.toInt ∧ MAt g qM s u) := by
  rintro w sz ⟨a, F, J, f, pl, rfl, hR⟩
  refine mxI (X := (mC g qM a F J f)) (pl := pl) (w2 := fun u => (mC g qM a u.1 J (va_up (va_up (va_up f 6 u.2.1) 7 u.2.2.1) 8 u.2.2.2))) (wX9_likely l g qM (a 0) (a 1) (a 2) (a 3) (a 4) (a 5) (a 6) (a 7) (a 8) (a 9) (a 10) sz F J (f 0) (f 6) (f 7) (f 8) p1 p2 p3 (sX9_likely (pgT s.1) (pgA s.1) (pgB s.1) (pgL s.1) F J (f 0) (f 6) (f 7) (f 8) p1 p2 p3 hR.1.1)) [0, 1, 7, 8, 9] [2, 3, 4, 5, 6, 10, 11] [7, 8, 0, 1, 2, 3, 4, 9, 10, 11, 5, 6] rfl rfl rfl (by decide) (by decide) (by decide) (by decide) (fun u => rfl) (fun r u h => ?_)
  exact ⟨h, a, u.1, J, (va_up (va_up (va_up f 6 u.2.1) 7 u.2.2.1) 8 u.2.2.2), pl, rfl, hR⟩
set_option maxHeartbeats 4000000 in
set_option maxRecDepth 100000 in
theorem uM_rank (l : Launch) (g : GP) (v : GV) (qM : Nat) (s : St) (p1 : Int32) (p2 : Int32) : UCi l g v yX9_rank wsX9_rank rmX9_rank qM [.int p1, .int p2] 0 0 (MAt g qM s) (fun r u => r.toInt = spRank (pgT s.1) (pgA s.1) (pgB s.1) (pgL s.1) p1.toInt p2.toInt ∧ MAt g qM s u) := by
  rintro w sz ⟨a, F, J, f, pl, rfl, hR⟩
  refine mxI (X := (mC g qM a F J f)) (pl := pl) (w2 := fun u => (mC g qM a u.1 J (va_up (va_up (va_up f 6 u.2.1) 7 u.2.2.1) 8 u.2.2.2))) (wX9_rank l g qM (a 0) (a 1) (a 2) (a 3) (a 4) (a 5) (a 6) (a 7) (a 8) (a 9) (a 10) sz F J (f 0) (f 6) (f 7) (f 8) p1 p2 (sX9_rank (pgT s.1) (pgA s.1) (pgB s.1) (pgL s.1) F J (f 0) (f 6) (f 7) (f 8) p1 p2 hR.1.1)) [0, 1, 7, 8, 9] [2, 3, 4, 5, 6, 10, 11] [7, 8, 0, 1, 2, 3, 4, 9, 10, 11, 5, 6] rfl rfl rfl (by decide) (by decide) (by decide) (by decide) (fun u => rfl) (fun r u h => ?_)
  exact ⟨h, a, u.1, J, (va_up (va_up (va_up f 6 u.2.1) 7 u.2.2.1) 8 u.2.2.2), pl, rfl, hR⟩
set_option maxHeartbeats 4000000 in
set_option maxRecDepth 100000 in
theorem uM_broken (l : Launch) (g : GP) (v : GV) (qM : Nat) (s : St) (p1 : Int32) (p2 : Int32) (p3 : Int32) : UCi l g v yX9_broken wsX9_broken rmX9_broken qM [.int p1, .int p2, .int p3] 0 0 (MAt g qM s) (fun r u => r.toInt = spBroken (pgT s.1) (pgA s.1) (pgB s.1) (pgL s.1) p1.toInt p2.toInt p3.toInt ∧ MAt g qM s u) := by
  rintro w sz ⟨a, F, J, f, pl, rfl, hR⟩
  refine mxI (X := (mC g qM a F J f)) (pl := pl) (w2 := fun u => (mC g qM a u.1 J (va_up (va_up (va_up (va_up f 6 u.2.1) 7 u.2.2.1) 9 u.2.2.2.1) 10 u.2.2.2.2))) (wX9_broken l g qM (a 0) (a 1) (a 2) (a 3) (a 4) (a 5) (a 6) (a 7) (a 8) (a 9) (a 10) sz F J (f 0) (f 6) (f 7) (f 9) (f 10) p1 p2 p3 (sX9_broken (pgT s.1) (pgA s.1) (pgB s.1) (pgL s.1) F J (f 0) (f 6) (f 7) (f 9) (f 10) p1 p2 p3 hR.1.1)) [0, 1, 7, 8, 10, 11] [2, 3, 4, 5, 6, 9] [6, 7, 0, 1, 2, 3, 4, 8, 9, 5, 10, 11] rfl rfl rfl (by decide) (by decide) (by decide) (by decide) (fun u => rfl) (fun r u h => ?_)
  exact ⟨h, a, u.1, J, (va_up (va_up (va_up (va_up f 6 u.2.1) 7 u.2.2.1) 9 u.2.2.2.1) 10 u.2.2.2.2), pl, rfl, hR⟩
set_option maxHeartbeats 4000000 in
set_option maxRecDepth 100000 in
theorem uM_both (l : Launch) (g : GP) (v : GV) (qM : Nat) (s : St) (p1 : Int32) : UCi l g v yX9_both wsX9_both rmX9_both qM [.int p1] 0 0 (MAt g qM s) (fun r u => r.toInt = spBoth (pgT s.1) (pgA s.1) (pgB s.1) (pgL s.1) p1.toInt ∧ MAt g qM s u) := by
  rintro w sz ⟨a, F, J, f, pl, rfl, hR⟩
  refine mxI (X := (mC g qM a F J f)) (pl := pl) (w2 := fun u => (mC g qM a u.1 J (va_up (va_up f 6 u.2.1) 7 u.2.2))) (wX9_both l g qM (a 0) (a 1) (a 2) (a 3) (a 4) (a 5) (a 6) (a 7) (a 8) (a 9) (a 10) sz F J (f 0) (f 6) (f 7) p1 (sX9_both (pgT s.1) (pgA s.1) (pgB s.1) (pgL s.1) F J (f 0) (f 6) (f 7) p1 hR.1.1)) [0, 1, 7, 8] [2, 3, 4, 5, 6, 9, 10, 11] [8, 9, 0, 1, 2, 3, 4, 10, 11, 5, 6, 7] rfl rfl rfl (by decide) (by decide) (by decide) (by decide) (fun u => rfl) (fun r u h => ?_)
  exact ⟨h, a, u.1, J, (va_up (va_up f 6 u.2.1) 7 u.2.2), pl, rfl, hR⟩
set_option maxHeartbeats 4000000 in
set_option maxRecDepth 100000 in
theorem uM_metres (l : Launch) (g : GP) (v : GV) (qM : Nat) (s : St) (p1 : Int32) (p2 : Int64) : UCl l g v yX9_metres wsX9_metres rmX9_metres qM [.int p1, .long p2] 0 0 (MAt g qM s) (fun r u => r.toInt = spMetres (pgT s.1) (pgA s.1) (pgB s.1) (pgL s.1) p1.toInt p2.toInt ∧ MAt g qM s u) := by
  rintro w sz ⟨a, F, J, f, pl, rfl, hR⟩
  refine mxL (X := (mC g qM a F J f)) (pl := pl) (w2 := fun u => (mC g qM a u.1 J (va_up (va_up f 6 u.2.1) 7 u.2.2))) (wX9_metres l g qM (a 0) (a 1) (a 2) (a 3) (a 4) (a 5) (a 6) (a 7) (a 8) (a 9) (a 10) sz F J (f 0) (f 6) (f 7) p1 p2 (sX9_metres (pgT s.1) (pgA s.1) (pgB s.1) (pgL s.1) F J (f 0) (f 6) (f 7) p1 p2 hR.1.1)) [0, 1, 7, 8] [2, 3, 4, 5, 6, 9, 10, 11] [8, 9, 0, 1, 2, 3, 4, 10, 11, 5, 6, 7] rfl rfl rfl (by decide) (by decide) (by decide) (by decide) (fun u => rfl) (fun r u h => ?_)
  exact ⟨h, a, u.1, J, (va_up (va_up f 6 u.2.1) 7 u.2.2), pl, rfl, hR⟩
set_option maxHeartbeats 4000000 in
set_option maxRecDepth 100000 in
theorem uM_longer (l : Launch) (g : GP) (v : GV) (qM : Nat) (s : St) (p1 : Int32) (p2 : Int32) (p3 : Int32) : UCi l g v yX9_longer wsX9_longer rmX9_longer qM [.int p1, .int p2, .int p3] 0 0 (MAt g qM s) (fun r u => r.toInt = spLonger (pgT s.1) (pgA s.1) (pgB s.1) (pgL s.1) p1.toInt p2.toInt p3.toInt ∧ MAt g qM s u) := by
  rintro w sz ⟨a, F, J, f, pl, rfl, hR⟩
  refine mxI (X := (mC g qM a F J f)) (pl := pl) (w2 := fun u => (mC g qM a u.1 J (va_up (va_up (va_up f 0 u.2.1) 6 u.2.2.1) 7 u.2.2.2))) (wX9_longer l g qM (a 0) (a 1) (a 2) (a 3) (a 4) (a 5) (a 6) (a 7) (a 8) (a 9) (a 10) sz F J (f 0) (f 6) (f 7) p1 p2 p3 (sX9_longer (pgT s.1) (pgA s.1) (pgB s.1) (pgL s.1) F J (f 0) (f 6) (f 7) p1 p2 p3 hR.1.1)) [0, 1, 7, 8] [2, 3, 4, 5, 6, 9, 10, 11] [8, 9, 0, 1, 2, 3, 4, 10, 11, 5, 6, 7] rfl rfl rfl (by decide) (by decide) (by decide) (by decide) (fun u => rfl) (fun r u h => ?_)
  exact ⟨h.1, a, u.1, J, (va_up (va_up (va_up f 0 u.2.1) 6 u.2.2.1) 7 u.2.2.2), pl, rfl, by rw [h.2]; exact hR⟩
set_option maxHeartbeats 4000000 in
set_option maxRecDepth 100000 in
theorem uM_needs (l : Launch) (g : GP) (v : GV) (qM : Nat) (s : St) (p1 : Int32) (p2 : Int32) : UCi l g v yX9_needs wsX9_needs rmX9_needs qM [.int p1, .int p2] 0 0 (MAt g qM s) (fun r u => r.toInt = spNeeds (pgT s.1) (pgA s.1) (pgB s.1) (pgL s.1) p1.toInt p2.toInt ∧ MAt g qM s u) := by
  rintro w sz ⟨a, F, J, f, pl, rfl, hR⟩
  refine mxI (X := (mC g qM a F J f)) (pl := pl) (w2 := fun u => (mC g qM a u.1 J (va_up (va_up (va_up f 0 u.2.1) 6 u.2.2.1) 7 u.2.2.2))) (wX9_needs l g qM (a 0) (a 1) (a 2) (a 3) (a 4) (a 5) (a 6) (a 7) (a 8) (a 9) (a 10) sz F J (f 0) (f 6) (f 7) p1 p2 (sX9_needs (pgT s.1) (pgA s.1) (pgB s.1) (pgL s.1) F J (f 0) (f 6) (f 7) p1 p2 hR.1.1)) [0, 1, 7, 8] [2, 3, 4, 5, 6, 9, 10, 11] [8, 9, 0, 1, 2, 3, 4, 10, 11, 5, 6, 7] rfl rfl rfl (by decide) (by decide) (by decide) (by decide) (fun u => rfl) (fun r u h => ?_)
  exact ⟨h.1, a, u.1, J, (va_up (va_up (va_up f 0 u.2.1) 6 u.2.2.1) 7 u.2.2.2), pl, rfl, by rw [h.2]; exact hR⟩
set_option maxHeartbeats 4000000 in
set_option maxRecDepth 100000 in
theorem uM_silent (l : Launch) (g : GP) (v : GV) (qM : Nat) (s : St) (p1 : Int32) (p2 : Int32) : UCi l g v yX9_silent wsX9_silent rmX9_silent qM [.int p1, .int p2] 0 0 (MAt g qM s) (fun r u => r.toInt = spSilent (pgT s.1) (pgA s.1) (pgB s.1) (pgL s.1) p1.toInt p2.toInt ∧ MAt g qM s u) := by
  rintro w sz ⟨a, F, J, f, pl, rfl, hR⟩
  refine mxI (X := (mC g qM a F J f)) (pl := pl) (w2 := fun u => (mC g qM a u.1 J (va_up (va_up (va_up f 0 u.2.1) 6 u.2.2.1) 7 u.2.2.2))) (wX9_silent l g qM (a 0) (a 1) (a 2) (a 3) (a 4) (a 5) (a 6) (a 7) (a 8) (a 9) (a 10) sz F J (f 0) (f 6) (f 7) p1 p2 (sX9_silent (pgT s.1) (pgA s.1) (pgB s.1) (pgL s.1) F J (f 0) (f 6) (f 7) p1 p2 hR.1.1)) [0, 1, 7, 8] [2, 3, 4, 5, 6, 9, 10, 11] [8, 9, 0, 1, 2, 3, 4, 10, 11, 5, 6, 7] rfl rfl rfl (by decide) (by decide) (by decide) (by decide) (fun u => rfl) (fun r u h => ?_)
  exact ⟨h.1, a, u.1, J, (va_up (va_up (va_up f 0 u.2.1) 6 u.2.2.1) 7 u.2.2.2), pl, rfl, by rw [h.2]; exact hR⟩
set_option maxHeartbeats 4000000 in
set_option maxRecDepth 100000 in
theorem uM_behind (l : Launch) (g : GP) (v : GV) (qM : Nat) (s : St) (p1 : Int32) (p2 : Int32) : UCi l g v yX9_behind wsX9_behind rmX9_behind qM [.int p1, .int p2] 0 0 (MAt g qM s) (fun r u => r.toInt = spBehind (pgA s.1) (pgB s.1) p1.toInt p2.toInt ∧ MAt g qM s u) := by
  rintro w sz ⟨a, F, J, f, pl, rfl, hR⟩
  refine mxI (X := (mC g qM a F J f)) (pl := pl) (w2 := fun u => (mC g qM a u J f)) (wX9_behind l g qM (a 0) (a 1) (a 2) (a 3) (a 4) (a 5) (a 6) (a 7) (a 8) (a 9) (a 10) sz F J (f 0) p1 p2 (sX9_behind (pgT s.1) (pgA s.1) (pgB s.1) (pgL s.1) F J (f 0) p1 p2 hR.1.1)) [0, 1] [2, 3, 4, 5, 6, 7, 8, 9, 10, 11] [10, 11, 0, 1, 2, 3, 4, 5, 6, 7, 8, 9] rfl rfl rfl (by decide) (by decide) (by decide) (by decide) (fun u => rfl) (fun r u h => ?_)
  exact ⟨h, a, u, J, f, pl, rfl, hR⟩
set_option maxHeartbeats 4000000 in
set_option maxRecDepth 100000 in
theorem uM_track (l : Launch) (g : GP) (v : GV) (qM : Nat) (s : St) (p1 : Int32) (p2 : Int32) (p3 : Int32) (ok : okS s) : UCi l g v yX9_track wsX9_track rmX9_track qM [.int p1, .int p2, .int p3] 0 0 (MAt g qM s) (fun r u => r.toInt = spTrack (pgT s.1) (pgA s.1) (pgB s.1) (pgL s.1) p1.toInt p2.toInt p3.toInt ∧ MAt g qM s u) := by
  rintro w sz ⟨a, F, J, f, pl, rfl, hR⟩
  refine mxI (X := (mC g qM a F J f)) (pl := pl) (w2 := fun u => (mC g qM a u.1 J (va_up (va_up (va_up f 0 u.2.1) 6 u.2.2.1) 7 u.2.2.2))) (wX9_track l g qM (a 0) (a 1) (a 2) (a 3) (a 4) (a 5) (a 6) (a 7) (a 8) (a 9) (a 10) sz F J (f 0) (f 6) (f 7) p1 p2 p3 (sX9_track (pgT s.1) (pgA s.1) (pgB s.1) (pgL s.1) F J (f 0) (f 6) (f 7) p1 p2 p3 ⟨hR.1.1, ok_fr ok.1.1, ok_fr ok.1.2⟩)) [0, 1, 7, 8] [2, 3, 4, 5, 6, 9, 10, 11] [8, 9, 0, 1, 2, 3, 4, 10, 11, 5, 6, 7] rfl rfl rfl (by decide) (by decide) (by decide) (by decide) (fun u => rfl) (fun r u h => ?_)
  exact ⟨h.1, a, u.1, J, (va_up (va_up (va_up f 0 u.2.1) 6 u.2.2.1) 7 u.2.2.2), pl, rfl, by rw [h.2]; exact hR⟩
set_option maxHeartbeats 4000000 in
set_option maxRecDepth 100000 in
theorem uM_chance (l : Launch) (g : GP) (v : GV) (qM : Nat) (s : St) (p1 : Int32) (p2 : Int32) (p3 : Int32) (p4 : Int32) : UCl l g v yX9_chance wsX9_chance rmX9_chance qM [.int p1, .int p2, .int p3, .int p4] 0 0 (MAt g qM s) (fun r u => r.toInt = spChance p1.toInt p2.toInt p3.toInt p4.toInt ∧ MAt g qM s u) := by
  rintro w sz ⟨a, F, J, f, pl, rfl, hR⟩
  refine mxL (X := (mC g qM a F J f)) (pl := pl) (w2 := fun u => (mC g qM a u.1 u.2 f)) (wX9_chance l g qM (a 0) (a 1) (a 2) (a 3) (a 4) (a 5) (a 6) (a 7) (a 8) (a 9) (a 10) sz F J p1 p2 p3 p4 (sX9_chance F J p1 p2 p3 p4 trivial)) [0] [1, 2, 3, 4, 5, 6, 7, 8, 9, 10, 11] [11, 0, 1, 2, 3, 4, 5, 6, 7, 8, 9, 10] rfl rfl rfl (by decide) (by decide) (by decide) (by decide) (fun u => rfl) (fun r u h => ?_)
  exact ⟨h, a, u.1, u.2, f, pl, rfl, hR⟩
set_option maxHeartbeats 4000000 in
set_option maxRecDepth 100000 in
theorem uM_bar (l : Launch) (g : GP) (v : GV) (qM : Nat) (s : St) (p1 : Int32) (p2 : Int32) : UCi l g v yX9_bar wsX9_bar rmX9_bar qM [.int p1, .int p2] 0 0 (MAt g qM s) (fun r u => r.toInt = spBar p1.toInt p2.toInt ∧ MAt g qM s u) := by
  rintro w sz ⟨a, F, J, f, pl, rfl, hR⟩
  refine mxI (X := (mC g qM a F J f)) (pl := pl) (w2 := fun u => (mC g qM a u.1 u.2 f)) (wX9_bar l g qM (a 0) (a 1) (a 2) (a 3) (a 4) (a 5) (a 6) (a 7) (a 8) (a 9) (a 10) sz F J p1 p2 (sX9_bar F J p1 p2 trivial)) [0] [1, 2, 3, 4, 5, 6, 7, 8, 9, 10, 11] [11, 0, 1, 2, 3, 4, 5, 6, 7, 8, 9, 10] rfl rfl rfl (by decide) (by decide) (by decide) (by decide) (fun u => rfl) (fun r u h => ?_)
  exact ⟨h, a, u.1, u.2, f, pl, rfl, hR⟩
set_option maxHeartbeats 4000000 in
set_option maxRecDepth 100000 in
theorem uM_image (l : Launch) (g : GP) (v : GV) (qM : Nat) (s : St) (p1 : Int32) : UCi l g v yX9_image wsX9_image rmX9_image qM [.int p1] 0 0 (MAt g qM s) (fun r u => r.toInt = spIm p1.toInt ∧ MAt g qM (nIm s p1.toInt) u) := by
  rintro w sz ⟨a, F, J, f, pl, rfl, hR⟩
  refine mxI (X := (mC g qM a F J f)) (pl := pl) (w2 := fun u => (mC g qM a u.1 J (va_up (va_up (va_up f 0 u.2.1) 1 u.2.2.1) 2 u.2.2.2))) (wX9_image l g qM (a 0) (a 1) (a 2) (a 3) (a 4) (a 5) (a 6) (a 7) (a 8) (a 9) (a 10) sz F J (f 0) (f 1) (f 2) p1 (sX9_image F J (f 0) (f 1) (f 2) p1 trivial)) [0, 1, 2, 3] [4, 5, 6, 7, 8, 9, 10, 11] [8, 9, 10, 11, 0, 1, 2, 3, 4, 5, 6, 7] rfl rfl rfl (by decide) (by decide) (by decide) (by decide) (fun u => rfl) (fun r u h => ?_)
  obtain ⟨h1, h2⟩ := h
  by_cases c : 0 ≤ p1.toInt ∧ p1.toInt ≤ 2
  · obtain ⟨a1, a2, a3⟩ := h1 c
    refine ⟨by unfold spIm; rw [a1, if_pos c]; rfl, a, u.1, J, (va_up (va_up (va_up f 0 u.2.1) 1 u.2.2.1) 2 u.2.2.2), pl, rfl, ?_⟩
    rw [a3]; exact RM_im hR c a2
  · obtain ⟨a1, a2, a3, a4⟩ := h2 c
    refine ⟨by unfold spIm; rw [a1, if_neg c]; rfl, a, u.1, J, (va_up (va_up (va_up f 0 u.2.1) 1 u.2.2.1) 2 u.2.2.2), pl, rfl, ?_⟩
    unfold nIm; rw [if_neg c, a2, a3, a4]; exact hR
set_option maxHeartbeats 4000000 in
set_option maxRecDepth 100000 in
theorem uM_again (l : Launch) (g : GP) (v : GV) (qM : Nat) (s : St) (p1 : Int32) : UCi l g v yX9_again wsX9_again rmX9_again qM [.int p1] 0 0 (MAt g qM s) (fun r u => r.toInt = spAg s p1.toInt ∧ MAt g qM (nAg s p1.toInt) u) := by
  rintro w sz ⟨a, F, J, f, pl, rfl, hR⟩
  refine mxI (X := (mC g qM a F J f)) (pl := pl) (w2 := fun u => (mC g qM a u.1 J (va_up (va_up f 0 u.2.1) 1 u.2.2))) (wX9_again l g qM (a 0) (a 1) (a 2) (a 3) (a 4) (a 5) (a 6) (a 7) (a 8) (a 9) (a 10) sz F J (f 0) (f 1) (f 2) p1 (sX9_again F J (f 0) (f 1) (f 2) p1 trivial)) [0, 1, 2, 3] [4, 5, 6, 7, 8, 9, 10, 11] [8, 9, 10, 11, 0, 1, 2, 3, 4, 5, 6, 7] rfl rfl rfl (by decide) (by decide) (by decide) (by decide) (fun u => rfl) (fun r u h => ?_)
  obtain ⟨h1, h2⟩ := h
  unfold spAg nAg
  by_cases c : 0 ≤ p1.toInt ∧ p1.toInt ≤ 2
  · rw [if_pos c]
    rcases hR.2 p1.toInt.toNat (by omega) with ⟨k1, k2⟩ | ⟨P, k1, k2, k3⟩
    · obtain ⟨a1, a2, a3⟩ := h2 (fun z => z.2 k1)
      refine ⟨by rw [a1, if_neg (fun z => z.2 k2)]; rfl, a, u.1, J, (va_up (va_up f 0 u.2.1) 1 u.2.2), pl, rfl, ?_⟩
      rw [k2, a2, a3]; exact hR
    · obtain ⟨a1, a2⟩ := h1 ⟨c, by rw [k1]; decide⟩
      refine ⟨by rw [a1, if_pos ⟨c, by rw [k2]; exact Option.some_ne_none _⟩]; rfl, a, u.1, J, (va_up (va_up f 0 u.2.1) 1 u.2.2), pl, rfl, ?_⟩
      rw [k2]; exact RM_ag hR c k2 a2
  · obtain ⟨a1, a2, a3⟩ := h2 (fun z => c z.1)
    refine ⟨by rw [a1, if_neg (fun z => c z.1)]; rfl, a, u.1, J, (va_up (va_up f 0 u.2.1) 1 u.2.2), pl, rfl, ?_⟩
    rw [if_neg c, a2, a3]; exact hR
