set_option maxHeartbeats 4000000 in
set_option maxRecDepth 100000 in
theorem uM_fragile (l : Launch) (g : GP) (v : GV) (qM : Nat) (s : St) (p1 : Int32) (p2 : Int32) : UCi l g v yX9_fragile wsX9_fragile rmX9_fragile qM [.int p1, .int p2] 0 0 (MAt g qM s) (fun r u => r.toInt = spFragile (pgT s.1) (pgA s.1) (pgB s.1) (pgL s.1) p1.toInt p2.toInt ∧ MAt g qM s u) := by
  rintro w sz ⟨q1, q2, q3, q4, q5, q6, q7, q8, q9, q10, q11, F, J, al, tx, sv, td, fu, sd, he, ma, sc, fr, re, pl, rfl, hR⟩
  refine mxI (X := (mC g qM q1 q2 q3 q4 q5 q6 q7 q8 q9 q10 q11 F J al tx sv td fu sd he ma sc fr re)) (pl := pl) (w2 := fun u => (mC g qM q1 q2 q3 q4 q5 q6 q7 q8 q9 q10 q11 u.1 J al tx sv td fu sd u.2.1 u.2.2 sc fr re)) (wX9_fragile l g qM q1 q2 q3 q4 q5 q6 q7 q8 q9 q10 q11 sz F J al he ma p1 p2 (sX9_fragile (pgT s.1) (pgA s.1) (pgB s.1) (pgL s.1) F J al he ma p1 p2 hR.1.1)) [0, 1, 7, 8] [2, 3, 4, 5, 6, 9, 10, 11] [8, 9, 0, 1, 2, 3, 4, 10, 11, 5, 6, 7] rfl rfl rfl (by decide) (by decide) (by decide) (by decide) (fun u => rfl) (fun r u h => ?_)
  exact ⟨h, q1, q2, q3, q4, q5, q6, q7, q8, q9, q10, q11, u.1, J, al, tx, sv, td, fu, sd, u.2.1, u.2.2, sc, fr, re, pl, rfl, hR⟩
set_option maxHeartbeats 4000000 in
set_option maxRecDepth 100000 in
theorem uM_right (l : Launch) (g : GP) (v : GV) (qM : Nat) (s : St) (p1 : Int32) : UCi l g v yX9_right wsX9_right rmX9_right qM [.int p1] 0 0 (MAt g qM s) (fun r u => r.toInt = spRight (pgT s.1) (pgA s.1) (pgB s.1) (pgL s.1) p1.toInt ∧ MAt g qM s u) := by
  rintro w sz ⟨q1, q2, q3, q4, q5, q6, q7, q8, q9, q10, q11, F, J, al, tx, sv, td, fu, sd, he, ma, sc, fr, re, pl, rfl, hR⟩
  refine mxI (X := (mC g qM q1 q2 q3 q4 q5 q6 q7 q8 q9 q10 q11 F J al tx sv td fu sd he ma sc fr re)) (pl := pl) (w2 := fun u => (mC g qM q1 q2 q3 q4 q5 q6 q7 q8 q9 q10 q11 u.1 J al tx sv td fu sd u.2.1 u.2.2 sc fr re)) (wX9_right l g qM q1 q2 q3 q4 q5 q6 q7 q8 q9 q10 q11 sz F J al he ma p1 (sX9_right (pgT s.1) (pgA s.1) (pgB s.1) (pgL s.1) F J al he ma p1 hR.1.1)) [0, 1, 7, 8] [2, 3, 4, 5, 6, 9, 10, 11] [8, 9, 0, 1, 2, 3, 4, 10, 11, 5, 6, 7] rfl rfl rfl (by decide) (by decide) (by decide) (by decide) (fun u => rfl) (fun r u h => ?_)
  exact ⟨h, q1, q2, q3, q4, q5, q6, q7, q8, q9, q10, q11, u.1, J, al, tx, sv, td, fu, sd, u.2.1, u.2.2, sc, fr, re, pl, rfl, hR⟩
set_option maxHeartbeats 4000000 in
set_option maxRecDepth 100000 in
theorem uM_joined (l : Launch) (g : GP) (v : GV) (qM : Nat) (s : St) (p1 : Int32) (p2 : Int32) : UCi l g v yX9_joined wsX9_joined rmX9_joined qM [.int p1, .int p2] 0 0 (MAt g qM s) (fun r u => r.toInt = spJoined (pgT s.1) (pgA s.1) (pgB s.1) (pgL s.1) p1.toInt p2.toInt ∧ MAt g qM s u) := by
  rintro w sz ⟨q1, q2, q3, q4, q5, q6, q7, q8, q9, q10, q11, F, J, al, tx, sv, td, fu, sd, he, ma, sc, fr, re, pl, rfl, hR⟩
  refine mxI (X := (mC g qM q1 q2 q3 q4 q5 q6 q7 q8 q9 q10 q11 F J al tx sv td fu sd he ma sc fr re)) (pl := pl) (w2 := fun u => (mC g qM q1 q2 q3 q4 q5 q6 q7 q8 q9 q10 q11 u.1 J al tx sv td fu sd u.2.1 u.2.2 sc fr re)) (wX9_joined l g qM q1 q2 q3 q4 q5 q6 q7 q8 q9 q10 q11 sz F J al he ma p1 p2 (sX9_joined (pgT s.1) (pgA s.1) (pgB s.1) (pgL s.1) F J al he ma p1 p2 hR.1.1)) [0, 1, 7, 8] [2, 3, 4, 5, 6, 9, 10, 11] [8, 9, 0, 1, 2, 3, 4, 10, 11, 5, 6, 7] rfl rfl rfl (by decide) (by decide) (by decide) (by decide) (fun u => rfl) (fun r u h => ?_)
  exact ⟨h, q1, q2, q3, q4, q5, q6, q7, q8, q9, q10, q11, u.1, J, al, tx, sv, td, fu, sd, u.2.1, u.2.2, sc, fr, re, pl, rfl, hR⟩
set_option maxHeartbeats 4000000 in
set_option maxRecDepth 100000 in
theorem uM_found (l : Launch) (g : GP) (v : GV) (qM : Nat) (s : St) (p1 : Int32) (p2 : Int32) : UCi l g v yX9_found wsX9_found rmX9_found qM [.int p1, .int p2] 0 0 (MAt g qM s) (fun r u => r.toInt = spFound (pgT s.1) (pgA s.1) (pgB s.1) (pgL s.1) p1.toInt p2.toInt ∧ MAt g qM s u) := by
  rintro w sz ⟨q1, q2, q3, q4, q5, q6, q7, q8, q9, q10, q11, F, J, al, tx, sv, td, fu, sd, he, ma, sc, fr, re, pl, rfl, hR⟩
  refine mxI (X := (mC g qM q1 q2 q3 q4 q5 q6 q7 q8 q9 q10 q11 F J al tx sv td fu sd he ma sc fr re)) (pl := pl) (w2 := fun u => (mC g qM q1 q2 q3 q4 q5 q6 q7 q8 q9 q10 q11 u.1 J al tx sv td fu sd u.2.1 u.2.2 sc fr re)) (wX9_found l g qM q1 q2 q3 q4 q5 q6 q7 q8 q9 q10 q11 sz F J al he ma p1 p2 (sX9_found (pgT s.1) (pgA s.1) (pgB s.1) (pgL s.1) F J al he ma p1 p2 hR.1.1)) [0, 1, 7, 8] [2, 3, 4, 5, 6, 9, 10, 11] [8, 9, 0, 1, 2, 3, 4, 10, 11, 5, 6, 7] rfl rfl rfl (by decide) (by decide) (by decide) (by decide) (fun u => rfl) (fun r u h => ?_)
  exact ⟨h, q1, q2, q3, q4, q5, q6, q7, q8, q9, q10, q11, u.1, J, al, tx, sv, td, fu, sd, u.2.1, u.2.2, sc, fr, re, pl, rfl, hR⟩
set_option maxHeartbeats 4000000 in
set_option maxRecDepth 100000 in
theorem uM_guess (l : Launch) (g : GP) (v : GV) (qM : Nat) (s : St) (p1 : Int32) (p2 : Int32) : UCi l g v yX9_guess wsX9_guess rmX9_guess qM [.int p1, .int p2] 0 0 (MAt g qM s) (fun r u => r.toInt = spGuess (pgT s.1) (pgA s.1) (pgB s.1) (pgL s.1) p1.toInt p2.toInt ∧ MAt g qM s u) := by
  rintro w sz ⟨q1, q2, q3, q4, q5, q6, q7, q8, q9, q10, q11, F, J, al, tx, sv, td, fu, sd, he, ma, sc, fr, re, pl, rfl, hR⟩
  refine mxI (X := (mC g qM q1 q2 q3 q4 q5 q6 q7 q8 q9 q10 q11 F J al tx sv td fu sd he ma sc fr re)) (pl := pl) (w2 := fun u => (mC g qM q1 q2 q3 q4 q5 q6 q7 q8 q9 q10 q11 u.1 J al tx sv td fu sd u.2.1 u.2.2 sc fr re)) (wX9_guess l g qM q1 q2 q3 q4 q5 q6 q7 q8 q9 q10 q11 sz F J al he ma p1 p2 (sX9_guess (pgT s.1) (pgA s.1) (pgB s.1) (pgL s.1) F J al he ma p1 p2 hR.1.1)) [0, 1, 7, 8] [2, 3, 4, 5, 6, 9, 10, 11] [8, 9, 0, 1, 2, 3, 4, 10, 11, 5, 6, 7] rfl rfl rfl (by decide) (by decide) (by decide) (by decide) (fun u => rfl) (fun r u h => ?_)
  exact ⟨h, q1, q2, q3, q4, q5, q6, q7, q8, q9, q10, q11, u.1, J, al, tx, sv, td, fu, sd, u.2.1, u.2.2, sc, fr, re, pl, rfl, hR⟩
set_option maxHeartbeats 4000000 in
set_option maxRecDepth 100000 in
theorem uM_likely (l : Launch) (g : GP) (v : GV) (qM : Nat) (s : St) (p1 : Int32) (p2 : Int32) (p3 : Int32) : UCi l g v yX9_likely wsX9_likely rmX9_likely qM [.int p1, .int p2, .int p3] 0 0 (MAt g qM s) (fun r u => r.toInt = spLikely (pgT s.1) (pgA s.1) (pgB s.1) (pgL s.1) p1.toInt p2.toInt p3.toInt ∧ MAt g qM s u) := by
  rintro w sz ⟨q1, q2, q3, q4, q5, q6, q7, q8, q9, q10, q11, F, J, al, tx, sv, td, fu, sd, he, ma, sc, fr, re, pl, rfl, hR⟩
  refine mxI (X := (mC g qM q1 q2 q3 q4 q5 q6 q7 q8 q9 q10 q11 F J al tx sv td fu sd he ma sc fr re)) (pl := pl) (w2 := fun u => (mC g qM q1 q2 q3 q4 q5 q6 q7 q8 q9 q10 q11 u.1 J al tx sv td fu sd u.2.1 u.2.2.1 u.2.2.2 fr re)) (wX9_likely l g qM q1 q2 q3 q4 q5 q6 q7 q8 q9 q10 q11 sz F J al he ma sc p1 p2 p3 (sX9_likely (pgT s.1) (pgA s.1) (pgB s.1) (pgL s.1) F J al he ma sc p1 p2 p3 hR.1.1)) [0, 1, 7, 8, 9] [2, 3, 4, 5, 6, 10, 11] [7, 8, 0, 1, 2, 3, 4, 9, 10, 11, 5, 6] rfl rfl rfl (by decide) (by decide) (by decide) (by decide) (fun u => rfl) (fun r u h => ?_)
  exact ⟨h, q1, q2, q3, q4, q5, q6, q7, q8, q9, q10, q11, u.1, J, al, tx, sv, td, fu, sd, u.2.1, u.2.2.1, u.2.2.2, fr, re, pl, rfl, hR⟩
set_option maxHeartbeats 4000000 in
set_option maxRecDepth 100000 in
theorem uM_rank (l : Launch) (g : GP) (v : GV) (qM : Nat) (s : St) (p1 : Int32) (p2 : Int32) : UCi l g v yX9_rank wsX9_rank rmX9_rank qM [.int p1, .int p2] 0 0 (MAt g qM s) (fun r u => r.toInt = spRank (pgT s.1) (pgA s.1) (pgB s.1) (pgL s.1) p1.toInt p2.toInt ∧ MAt g qM s u) := by
  rintro w sz ⟨q1, q2, q3, q4, q5, q6, q7, q8, q9, q10, q11, F, J, al, tx, sv, td, fu, sd, he, ma, sc, fr, re, pl, rfl, hR⟩
  refine mxI (X := (mC g qM q1 q2 q3 q4 q5 q6 q7 q8 q9 q10 q11 F J al tx sv td fu sd he ma sc fr re)) (pl := pl) (w2 := fun u => (mC g qM q1 q2 q3 q4 q5 q6 q7 q8 q9 q10 q11 u.1 J al tx sv td fu sd u.2.1 u.2.2.1 u.2.2.2 fr re)) (wX9_rank l g qM q1 q2 q3 q4 q5 q6 q7 q8 q9 q10 q11 sz F J al he ma sc p1 p2 (sX9_rank (pgT s.1) (pgA s.1) (pgB s.1) (pgL s.1) F J al he ma sc p1 p2 hR.1.1)) [0, 1, 7, 8, 9] [2, 3, 4, 5, 6, 10, 11] [7, 8, 0, 1, 2, 3, 4, 9, 10, 11, 5, 6] rfl rfl rfl (by decide) (by decide) (by decide) (by decide) (fun u => rfl) (fun r u h => ?_)
  exact ⟨h, q1, q2, q3, q4, q5, q6, q7, q8, q9, q10, q11, u.1, J, al, tx, sv, td, fu, sd, u.2.1, u.2.2.1, u.2.2.2, fr, re, pl, rfl, hR⟩
set_option maxHeartbeats 4000000 in
set_option maxRecDepth 100000 in
theorem uM_broken (l : Launch) (g : GP) (v : GV) (qM : Nat) (s : St) (p1 : Int32) (p2 : Int32) (p3 : Int32) : UCi l g v yX9_broken wsX9_broken rmX9_broken qM [.int p1, .int p2, .int p3] 0 0 (MAt g qM s) (fun r u => r.toInt = spBroken (pgT s.1) (pgA s.1) (pgB s.1) (pgL s.1) p1.toInt p2.toInt p3.toInt ∧ MAt g qM s u) := by
  rintro w sz ⟨q1, q2, q3, q4, q5, q6, q7, q8, q9, q10, q11, F, J, al, tx, sv, td, fu, sd, he, ma, sc, fr, re, pl, rfl, hR⟩
  refine mxI (X := (mC g qM q1 q2 q3 q4 q5 q6 q7 q8 q9 q10 q11 F J al tx sv td fu sd he ma sc fr re)) (pl := pl) (w2 := fun u => (mC g qM q1 q2 q3 q4 q5 q6 q7 q8 q9 q10 q11 u.1 J al tx sv td fu sd u.2.1 u.2.2.1 sc u.2.2.2.1 u.2.2.2.2)) (wX9_broken l g qM q1 q2 q3 q4 q5 q6 q7 q8 q9 q10 q11 sz F J al he ma fr re p1 p2 p3 (sX9_broken (pgT s.1) (pgA s.1) (pgB s.1) (pgL s.1) F J al he ma fr re p1 p2 p3 hR.1.1)) [0, 1, 7, 8, 10, 11] [2, 3, 4, 5, 6, 9] [6, 7, 0, 1, 2, 3, 4, 8, 9, 5, 10, 11] rfl rfl rfl (by decide) (by decide) (by decide) (by decide) (fun u => rfl) (fun r u h => ?_)
  exact ⟨h, q1, q2, q3, q4, q5, q6, q7, q8, q9, q10, q11, u.1, J, al, tx, sv, td, fu, sd, u.2.1, u.2.2.1, sc, u.2.2.2.1, u.2.2.2.2, pl, rfl, hR⟩
set_option maxHeartbeats 4000000 in
set_option maxRecDepth 100000 in
theorem uM_both (l : Launch) (g : GP) (v : GV) (qM : Nat) (s : St) (p1 : Int32) : UCi l g v yX9_both wsX9_both rmX9_both qM [.int p1] 0 0 (MAt g qM s) (fun r u => r.toInt = spBoth (pgT s.1) (pgA s.1) (pgB s.1) (pgL s.1) p1.toInt ∧ MAt g qM s u) := by
  rintro w sz ⟨q1, q2, q3, q4, q5, q6, q7, q8, q9, q10, q11, F, J, al, tx, sv, td, fu, sd, he, ma, sc, fr, re, pl, rfl, hR⟩
  refine mxI (X := (mC g qM q1 q2 q3 q4 q5 q6 q7 q8 q9 q10 q11 F J al tx sv td fu sd he ma sc fr re)) (pl := pl) (w2 := fun u => (mC g qM q1 q2 q3 q4 q5 q6 q7 q8 q9 q10 q11 u.1 J al tx sv td fu sd u.2.1 u.2.2 sc fr re)) (wX9_both l g qM q1 q2 q3 q4 q5 q6 q7 q8 q9 q10 q11 sz F J al he ma p1 (sX9_both (pgT s.1) (pgA s.1) (pgB s.1) (pgL s.1) F J al he ma p1 hR.1.1)) [0, 1, 7, 8] [2, 3, 4, 5, 6, 9, 10, 11] [8, 9, 0, 1, 2, 3, 4, 10, 11, 5, 6, 7] rfl rfl rfl (by decide) (by decide) (by decide) (by decide) (fun u => rfl) (fun r u h => ?_)
  exact ⟨h, q1, q2, q3, q4, q5, q6, q7, q8, q9, q10, q11, u.1, J, al, tx, sv, td, fu, sd, u.2.1, u.2.2, sc, fr, re, pl, rfl, hR⟩
set_option maxHeartbeats 4000000 in
set_option maxRecDepth 100000 in
theorem uM_metres (l : Launch) (g : GP) (v : GV) (qM : Nat) (s : St) (p1 : Int32) (p2 : Int64) : UCl l g v yX9_metres wsX9_metres rmX9_metres qM [.int p1, .long p2] 0 0 (MAt g qM s) (fun r u => r.toInt = spMetres (pgT s.1) (pgA s.1) (pgB s.1) (pgL s.1) p1.toInt p2.toInt ∧ MAt g qM s u) := by
  rintro w sz ⟨q1, q2, q3, q4, q5, q6, q7, q8, q9, q10, q11, F, J, al, tx, sv, td, fu, sd, he, ma, sc, fr, re, pl, rfl, hR⟩
  refine mxL (X := (mC g qM q1 q2 q3 q4 q5 q6 q7 q8 q9 q10 q11 F J al tx sv td fu sd he ma sc fr re)) (pl := pl) (w2 := fun u => (mC g qM q1 q2 q3 q4 q5 q6 q7 q8 q9 q10 q11 u.1 J al tx sv td fu sd u.2.1 u.2.2 sc fr re)) (wX9_metres l g qM q1 q2 q3 q4 q5 q6 q7 q8 q9 q10 q11 sz F J al he ma p1 p2 (sX9_metres (pgT s.1) (pgA s.1) (pgB s.1) (pgL s.1) F J al he ma p1 p2 hR.1.1)) [0, 1, 7, 8] [2, 3, 4, 5, 6, 9, 10, 11] [8, 9, 0, 1, 2, 3, 4, 10, 11, 5, 6, 7] rfl rfl rfl (by decide) (by decide) (by decide) (by decide) (fun u => rfl) (fun r u h => ?_)
  exact ⟨h, q1, q2, q3, q4, q5, q6, q7, q8, q9, q10, q11, u.1, J, al, tx, sv, td, fu, sd, u.2.1, u.2.2, sc, fr, re, pl, rfl, hR⟩
set_option maxHeartbeats 4000000 in
set_option maxRecDepth 100000 in
theorem uM_longer (l : Launch) (g : GP) (v : GV) (qM : Nat) (s : St) (p1 : Int32) (p2 : Int32) (p3 : Int32) : UCi l g v yX9_longer wsX9_longer rmX9_longer qM [.int p1, .int p2, .int p3] 0 0 (MAt g qM s) (fun r u => r.toInt = spLonger (pgT s.1) (pgA s.1) (pgB s.1) (pgL s.1) p1.toInt p2.toInt p3.toInt ∧ MAt g qM s u) := by
  rintro w sz ⟨q1, q2, q3, q4, q5, q6, q7, q8, q9, q10, q11, F, J, al, tx, sv, td, fu, sd, he, ma, sc, fr, re, pl, rfl, hR⟩
  refine mxI (X := (mC g qM q1 q2 q3 q4 q5 q6 q7 q8 q9 q10 q11 F J al tx sv td fu sd he ma sc fr re)) (pl := pl) (w2 := fun u => (mC g qM q1 q2 q3 q4 q5 q6 q7 q8 q9 q10 q11 u.1 J u.2.1 tx sv td fu sd u.2.2.1 u.2.2.2 sc fr re)) (wX9_longer l g qM q1 q2 q3 q4 q5 q6 q7 q8 q9 q10 q11 sz F J al he ma p1 p2 p3 (sX9_longer (pgT s.1) (pgA s.1) (pgB s.1) (pgL s.1) F J al he ma p1 p2 p3 hR.1.1)) [0, 1, 7, 8] [2, 3, 4, 5, 6, 9, 10, 11] [8, 9, 0, 1, 2, 3, 4, 10, 11, 5, 6, 7] rfl rfl rfl (by decide) (by decide) (by decide) (by decide) (fun u => rfl) (fun r u h => ?_)
  exact ⟨h.1, q1, q2, q3, q4, q5, q6, q7, q8, q9, q10, q11, u.1, J, u.2.1, tx, sv, td, fu, sd, u.2.2.1, u.2.2.2, sc, fr, re, pl, rfl, by rw [h.2]; exact hR⟩
set_option maxHeartbeats 4000000 in
set_option maxRecDepth 100000 in
theorem uM_needs (l : Launch) (g : GP) (v : GV) (qM : Nat) (s : St) (p1 : Int32) (p2 : Int32) : UCi l g v yX9_needs wsX9_needs rmX9_needs qM [.int p1, .int p2] 0 0 (MAt g qM s) (fun r u => r.toInt = spNeeds (pgT s.1) (pgA s.1) (pgB s.1) (pgL s.1) p1.toInt p2.toInt ∧ MAt g qM s u) := by
  rintro w sz ⟨q1, q2, q3, q4, q5, q6, q7, q8, q9, q10, q11, F, J, al, tx, sv, td, fu, sd, he, ma, sc, fr, re, pl, rfl, hR⟩
  refine mxI (X := (mC g qM q1 q2 q3 q4 q5 q6 q7 q8 q9 q10 q11 F J al tx sv td fu sd he ma sc fr re)) (pl := pl) (w2 := fun u => (mC g qM q1 q2 q3 q4 q5 q6 q7 q8 q9 q10 q11 u.1 J u.2.1 tx sv td fu sd u.2.2.1 u.2.2.2 sc fr re)) (wX9_needs l g qM q1 q2 q3 q4 q5 q6 q7 q8 q9 q10 q11 sz F J al he ma p1 p2 (sX9_needs (pgT s.1) (pgA s.1) (pgB s.1) (pgL s.1) F J al he ma p1 p2 hR.1.1)) [0, 1, 7, 8] [2, 3, 4, 5, 6, 9, 10, 11] [8, 9, 0, 1, 2, 3, 4, 10, 11, 5, 6, 7] rfl rfl rfl (by decide) (by decide) (by decide) (by decide) (fun u => rfl) (fun r u h => ?_)
  exact ⟨h.1, q1, q2, q3, q4, q5, q6, q7, q8, q9, q10, q11, u.1, J, u.2.1, tx, sv, td, fu, sd, u.2.2.1, u.2.2.2, sc, fr, re, pl, rfl, by rw [h.2]; exact hR⟩
set_option maxHeartbeats 4000000 in
set_option maxRecDepth 100000 in
theorem uM_silent (l : Launch) (g : GP) (v : GV) (qM : Nat) (s : St) (p1 : Int32) (p2 : Int32) : UCi l g v yX9_silent wsX9_silent rmX9_silent qM [.int p1, .int p2] 0 0 (MAt g qM s) (fun r u => r.toInt = spSilent (pgT s.1) (pgA s.1) (pgB s.1) (pgL s.1) p1.toInt p2.toInt ∧ MAt g qM s u) := by
  rintro w sz ⟨q1, q2, q3, q4, q5, q6, q7, q8, q9, q10, q11, F, J, al, tx, sv, td, fu, sd, he, ma, sc, fr, re, pl, rfl, hR⟩
  refine mxI (X := (mC g qM q1 q2 q3 q4 q5 q6 q7 q8 q9 q10 q11 F J al tx sv td fu sd he ma sc fr re)) (pl := pl) (w2 := fun u => (mC g qM q1 q2 q3 q4 q5 q6 q7 q8 q9 q10 q11 u.1 J u.2.1 tx sv td fu sd u.2.2.1 u.2.2.2 sc fr re)) (wX9_silent l g qM q1 q2 q3 q4 q5 q6 q7 q8 q9 q10 q11 sz F J al he ma p1 p2 (sX9_silent (pgT s.1) (pgA s.1) (pgB s.1) (pgL s.1) F J al he ma p1 p2 hR.1.1)) [0, 1, 7, 8] [2, 3, 4, 5, 6, 9, 10, 11] [8, 9, 0, 1, 2, 3, 4, 10, 11, 5, 6, 7] rfl rfl rfl (by decide) (by decide) (by decide) (by decide) (fun u => rfl) (fun r u h => ?_)
  exact ⟨h.1, q1, q2, q3, q4, q5, q6, q7, q8, q9, q10, q11, u.1, J, u.2.1, tx, sv, td, fu, sd, u.2.2.1, u.2.2.2, sc, fr, re, pl, rfl, by rw [h.2]; exact hR⟩
set_option maxHeartbeats 4000000 in
set_option maxRecDepth 100000 in
theorem uM_behind (l : Launch) (g : GP) (v : GV) (qM : Nat) (s : St) (p1 : Int32) (p2 : Int32) : UCi l g v yX9_behind wsX9_behind rmX9_behind qM [.int p1, .int p2] 0 0 (MAt g qM s) (fun r u => r.toInt = spBehind (pgA s.1) (pgB s.1) p1.toInt p2.toInt ∧ MAt g qM s u) := by
  rintro w sz ⟨q1, q2, q3, q4, q5, q6, q7, q8, q9, q10, q11, F, J, al, tx, sv, td, fu, sd, he, ma, sc, fr, re, pl, rfl, hR⟩
  refine mxI (X := (mC g qM q1 q2 q3 q4 q5 q6 q7 q8 q9 q10 q11 F J al tx sv td fu sd he ma sc fr re)) (pl := pl) (w2 := fun u => (mC g qM q1 q2 q3 q4 q5 q6 q7 q8 q9 q10 q11 u J al tx sv td fu sd he ma sc fr re)) (wX9_behind l g qM q1 q2 q3 q4 q5 q6 q7 q8 q9 q10 q11 sz F J al p1 p2 (sX9_behind (pgT s.1) (pgA s.1) (pgB s.1) (pgL s.1) F J al p1 p2 hR.1.1)) [0, 1] [2, 3, 4, 5, 6, 7, 8, 9, 10, 11] [10, 11, 0, 1, 2, 3, 4, 5, 6, 7, 8, 9] rfl rfl rfl (by decide) (by decide) (by decide) (by decide) (fun u => rfl) (fun r u h => ?_)
  exact ⟨h, q1, q2, q3, q4, q5, q6, q7, q8, q9, q10, q11, u, J, al, tx, sv, td, fu, sd, he, ma, sc, fr, re, pl, rfl, hR⟩
set_option maxHeartbeats 4000000 in
set_option maxRecDepth 100000 in
theorem uM_track (l : Launch) (g : GP) (v : GV) (qM : Nat) (s : St) (p1 : Int32) (p2 : Int32) (p3 : Int32) (ok : okS s) : UCi l g v yX9_track wsX9_track rmX9_track qM [.int p1, .int p2, .int p3] 0 0 (MAt g qM s) (fun r u => r.toInt = spTrack (pgT s.1) (pgA s.1) (pgB s.1) (pgL s.1) p1.toInt p2.toInt p3.toInt ∧ MAt g qM s u) := by
  rintro w sz ⟨q1, q2, q3, q4, q5, q6, q7, q8, q9, q10, q11, F, J, al, tx, sv, td, fu, sd, he, ma, sc, fr, re, pl, rfl, hR⟩
  refine mxI (X := (mC g qM q1 q2 q3 q4 q5 q6 q7 q8 q9 q10 q11 F J al tx sv td fu sd he ma sc fr re)) (pl := pl) (w2 := fun u => (mC g qM q1 q2 q3 q4 q5 q6 q7 q8 q9 q10 q11 u.1 J u.2.1 tx sv td fu sd u.2.2.1 u.2.2.2 sc fr re)) (wX9_track l g qM q1 q2 q3 q4 q5 q6 q7 q8 q9 q10 q11 sz F J al he ma p1 p2 p3 (sX9_track (pgT s.1) (pgA s.1) (pgB s.1) (pgL s.1) F J al he ma p1 p2 p3 ⟨hR.1.1, ok_fr ok.1.1, ok_fr ok.1.2⟩)) [0, 1, 7, 8] [2, 3, 4, 5, 6, 9, 10, 11] [8, 9, 0, 1, 2, 3, 4, 10, 11, 5, 6, 7] rfl rfl rfl (by decide) (by decide) (by decide) (by decide) (fun u => rfl) (fun r u h => ?_)
  exact ⟨h.1, q1, q2, q3, q4, q5, q6, q7, q8, q9, q10, q11, u.1, J, u.2.1, tx, sv, td, fu, sd, u.2.2.1, u.2.2.2, sc, fr, re, pl, rfl, by rw [h.2]; exact hR⟩
set_option maxHeartbeats 4000000 in
set_option maxRecDepth 100000 in
theorem uM_chance (l : Launch) (g : GP) (v : GV) (qM : Nat) (s : St) (p1 : Int32) (p2 : Int32) (p3 : Int32) (p4 : Int32) : UCl l g v yX9_chance wsX9_chance rmX9_chance qM [.int p1, .int p2, .int p3, .int p4] 0 0 (MAt g qM s) (fun r u => r.toInt = spChance p1.toInt p2.toInt p3.toInt p4.toInt ∧ MAt g qM s u) := by
  rintro w sz ⟨q1, q2, q3, q4, q5, q6, q7, q8, q9, q10, q11, F, J, al, tx, sv, td, fu, sd, he, ma, sc, fr, re, pl, rfl, hR⟩
  refine mxL (X := (mC g qM q1 q2 q3 q4 q5 q6 q7 q8 q9 q10 q11 F J al tx sv td fu sd he ma sc fr re)) (pl := pl) (w2 := fun u => (mC g qM q1 q2 q3 q4 q5 q6 q7 q8 q9 q10 q11 u.1 u.2 al tx sv td fu sd he ma sc fr re)) (wX9_chance l g qM q1 q2 q3 q4 q5 q6 q7 q8 q9 q10 q11 sz F J p1 p2 p3 p4 (sX9_chance F J p1 p2 p3 p4 trivial)) [0] [1, 2, 3, 4, 5, 6, 7, 8, 9, 10, 11] [11, 0, 1, 2, 3, 4, 5, 6, 7, 8, 9, 10] rfl rfl rfl (by decide) (by decide) (by decide) (by decide) (fun u => rfl) (fun r u h => ?_)
  exact ⟨h, q1, q2, q3, q4, q5, q6, q7, q8, q9, q10, q11, u.1, u.2, al, tx, sv, td, fu, sd, he, ma, sc, fr, re, pl, rfl, hR⟩
set_option maxHeartbeats 4000000 in
set_option maxRecDepth 100000 in
theorem uM_bar (l : Launch) (g : GP) (v : GV) (qM : Nat) (s : St) (p1 : Int32) (p2 : Int32) : UCi l g v yX9_bar wsX9_bar rmX9_bar qM [.int p1, .int p2] 0 0 (MAt g qM s) (fun r u => r.toInt = spBar p1.toInt p2.toInt ∧ MAt g qM s u) := by
  rintro w sz ⟨q1, q2, q3, q4, q5, q6, q7, q8, q9, q10, q11, F, J, al, tx, sv, td, fu, sd, he, ma, sc, fr, re, pl, rfl, hR⟩
  refine mxI (X := (mC g qM q1 q2 q3 q4 q5 q6 q7 q8 q9 q10 q11 F J al tx sv td fu sd he ma sc fr re)) (pl := pl) (w2 := fun u => (mC g qM q1 q2 q3 q4 q5 q6 q7 q8 q9 q10 q11 u.1 u.2 al tx sv td fu sd he ma sc fr re)) (wX9_bar l g qM q1 q2 q3 q4 q5 q6 q7 q8 q9 q10 q11 sz F J p1 p2 (sX9_bar F J p1 p2 trivial)) [0] [1, 2, 3, 4, 5, 6, 7, 8, 9, 10, 11] [11, 0, 1, 2, 3, 4, 5, 6, 7, 8, 9, 10] rfl rfl rfl (by decide) (by decide) (by decide) (by decide) (fun u => rfl) (fun r u h => ?_)
  exact ⟨h, q1, q2, q3, q4, q5, q6, q7, q8, q9, q10, q11, u.1, u.2, al, tx, sv, td, fu, sd, he, ma, sc, fr, re, pl, rfl, hR⟩
set_option maxHeartbeats 4000000 in
set_option maxRecDepth 100000 in
theorem uM_image (l : Launch) (g : GP) (v : GV) (qM : Nat) (s : St) (p1 : Int32) : UCi l g v yX9_image wsX9_image rmX9_image qM [.int p1] 0 0 (MAt g qM s) (fun r u => r.toInt = spIm p1.toInt ∧ MAt g qM (nIm s p1.toInt) u) := by
  rintro w sz ⟨q1, q2, q3, q4, q5, q6, q7, q8, q9, q10, q11, F, J, al, tx, sv, td, fu, sd, he, ma, sc, fr, re, pl, rfl, hR⟩
  refine mxI (X := (mC g qM q1 q2 q3 q4 q5 q6 q7 q8 q9 q10 q11 F J al tx sv td fu sd he ma sc fr re)) (pl := pl) (w2 := fun u => (mC g qM q1 q2 q3 q4 q5 q6 q7 q8 q9 q10 q11 u.1 J u.2.1 u.2.2.1 u.2.2.2 td fu sd he ma sc fr re)) (wX9_image l g qM q1 q2 q3 q4 q5 q6 q7 q8 q9 q10 q11 sz F J al tx sv p1 (sX9_image F J al tx sv p1 trivial)) [0, 1, 2, 3] [4, 5, 6, 7, 8, 9, 10, 11] [8, 9, 10, 11, 0, 1, 2, 3, 4, 5, 6, 7] rfl rfl rfl (by decide) (by decide) (by decide) (by decide) (fun u => rfl) (fun r u h => ?_)
  obtain ⟨h1, h2⟩ := h
  by_cases c : 0 ≤ p1.toInt ∧ p1.toInt ≤ 2
  · obtain ⟨a1, a2, a3⟩ := h1 c
    refine ⟨by unfold spIm; rw [a1, if_pos c]; rfl, q1, q2, q3, q4, q5, q6, q7, q8, q9, q10, q11, u.1, J, u.2.1, u.2.2.1, u.2.2.2, td, fu, sd, he, ma, sc, fr, re, pl, rfl, ?_⟩
    rw [a3]; exact RM_im hR c a2
  · obtain ⟨a1, a2, a3, a4⟩ := h2 c
    refine ⟨by unfold spIm; rw [a1, if_neg c]; rfl, q1, q2, q3, q4, q5, q6, q7, q8, q9, q10, q11, u.1, J, u.2.1, u.2.2.1, u.2.2.2, td, fu, sd, he, ma, sc, fr, re, pl, rfl, ?_⟩
    unfold nIm; rw [if_neg c, a2, a3, a4]; exact hR
set_option maxHeartbeats 4000000 in
set_option maxRecDepth 100000 in
theorem uM_again (l : Launch) (g : GP) (v : GV) (qM : Nat) (s : St) (p1 : Int32) : UCi l g v yX9_again wsX9_again rmX9_again qM [.int p1] 0 0 (MAt g qM s) (fun r u => r.toInt = spAg s p1.toInt ∧ MAt g qM (nAg s p1.toInt) u) := by
  rintro w sz ⟨q1, q2, q3, q4, q5, q6, q7, q8, q9, q10, q11, F, J, al, tx, sv, td, fu, sd, he, ma, sc, fr, re, pl, rfl, hR⟩
  refine mxI (X := (mC g qM q1 q2 q3 q4 q5 q6 q7 q8 q9 q10 q11 F J al tx sv td fu sd he ma sc fr re)) (pl := pl) (w2 := fun u => (mC g qM q1 q2 q3 q4 q5 q6 q7 q8 q9 q10 q11 u.1 J u.2.1 u.2.2 sv td fu sd he ma sc fr re)) (wX9_again l g qM q1 q2 q3 q4 q5 q6 q7 q8 q9 q10 q11 sz F J al tx sv p1 (sX9_again F J al tx sv p1 trivial)) [0, 1, 2, 3] [4, 5, 6, 7, 8, 9, 10, 11] [8, 9, 10, 11, 0, 1, 2, 3, 4, 5, 6, 7] rfl rfl rfl (by decide) (by decide) (by decide) (by decide) (fun u => rfl) (fun r u h => ?_)
  obtain ⟨h1, h2⟩ := h
  unfold spAg nAg
  by_cases c : 0 ≤ p1.toInt ∧ p1.toInt ≤ 2
  · rw [if_pos c]
    rcases hR.2 p1.toInt.toNat (by omega) with ⟨q1, q2⟩ | ⟨P, q1, q2, q3⟩
    · obtain ⟨a1, a2, a3⟩ := h2 (fun z => z.2 q1)
      refine ⟨by rw [a1, if_neg (fun z => z.2 q2)]; rfl, q1, q2, q3, q4, q5, q6, q7, q8, q9, q10, q11, u.1, J, u.2.1, u.2.2, sv, td, fu, sd, he, ma, sc, fr, re, pl, rfl, ?_⟩
      rw [q2, a2, a3]; exact hR
    · obtain ⟨a1, a2⟩ := h1 ⟨c, by rw [q1]; decide⟩
      refine ⟨by rw [a1, if_pos ⟨c, by rw [q2]; exact Option.some_ne_none _⟩]; rfl, q1, q2, q3, q4, q5, q6, q7, q8, q9, q10, q11, u.1, J, u.2.1, u.2.2, sv, td, fu, sd, he, ma, sc, fr, re, pl, rfl, ?_⟩
      rw [q2]; exact RM_ag hR c q2 a2
  · obtain ⟨a1, a2, a3⟩ := h2 (fun z => c z.1)
    refine ⟨by rw [a1, if_neg (fun z => c z.1)]; rfl, q1, q2, q3, q4, q5, q6, q7, q8, q9, q10, q11, u.1, J, u.2.1, u.2.2, sv, td, fu, sd, he, ma, sc, fr, re, pl, rfl, ?_⟩
    rw [if_neg c, a2, a3]; exact hR
