theorem okN {s : St} (h : okS s) {P : Pg} (hP : okPg P) : okS (P, s.2) := ⟨hP, h.2⟩
theorem okPg_mk {P : Pg} (h : okPg P) (t : Cd) (l n : Nat) (f p : Int) (x : Nat → Int32) : okPg (mkP t (pgA P) (pgB P) l n f p x) := h
theorem okPg_wr {P : Pg} (h : okPg P) (x : Int64) : okPg (nWr P x) := by unfold nWr; exact okPg_mk h _ _ _ _ _ _
theorem okPg_vo {P : Pg} (h : okPg P) (p v : Int) : okPg (nVo P p v) := by unfold nVo; exact okPg_mk h _ _ _ _ _ _
theorem okPg_li {P : Pg} (h : okPg P) (n : Int) : okPg (nLi P n) := by unfold nLi; exact okPg_mk h _ _ _ _ _ _
theorem okPg_tr {P : Pg} (h : okPg P) (p b : Int) : okPg (nTr P p b) := by unfold nTr; exact okPg_mk h _ _ _ _ _ _
theorem okPg_sw {P : Pg} (h : okPg P) (p q : Int) : okPg (nSw P p q) := by unfold nSw; exact okPg_mk h _ _ _ _ _ _
