-- the text's signs and tokens
def blB (x : Int32) : Bool := decide (x.toInt = 32 ∨ x.toInt = 10)
def leB (x : Int32) : Bool := decide (97 ≤ x.toInt ∧ x.toInt ≤ 122)
def diB (x : Int32) : Bool := decide (48 ≤ x.toInt ∧ x.toInt ≤ 57)
/-- the end of a stretch of signs of a kind, from s on -/
def enS (p : Int32 → Bool) (b : Nat → Int32) (nb s : Nat) : Nat := s + fa_first (fun k => !p (b (s + k))) (nb - s)
/-- a token's start, end, kind (0 none is left, 1 a word, 2 a number, 3 the sign, 4 none) -/
def tS (b : Nat → Int32) (nb i : Nat) : Nat := enS blB b nb i
def tK (b : Nat → Int32) (nb i : Nat) : Nat := if nb ≤ tS b nb i then 0 else if leB (b (tS b nb i)) = true then (if enS leB b nb (tS b nb i) - tS b nb i ≤ 13 then 1 else 4) else if diB (b (tS b nb i)) = true then (if enS diB b nb (tS b nb i) - tS b nb i ≤ 4 then 2 else 4) else if (b (tS b nb i)).toInt = 59 then 3 else 4
def tE (b : Nat → Int32) (nb i : Nat) : Nat := if nb ≤ tS b nb i then tS b nb i else if leB (b (tS b nb i)) = true then enS leB b nb (tS b nb i) else if diB (b (tS b nb i)) = true then enS diB b nb (tS b nb i) else tS b nb i + 1
def vaN (b : Nat → Int32) (s : Nat) : Nat → Nat
  | 0 => 0
  | n + 1 => vaN b s n * 10 + ((b (s + n)).toInt - 48).toNat
theorem enS_le (p : Int32 → Bool) (b : Nat → Int32) {nb s : Nat} (h : s ≤ nb) : s ≤ enS p b nb s ∧ enS p b nb s ≤ nb := by
  have := fa_first_le (fun k => !p (b (s + k))) (nb - s)
  unfold enS; omega
theorem enS_at {p : Int32 → Bool} {b : Nat → Int32} {nb s k : Nat} (hk : s ≤ k) (hkn : k < nb) (hall : ∀ j, s ≤ j → j < k → p (b j) = true) (hno : p (b k) = false) : enS p b nb s = k := by
  unfold enS
  rw [ff_eq (k := k - s) (by omega) (by rw [show s + (k - s) = k by omega, hno]; rfl) (fun i hi => by rw [hall (s + i) (by omega) (by omega)]; rfl)]
  omega
theorem enS_nb {p : Int32 → Bool} {b : Nat → Int32} {nb s : Nat} (hs : s ≤ nb) (hall : ∀ j, s ≤ j → j < nb → p (b j) = true) : enS p b nb s = nb := by
  unfold enS
  rw [ff_none (fun i hi => by rw [hall (s + i) (by omega) (by omega)]; rfl)]
  omega
theorem enS_in {p : Int32 → Bool} {b : Nat → Int32} {nb s j : Nat} (h1 : s ≤ j) (h2 : j < enS p b nb s) : p (b j) = true := by
  unfold enS at h2
  have := fa_first_no (fun k => !p (b (s + k))) (nb - s) (j - s) (by omega)
  rw [show s + (j - s) = j by omega] at this
  cases h : p (b j)
  · rw [h] at this; exact absurd this (by decide)
  · rfl
theorem enS_gt {p : Int32 → Bool} {b : Nat → Int32} {nb s : Nat} (hs : s < nb) (h : p (b s) = true) : s < enS p b nb s := by
  have := enS_le p b (Nat.le_of_lt hs)
  rcases Nat.lt_or_ge s (enS p b nb s) with z | z
  · exact z
  · have e : enS p b nb s = s := by omega
    unfold enS at e
    have hy := fa_first_yes (fun k => !p (b (s + k))) (nb - s) (by omega)
    rw [show fa_first (fun k => !p (b (s + k))) (nb - s) = 0 by omega, Nat.add_zero, h] at hy
    exact absurd hy (by decide)
theorem tS_le (b : Nat → Int32) {nb i : Nat} (h : i ≤ nb) : i ≤ tS b nb i ∧ tS b nb i ≤ nb := enS_le blB b h
theorem tE_le (b : Nat → Int32) {nb i : Nat} (h : i ≤ nb) : tS b nb i ≤ tE b nb i ∧ tE b nb i ≤ nb := by
  have h1 := tS_le b h
  have h2 := enS_le leB b h1.2
  have h3 := enS_le diB b h1.2
  unfold tE
  split
  · omega
  · split
    · exact h2
    · split
      · exact h3
      · omega
theorem tE_gt (b : Nat → Int32) {nb i : Nat} (h : i ≤ nb) (hk : tK b nb i ≠ 0) : tS b nb i < tE b nb i := by
  have h1 := tS_le b h
  unfold tK at hk
  unfold tE
  by_cases c : nb ≤ tS b nb i
  · rw [if_pos c] at hk; exact absurd rfl hk
  · rw [if_neg c]
    by_cases d : leB (b (tS b nb i)) = true
    · rw [if_pos d]; exact enS_gt (by omega) d
    · rw [if_neg d]
      by_cases e : diB (b (tS b nb i)) = true
      · rw [if_pos e]; exact enS_gt (by omega) e
      · rw [if_neg e]; omega
theorem vaN_le {b : Nat → Int32} {s : Nat} : ∀ n, (∀ j, j < n → diB (b (s + j)) = true) → vaN b s n < 10 ^ n
  | 0, _ => by simp [vaN]
  | n + 1, h => by
    have ih := vaN_le (b := b) (s := s) n (fun j hj => h j (by omega))
    have hd := of_decide_eq_true (h n (by omega))
    rw [vaN, Nat.pow_succ]; omega
/-- a word: its kind and its signs -/
theorem tK_1 {b : Nat → Int32} {nb i : Nat} (h : tK b nb i = 1) : tS b nb i < nb ∧ tE b nb i = enS leB b nb (tS b nb i) ∧ tE b nb i - tS b nb i ≤ 13 := by
  unfold tK at h
  unfold tE
  by_cases c : nb ≤ tS b nb i
  · rw [if_pos c] at h; exact absurd h (by decide)
  · rw [if_neg c] at h ⊢
    by_cases d : leB (b (tS b nb i)) = true
    · rw [if_pos d] at h ⊢
      by_cases e : enS leB b nb (tS b nb i) - tS b nb i ≤ 13
      · exact ⟨by omega, rfl, e⟩
      · rw [if_neg e] at h; exact absurd h (by decide)
    · rw [if_neg d] at h
      by_cases e : diB (b (tS b nb i)) = true
      · rw [if_pos e] at h; split at h <;> exact absurd h (by decide)
      · rw [if_neg e] at h; split at h <;> exact absurd h (by decide)
theorem tK_2 {b : Nat → Int32} {nb i : Nat} (h : tK b nb i = 2) : tS b nb i < nb ∧ tE b nb i = enS diB b nb (tS b nb i) ∧ tE b nb i - tS b nb i ≤ 4 := by
  unfold tK at h
  unfold tE
  by_cases c : nb ≤ tS b nb i
  · rw [if_pos c] at h; exact absurd h (by decide)
  · rw [if_neg c] at h ⊢
    by_cases d : leB (b (tS b nb i)) = true
    · rw [if_pos d] at h; split at h <;> exact absurd h (by decide)
    · rw [if_neg d] at h ⊢
      by_cases e : diB (b (tS b nb i)) = true
      · rw [if_pos e] at h ⊢
        by_cases f : enS diB b nb (tS b nb i) - tS b nb i ≤ 4
        · exact ⟨by omega, rfl, f⟩
        · rw [if_neg f] at h; exact absurd h (by decide)
      · rw [if_neg e] at h; split at h <;> exact absurd h (by decide)
/-- a number's value -/
def tV (b : Nat → Int32) (nb i : Nat) : Nat := vaN b (tS b nb i) (tE b nb i - tS b nb i)
theorem tV_le {b : Nat → Int32} {nb i : Nat} (hi : i ≤ nb) (h : tK b nb i = 2) : tV b nb i ≤ 9999 := by
  have h2 := tK_2 h
  have hv := vaN_le (b := b) (s := tS b nb i) (tE b nb i - tS b nb i) (fun j hj => enS_in (nb := nb) (s := tS b nb i) (j := tS b nb i + j) (by omega) (by rw [h2.2.1] at hj; omega))
  have hp : 10 ^ (tE b nb i - tS b nb i) ≤ 10 ^ 4 := Nat.pow_le_pow_right (by decide) h2.2.2
  unfold tV; omega
/-- the word at i is the one at a place of the list; its place (15: none of them) -/
def wB (b : Nat → Int32) (nb i k : Nat) : Bool := decide (tK b nb i = 1 ∧ tE b nb i - tS b nb i = lenW.getD k 0 ∧ ∀ j, j < lenW.getD k 0 → b (tS b nb i + j) = chW k j)
def wI (b : Nat → Int32) (nb i : Nat) : Nat := fa_first (fun k => wB b nb i k) 15
theorem wW_one : ∀ k, k < 15 → ∀ k', k' < 15 → lenW.getD k 0 = lenW.getD k' 0 → (∀ j, j < lenW.getD k 0 → (bytW.getD k []).getD j 0 = (bytW.getD k' []).getD j 0) → k = k' := by decide +kernel
theorem wB_one {b : Nat → Int32} {nb i k k' : Nat} (hk : k < 15) (hk' : k' < 15) (h : wB b nb i k = true) (h' : wB b nb i k' = true) : k = k' := by
  have h := of_decide_eq_true h
  have h' := of_decide_eq_true h'
  have e : lenW.getD k 0 = lenW.getD k' 0 := h.2.1.symm.trans h'.2.1
  exact wW_one k hk k' hk' e (fun j hj => (h.2.2 j hj).symm.trans (h'.2.2 j (by omega)))
theorem wI_iff {b : Nat → Int32} {nb i k : Nat} (hk : k < 15) : wB b nb i k = true ↔ wI b nb i = k := by
  constructor
  · intro h
    refine ff_eq hk h (fun j hj => ?_)
    cases e : wB b nb i j
    · rfl
    · exact absurd (wB_one (by omega) hk e h) (by omega)
  · intro h
    have := fa_first_yes (fun k => wB b nb i k) 15 (by show wI b nb i < 15; omega)
    rw [show fa_first (fun k => wB b nb i k) 15 = wI b nb i from rfl, h] at this
    exact this
theorem wI_le (b : Nat → Int32) (nb i : Nat) : wI b nb i ≤ 15 := fa_first_le _ _
theorem wI_1 {b : Nat → Int32} {nb i : Nat} (h : wI b nb i < 15) : tK b nb i = 1 := (of_decide_eq_true ((wI_iff h).mpr rfl)).1
/-- what a token is, in a reader's fields -/
def rdK (b : Nat → Int32) (nb i : Nat) (D : Nat → Int32) : Prop := (D 4).toInt = (nb : Int) ∧ nb ≤ 500 ∧ i ≤ nb ∧ (D 6).toInt = (tS b nb i : Int) ∧ (D 7).toInt = (tE b nb i : Int) ∧ (D 5).toInt = (tK b nb i : Int) ∧ (tK b nb i = 2 → (D 8).toInt = (tV b nb i : Int))
def kp23 (D D' : Nat → Int32) : Prop := D' 2 = D 2 ∧ D' 3 = D 3
-- what the text tells, statement by statement
abbrev Ft : Type := Int × Int
abbrev Ou : Type := Bool × Nat × Ft
def noF (f : Ft) (k : Int) (s : Nat) : Ft := if f.1 = 0 then (k, (s : Int)) else f
def fl (D : Nat → Int32) : Ft := ((D 2).toInt, (D 3).toInt)
def rfS (s : Nat) : Ou := (false, 0, (1, (s : Int)))
def numS (b : Nat → Int32) (nb i : Nat) (lo hi : Int) (f : Ft) : Ou := if tK b nb i = 2 then (true, tE b nb i, if (tV b nb i : Int) < lo ∨ hi < (tV b nb i : Int) then noF f 2 (tS b nb i) else f) else rfS (tS b nb i)
def sgnS (b : Nat → Int32) (nb : Nat) (o : Ou) : Ou := if o.1 = true then (if tK b nb o.2.1 = 3 then (true, tE b nb o.2.1, o.2.2) else rfS (tS b nb o.2.1)) else o
def mkS (b : Nat → Int32) (nb i p0 w n : Nat) (f : Ft) : Ou := if (numS b nb i 0 199 (if 10 ≤ n then noF f 4 p0 else f)).1 = true ∧ w = 14 then numS b nb (tE b nb i) (tV b nb i) 199 (numS b nb i 0 199 (if 10 ≤ n then noF f 4 p0 else f)).2.2 else numS b nb i 0 199 (if 10 ≤ n then noF f 4 p0 else f)
def mkG (b : Nat → Int32) (nb i w : Nat) (G : Lg) : Lg := gA G (w - 11) (tV b nb i) (if w = 14 then tV b nb (tE b nb i) else tV b nb i)
def stJ (w : Nat) : Nat := if w = 4 then 0 else if w = 7 then 2 else if w = 8 then 3 else if w = 9 then 4 else if w = 10 then 5 else 1
def stM (w : Nat) : Int := if w = 5 then 64 else if w = 6 then 64 else if w = 8 then 200 else if w = 9 then 100 else 9999
def stL (w : Nat) : Int := if w = 8 then 1 else 0
def stV (w : Nat) (v : Int) : Int := if w = 6 then -v else v
def stG (b : Nat → Int32) (nb i w : Nat) (G : Lg) : Lg := gS G (stJ w) (stV w (tV b nb i))
def legS (b : Nat → Int32) (nb i : Nat) (G : Lg) (f : Ft) : Ou := if 4 ≤ wI b nb i ∧ wI b nb i ≤ 10 then numS b nb (tE b nb i) (stL (wI b nb i)) (stM (wI b nb i)) f else if 11 ≤ wI b nb i ∧ wI b nb i ≤ 14 then mkS b nb (tE b nb i) (tS b nb i) (wI b nb i) (gm G) f else rfS (tS b nb i)
def legG (b : Nat → Int32) (nb i : Nat) (G : Lg) : Lg := if 4 ≤ wI b nb i ∧ wI b nb i ≤ 10 then stG b nb (tE b nb i) (wI b nb i) G else mkG b nb (tE b nb i) (wI b nb i) G
/-- a row of chips -/
def rwB (b : Nat → Int32) (nb i : Nat) : Bool := decide (tK b nb i = 1 ∧ 2 ≤ tE b nb i - tS b nb i ∧ ∀ j, j < tE b nb i - tS b nb i → (b (tS b nb i + j)).toInt = 120 ∨ (b (tS b nb i + j)).toInt = 111)
def rwN (b : Nat → Int32) (nb i : Nat) : Nat := trN (fun k => decide ((b (tS b nb i + k)).toInt = 120)) (tE b nb i - tS b nb i)
def partS (b : Nat → Int32) (nb i p0 n : Nat) (f : Ft) : Ou := if rwB b nb i = true then numS b nb (tE b nb i) 1 9 (if 5 ≤ n then noF f 3 p0 else f) else rfS (tS b nb i)
def partT (b : Nat → Int32) (nb i : Nat) (T : Cd) : Cd := (cn T + 1, (fun q => if q = cn T then tE b nb i - tS b nb i else cL T q), (fun q => if q = cn T then rwN b nb i else cR T q), (fun q => if q = cn T then tV b nb (tE b nb i) else cV T q))
def lineS (b : Nat → Int32) (nb i : Nat) (T : Cd) (G0 G1 : Lg) (f : Ft) : Ou := if wI b nb i = 0 then partS b nb (tE b nb i) (tS b nb i) (cn T) f else if wI b nb i = 1 then numS b nb (tE b nb i) 1 9999 f else if wI b nb i = 2 then legS b nb (tE b nb i) G0 f else if wI b nb i = 3 then legS b nb (tE b nb i) G1 f else rfS (tS b nb i)
def liT (b : Nat → Int32) (nb i : Nat) (T : Cd) : Cd := if wI b nb i = 0 then partT b nb (tE b nb i) T else T
def liL (b : Nat → Int32) (nb i lim : Nat) : Nat := if wI b nb i = 1 then tV b nb (tE b nb i) else lim
def li0 (b : Nat → Int32) (nb i : Nat) (G : Lg) : Lg := if wI b nb i = 2 then legG b nb (tE b nb i) G else G
def li1 (b : Nat → Int32) (nb i : Nat) (G : Lg) : Lg := if wI b nb i = 3 then legG b nb (tE b nb i) G else G
abbrev Al : Type := Ft × Cd × Lg × Lg × Nat
def allS (b : Nat → Int32) (nb : Nat) : Nat → Nat → Cd → Lg → Lg → Nat → Ft → Al
  | 0, _, T, G0, G1, lim, f => (f, T, G0, G1, lim)
  | n + 1, i, T, G0, G1, lim, f => if tK b nb i = 0 then (f, T, G0, G1, lim) else if (sgnS b nb (lineS b nb i T G0 G1 f)).1 = true then allS b nb n (sgnS b nb (lineS b nb i T G0 G1 f)).2.1 (liT b nb i T) (li0 b nb i G0) (li1 b nb i G1) (liL b nb i lim) (sgnS b nb (lineS b nb i T G0 G1 f)).2.2 else ((sgnS b nb (lineS b nb i T G0 G1 f)).2.2, T, G0, G1, lim)
theorem rfS_1 {s : Nat} : ¬ (rfS s).1 = true := by show ¬ (false = true); decide
theorem noF_0 {f : Ft} {k : Int} {s : Nat} (hk : k ≠ 0) : (noF f k s).1 ≠ 0 := by
  unfold noF; split
  · exact hk
  · assumption
theorem noF_k {f : Ft} {k : Int} {s : Nat} (h : f.1 ≠ 0) : noF f k s = f := if_neg h
theorem numS_0 {b : Nat → Int32} {nb i : Nat} {lo hi : Int} {f : Ft} (h : (numS b nb i lo hi f).2.2.1 = 0) : tK b nb i = 2 ∧ f.1 = 0 ∧ lo ≤ (tV b nb i : Int) ∧ (tV b nb i : Int) ≤ hi ∧ (numS b nb i lo hi f).2.2 = f := by
  unfold numS at h ⊢
  by_cases c : tK b nb i = 2
  · rw [if_pos c] at h ⊢
    by_cases d : (tV b nb i : Int) < lo ∨ hi < (tV b nb i : Int)
    · rw [if_pos d] at h
      exact absurd h (noF_0 (by decide))
    · rw [if_neg d] at h ⊢
      exact ⟨c, h, by omega, by omega, rfl⟩
  · rw [if_neg c] at h
    exact absurd h (by show (1 : Int) ≠ 0; decide)
theorem numS_t {b : Nat → Int32} {nb i : Nat} {lo hi : Int} {f : Ft} : (numS b nb i lo hi f).1 = true ↔ tK b nb i = 2 := by
  unfold numS
  by_cases c : tK b nb i = 2
  · rw [if_pos c]; exact ⟨fun _ => c, fun _ => rfl⟩
  · rw [if_neg c]; exact ⟨fun q => absurd q rfS_1, fun q => absurd q c⟩
theorem numS_p {b : Nat → Int32} {nb i : Nat} {lo hi : Int} {f : Ft} (h : tK b nb i = 2) : (numS b nb i lo hi f).2.1 = tE b nb i := by unfold numS; rw [if_pos h]
theorem sgnS_f {b : Nat → Int32} {nb : Nat} {o : Ou} (h : (sgnS b nb o).2.2.1 = 0) (ho : o.1 = false → o.2.2.1 ≠ 0) : o.1 = true ∧ o.2.2.1 = 0 := by
  unfold sgnS at h
  by_cases c : o.1 = true
  · rw [if_pos c] at h
    refine ⟨c, ?_⟩
    by_cases d : tK b nb o.2.1 = 3
    · rw [if_pos d] at h; exact h
    · rw [if_neg d] at h; exact absurd h (by show (1 : Int) ≠ 0; decide)
  · rw [if_neg c] at h
    exact absurd h (ho (by simpa using c))
theorem numS_n {b : Nat → Int32} {nb i : Nat} {lo hi : Int} {f : Ft} (h : (numS b nb i lo hi f).1 = false) : (numS b nb i lo hi f).2.2.1 ≠ 0 := by
  intro q
  have := (numS_0 q).1
  rw [numS_t.mpr this] at h
  exact absurd h (by decide)
theorem if_f {c : Prop} [Decidable c] {f : Ft} {k : Int} {s : Nat} (hk : k ≠ 0) (h : (if c then noF f k s else f).1 = 0) : f.1 = 0 ∧ ¬ c := by
  by_cases q : c
  · rw [if_pos q] at h; exact absurd h (noF_0 hk)
  · rw [if_neg q] at h; exact ⟨h, q⟩
theorem if_k {c d : Prop} [Decidable c] [Decidable d] {f : Ft} {k : Int} {s : Nat} (h : f.1 = 0 → (c ↔ d)) : (if c then noF f k s else f) = if d then noF f k s else f := by
  by_cases z : f.1 = 0
  · by_cases q : c
    · rw [if_pos q, if_pos ((h z).mp q)]
    · rw [if_neg q, if_neg (fun w => q ((h z).mpr w))]
  · rw [noF_k z, ite_self, ite_self]
/-- a leg in the reader -/
def rdG (G : Lg) (f : Ft) (mk : Int32) (nu kd fi la : Nat → Int32) : Prop := (f.1 = 0 → isG G mk nu kd fi la) ∧ 0 ≤ mk.toInt ∧ mk.toInt ≤ 10
theorem okG_st {G : Lg} (h : okG G) {w : Nat} {v : Int} (hw : 4 ≤ w ∧ w ≤ 10) (h1 : stL w ≤ v) (h2 : v ≤ stM w) (h0 : 0 ≤ v) : okG (gS G (stJ w) (stV w v)) := by
  obtain ⟨a0, a1, a2, a3, a4, a5, a6⟩ := h
  have e : ∀ k, gn (gS G (stJ w) (stV w v)) k = if k = stJ w then stV w v else gn G k := fun k => rfl
  refine ⟨?_, ?_, ?_, ?_, ?_, ?_, a6⟩ <;> rw [e] <;> rcases (show w = 4 ∨ w = 5 ∨ w = 6 ∨ w = 7 ∨ w = 8 ∨ w = 9 ∨ w = 10 by omega) with rfl | rfl | rfl | rfl | rfl | rfl | rfl <;> simp [stJ, stV, stL, stM] at h1 h2 ⊢ <;> omega
theorem isG_st {G : Lg} {mk : Int32} {nu kd fi la : Nat → Int32} (h : isG G mk nu kd fi la) {w : Nat} {v : Int} (hw : 4 ≤ w ∧ w ≤ 10) (h1 : stL w ≤ v) (h2 : v ≤ stM w) (h0 : 0 ≤ v) {x : Int32} (hx : x.toInt = stV w v) : isG (gS G (stJ w) (stV w v)) mk (upd nu (stJ w) x) kd fi la := by
  obtain ⟨ok, g1, g2, g3⟩ := h
  refine ⟨okG_st ok hw h1 h2 h0, g1, fun j hj => ?_, g3⟩
  show (upd nu (stJ w) x j).toInt = if j = stJ w then stV w v else gn G j
  by_cases e : j = stJ w
  · rw [e, upd_eq, if_pos rfl]; exact hx
  · rw [upd_ne e, if_neg e]; exact g2 j hj
theorem trN_cong {c d : Nat → Bool} : ∀ {n : Nat}, (∀ k, k < n → c k = d k) → trN c n = trN d n
  | 0, _ => rfl
  | n + 1, h => by rw [trN, trN, trN_cong (fun k hk => h k (by omega)), h n (by omega)]
theorem dX4_isBlank_0 : decode cX4_isBlank 0 = .ok (.iload_n 0, 1) := by decide +kernel
theorem dX4_isBlank_1 : decode cX4_isBlank 1 = .ok (.bipush 32, 2) := by decide +kernel
theorem dX4_isBlank_3 : decode cX4_isBlank 3 = .ok (.if_icmp .eq 9, 3) := by decide +kernel
theorem dX4_isBlank_6 : decode cX4_isBlank 6 = .ok (.iload_n 0, 1) := by decide +kernel
theorem dX4_isBlank_7 : decode cX4_isBlank 7 = .ok (.bipush 10, 2) := by decide +kernel
theorem dX4_isBlank_9 : decode cX4_isBlank 9 = .ok (.if_icmp .ne 7, 3) := by decide +kernel
theorem dX4_isBlank_12 : decode cX4_isBlank 12 = .ok (.iconst 1, 1) := by decide +kernel
theorem dX4_isBlank_13 : decode cX4_isBlank 13 = .ok (.goto 4, 3) := by decide +kernel
theorem dX4_isBlank_16 : decode cX4_isBlank 16 = .ok (.iconst 0, 1) := by decide +kernel
theorem dX4_isBlank_17 : decode cX4_isBlank 17 = .ok (.ireturn, 1) := by decide +kernel
abbrev rmX4_isBlank : Room := { frames := 0, cells := 0, slots := 0, locals := 0 }
def vX4_isBlank (p1 : Int32) (Q : Int32 → Prop) : Prop := ((p1 = (32 : Int32) → (Q (1 : Int32))) ∧ (¬ p1 = (32 : Int32) → ((¬ p1 = (10 : Int32) → (Q (0 : Int32))) ∧ (p1 = (10 : Int32) → (Q (1 : Int32))))))
set_option maxHeartbeats 4000000 in
set_option maxRecDepth 100000 in
theorem wX4_isBlank (l : Launch) (g : GP)  (p1 : Int32) {Q : Int32 → Prop} (hv : vX4_isBlank p1 Q) : Met l yX4_isBlank wsX4_isBlank rmX4_isBlank (va_Pc [.int p1] (fun U => va_P g.1 vwCl [] U.heap ∧ GK g U)) (vp_Si Q) 0 0 (fun _ => False) := by
  refine Met.ofW (cc := cX4_isBlank) (maxL := 1) (ret := (some .boolean)) (by decide) rfl ?_
  intro p e s m args below meth c s₁ B hml hv'
  obtain ⟨rfl, hP, hG⟩ := hv'
  have S : CallFix p m c cX4_isBlank 1 s _ wsX4_isBlank RX4 := ⟨B.exec, B.bytes, hml, findClass_of_methodNamed B.named, atoms_spec (ws := wsX4_isBlank) B.pre⟩
  obtain ⟨hx, hb, hml, hown, hts⟩ := id S
  have hK := hG.1
  have hr := B.returns
  have hlocks := B.notSynchronized
  have hl := lv_entry ([.int p1]) (n := 1) (Nat.le_of_ble_eq_true rfl)
  rw [lg_entry_eq]
  generalize (lg_sl ([.int p1]) ++ List.replicate (1 - (lg_sl ([.int p1])).length) Slot.unset).toArray = ls at hl ⊢
  have hl : lv_has ls 1 [(0, .int p1)] := hl
  unfold vX4_isBlank at hv
  refine lv_iload_n hx hb dX4_isBlank_0 rfl (lv_at hl 0 rfl) ?_
  refine lv_bipush (v := (32 : Int32)) hx hb dX4_isBlank_1 (by decide) ?_
  obtain ⟨hvt, hvf⟩ := hv
  refine lv_icmp_eq (tgt := 12) hx hb dX4_isBlank_3 (by decide) (fun hc => ?_) (fun hc => ?_)
  · have hv := hvt hc
    refine lv_iconst (v := (1 : Int32)) hx hb dX4_isBlank_12 (by decide) ?_
    refine lv_goto (tgt := 17) hx hb dX4_isBlank_13 (by decide) ?_
    exact W.zret (v := (1 : Int32)) (ty := .boolean) hx hb hr rfl (fun t ht hW => ⟨_, rfl, hv, ht⟩) (fun _ h => by cases h) dX4_isBlank_17
  · have hv := hvf hc
    refine lv_iload_n hx hb dX4_isBlank_6 rfl (lv_at hl 0 rfl) ?_
    refine lv_bipush (v := (10 : Int32)) hx hb dX4_isBlank_7 (by decide) ?_
    obtain ⟨hvt, hvf⟩ := hv
    refine lv_icmp_ne (tgt := 16) hx hb dX4_isBlank_9 (by decide) (fun hc => ?_) (fun hc => ?_)
    · have hv := hvt hc
      refine lv_iconst (v := (0 : Int32)) hx hb dX4_isBlank_16 (by decide) ?_
      exact W.zret (v := (0 : Int32)) (ty := .boolean) hx hb hr rfl (fun t ht hW => ⟨_, rfl, hv, ht⟩) (fun _ h => by cases h) dX4_isBlank_17
    · have hv := hvf hc
      refine lv_iconst (v := (1 : Int32)) hx hb dX4_isBlank_12 (by decide) ?_
      refine lv_goto (tgt := 17) hx hb dX4_isBlank_13 (by decide) ?_
      exact W.zret (v := (1 : Int32)) (ty := .boolean) hx hb hr rfl (fun t ht hW => ⟨_, rfl, hv, ht⟩) (fun _ h => by cases h) dX4_isBlank_17
abbrev preX4_isBlank (p1 : Int32) : Prop := True
abbrev postX4_isBlank (p1 : Int32) (r : Int32) : Prop := r = if blB p1 = true then 1 else 0
theorem sX4_isBlank (p1 : Int32) (H : preX4_isBlank p1) : vX4_isBlank p1 (postX4_isBlank p1) := by
  unfold vX4_isBlank postX4_isBlank blB
  rw [fa_eq p1, z32, fa_eq p1, z10]
  refine ⟨fun a => ?_, fun a => ⟨fun c => ?_, fun c => ?_⟩⟩
  · rw [if_pos (decide_eq_true (Or.inl a))]
  · rw [if_neg (fun q => (of_decide_eq_true q).elim a c)]
  · rw [if_pos (decide_eq_true (Or.inr c))]
theorem dX4_isLetter_0 : decode cX4_isLetter 0 = .ok (.iload_n 0, 1) := by decide +kernel
theorem dX4_isLetter_1 : decode cX4_isLetter 1 = .ok (.bipush 97, 2) := by decide +kernel
theorem dX4_isLetter_3 : decode cX4_isLetter 3 = .ok (.if_icmp .lt 13, 3) := by decide +kernel
theorem dX4_isLetter_6 : decode cX4_isLetter 6 = .ok (.iload_n 0, 1) := by decide +kernel
theorem dX4_isLetter_7 : decode cX4_isLetter 7 = .ok (.bipush 122, 2) := by decide +kernel
theorem dX4_isLetter_9 : decode cX4_isLetter 9 = .ok (.if_icmp .gt 7, 3) := by decide +kernel
theorem dX4_isLetter_12 : decode cX4_isLetter 12 = .ok (.iconst 1, 1) := by decide +kernel
theorem dX4_isLetter_13 : decode cX4_isLetter 13 = .ok (.goto 4, 3) := by decide +kernel
theorem dX4_isLetter_16 : decode cX4_isLetter 16 = .ok (.iconst 0, 1) := by decide +kernel
theorem dX4_isLetter_17 : decode cX4_isLetter 17 = .ok (.ireturn, 1) := by decide +kernel
abbrev rmX4_isLetter : Room := { frames := 0, cells := 0, slots := 0, locals := 0 }
def vX4_isLetter (p1 : Int32) (Q : Int32 → Prop) : Prop := ((p1 < (97 : Int32) → (Q (0 : Int32))) ∧ (¬ p1 < (97 : Int32) → (((122 : Int32) < p1 → (Q (0 : Int32))) ∧ (¬ (122 : Int32) < p1 → (Q (1 : Int32))))))
set_option maxHeartbeats 4000000 in
set_option maxRecDepth 100000 in
theorem wX4_isLetter (l : Launch) (g : GP)  (p1 : Int32) {Q : Int32 → Prop} (hv : vX4_isLetter p1 Q) : Met l yX4_isLetter wsX4_isLetter rmX4_isLetter (va_Pc [.int p1] (fun U => va_P g.1 vwCl [] U.heap ∧ GK g U)) (vp_Si Q) 0 0 (fun _ => False) := by
  refine Met.ofW (cc := cX4_isLetter) (maxL := 1) (ret := (some .boolean)) (by decide) rfl ?_
  intro p e s m args below meth c s₁ B hml hv'
  obtain ⟨rfl, hP, hG⟩ := hv'
  have S : CallFix p m c cX4_isLetter 1 s _ wsX4_isLetter RX4 := ⟨B.exec, B.bytes, hml, findClass_of_methodNamed B.named, atoms_spec (ws := wsX4_isLetter) B.pre⟩
  obtain ⟨hx, hb, hml, hown, hts⟩ := id S
  have hK := hG.1
  have hr := B.returns
  have hlocks := B.notSynchronized
  have hl := lv_entry ([.int p1]) (n := 1) (Nat.le_of_ble_eq_true rfl)
  rw [lg_entry_eq]
  generalize (lg_sl ([.int p1]) ++ List.replicate (1 - (lg_sl ([.int p1])).length) Slot.unset).toArray = ls at hl ⊢
  have hl : lv_has ls 1 [(0, .int p1)] := hl
  unfold vX4_isLetter at hv
  refine lv_iload_n hx hb dX4_isLetter_0 rfl (lv_at hl 0 rfl) ?_
  refine lv_bipush (v := (97 : Int32)) hx hb dX4_isLetter_1 (by decide) ?_
  obtain ⟨hvt, hvf⟩ := hv
  refine lv_icmp_lt (tgt := 16) hx hb dX4_isLetter_3 (by decide) (fun hc => ?_) (fun hc => ?_)
  · have hv := hvt hc
    refine lv_iconst (v := (0 : Int32)) hx hb dX4_isLetter_16 (by decide) ?_
    exact W.zret (v := (0 : Int32)) (ty := .boolean) hx hb hr rfl (fun t ht hW => ⟨_, rfl, hv, ht⟩) (fun _ h => by cases h) dX4_isLetter_17
  · have hv := hvf hc
    refine lv_iload_n hx hb dX4_isLetter_6 rfl (lv_at hl 0 rfl) ?_
    refine lv_bipush (v := (122 : Int32)) hx hb dX4_isLetter_7 (by decide) ?_
    obtain ⟨hvt, hvf⟩ := hv
    refine lv_icmp_gt (tgt := 16) hx hb dX4_isLetter_9 (by decide) (fun hc => ?_) (fun hc => ?_)
    · have hv := hvt hc
      refine lv_iconst (v := (0 : Int32)) hx hb dX4_isLetter_16 (by decide) ?_
      exact W.zret (v := (0 : Int32)) (ty := .boolean) hx hb hr rfl (fun t ht hW => ⟨_, rfl, hv, ht⟩) (fun _ h => by cases h) dX4_isLetter_17
    · have hv := hvf hc
      refine lv_iconst (v := (1 : Int32)) hx hb dX4_isLetter_12 (by decide) ?_
      refine lv_goto (tgt := 17) hx hb dX4_isLetter_13 (by decide) ?_
      exact W.zret (v := (1 : Int32)) (ty := .boolean) hx hb hr rfl (fun t ht hW => ⟨_, rfl, hv, ht⟩) (fun _ h => by cases h) dX4_isLetter_17
abbrev preX4_isLetter (p1 : Int32) : Prop := True
abbrev postX4_isLetter (p1 : Int32) (r : Int32) : Prop := r = if leB p1 = true then 1 else 0
theorem sX4_isLetter (p1 : Int32) (H : preX4_isLetter p1) : vX4_isLetter p1 (postX4_isLetter p1) := by
  unfold vX4_isLetter postX4_isLetter leB
  rw [fa_lt p1, fa_lt _ p1, show (97 : Int32).toInt = 97 from rfl, show (122 : Int32).toInt = 122 from rfl]
  refine ⟨fun a => ?_, fun a => ⟨fun c => ?_, fun c => ?_⟩⟩
  · rw [if_neg (fun q => by have := of_decide_eq_true q; omega)]
  · rw [if_neg (fun q => by have := of_decide_eq_true q; omega)]
  · rw [if_pos (decide_eq_true ⟨by omega, by omega⟩)]
theorem dX4_isDigit_0 : decode cX4_isDigit 0 = .ok (.iload_n 0, 1) := by decide +kernel
theorem dX4_isDigit_1 : decode cX4_isDigit 1 = .ok (.bipush 48, 2) := by decide +kernel
theorem dX4_isDigit_3 : decode cX4_isDigit 3 = .ok (.if_icmp .lt 13, 3) := by decide +kernel
theorem dX4_isDigit_6 : decode cX4_isDigit 6 = .ok (.iload_n 0, 1) := by decide +kernel
theorem dX4_isDigit_7 : decode cX4_isDigit 7 = .ok (.bipush 57, 2) := by decide +kernel
theorem dX4_isDigit_9 : decode cX4_isDigit 9 = .ok (.if_icmp .gt 7, 3) := by decide +kernel
theorem dX4_isDigit_12 : decode cX4_isDigit 12 = .ok (.iconst 1, 1) := by decide +kernel
theorem dX4_isDigit_13 : decode cX4_isDigit 13 = .ok (.goto 4, 3) := by decide +kernel
theorem dX4_isDigit_16 : decode cX4_isDigit 16 = .ok (.iconst 0, 1) := by decide +kernel
theorem dX4_isDigit_17 : decode cX4_isDigit 17 = .ok (.ireturn, 1) := by decide +kernel
abbrev rmX4_isDigit : Room := { frames := 0, cells := 0, slots := 0, locals := 0 }
def vX4_isDigit (p1 : Int32) (Q : Int32 → Prop) : Prop := ((p1 < (48 : Int32) → (Q (0 : Int32))) ∧ (¬ p1 < (48 : Int32) → (((57 : Int32) < p1 → (Q (0 : Int32))) ∧ (¬ (57 : Int32) < p1 → (Q (1 : Int32))))))
set_option maxHeartbeats 4000000 in
set_option maxRecDepth 100000 in
theorem wX4_isDigit (l : Launch) (g : GP)  (p1 : Int32) {Q : Int32 → Prop} (hv : vX4_isDigit p1 Q) : Met l yX4_isDigit wsX4_isDigit rmX4_isDigit (va_Pc [.int p1] (fun U => va_P g.1 vwCl [] U.heap ∧ GK g U)) (vp_Si Q) 0 0 (fun _ => False) := by
  refine Met.ofW (cc := cX4_isDigit) (maxL := 1) (ret := (some .boolean)) (by decide) rfl ?_
  intro p e s m args below meth c s₁ B hml hv'
  obtain ⟨rfl, hP, hG⟩ := hv'
  have S : CallFix p m c cX4_isDigit 1 s _ wsX4_isDigit RX4 := ⟨B.exec, B.bytes, hml, findClass_of_methodNamed B.named, atoms_spec (ws := wsX4_isDigit) B.pre⟩
  obtain ⟨hx, hb, hml, hown, hts⟩ := id S
  have hK := hG.1
  have hr := B.returns
  have hlocks := B.notSynchronized
  have hl := lv_entry ([.int p1]) (n := 1) (Nat.le_of_ble_eq_true rfl)
  rw [lg_entry_eq]
  generalize (lg_sl ([.int p1]) ++ List.replicate (1 - (lg_sl ([.int p1])).length) Slot.unset).toArray = ls at hl ⊢
  have hl : lv_has ls 1 [(0, .int p1)] := hl
  unfold vX4_isDigit at hv
  refine lv_iload_n hx hb dX4_isDigit_0 rfl (lv_at hl 0 rfl) ?_
  refine lv_bipush (v := (48 : Int32)) hx hb dX4_isDigit_1 (by decide) ?_
  obtain ⟨hvt, hvf⟩ := hv
  refine lv_icmp_lt (tgt := 16) hx hb dX4_isDigit_3 (by decide) (fun hc => ?_) (fun hc => ?_)
  · have hv := hvt hc
    refine lv_iconst (v := (0 : Int32)) hx hb dX4_isDigit_16 (by decide) ?_
    exact W.zret (v := (0 : Int32)) (ty := .boolean) hx hb hr rfl (fun t ht hW => ⟨_, rfl, hv, ht⟩) (fun _ h => by cases h) dX4_isDigit_17
  · have hv := hvf hc
    refine lv_iload_n hx hb dX4_isDigit_6 rfl (lv_at hl 0 rfl) ?_
    refine lv_bipush (v := (57 : Int32)) hx hb dX4_isDigit_7 (by decide) ?_
    obtain ⟨hvt, hvf⟩ := hv
    refine lv_icmp_gt (tgt := 16) hx hb dX4_isDigit_9 (by decide) (fun hc => ?_) (fun hc => ?_)
    · have hv := hvt hc
      refine lv_iconst (v := (0 : Int32)) hx hb dX4_isDigit_16 (by decide) ?_
      exact W.zret (v := (0 : Int32)) (ty := .boolean) hx hb hr rfl (fun t ht hW => ⟨_, rfl, hv, ht⟩) (fun _ h => by cases h) dX4_isDigit_17
    · have hv := hvf hc
      refine lv_iconst (v := (1 : Int32)) hx hb dX4_isDigit_12 (by decide) ?_
      refine lv_goto (tgt := 17) hx hb dX4_isDigit_13 (by decide) ?_
      exact W.zret (v := (1 : Int32)) (ty := .boolean) hx hb hr rfl (fun t ht hW => ⟨_, rfl, hv, ht⟩) (fun _ h => by cases h) dX4_isDigit_17
abbrev preX4_isDigit (p1 : Int32) : Prop := True
abbrev postX4_isDigit (p1 : Int32) (r : Int32) : Prop := r = if diB p1 = true then 1 else 0
theorem sX4_isDigit (p1 : Int32) (H : preX4_isDigit p1) : vX4_isDigit p1 (postX4_isDigit p1) := by
  unfold vX4_isDigit postX4_isDigit diB
  rw [fa_lt p1, fa_lt _ p1, show (48 : Int32).toInt = 48 from rfl, show (57 : Int32).toInt = 57 from rfl]
  refine ⟨fun a => ?_, fun a => ⟨fun c => ?_, fun c => ?_⟩⟩
  · rw [if_neg (fun q => by have := of_decide_eq_true q; omega)]
  · rw [if_neg (fun q => by have := of_decide_eq_true q; omega)]
  · rw [if_pos (decide_eq_true ⟨by omega, by omega⟩)]
set_option maxRecDepth 20000 in
theorem ggX4_step_X4_isBlank : GoodIn wsX4_step wsX4_isBlank := goodIn_r _ [10] (by decide +kernel) (by decide +kernel)
set_option maxRecDepth 20000 in
theorem gX4_step_X4_isBlank : GoodIn wsX4_step (va_wsS RX4 158 yX4_isBlank wsX4_isBlank) := goodIn_app (goodIn_of _ (by decide +kernel)) ggX4_step_X4_isBlank
set_option maxRecDepth 20000 in
theorem ggX4_step_X4_isLetter : GoodIn wsX4_step wsX4_isLetter := goodIn_r _ [13] (by decide +kernel) (by decide +kernel)
set_option maxRecDepth 20000 in
theorem gX4_step_X4_isLetter : GoodIn wsX4_step (va_wsS RX4 162 yX4_isLetter wsX4_isLetter) := goodIn_app (goodIn_of _ (by decide +kernel)) ggX4_step_X4_isLetter
set_option maxRecDepth 20000 in
theorem ggX4_step_X4_isDigit : GoodIn wsX4_step wsX4_isDigit := goodIn_r _ [16] (by decide +kernel) (by decide +kernel)
set_option maxRecDepth 20000 in
theorem gX4_step_X4_isDigit : GoodIn wsX4_step (va_wsS RX4 165 yX4_isDigit wsX4_isDigit) := goodIn_app (goodIn_of _ (by decide +kernel)) ggX4_step_X4_isDigit
theorem dX4_step_0 : decode cX4_step 0 = .ok (.aload_n 0, 1) := by decide +kernel
theorem dX4_step_1 : decode cX4_step 1 = .ok (.getfield 35, 3) := by decide +kernel
theorem dX4_step_4 : decode cX4_step 4 = .ok (.aload_n 0, 1) := by decide +kernel
theorem dX4_step_5 : decode cX4_step 5 = .ok (.getfield 32, 3) := by decide +kernel
theorem dX4_step_8 : decode cX4_step 8 = .ok (.if_icmp .ge 31, 3) := by decide +kernel
theorem dX4_step_11 : decode cX4_step 11 = .ok (.aload_n 0, 1) := by decide +kernel
theorem dX4_step_12 : decode cX4_step 12 = .ok (.getfield 18, 3) := by decide +kernel
theorem dX4_step_15 : decode cX4_step 15 = .ok (.aload_n 0, 1) := by decide +kernel
theorem dX4_step_16 : decode cX4_step 16 = .ok (.getfield 35, 3) := by decide +kernel
theorem dX4_step_19 : decode cX4_step 19 = .ok (.baload, 1) := by decide +kernel
theorem dX4_step_20 : decode cX4_step 20 = .ok (.invokestatic 158, 3) := by decide +kernel
theorem dX4_step_23 : decode cX4_step 23 = .ok (.ifCond .eq 16, 3) := by decide +kernel
theorem dX4_step_26 : decode cX4_step 26 = .ok (.aload_n 0, 1) := by decide +kernel
theorem dX4_step_27 : decode cX4_step 27 = .ok (.dup, 1) := by decide +kernel
theorem dX4_step_28 : decode cX4_step 28 = .ok (.getfield 35, 3) := by decide +kernel
theorem dX4_step_31 : decode cX4_step 31 = .ok (.iconst 1, 1) := by decide +kernel
theorem dX4_step_32 : decode cX4_step 32 = .ok (.iadd, 1) := by decide +kernel
theorem dX4_step_33 : decode cX4_step 33 = .ok (.putfield 35, 3) := by decide +kernel
theorem dX4_step_36 : decode cX4_step 36 = .ok (.goto (-36), 3) := by decide +kernel
theorem dX4_step_39 : decode cX4_step 39 = .ok (.aload_n 0, 1) := by decide +kernel
theorem dX4_step_40 : decode cX4_step 40 = .ok (.aload_n 0, 1) := by decide +kernel
theorem dX4_step_41 : decode cX4_step 41 = .ok (.getfield 35, 3) := by decide +kernel
theorem dX4_step_44 : decode cX4_step 44 = .ok (.putfield 100, 3) := by decide +kernel
theorem dX4_step_47 : decode cX4_step 47 = .ok (.aload_n 0, 1) := by decide +kernel
theorem dX4_step_48 : decode cX4_step 48 = .ok (.iconst 0, 1) := by decide +kernel
theorem dX4_step_49 : decode cX4_step 49 = .ok (.putfield 63, 3) := by decide +kernel
theorem dX4_step_52 : decode cX4_step 52 = .ok (.aload_n 0, 1) := by decide +kernel
theorem dX4_step_53 : decode cX4_step 53 = .ok (.getfield 35, 3) := by decide +kernel
theorem dX4_step_56 : decode cX4_step 56 = .ok (.aload_n 0, 1) := by decide +kernel
theorem dX4_step_57 : decode cX4_step 57 = .ok (.getfield 32, 3) := by decide +kernel
theorem dX4_step_60 : decode cX4_step 60 = .ok (.if_icmp .lt 11, 3) := by decide +kernel
theorem dX4_step_63 : decode cX4_step 63 = .ok (.aload_n 0, 1) := by decide +kernel
theorem dX4_step_64 : decode cX4_step 64 = .ok (.iconst 0, 1) := by decide +kernel
theorem dX4_step_65 : decode cX4_step 65 = .ok (.putfield 41, 3) := by decide +kernel
theorem dX4_step_68 : decode cX4_step 68 = .ok (.goto 219, 3) := by decide +kernel
theorem dX4_step_71 : decode cX4_step 71 = .ok (.aload_n 0, 1) := by decide +kernel
theorem dX4_step_72 : decode cX4_step 72 = .ok (.getfield 18, 3) := by decide +kernel
theorem dX4_step_75 : decode cX4_step 75 = .ok (.aload_n 0, 1) := by decide +kernel
theorem dX4_step_76 : decode cX4_step 76 = .ok (.getfield 35, 3) := by decide +kernel
theorem dX4_step_79 : decode cX4_step 79 = .ok (.baload, 1) := by decide +kernel
theorem dX4_step_80 : decode cX4_step 80 = .ok (.invokestatic 162, 3) := by decide +kernel
theorem dX4_step_83 : decode cX4_step 83 = .ok (.ifCond .eq 68, 3) := by decide +kernel
theorem dX4_step_86 : decode cX4_step 86 = .ok (.aload_n 0, 1) := by decide +kernel
theorem dX4_step_87 : decode cX4_step 87 = .ok (.getfield 35, 3) := by decide +kernel
theorem dX4_step_90 : decode cX4_step 90 = .ok (.aload_n 0, 1) := by decide +kernel
theorem dX4_step_91 : decode cX4_step 91 = .ok (.getfield 32, 3) := by decide +kernel
theorem dX4_step_94 : decode cX4_step 94 = .ok (.if_icmp .ge 31, 3) := by decide +kernel
theorem dX4_step_97 : decode cX4_step 97 = .ok (.aload_n 0, 1) := by decide +kernel
theorem dX4_step_98 : decode cX4_step 98 = .ok (.getfield 18, 3) := by decide +kernel
theorem dX4_step_101 : decode cX4_step 101 = .ok (.aload_n 0, 1) := by decide +kernel
theorem dX4_step_102 : decode cX4_step 102 = .ok (.getfield 35, 3) := by decide +kernel
theorem dX4_step_105 : decode cX4_step 105 = .ok (.baload, 1) := by decide +kernel
theorem dX4_step_106 : decode cX4_step 106 = .ok (.invokestatic 162, 3) := by decide +kernel
theorem dX4_step_109 : decode cX4_step 109 = .ok (.ifCond .eq 16, 3) := by decide +kernel
theorem dX4_step_112 : decode cX4_step 112 = .ok (.aload_n 0, 1) := by decide +kernel
theorem dX4_step_113 : decode cX4_step 113 = .ok (.dup, 1) := by decide +kernel
theorem dX4_step_114 : decode cX4_step 114 = .ok (.getfield 35, 3) := by decide +kernel
theorem dX4_step_117 : decode cX4_step 117 = .ok (.iconst 1, 1) := by decide +kernel
theorem dX4_step_118 : decode cX4_step 118 = .ok (.iadd, 1) := by decide +kernel
theorem dX4_step_119 : decode cX4_step 119 = .ok (.putfield 35, 3) := by decide +kernel
theorem dX4_step_122 : decode cX4_step 122 = .ok (.goto (-36), 3) := by decide +kernel
theorem dX4_step_125 : decode cX4_step 125 = .ok (.aload_n 0, 1) := by decide +kernel
theorem dX4_step_126 : decode cX4_step 126 = .ok (.aload_n 0, 1) := by decide +kernel
theorem dX4_step_127 : decode cX4_step 127 = .ok (.getfield 35, 3) := by decide +kernel
theorem dX4_step_130 : decode cX4_step 130 = .ok (.aload_n 0, 1) := by decide +kernel
theorem dX4_step_131 : decode cX4_step 131 = .ok (.getfield 100, 3) := by decide +kernel
theorem dX4_step_134 : decode cX4_step 134 = .ok (.isub, 1) := by decide +kernel
theorem dX4_step_135 : decode cX4_step 135 = .ok (.bipush 13, 2) := by decide +kernel
theorem dX4_step_137 : decode cX4_step 137 = .ok (.if_icmp .gt 7, 3) := by decide +kernel
theorem dX4_step_140 : decode cX4_step 140 = .ok (.iconst 1, 1) := by decide +kernel
theorem dX4_step_141 : decode cX4_step 141 = .ok (.goto 4, 3) := by decide +kernel
theorem dX4_step_144 : decode cX4_step 144 = .ok (.iconst 4, 1) := by decide +kernel
theorem dX4_step_145 : decode cX4_step 145 = .ok (.putfield 41, 3) := by decide +kernel
theorem dX4_step_148 : decode cX4_step 148 = .ok (.goto 139, 3) := by decide +kernel
theorem dX4_step_151 : decode cX4_step 151 = .ok (.aload_n 0, 1) := by decide +kernel
theorem dX4_step_152 : decode cX4_step 152 = .ok (.getfield 18, 3) := by decide +kernel
theorem dX4_step_155 : decode cX4_step 155 = .ok (.aload_n 0, 1) := by decide +kernel
theorem dX4_step_156 : decode cX4_step 156 = .ok (.getfield 35, 3) := by decide +kernel
theorem dX4_step_159 : decode cX4_step 159 = .ok (.baload, 1) := by decide +kernel
theorem dX4_step_160 : decode cX4_step 160 = .ok (.invokestatic 165, 3) := by decide +kernel
theorem dX4_step_163 : decode cX4_step 163 = .ok (.ifCond .eq 91, 3) := by decide +kernel
theorem dX4_step_166 : decode cX4_step 166 = .ok (.aload_n 0, 1) := by decide +kernel
theorem dX4_step_167 : decode cX4_step 167 = .ok (.getfield 35, 3) := by decide +kernel
theorem dX4_step_170 : decode cX4_step 170 = .ok (.aload_n 0, 1) := by decide +kernel
theorem dX4_step_171 : decode cX4_step 171 = .ok (.getfield 32, 3) := by decide +kernel
theorem dX4_step_174 : decode cX4_step 174 = .ok (.if_icmp .ge 55, 3) := by decide +kernel
theorem dX4_step_177 : decode cX4_step 177 = .ok (.aload_n 0, 1) := by decide +kernel
theorem dX4_step_178 : decode cX4_step 178 = .ok (.getfield 18, 3) := by decide +kernel
theorem dX4_step_181 : decode cX4_step 181 = .ok (.aload_n 0, 1) := by decide +kernel
theorem dX4_step_182 : decode cX4_step 182 = .ok (.getfield 35, 3) := by decide +kernel
theorem dX4_step_185 : decode cX4_step 185 = .ok (.baload, 1) := by decide +kernel
theorem dX4_step_186 : decode cX4_step 186 = .ok (.invokestatic 165, 3) := by decide +kernel
theorem dX4_step_189 : decode cX4_step 189 = .ok (.ifCond .eq 40, 3) := by decide +kernel
theorem dX4_step_192 : decode cX4_step 192 = .ok (.aload_n 0, 1) := by decide +kernel
theorem dX4_step_193 : decode cX4_step 193 = .ok (.aload_n 0, 1) := by decide +kernel
theorem dX4_step_194 : decode cX4_step 194 = .ok (.getfield 63, 3) := by decide +kernel
theorem dX4_step_197 : decode cX4_step 197 = .ok (.bipush 10, 2) := by decide +kernel
theorem dX4_step_199 : decode cX4_step 199 = .ok (.imul, 1) := by decide +kernel
theorem dX4_step_200 : decode cX4_step 200 = .ok (.aload_n 0, 1) := by decide +kernel
theorem dX4_step_201 : decode cX4_step 201 = .ok (.getfield 18, 3) := by decide +kernel
theorem dX4_step_204 : decode cX4_step 204 = .ok (.aload_n 0, 1) := by decide +kernel
theorem dX4_step_205 : decode cX4_step 205 = .ok (.getfield 35, 3) := by decide +kernel
theorem dX4_step_208 : decode cX4_step 208 = .ok (.baload, 1) := by decide +kernel
theorem dX4_step_209 : decode cX4_step 209 = .ok (.bipush 48, 2) := by decide +kernel
theorem dX4_step_211 : decode cX4_step 211 = .ok (.isub, 1) := by decide +kernel
theorem dX4_step_212 : decode cX4_step 212 = .ok (.iadd, 1) := by decide +kernel
theorem dX4_step_213 : decode cX4_step 213 = .ok (.putfield 63, 3) := by decide +kernel
theorem dX4_step_216 : decode cX4_step 216 = .ok (.aload_n 0, 1) := by decide +kernel
theorem dX4_step_217 : decode cX4_step 217 = .ok (.dup, 1) := by decide +kernel
theorem dX4_step_218 : decode cX4_step 218 = .ok (.getfield 35, 3) := by decide +kernel
theorem dX4_step_221 : decode cX4_step 221 = .ok (.iconst 1, 1) := by decide +kernel
theorem dX4_step_222 : decode cX4_step 222 = .ok (.iadd, 1) := by decide +kernel
theorem dX4_step_223 : decode cX4_step 223 = .ok (.putfield 35, 3) := by decide +kernel
theorem dX4_step_226 : decode cX4_step 226 = .ok (.goto (-60), 3) := by decide +kernel
theorem dX4_step_229 : decode cX4_step 229 = .ok (.aload_n 0, 1) := by decide +kernel
theorem dX4_step_230 : decode cX4_step 230 = .ok (.aload_n 0, 1) := by decide +kernel
theorem dX4_step_231 : decode cX4_step 231 = .ok (.getfield 35, 3) := by decide +kernel
theorem dX4_step_234 : decode cX4_step 234 = .ok (.aload_n 0, 1) := by decide +kernel
theorem dX4_step_235 : decode cX4_step 235 = .ok (.getfield 100, 3) := by decide +kernel
theorem dX4_step_238 : decode cX4_step 238 = .ok (.isub, 1) := by decide +kernel
theorem dX4_step_239 : decode cX4_step 239 = .ok (.iconst 4, 1) := by decide +kernel
theorem dX4_step_240 : decode cX4_step 240 = .ok (.if_icmp .gt 7, 3) := by decide +kernel
theorem dX4_step_243 : decode cX4_step 243 = .ok (.iconst 2, 1) := by decide +kernel
theorem dX4_step_244 : decode cX4_step 244 = .ok (.goto 4, 3) := by decide +kernel
theorem dX4_step_247 : decode cX4_step 247 = .ok (.iconst 4, 1) := by decide +kernel
theorem dX4_step_248 : decode cX4_step 248 = .ok (.putfield 41, 3) := by decide +kernel
theorem dX4_step_251 : decode cX4_step 251 = .ok (.goto 36, 3) := by decide +kernel
theorem dX4_step_254 : decode cX4_step 254 = .ok (.aload_n 0, 1) := by decide +kernel
theorem dX4_step_255 : decode cX4_step 255 = .ok (.aload_n 0, 1) := by decide +kernel
theorem dX4_step_256 : decode cX4_step 256 = .ok (.getfield 18, 3) := by decide +kernel
theorem dX4_step_259 : decode cX4_step 259 = .ok (.aload_n 0, 1) := by decide +kernel
theorem dX4_step_260 : decode cX4_step 260 = .ok (.getfield 35, 3) := by decide +kernel
theorem dX4_step_263 : decode cX4_step 263 = .ok (.baload, 1) := by decide +kernel
theorem dX4_step_264 : decode cX4_step 264 = .ok (.bipush 59, 2) := by decide +kernel
theorem dX4_step_266 : decode cX4_step 266 = .ok (.if_icmp .ne 7, 3) := by decide +kernel
theorem dX4_step_269 : decode cX4_step 269 = .ok (.iconst 3, 1) := by decide +kernel
theorem dX4_step_270 : decode cX4_step 270 = .ok (.goto 4, 3) := by decide +kernel
theorem dX4_step_273 : decode cX4_step 273 = .ok (.iconst 4, 1) := by decide +kernel
theorem dX4_step_274 : decode cX4_step 274 = .ok (.putfield 41, 3) := by decide +kernel
theorem dX4_step_277 : decode cX4_step 277 = .ok (.aload_n 0, 1) := by decide +kernel
theorem dX4_step_278 : decode cX4_step 278 = .ok (.dup, 1) := by decide +kernel
theorem dX4_step_279 : decode cX4_step 279 = .ok (.getfield 35, 3) := by decide +kernel
theorem dX4_step_282 : decode cX4_step 282 = .ok (.iconst 1, 1) := by decide +kernel
theorem dX4_step_283 : decode cX4_step 283 = .ok (.iadd, 1) := by decide +kernel
theorem dX4_step_284 : decode cX4_step 284 = .ok (.putfield 35, 3) := by decide +kernel
theorem dX4_step_287 : decode cX4_step 287 = .ok (.return_, 1) := by decide +kernel
abbrev rmX4_step : Room := { frames := 1, cells := 0, slots := 0, locals := 20 }
theorem inX4_step_4 : ∀ w ∈ wsX40, w ∈ wsX4_step := by decide +kernel
def vX4_step_c274 (tx : Nat → Int32) (Q : (Nat → Int32) → Prop) (s0 : Int32) (D : Nat → Int32) : Prop := (Q (upd (upd D 5 s0) 7 ((D 7) + (1 : Int32))))
set_option maxHeartbeats 4000000 in
set_option maxRecDepth 100000 in
theorem kX4_step_c274 {p : Program} {l : Launch} {e : Env} {s : State} {m : MethodId} {args : Array Value} {below : List Frame} {meth : Method} {c : Code} {g : GP} {qd : Nat} {qtr : Nat} {qtx : Nat} {tx : Nat → Int32}  {Q : (Nat → Int32) → Prop} {A : Nat → Prop} (S : CallFix p m c cX4_step 1 s args wsX4_step RX4) (hr : meth.sig.returnType = none) (hlocks : meth.locks = false) (hG : GK g s) (hA : ∀ q : Nat, s.heap.size ≤ q → A q) : ∀ (s0 : Int32) (D : Nat → Int32), vX4_step_c274 tx Q s0 D → ∀ (H : Heap) (locs : List Loc), va_P g.1 vwCl [(qd, .inr (4, [.ref qtr, .ref qtx, .int (D 2), .int (D 3), .int (D 4), .int (D 5), .int (D 6), .int (D 7), .int (D 8)])), (qtx, .inl (g.2 1, 500, .inl tx))] H → va_D A [(qd, .inr (4, [.ref qtr, .ref qtx, .int (D 2), .int (D 3), .int (D 4), .int (D 5), .int (D 6), .int (D 7), .int (D 8)])), (qtx, .inl (g.2 1, 500, .inl tx))] → va_S A s.heap H locs → ∀ (ls : Array Slot), lv_has ls 1 [(0, .ref qd)] → W p l e (headSpec wsX4_step rmX4_step).room s m args below meth c H locs 0 0 (MQ below (va_Qv (fun (u : (Nat → Int32)) => Q u) (fun (u : (Nat → Int32)) t => va_P g.1 vwCl [(qd, .inr (4, [.ref qtr, .ref qtx, .int (u 2), .int (u 3), .int (u 4), .int (u 5), .int (u 6), .int (u 7), .int (u 8)])), (qtx, .inl (g.2 1, 500, .inl tx))] t.heap ∧ va_D A [(qd, .inr (4, [.ref qtr, .ref qtx, .int (u 2), .int (u 3), .int (u 4), .int (u 5), .int (u 6), .int (u 7), .int (u 8)])), (qtx, .inl (g.2 1, 500, .inl tx))]) A) args s 0 0 A) (F0 m 274 ls [.int s0, .ref qd]) := by
  obtain ⟨hx, hb, hml, hown, hts⟩ := id S
  have hK := hG.1
  intro s0 D hv H locs hP hD hS ls hl
  unfold vX4_step_c274 at hv
  refine va_put (D := g.1) (ci := 4) (v := .int s0) (ty := .int) (C := RX4) (T := TX4) (N := 9) hx hb hts inX4_step_4 tyX4 tyX4_ok nmX4 hown hK hP hD hS 0 rfl rfl 5 (by decide) (hts (.fieldLink RX4 41 "RangeCodes$Reader" "kind" "I") (List.mem_of_getElem? (i := 6) rfl)) (fun _ h9 => h9) rfl (by decide +kernel) rfl rfl (Nat.le_of_ble_eq_true rfl) dX4_step_274 (fun H locs hP hD hS => ?_)
  have hP : va_P g.1 vwCl [(qd, .inr (4, [.ref qtr, .ref qtx, .int (D 2), .int (D 3), .int (D 4), .int s0, .int (D 6), .int (D 7), .int (D 8)])), (qtx, .inl (g.2 1, 500, .inl tx))] H := hP
  have hD : va_D A [(qd, .inr (4, [.ref qtr, .ref qtx, .int (D 2), .int (D 3), .int (D 4), .int s0, .int (D 6), .int (D 7), .int (D 8)])), (qtx, .inl (g.2 1, 500, .inl tx))] := hD
  refine lv_aload_n hx hb dX4_step_277 rfl (lv_at hl 0 rfl) ?_
  refine lv_dup hx hb dX4_step_278 rfl ?_
  refine va_get (D := g.1) (ci := 4) (v := .int (D 7)) (C := RX4) (T := TX4) (N := 9) hx hb hts inX4_step_4 hown hK hP 0 rfl rfl 7 (by decide) (hts (.fieldLink RX4 35 "RangeCodes$Reader" "at" "I") (List.mem_of_getElem? (i := 1) rfl)) (fun _ h9 => h9) rfl dX4_step_279 ?_
  refine lv_iconst (v := (1 : Int32)) hx hb dX4_step_282 (by decide) ?_
  refine lv_iadd hx hb dX4_step_283 ?_
  refine va_put (D := g.1) (ci := 4) (v := .int ((D 7) + (1 : Int32))) (ty := .int) (C := RX4) (T := TX4) (N := 9) hx hb hts inX4_step_4 tyX4 tyX4_ok nmX4 hown hK hP hD hS 0 rfl rfl 7 (by decide) (hts (.fieldLink RX4 35 "RangeCodes$Reader" "at" "I") (List.mem_of_getElem? (i := 1) rfl)) (fun _ h9 => h9) rfl (by decide +kernel) rfl rfl (Nat.le_of_ble_eq_true rfl) dX4_step_284 (fun H locs hP hD hS => ?_)
  have hP : va_P g.1 vwCl [(qd, .inr (4, [.ref qtr, .ref qtx, .int (D 2), .int (D 3), .int (D 4), .int s0, .int (D 6), .int ((D 7) + (1 : Int32)), .int (D 8)])), (qtx, .inl (g.2 1, 500, .inl tx))] H := hP
  have hD : va_D A [(qd, .inr (4, [.ref qtr, .ref qtx, .int (D 2), .int (D 3), .int (D 4), .int s0, .int (D 6), .int ((D 7) + (1 : Int32)), .int (D 8)])), (qtx, .inl (g.2 1, 500, .inl tx))] := hD
  have hP9 := hP.sub (ws' := [(qd, .inr (4, [.ref qtr, .ref qtx, .int ((upd (upd D 5 s0) 7 ((D 7) + (1 : Int32))) 2), .int ((upd (upd D 5 s0) 7 ((D 7) + (1 : Int32))) 3), .int ((upd (upd D 5 s0) 7 ((D 7) + (1 : Int32))) 4), .int ((upd (upd D 5 s0) 7 ((D 7) + (1 : Int32))) 5), .int ((upd (upd D 5 s0) 7 ((D 7) + (1 : Int32))) 6), .int ((upd (upd D 5 s0) 7 ((D 7) + (1 : Int32))) 7), .int ((upd (upd D 5 s0) 7 ((D 7) + (1 : Int32))) 8)])), (qtx, .inl (g.2 1, 500, .inl tx))]) [0, 1] rfl
  have hD9 := hD.sub (ws' := [(qd, .inr (4, [.ref qtr, .ref qtx, .int ((upd (upd D 5 s0) 7 ((D 7) + (1 : Int32))) 2), .int ((upd (upd D 5 s0) 7 ((D 7) + (1 : Int32))) 3), .int ((upd (upd D 5 s0) 7 ((D 7) + (1 : Int32))) 4), .int ((upd (upd D 5 s0) 7 ((D 7) + (1 : Int32))) 5), .int ((upd (upd D 5 s0) 7 ((D 7) + (1 : Int32))) 6), .int ((upd (upd D 5 s0) 7 ((D 7) + (1 : Int32))) 7), .int ((upd (upd D 5 s0) 7 ((D 7) + (1 : Int32))) 8)])), (qtx, .inl (g.2 1, 500, .inl tx))]) [0, 1] (by decide) rfl
  exact W.vret hx hb hr (fun t ht hW => ⟨⟨((upd (upd D 5 s0) 7 ((D 7) + (1 : Int32)))), rfl, hv, by rw [ht]; exact hP9, hD9⟩, hS.F ht⟩) hS.2.2 dX4_step_287
def vX4_step_c229 (tx : Nat → Int32) (Q : (Nat → Int32) → Prop) (D : Nat → Int32) : Prop := (((4 : Int32) < ((D 7) - (D 6)) → (Q (upd D 5 (4 : Int32)))) ∧ (¬ (4 : Int32) < ((D 7) - (D 6)) → (Q (upd D 5 (2 : Int32)))))
set_option maxHeartbeats 4000000 in
set_option maxRecDepth 100000 in
theorem kX4_step_c229 {p : Program} {l : Launch} {e : Env} {s : State} {m : MethodId} {args : Array Value} {below : List Frame} {meth : Method} {c : Code} {g : GP} {qd : Nat} {qtr : Nat} {qtx : Nat} {tx : Nat → Int32}  {Q : (Nat → Int32) → Prop} {A : Nat → Prop} (S : CallFix p m c cX4_step 1 s args wsX4_step RX4) (hr : meth.sig.returnType = none) (hlocks : meth.locks = false) (hG : GK g s) (hA : ∀ q : Nat, s.heap.size ≤ q → A q) : ∀ (D : Nat → Int32), vX4_step_c229 tx Q D → ∀ (H : Heap) (locs : List Loc), va_P g.1 vwCl [(qd, .inr (4, [.ref qtr, .ref qtx, .int (D 2), .int (D 3), .int (D 4), .int (D 5), .int (D 6), .int (D 7), .int (D 8)])), (qtx, .inl (g.2 1, 500, .inl tx))] H → va_D A [(qd, .inr (4, [.ref qtr, .ref qtx, .int (D 2), .int (D 3), .int (D 4), .int (D 5), .int (D 6), .int (D 7), .int (D 8)])), (qtx, .inl (g.2 1, 500, .inl tx))] → va_S A s.heap H locs → ∀ (ls : Array Slot), lv_has ls 1 [(0, .ref qd)] → W p l e (headSpec wsX4_step rmX4_step).room s m args below meth c H locs 0 0 (MQ below (va_Qv (fun (u : (Nat → Int32)) => Q u) (fun (u : (Nat → Int32)) t => va_P g.1 vwCl [(qd, .inr (4, [.ref qtr, .ref qtx, .int (u 2), .int (u 3), .int (u 4), .int (u 5), .int (u 6), .int (u 7), .int (u 8)])), (qtx, .inl (g.2 1, 500, .inl tx))] t.heap ∧ va_D A [(qd, .inr (4, [.ref qtr, .ref qtx, .int (u 2), .int (u 3), .int (u 4), .int (u 5), .int (u 6), .int (u 7), .int (u 8)])), (qtx, .inl (g.2 1, 500, .inl tx))]) A) args s 0 0 A) (F0 m 229 ls []) := by
  obtain ⟨hx, hb, hml, hown, hts⟩ := id S
  have hK := hG.1
  intro D hv H locs hP hD hS ls hl
  unfold vX4_step_c229 at hv
  refine lv_aload_n hx hb dX4_step_229 rfl (lv_at hl 0 rfl) ?_
  refine lv_aload_n hx hb dX4_step_230 rfl (lv_at hl 0 rfl) ?_
  refine va_get (D := g.1) (ci := 4) (v := .int (D 7)) (C := RX4) (T := TX4) (N := 9) hx hb hts inX4_step_4 hown hK hP 0 rfl rfl 7 (by decide) (hts (.fieldLink RX4 35 "RangeCodes$Reader" "at" "I") (List.mem_of_getElem? (i := 1) rfl)) (fun _ h9 => h9) rfl dX4_step_231 ?_
  refine lv_aload_n hx hb dX4_step_234 rfl (lv_at hl 0 rfl) ?_
  refine va_get (D := g.1) (ci := 4) (v := .int (D 6)) (C := RX4) (T := TX4) (N := 9) hx hb hts inX4_step_4 hown hK hP 0 rfl rfl 6 (by decide) (hts (.fieldLink RX4 100 "RangeCodes$Reader" "start" "I") (List.mem_of_getElem? (i := 4) rfl)) (fun _ h9 => h9) rfl dX4_step_235 ?_
  refine lv_isub hx hb dX4_step_238 ?_
  refine lv_iconst (v := (4 : Int32)) hx hb dX4_step_239 (by decide) ?_
  obtain ⟨hvt, hvf⟩ := hv
  refine lv_icmp_gt (tgt := 247) hx hb dX4_step_240 (by decide) (fun hc => ?_) (fun hc => ?_)
  · have hv := hvt hc
    refine lv_iconst (v := (4 : Int32)) hx hb dX4_step_247 (by decide) ?_
    refine va_put (D := g.1) (ci := 4) (v := .int (4 : Int32)) (ty := .int) (C := RX4) (T := TX4) (N := 9) hx hb hts inX4_step_4 tyX4 tyX4_ok nmX4 hown hK hP hD hS 0 rfl rfl 5 (by decide) (hts (.fieldLink RX4 41 "RangeCodes$Reader" "kind" "I") (List.mem_of_getElem? (i := 6) rfl)) (fun _ h9 => h9) rfl (by decide +kernel) rfl rfl (Nat.le_of_ble_eq_true rfl) dX4_step_248 (fun H locs hP hD hS => ?_)
    have hP : va_P g.1 vwCl [(qd, .inr (4, [.ref qtr, .ref qtx, .int (D 2), .int (D 3), .int (D 4), .int (4 : Int32), .int (D 6), .int (D 7), .int (D 8)])), (qtx, .inl (g.2 1, 500, .inl tx))] H := hP
    have hD : va_D A [(qd, .inr (4, [.ref qtr, .ref qtx, .int (D 2), .int (D 3), .int (D 4), .int (4 : Int32), .int (D 6), .int (D 7), .int (D 8)])), (qtx, .inl (g.2 1, 500, .inl tx))] := hD
    refine lv_goto (tgt := 287) hx hb dX4_step_251 (by decide) ?_
    have hP9 := hP.sub (ws' := [(qd, .inr (4, [.ref qtr, .ref qtx, .int ((upd D 5 (4 : Int32)) 2), .int ((upd D 5 (4 : Int32)) 3), .int ((upd D 5 (4 : Int32)) 4), .int ((upd D 5 (4 : Int32)) 5), .int ((upd D 5 (4 : Int32)) 6), .int ((upd D 5 (4 : Int32)) 7), .int ((upd D 5 (4 : Int32)) 8)])), (qtx, .inl (g.2 1, 500, .inl tx))]) [0, 1] rfl
    have hD9 := hD.sub (ws' := [(qd, .inr (4, [.ref qtr, .ref qtx, .int ((upd D 5 (4 : Int32)) 2), .int ((upd D 5 (4 : Int32)) 3), .int ((upd D 5 (4 : Int32)) 4), .int ((upd D 5 (4 : Int32)) 5), .int ((upd D 5 (4 : Int32)) 6), .int ((upd D 5 (4 : Int32)) 7), .int ((upd D 5 (4 : Int32)) 8)])), (qtx, .inl (g.2 1, 500, .inl tx))]) [0, 1] (by decide) rfl
    exact W.vret hx hb hr (fun t ht hW => ⟨⟨((upd D 5 (4 : Int32))), rfl, hv, by rw [ht]; exact hP9, hD9⟩, hS.F ht⟩) hS.2.2 dX4_step_287
  · have hv := hvf hc
    refine lv_iconst (v := (2 : Int32)) hx hb dX4_step_243 (by decide) ?_
    refine lv_goto (tgt := 248) hx hb dX4_step_244 (by decide) ?_
    refine va_put (D := g.1) (ci := 4) (v := .int (2 : Int32)) (ty := .int) (C := RX4) (T := TX4) (N := 9) hx hb hts inX4_step_4 tyX4 tyX4_ok nmX4 hown hK hP hD hS 0 rfl rfl 5 (by decide) (hts (.fieldLink RX4 41 "RangeCodes$Reader" "kind" "I") (List.mem_of_getElem? (i := 6) rfl)) (fun _ h9 => h9) rfl (by decide +kernel) rfl rfl (Nat.le_of_ble_eq_true rfl) dX4_step_248 (fun H locs hP hD hS => ?_)
    have hP : va_P g.1 vwCl [(qd, .inr (4, [.ref qtr, .ref qtx, .int (D 2), .int (D 3), .int (D 4), .int (2 : Int32), .int (D 6), .int (D 7), .int (D 8)])), (qtx, .inl (g.2 1, 500, .inl tx))] H := hP
    have hD : va_D A [(qd, .inr (4, [.ref qtr, .ref qtx, .int (D 2), .int (D 3), .int (D 4), .int (2 : Int32), .int (D 6), .int (D 7), .int (D 8)])), (qtx, .inl (g.2 1, 500, .inl tx))] := hD
    refine lv_goto (tgt := 287) hx hb dX4_step_251 (by decide) ?_
    have hP9 := hP.sub (ws' := [(qd, .inr (4, [.ref qtr, .ref qtx, .int ((upd D 5 (2 : Int32)) 2), .int ((upd D 5 (2 : Int32)) 3), .int ((upd D 5 (2 : Int32)) 4), .int ((upd D 5 (2 : Int32)) 5), .int ((upd D 5 (2 : Int32)) 6), .int ((upd D 5 (2 : Int32)) 7), .int ((upd D 5 (2 : Int32)) 8)])), (qtx, .inl (g.2 1, 500, .inl tx))]) [0, 1] rfl
    have hD9 := hD.sub (ws' := [(qd, .inr (4, [.ref qtr, .ref qtx, .int ((upd D 5 (2 : Int32)) 2), .int ((upd D 5 (2 : Int32)) 3), .int ((upd D 5 (2 : Int32)) 4), .int ((upd D 5 (2 : Int32)) 5), .int ((upd D 5 (2 : Int32)) 6), .int ((upd D 5 (2 : Int32)) 7), .int ((upd D 5 (2 : Int32)) 8)])), (qtx, .inl (g.2 1, 500, .inl tx))]) [0, 1] (by decide) rfl
    exact W.vret hx hb hr (fun t ht hW => ⟨⟨((upd D 5 (2 : Int32))), rfl, hv, by rw [ht]; exact hP9, hD9⟩, hS.F ht⟩) hS.2.2 dX4_step_287
def vX4_step_c166 (tx : Nat → Int32) (Q : (Nat → Int32) → Prop) : Nat → (Nat → Int32) → Prop
  | 0, _ => False
  | n + 1, D => (((D 4) ≤ (D 7) → (vX4_step_c229 tx Q D)) ∧ (¬ (D 4) ≤ (D 7) → (vp_in (D 7) 500 ∧ (preX4_isDigit (tx (D 7).toNatClampNeg) ∧ (∀ r_186 : Int32, postX4_isDigit (tx (D 7).toNatClampNeg) r_186 → ((r_186 = 0 → (vX4_step_c229 tx Q D)) ∧ (¬ r_186 = 0 → (vp_in (D 7) 500 ∧ (∀ f_213 : Int32, f_213 = (((D 8) * (10 : Int32)) + ((tx (D 7).toNatClampNeg) - (48 : Int32))) → (vX4_step_c166 tx Q n (upd (upd D 7 ((D 7) + (1 : Int32))) 8 f_213)))))))))))
set_option maxHeartbeats 4000000 in
set_option maxRecDepth 100000 in
theorem kX4_step_c166 {p : Program} {l : Launch} {e : Env} {s : State} {m : MethodId} {args : Array Value} {below : List Frame} {meth : Method} {c : Code} {g : GP} {qd : Nat} {qtr : Nat} {qtx : Nat} {tx : Nat → Int32}  {Q : (Nat → Int32) → Prop} {A : Nat → Prop} (S : CallFix p m c cX4_step 1 s args wsX4_step RX4) (hr : meth.sig.returnType = none) (hlocks : meth.locks = false) (hG : GK g s) (hA : ∀ q : Nat, s.heap.size ≤ q → A q) : ∀ (n : Nat), ∀ (D : Nat → Int32), vX4_step_c166 tx Q n D → ∀ (H : Heap) (locs : List Loc), va_P g.1 vwCl [(qd, .inr (4, [.ref qtr, .ref qtx, .int (D 2), .int (D 3), .int (D 4), .int (D 5), .int (D 6), .int (D 7), .int (D 8)])), (qtx, .inl (g.2 1, 500, .inl tx))] H → va_D A [(qd, .inr (4, [.ref qtr, .ref qtx, .int (D 2), .int (D 3), .int (D 4), .int (D 5), .int (D 6), .int (D 7), .int (D 8)])), (qtx, .inl (g.2 1, 500, .inl tx))] → va_S A s.heap H locs → ∀ (ls : Array Slot), lv_has ls 1 [(0, .ref qd)] → W p l e (headSpec wsX4_step rmX4_step).room s m args below meth c H locs 0 0 (MQ below (va_Qv (fun (u : (Nat → Int32)) => Q u) (fun (u : (Nat → Int32)) t => va_P g.1 vwCl [(qd, .inr (4, [.ref qtr, .ref qtx, .int (u 2), .int (u 3), .int (u 4), .int (u 5), .int (u 6), .int (u 7), .int (u 8)])), (qtx, .inl (g.2 1, 500, .inl tx))] t.heap ∧ va_D A [(qd, .inr (4, [.ref qtr, .ref qtx, .int (u 2), .int (u 3), .int (u 4), .int (u 5), .int (u 6), .int (u 7), .int (u 8)])), (qtx, .inl (g.2 1, 500, .inl tx))]) A) args s 0 0 A) (F0 m 166 ls []) := by
  obtain ⟨hx, hb, hml, hown, hts⟩ := id S
  have hK := hG.1
  intro n
  induction n with
  | zero => intro D hv; exact hv.elim
  | succ n ih =>
    intro D hv H locs hP hD hS ls hl
    refine lv_aload_n hx hb dX4_step_166 rfl (lv_at hl 0 rfl) ?_
    refine va_get (D := g.1) (ci := 4) (v := .int (D 7)) (C := RX4) (T := TX4) (N := 9) hx hb hts inX4_step_4 hown hK hP 0 rfl rfl 7 (by decide) (hts (.fieldLink RX4 35 "RangeCodes$Reader" "at" "I") (List.mem_of_getElem? (i := 1) rfl)) (fun _ h9 => h9) rfl dX4_step_167 ?_
    refine lv_aload_n hx hb dX4_step_170 rfl (lv_at hl 0 rfl) ?_
    refine va_get (D := g.1) (ci := 4) (v := .int (D 4)) (C := RX4) (T := TX4) (N := 9) hx hb hts inX4_step_4 hown hK hP 0 rfl rfl 4 (by decide) (hts (.fieldLink RX4 32 "RangeCodes$Reader" "length" "I") (List.mem_of_getElem? (i := 2) rfl)) (fun _ h9 => h9) rfl dX4_step_171 ?_
    obtain ⟨hvt, hvf⟩ := hv
    refine lv_icmp_ge (tgt := 229) hx hb dX4_step_174 (by decide) (fun hc => ?_) (fun hc => ?_)
    · have hv := hvt hc
      exact kX4_step_c229 S hr hlocks hG hA _ hv _ _ (hP.sub (ws' := [(qd, .inr (4, [.ref qtr, .ref qtx, .int (D 2), .int (D 3), .int (D 4), .int (D 5), .int (D 6), .int (D 7), .int (D 8)])), (qtx, .inl (g.2 1, 500, .inl tx))]) [0, 1] rfl) (hD.sub (ws' := [(qd, .inr (4, [.ref qtr, .ref qtx, .int (D 2), .int (D 3), .int (D 4), .int (D 5), .int (D 6), .int (D 7), .int (D 8)])), (qtx, .inl (g.2 1, 500, .inl tx))]) [0, 1] (by decide) rfl) hS ls (lv_sub hl [0] rfl)
    · have hv := hvf hc
      refine lv_aload_n hx hb dX4_step_177 rfl (lv_at hl 0 rfl) ?_
      refine va_get (D := g.1) (ci := 4) (v := .ref qtx) (C := RX4) (T := TX4) (N := 9) hx hb hts inX4_step_4 hown hK hP 0 rfl rfl 1 (by decide) (hts (.fieldLink RX4 18 "RangeCodes$Reader" "text" "[B") (List.mem_of_getElem? (i := 3) rfl)) (fun _ h9 => h9) rfl dX4_step_178 ?_
      refine lv_aload_n hx hb dX4_step_181 rfl (lv_at hl 0 rfl) ?_
      refine va_get (D := g.1) (ci := 4) (v := .int (D 7)) (C := RX4) (T := TX4) (N := 9) hx hb hts inX4_step_4 hown hK hP 0 rfl rfl 7 (by decide) (hts (.fieldLink RX4 35 "RangeCodes$Reader" "at" "I") (List.mem_of_getElem? (i := 1) rfl)) (fun _ h9 => h9) rfl dX4_step_182 ?_
      obtain ⟨ho_1, hv⟩ := hv
      refine va_bald hx hb hK hP 1 1 rfl rfl ho_1 dX4_step_185 ?_
      obtain ⟨ho_2, hv⟩ := hv
      refine vp_callSi (W.runS (As := [.int (tx (D 7).toNatClampNeg)]) (rest := []) S (wX4_isDigit l g (tx (D 7).toNatClampNeg) (sX4_isDigit (tx (D 7).toNatClampNeg) ho_2)) (va_cwS 1 hts gX4_step_X4_isDigit rfl rfl rfl (by decide +kernel) ⟨Nat.le_of_ble_eq_true rfl, Nat.le_of_ble_eq_true rfl⟩) ⟨blindRO, fun U hU hW => ⟨rfl, by rw [hU]; exact hP.sub (ws' := []) [] rfl, hG.warm hW⟩⟩ rfl rfl hl.1 rfl (lv_room (Nat.le_of_ble_eq_true rfl)) dX4_step_186 ⟨Nat.le_of_ble_eq_true rfl, Nat.le_of_ble_eq_true rfl⟩) (fun r_186 hr_186 => ?_)
      have hv := hv r_186 hr_186
      obtain ⟨hvt, hvf⟩ := hv
      refine lv_if_eq (tgt := 229) hx hb dX4_step_189 (by decide) (fun hc => ?_) (fun hc => ?_)
      · have hv := hvt hc
        exact kX4_step_c229 S hr hlocks hG hA _ hv _ _ (hP.sub (ws' := [(qd, .inr (4, [.ref qtr, .ref qtx, .int (D 2), .int (D 3), .int (D 4), .int (D 5), .int (D 6), .int (D 7), .int (D 8)])), (qtx, .inl (g.2 1, 500, .inl tx))]) [0, 1] rfl) (hD.sub (ws' := [(qd, .inr (4, [.ref qtr, .ref qtx, .int (D 2), .int (D 3), .int (D 4), .int (D 5), .int (D 6), .int (D 7), .int (D 8)])), (qtx, .inl (g.2 1, 500, .inl tx))]) [0, 1] (by decide) rfl) hS ls (lv_sub hl [0] rfl)
      · have hv := hvf hc
        refine lv_aload_n hx hb dX4_step_192 rfl (lv_at hl 0 rfl) ?_
        refine lv_aload_n hx hb dX4_step_193 rfl (lv_at hl 0 rfl) ?_
        refine va_get (D := g.1) (ci := 4) (v := .int (D 8)) (C := RX4) (T := TX4) (N := 9) hx hb hts inX4_step_4 hown hK hP 0 rfl rfl 8 (by decide) (hts (.fieldLink RX4 63 "RangeCodes$Reader" "value" "I") (List.mem_of_getElem? (i := 5) rfl)) (fun _ h9 => h9) rfl dX4_step_194 ?_
        refine lv_bipush (v := (10 : Int32)) hx hb dX4_step_197 (by decide) ?_
        refine lv_imul hx hb dX4_step_199 ?_
        refine lv_aload_n hx hb dX4_step_200 rfl (lv_at hl 0 rfl) ?_
        refine va_get (D := g.1) (ci := 4) (v := .ref qtx) (C := RX4) (T := TX4) (N := 9) hx hb hts inX4_step_4 hown hK hP 0 rfl rfl 1 (by decide) (hts (.fieldLink RX4 18 "RangeCodes$Reader" "text" "[B") (List.mem_of_getElem? (i := 3) rfl)) (fun _ h9 => h9) rfl dX4_step_201 ?_
        refine lv_aload_n hx hb dX4_step_204 rfl (lv_at hl 0 rfl) ?_
        refine va_get (D := g.1) (ci := 4) (v := .int (D 7)) (C := RX4) (T := TX4) (N := 9) hx hb hts inX4_step_4 hown hK hP 0 rfl rfl 7 (by decide) (hts (.fieldLink RX4 35 "RangeCodes$Reader" "at" "I") (List.mem_of_getElem? (i := 1) rfl)) (fun _ h9 => h9) rfl dX4_step_205 ?_
        obtain ⟨ho_3, hv⟩ := hv
        refine va_bald hx hb hK hP 1 1 rfl rfl ho_3 dX4_step_208 ?_
        refine lv_bipush (v := (48 : Int32)) hx hb dX4_step_209 (by decide) ?_
        refine lv_isub hx hb dX4_step_211 ?_
        refine lv_iadd hx hb dX4_step_212 ?_
        refine lv_topi (fun f_213 ef_213 => ?_)
        have hv := hv f_213 ef_213
        refine va_put (D := g.1) (ci := 4) (v := .int f_213) (ty := .int) (C := RX4) (T := TX4) (N := 9) hx hb hts inX4_step_4 tyX4 tyX4_ok nmX4 hown hK hP hD hS 0 rfl rfl 8 (by decide) (hts (.fieldLink RX4 63 "RangeCodes$Reader" "value" "I") (List.mem_of_getElem? (i := 5) rfl)) (fun _ h9 => h9) rfl (by decide +kernel) rfl rfl (Nat.le_of_ble_eq_true rfl) dX4_step_213 (fun H locs hP hD hS => ?_)
        have hP : va_P g.1 vwCl [(qd, .inr (4, [.ref qtr, .ref qtx, .int (D 2), .int (D 3), .int (D 4), .int (D 5), .int (D 6), .int (D 7), .int f_213])), (qtx, .inl (g.2 1, 500, .inl tx))] H := hP
        have hD : va_D A [(qd, .inr (4, [.ref qtr, .ref qtx, .int (D 2), .int (D 3), .int (D 4), .int (D 5), .int (D 6), .int (D 7), .int f_213])), (qtx, .inl (g.2 1, 500, .inl tx))] := hD
        refine lv_aload_n hx hb dX4_step_216 rfl (lv_at hl 0 rfl) ?_
        refine lv_dup hx hb dX4_step_217 rfl ?_
        refine va_get (D := g.1) (ci := 4) (v := .int (D 7)) (C := RX4) (T := TX4) (N := 9) hx hb hts inX4_step_4 hown hK hP 0 rfl rfl 7 (by decide) (hts (.fieldLink RX4 35 "RangeCodes$Reader" "at" "I") (List.mem_of_getElem? (i := 1) rfl)) (fun _ h9 => h9) rfl dX4_step_218 ?_
        refine lv_iconst (v := (1 : Int32)) hx hb dX4_step_221 (by decide) ?_
        refine lv_iadd hx hb dX4_step_222 ?_
        refine va_put (D := g.1) (ci := 4) (v := .int ((D 7) + (1 : Int32))) (ty := .int) (C := RX4) (T := TX4) (N := 9) hx hb hts inX4_step_4 tyX4 tyX4_ok nmX4 hown hK hP hD hS 0 rfl rfl 7 (by decide) (hts (.fieldLink RX4 35 "RangeCodes$Reader" "at" "I") (List.mem_of_getElem? (i := 1) rfl)) (fun _ h9 => h9) rfl (by decide +kernel) rfl rfl (Nat.le_of_ble_eq_true rfl) dX4_step_223 (fun H locs hP hD hS => ?_)
        have hP : va_P g.1 vwCl [(qd, .inr (4, [.ref qtr, .ref qtx, .int (D 2), .int (D 3), .int (D 4), .int (D 5), .int (D 6), .int ((D 7) + (1 : Int32)), .int f_213])), (qtx, .inl (g.2 1, 500, .inl tx))] H := hP
        have hD : va_D A [(qd, .inr (4, [.ref qtr, .ref qtx, .int (D 2), .int (D 3), .int (D 4), .int (D 5), .int (D 6), .int ((D 7) + (1 : Int32)), .int f_213])), (qtx, .inl (g.2 1, 500, .inl tx))] := hD
        refine lv_goto (tgt := 166) hx hb dX4_step_226 (by decide) ?_
        exact ih _ hv _ _ (hP.sub (ws' := [(qd, .inr (4, [.ref qtr, .ref qtx, .int ((upd (upd D 7 ((D 7) + (1 : Int32))) 8 f_213) 2), .int ((upd (upd D 7 ((D 7) + (1 : Int32))) 8 f_213) 3), .int ((upd (upd D 7 ((D 7) + (1 : Int32))) 8 f_213) 4), .int ((upd (upd D 7 ((D 7) + (1 : Int32))) 8 f_213) 5), .int ((upd (upd D 7 ((D 7) + (1 : Int32))) 8 f_213) 6), .int ((upd (upd D 7 ((D 7) + (1 : Int32))) 8 f_213) 7), .int ((upd (upd D 7 ((D 7) + (1 : Int32))) 8 f_213) 8)])), (qtx, .inl (g.2 1, 500, .inl tx))]) [0, 1] rfl) (hD.sub (ws' := [(qd, .inr (4, [.ref qtr, .ref qtx, .int ((upd (upd D 7 ((D 7) + (1 : Int32))) 8 f_213) 2), .int ((upd (upd D 7 ((D 7) + (1 : Int32))) 8 f_213) 3), .int ((upd (upd D 7 ((D 7) + (1 : Int32))) 8 f_213) 4), .int ((upd (upd D 7 ((D 7) + (1 : Int32))) 8 f_213) 5), .int ((upd (upd D 7 ((D 7) + (1 : Int32))) 8 f_213) 6), .int ((upd (upd D 7 ((D 7) + (1 : Int32))) 8 f_213) 7), .int ((upd (upd D 7 ((D 7) + (1 : Int32))) 8 f_213) 8)])), (qtx, .inl (g.2 1, 500, .inl tx))]) [0, 1] (by decide) rfl) hS ls (lv_sub hl [0] rfl)
def vX4_step_c125 (tx : Nat → Int32) (Q : (Nat → Int32) → Prop) (D : Nat → Int32) : Prop := (((13 : Int32) < ((D 7) - (D 6)) → (Q (upd D 5 (4 : Int32)))) ∧ (¬ (13 : Int32) < ((D 7) - (D 6)) → (Q (upd D 5 (1 : Int32)))))
set_option maxHeartbeats 4000000 in
set_option maxRecDepth 100000 in
theorem kX4_step_c125 {p : Program} {l : Launch} {e : Env} {s : State} {m : MethodId} {args : Array Value} {below : List Frame} {meth : Method} {c : Code} {g : GP} {qd : Nat} {qtr : Nat} {qtx : Nat} {tx : Nat → Int32}  {Q : (Nat → Int32) → Prop} {A : Nat → Prop} (S : CallFix p m c cX4_step 1 s args wsX4_step RX4) (hr : meth.sig.returnType = none) (hlocks : meth.locks = false) (hG : GK g s) (hA : ∀ q : Nat, s.heap.size ≤ q → A q) : ∀ (D : Nat → Int32), vX4_step_c125 tx Q D → ∀ (H : Heap) (locs : List Loc), va_P g.1 vwCl [(qd, .inr (4, [.ref qtr, .ref qtx, .int (D 2), .int (D 3), .int (D 4), .int (D 5), .int (D 6), .int (D 7), .int (D 8)])), (qtx, .inl (g.2 1, 500, .inl tx))] H → va_D A [(qd, .inr (4, [.ref qtr, .ref qtx, .int (D 2), .int (D 3), .int (D 4), .int (D 5), .int (D 6), .int (D 7), .int (D 8)])), (qtx, .inl (g.2 1, 500, .inl tx))] → va_S A s.heap H locs → ∀ (ls : Array Slot), lv_has ls 1 [(0, .ref qd)] → W p l e (headSpec wsX4_step rmX4_step).room s m args below meth c H locs 0 0 (MQ below (va_Qv (fun (u : (Nat → Int32)) => Q u) (fun (u : (Nat → Int32)) t => va_P g.1 vwCl [(qd, .inr (4, [.ref qtr, .ref qtx, .int (u 2), .int (u 3), .int (u 4), .int (u 5), .int (u 6), .int (u 7), .int (u 8)])), (qtx, .inl (g.2 1, 500, .inl tx))] t.heap ∧ va_D A [(qd, .inr (4, [.ref qtr, .ref qtx, .int (u 2), .int (u 3), .int (u 4), .int (u 5), .int (u 6), .int (u 7), .int (u 8)])), (qtx, .inl (g.2 1, 500, .inl tx))]) A) args s 0 0 A) (F0 m 125 ls []) := by
  obtain ⟨hx, hb, hml, hown, hts⟩ := id S
  have hK := hG.1
  intro D hv H locs hP hD hS ls hl
  unfold vX4_step_c125 at hv
  refine lv_aload_n hx hb dX4_step_125 rfl (lv_at hl 0 rfl) ?_
  refine lv_aload_n hx hb dX4_step_126 rfl (lv_at hl 0 rfl) ?_
  refine va_get (D := g.1) (ci := 4) (v := .int (D 7)) (C := RX4) (T := TX4) (N := 9) hx hb hts inX4_step_4 hown hK hP 0 rfl rfl 7 (by decide) (hts (.fieldLink RX4 35 "RangeCodes$Reader" "at" "I") (List.mem_of_getElem? (i := 1) rfl)) (fun _ h9 => h9) rfl dX4_step_127 ?_
  refine lv_aload_n hx hb dX4_step_130 rfl (lv_at hl 0 rfl) ?_
  refine va_get (D := g.1) (ci := 4) (v := .int (D 6)) (C := RX4) (T := TX4) (N := 9) hx hb hts inX4_step_4 hown hK hP 0 rfl rfl 6 (by decide) (hts (.fieldLink RX4 100 "RangeCodes$Reader" "start" "I") (List.mem_of_getElem? (i := 4) rfl)) (fun _ h9 => h9) rfl dX4_step_131 ?_
  refine lv_isub hx hb dX4_step_134 ?_
  refine lv_bipush (v := (13 : Int32)) hx hb dX4_step_135 (by decide) ?_
  obtain ⟨hvt, hvf⟩ := hv
  refine lv_icmp_gt (tgt := 144) hx hb dX4_step_137 (by decide) (fun hc => ?_) (fun hc => ?_)
  · have hv := hvt hc
    refine lv_iconst (v := (4 : Int32)) hx hb dX4_step_144 (by decide) ?_
    refine va_put (D := g.1) (ci := 4) (v := .int (4 : Int32)) (ty := .int) (C := RX4) (T := TX4) (N := 9) hx hb hts inX4_step_4 tyX4 tyX4_ok nmX4 hown hK hP hD hS 0 rfl rfl 5 (by decide) (hts (.fieldLink RX4 41 "RangeCodes$Reader" "kind" "I") (List.mem_of_getElem? (i := 6) rfl)) (fun _ h9 => h9) rfl (by decide +kernel) rfl rfl (Nat.le_of_ble_eq_true rfl) dX4_step_145 (fun H locs hP hD hS => ?_)
    have hP : va_P g.1 vwCl [(qd, .inr (4, [.ref qtr, .ref qtx, .int (D 2), .int (D 3), .int (D 4), .int (4 : Int32), .int (D 6), .int (D 7), .int (D 8)])), (qtx, .inl (g.2 1, 500, .inl tx))] H := hP
    have hD : va_D A [(qd, .inr (4, [.ref qtr, .ref qtx, .int (D 2), .int (D 3), .int (D 4), .int (4 : Int32), .int (D 6), .int (D 7), .int (D 8)])), (qtx, .inl (g.2 1, 500, .inl tx))] := hD
    refine lv_goto (tgt := 287) hx hb dX4_step_148 (by decide) ?_
    have hP9 := hP.sub (ws' := [(qd, .inr (4, [.ref qtr, .ref qtx, .int ((upd D 5 (4 : Int32)) 2), .int ((upd D 5 (4 : Int32)) 3), .int ((upd D 5 (4 : Int32)) 4), .int ((upd D 5 (4 : Int32)) 5), .int ((upd D 5 (4 : Int32)) 6), .int ((upd D 5 (4 : Int32)) 7), .int ((upd D 5 (4 : Int32)) 8)])), (qtx, .inl (g.2 1, 500, .inl tx))]) [0, 1] rfl
    have hD9 := hD.sub (ws' := [(qd, .inr (4, [.ref qtr, .ref qtx, .int ((upd D 5 (4 : Int32)) 2), .int ((upd D 5 (4 : Int32)) 3), .int ((upd D 5 (4 : Int32)) 4), .int ((upd D 5 (4 : Int32)) 5), .int ((upd D 5 (4 : Int32)) 6), .int ((upd D 5 (4 : Int32)) 7), .int ((upd D 5 (4 : Int32)) 8)])), (qtx, .inl (g.2 1, 500, .inl tx))]) [0, 1] (by decide) rfl
    exact W.vret hx hb hr (fun t ht hW => ⟨⟨((upd D 5 (4 : Int32))), rfl, hv, by rw [ht]; exact hP9, hD9⟩, hS.F ht⟩) hS.2.2 dX4_step_287
  · have hv := hvf hc
    refine lv_iconst (v := (1 : Int32)) hx hb dX4_step_140 (by decide) ?_
    refine lv_goto (tgt := 145) hx hb dX4_step_141 (by decide) ?_
    refine va_put (D := g.1) (ci := 4) (v := .int (1 : Int32)) (ty := .int) (C := RX4) (T := TX4) (N := 9) hx hb hts inX4_step_4 tyX4 tyX4_ok nmX4 hown hK hP hD hS 0 rfl rfl 5 (by decide) (hts (.fieldLink RX4 41 "RangeCodes$Reader" "kind" "I") (List.mem_of_getElem? (i := 6) rfl)) (fun _ h9 => h9) rfl (by decide +kernel) rfl rfl (Nat.le_of_ble_eq_true rfl) dX4_step_145 (fun H locs hP hD hS => ?_)
    have hP : va_P g.1 vwCl [(qd, .inr (4, [.ref qtr, .ref qtx, .int (D 2), .int (D 3), .int (D 4), .int (1 : Int32), .int (D 6), .int (D 7), .int (D 8)])), (qtx, .inl (g.2 1, 500, .inl tx))] H := hP
    have hD : va_D A [(qd, .inr (4, [.ref qtr, .ref qtx, .int (D 2), .int (D 3), .int (D 4), .int (1 : Int32), .int (D 6), .int (D 7), .int (D 8)])), (qtx, .inl (g.2 1, 500, .inl tx))] := hD
    refine lv_goto (tgt := 287) hx hb dX4_step_148 (by decide) ?_
    have hP9 := hP.sub (ws' := [(qd, .inr (4, [.ref qtr, .ref qtx, .int ((upd D 5 (1 : Int32)) 2), .int ((upd D 5 (1 : Int32)) 3), .int ((upd D 5 (1 : Int32)) 4), .int ((upd D 5 (1 : Int32)) 5), .int ((upd D 5 (1 : Int32)) 6), .int ((upd D 5 (1 : Int32)) 7), .int ((upd D 5 (1 : Int32)) 8)])), (qtx, .inl (g.2 1, 500, .inl tx))]) [0, 1] rfl
    have hD9 := hD.sub (ws' := [(qd, .inr (4, [.ref qtr, .ref qtx, .int ((upd D 5 (1 : Int32)) 2), .int ((upd D 5 (1 : Int32)) 3), .int ((upd D 5 (1 : Int32)) 4), .int ((upd D 5 (1 : Int32)) 5), .int ((upd D 5 (1 : Int32)) 6), .int ((upd D 5 (1 : Int32)) 7), .int ((upd D 5 (1 : Int32)) 8)])), (qtx, .inl (g.2 1, 500, .inl tx))]) [0, 1] (by decide) rfl
    exact W.vret hx hb hr (fun t ht hW => ⟨⟨((upd D 5 (1 : Int32))), rfl, hv, by rw [ht]; exact hP9, hD9⟩, hS.F ht⟩) hS.2.2 dX4_step_287
def vX4_step_c86 (tx : Nat → Int32) (Q : (Nat → Int32) → Prop) : Nat → (Nat → Int32) → Prop
  | 0, _ => False
  | n + 1, D => (((D 4) ≤ (D 7) → (vX4_step_c125 tx Q D)) ∧ (¬ (D 4) ≤ (D 7) → (vp_in (D 7) 500 ∧ (preX4_isLetter (tx (D 7).toNatClampNeg) ∧ (∀ r_106 : Int32, postX4_isLetter (tx (D 7).toNatClampNeg) r_106 → ((r_106 = 0 → (vX4_step_c125 tx Q D)) ∧ (¬ r_106 = 0 → (vX4_step_c86 tx Q n (upd D 7 ((D 7) + (1 : Int32)))))))))))
set_option maxHeartbeats 4000000 in
set_option maxRecDepth 100000 in
theorem kX4_step_c86 {p : Program} {l : Launch} {e : Env} {s : State} {m : MethodId} {args : Array Value} {below : List Frame} {meth : Method} {c : Code} {g : GP} {qd : Nat} {qtr : Nat} {qtx : Nat} {tx : Nat → Int32}  {Q : (Nat → Int32) → Prop} {A : Nat → Prop} (S : CallFix p m c cX4_step 1 s args wsX4_step RX4) (hr : meth.sig.returnType = none) (hlocks : meth.locks = false) (hG : GK g s) (hA : ∀ q : Nat, s.heap.size ≤ q → A q) : ∀ (n : Nat), ∀ (D : Nat → Int32), vX4_step_c86 tx Q n D → ∀ (H : Heap) (locs : List Loc), va_P g.1 vwCl [(qd, .inr (4, [.ref qtr, .ref qtx, .int (D 2), .int (D 3), .int (D 4), .int (D 5), .int (D 6), .int (D 7), .int (D 8)])), (qtx, .inl (g.2 1, 500, .inl tx))] H → va_D A [(qd, .inr (4, [.ref qtr, .ref qtx, .int (D 2), .int (D 3), .int (D 4), .int (D 5), .int (D 6), .int (D 7), .int (D 8)])), (qtx, .inl (g.2 1, 500, .inl tx))] → va_S A s.heap H locs → ∀ (ls : Array Slot), lv_has ls 1 [(0, .ref qd)] → W p l e (headSpec wsX4_step rmX4_step).room s m args below meth c H locs 0 0 (MQ below (va_Qv (fun (u : (Nat → Int32)) => Q u) (fun (u : (Nat → Int32)) t => va_P g.1 vwCl [(qd, .inr (4, [.ref qtr, .ref qtx, .int (u 2), .int (u 3), .int (u 4), .int (u 5), .int (u 6), .int (u 7), .int (u 8)])), (qtx, .inl (g.2 1, 500, .inl tx))] t.heap ∧ va_D A [(qd, .inr (4, [.ref qtr, .ref qtx, .int (u 2), .int (u 3), .int (u 4), .int (u 5), .int (u 6), .int (u 7), .int (u 8)])), (qtx, .inl (g.2 1, 500, .inl tx))]) A) args s 0 0 A) (F0 m 86 ls []) := by
  obtain ⟨hx, hb, hml, hown, hts⟩ := id S
  have hK := hG.1
  intro n
  induction n with
  | zero => intro D hv; exact hv.elim
  | succ n ih =>
    intro D hv H locs hP hD hS ls hl
    refine lv_aload_n hx hb dX4_step_86 rfl (lv_at hl 0 rfl) ?_
    refine va_get (D := g.1) (ci := 4) (v := .int (D 7)) (C := RX4) (T := TX4) (N := 9) hx hb hts inX4_step_4 hown hK hP 0 rfl rfl 7 (by decide) (hts (.fieldLink RX4 35 "RangeCodes$Reader" "at" "I") (List.mem_of_getElem? (i := 1) rfl)) (fun _ h9 => h9) rfl dX4_step_87 ?_
    refine lv_aload_n hx hb dX4_step_90 rfl (lv_at hl 0 rfl) ?_
    refine va_get (D := g.1) (ci := 4) (v := .int (D 4)) (C := RX4) (T := TX4) (N := 9) hx hb hts inX4_step_4 hown hK hP 0 rfl rfl 4 (by decide) (hts (.fieldLink RX4 32 "RangeCodes$Reader" "length" "I") (List.mem_of_getElem? (i := 2) rfl)) (fun _ h9 => h9) rfl dX4_step_91 ?_
    obtain ⟨hvt, hvf⟩ := hv
    refine lv_icmp_ge (tgt := 125) hx hb dX4_step_94 (by decide) (fun hc => ?_) (fun hc => ?_)
    · have hv := hvt hc
      exact kX4_step_c125 S hr hlocks hG hA _ hv _ _ (hP.sub (ws' := [(qd, .inr (4, [.ref qtr, .ref qtx, .int (D 2), .int (D 3), .int (D 4), .int (D 5), .int (D 6), .int (D 7), .int (D 8)])), (qtx, .inl (g.2 1, 500, .inl tx))]) [0, 1] rfl) (hD.sub (ws' := [(qd, .inr (4, [.ref qtr, .ref qtx, .int (D 2), .int (D 3), .int (D 4), .int (D 5), .int (D 6), .int (D 7), .int (D 8)])), (qtx, .inl (g.2 1, 500, .inl tx))]) [0, 1] (by decide) rfl) hS ls (lv_sub hl [0] rfl)
    · have hv := hvf hc
      refine lv_aload_n hx hb dX4_step_97 rfl (lv_at hl 0 rfl) ?_
      refine va_get (D := g.1) (ci := 4) (v := .ref qtx) (C := RX4) (T := TX4) (N := 9) hx hb hts inX4_step_4 hown hK hP 0 rfl rfl 1 (by decide) (hts (.fieldLink RX4 18 "RangeCodes$Reader" "text" "[B") (List.mem_of_getElem? (i := 3) rfl)) (fun _ h9 => h9) rfl dX4_step_98 ?_
      refine lv_aload_n hx hb dX4_step_101 rfl (lv_at hl 0 rfl) ?_
      refine va_get (D := g.1) (ci := 4) (v := .int (D 7)) (C := RX4) (T := TX4) (N := 9) hx hb hts inX4_step_4 hown hK hP 0 rfl rfl 7 (by decide) (hts (.fieldLink RX4 35 "RangeCodes$Reader" "at" "I") (List.mem_of_getElem? (i := 1) rfl)) (fun _ h9 => h9) rfl dX4_step_102 ?_
      obtain ⟨ho_1, hv⟩ := hv
      refine va_bald hx hb hK hP 1 1 rfl rfl ho_1 dX4_step_105 ?_
      obtain ⟨ho_2, hv⟩ := hv
      refine vp_callSi (W.runS (As := [.int (tx (D 7).toNatClampNeg)]) (rest := []) S (wX4_isLetter l g (tx (D 7).toNatClampNeg) (sX4_isLetter (tx (D 7).toNatClampNeg) ho_2)) (va_cwS 1 hts gX4_step_X4_isLetter rfl rfl rfl (by decide +kernel) ⟨Nat.le_of_ble_eq_true rfl, Nat.le_of_ble_eq_true rfl⟩) ⟨blindRO, fun U hU hW => ⟨rfl, by rw [hU]; exact hP.sub (ws' := []) [] rfl, hG.warm hW⟩⟩ rfl rfl hl.1 rfl (lv_room (Nat.le_of_ble_eq_true rfl)) dX4_step_106 ⟨Nat.le_of_ble_eq_true rfl, Nat.le_of_ble_eq_true rfl⟩) (fun r_106 hr_106 => ?_)
      have hv := hv r_106 hr_106
      obtain ⟨hvt, hvf⟩ := hv
      refine lv_if_eq (tgt := 125) hx hb dX4_step_109 (by decide) (fun hc => ?_) (fun hc => ?_)
      · have hv := hvt hc
        exact kX4_step_c125 S hr hlocks hG hA _ hv _ _ (hP.sub (ws' := [(qd, .inr (4, [.ref qtr, .ref qtx, .int (D 2), .int (D 3), .int (D 4), .int (D 5), .int (D 6), .int (D 7), .int (D 8)])), (qtx, .inl (g.2 1, 500, .inl tx))]) [0, 1] rfl) (hD.sub (ws' := [(qd, .inr (4, [.ref qtr, .ref qtx, .int (D 2), .int (D 3), .int (D 4), .int (D 5), .int (D 6), .int (D 7), .int (D 8)])), (qtx, .inl (g.2 1, 500, .inl tx))]) [0, 1] (by decide) rfl) hS ls (lv_sub hl [0] rfl)
      · have hv := hvf hc
        refine lv_aload_n hx hb dX4_step_112 rfl (lv_at hl 0 rfl) ?_
        refine lv_dup hx hb dX4_step_113 rfl ?_
        refine va_get (D := g.1) (ci := 4) (v := .int (D 7)) (C := RX4) (T := TX4) (N := 9) hx hb hts inX4_step_4 hown hK hP 0 rfl rfl 7 (by decide) (hts (.fieldLink RX4 35 "RangeCodes$Reader" "at" "I") (List.mem_of_getElem? (i := 1) rfl)) (fun _ h9 => h9) rfl dX4_step_114 ?_
        refine lv_iconst (v := (1 : Int32)) hx hb dX4_step_117 (by decide) ?_
        refine lv_iadd hx hb dX4_step_118 ?_
        refine va_put (D := g.1) (ci := 4) (v := .int ((D 7) + (1 : Int32))) (ty := .int) (C := RX4) (T := TX4) (N := 9) hx hb hts inX4_step_4 tyX4 tyX4_ok nmX4 hown hK hP hD hS 0 rfl rfl 7 (by decide) (hts (.fieldLink RX4 35 "RangeCodes$Reader" "at" "I") (List.mem_of_getElem? (i := 1) rfl)) (fun _ h9 => h9) rfl (by decide +kernel) rfl rfl (Nat.le_of_ble_eq_true rfl) dX4_step_119 (fun H locs hP hD hS => ?_)
        have hP : va_P g.1 vwCl [(qd, .inr (4, [.ref qtr, .ref qtx, .int (D 2), .int (D 3), .int (D 4), .int (D 5), .int (D 6), .int ((D 7) + (1 : Int32)), .int (D 8)])), (qtx, .inl (g.2 1, 500, .inl tx))] H := hP
        have hD : va_D A [(qd, .inr (4, [.ref qtr, .ref qtx, .int (D 2), .int (D 3), .int (D 4), .int (D 5), .int (D 6), .int ((D 7) + (1 : Int32)), .int (D 8)])), (qtx, .inl (g.2 1, 500, .inl tx))] := hD
        refine lv_goto (tgt := 86) hx hb dX4_step_122 (by decide) ?_
        exact ih _ hv _ _ (hP.sub (ws' := [(qd, .inr (4, [.ref qtr, .ref qtx, .int ((upd D 7 ((D 7) + (1 : Int32))) 2), .int ((upd D 7 ((D 7) + (1 : Int32))) 3), .int ((upd D 7 ((D 7) + (1 : Int32))) 4), .int ((upd D 7 ((D 7) + (1 : Int32))) 5), .int ((upd D 7 ((D 7) + (1 : Int32))) 6), .int ((upd D 7 ((D 7) + (1 : Int32))) 7), .int ((upd D 7 ((D 7) + (1 : Int32))) 8)])), (qtx, .inl (g.2 1, 500, .inl tx))]) [0, 1] rfl) (hD.sub (ws' := [(qd, .inr (4, [.ref qtr, .ref qtx, .int ((upd D 7 ((D 7) + (1 : Int32))) 2), .int ((upd D 7 ((D 7) + (1 : Int32))) 3), .int ((upd D 7 ((D 7) + (1 : Int32))) 4), .int ((upd D 7 ((D 7) + (1 : Int32))) 5), .int ((upd D 7 ((D 7) + (1 : Int32))) 6), .int ((upd D 7 ((D 7) + (1 : Int32))) 7), .int ((upd D 7 ((D 7) + (1 : Int32))) 8)])), (qtx, .inl (g.2 1, 500, .inl tx))]) [0, 1] (by decide) rfl) hS ls (lv_sub hl [0] rfl)
def vX4_step_c39 (tx : Nat → Int32) (Q : (Nat → Int32) → Prop) (D : Nat → Int32) : Prop := (((D 7) < (D 4) → (vp_in (D 7) 500 ∧ (preX4_isLetter (tx (D 7).toNatClampNeg) ∧ (∀ r_80 : Int32, postX4_isLetter (tx (D 7).toNatClampNeg) r_80 → ((r_80 = 0 → (vp_in (D 7) 500 ∧ (preX4_isDigit (tx (D 7).toNatClampNeg) ∧ (∀ r_160 : Int32, postX4_isDigit (tx (D 7).toNatClampNeg) r_160 → ((r_160 = 0 → (vp_in (D 7) 500 ∧ ((¬ (tx (D 7).toNatClampNeg) = (59 : Int32) → (vX4_step_c274 tx Q (4 : Int32) (upd (upd D 6 (D 7)) 8 (0 : Int32)))) ∧ ((tx (D 7).toNatClampNeg) = (59 : Int32) → (vX4_step_c274 tx Q (3 : Int32) (upd (upd D 6 (D 7)) 8 (0 : Int32))))))) ∧ (¬ r_160 = 0 → (∃ nn, vX4_step_c166 tx Q nn (upd (upd D 6 (D 7)) 8 (0 : Int32))))))))) ∧ (¬ r_80 = 0 → (∃ nn, vX4_step_c86 tx Q nn (upd (upd D 6 (D 7)) 8 (0 : Int32))))))))) ∧ (¬ (D 7) < (D 4) → (Q (upd (upd (upd D 5 (0 : Int32)) 6 (D 7)) 8 (0 : Int32)))))
set_option maxHeartbeats 4000000 in
set_option maxRecDepth 100000 in
theorem kX4_step_c39 {p : Program} {l : Launch} {e : Env} {s : State} {m : MethodId} {args : Array Value} {below : List Frame} {meth : Method} {c : Code} {g : GP} {qd : Nat} {qtr : Nat} {qtx : Nat} {tx : Nat → Int32}  {Q : (Nat → Int32) → Prop} {A : Nat → Prop} (S : CallFix p m c cX4_step 1 s args wsX4_step RX4) (hr : meth.sig.returnType = none) (hlocks : meth.locks = false) (hG : GK g s) (hA : ∀ q : Nat, s.heap.size ≤ q → A q) : ∀ (D : Nat → Int32), vX4_step_c39 tx Q D → ∀ (H : Heap) (locs : List Loc), va_P g.1 vwCl [(qd, .inr (4, [.ref qtr, .ref qtx, .int (D 2), .int (D 3), .int (D 4), .int (D 5), .int (D 6), .int (D 7), .int (D 8)])), (qtx, .inl (g.2 1, 500, .inl tx))] H → va_D A [(qd, .inr (4, [.ref qtr, .ref qtx, .int (D 2), .int (D 3), .int (D 4), .int (D 5), .int (D 6), .int (D 7), .int (D 8)])), (qtx, .inl (g.2 1, 500, .inl tx))] → va_S A s.heap H locs → ∀ (ls : Array Slot), lv_has ls 1 [(0, .ref qd)] → W p l e (headSpec wsX4_step rmX4_step).room s m args below meth c H locs 0 0 (MQ below (va_Qv (fun (u : (Nat → Int32)) => Q u) (fun (u : (Nat → Int32)) t => va_P g.1 vwCl [(qd, .inr (4, [.ref qtr, .ref qtx, .int (u 2), .int (u 3), .int (u 4), .int (u 5), .int (u 6), .int (u 7), .int (u 8)])), (qtx, .inl (g.2 1, 500, .inl tx))] t.heap ∧ va_D A [(qd, .inr (4, [.ref qtr, .ref qtx, .int (u 2), .int (u 3), .int (u 4), .int (u 5), .int (u 6), .int (u 7), .int (u 8)])), (qtx, .inl (g.2 1, 500, .inl tx))]) A) args s 0 0 A) (F0 m 39 ls []) := by
  obtain ⟨hx, hb, hml, hown, hts⟩ := id S
  have hK := hG.1
  intro D hv H locs hP hD hS ls hl
  unfold vX4_step_c39 at hv
  refine lv_aload_n hx hb dX4_step_39 rfl (lv_at hl 0 rfl) ?_
  refine lv_aload_n hx hb dX4_step_40 rfl (lv_at hl 0 rfl) ?_
  refine va_get (D := g.1) (ci := 4) (v := .int (D 7)) (C := RX4) (T := TX4) (N := 9) hx hb hts inX4_step_4 hown hK hP 0 rfl rfl 7 (by decide) (hts (.fieldLink RX4 35 "RangeCodes$Reader" "at" "I") (List.mem_of_getElem? (i := 1) rfl)) (fun _ h9 => h9) rfl dX4_step_41 ?_
  refine va_put (D := g.1) (ci := 4) (v := .int (D 7)) (ty := .int) (C := RX4) (T := TX4) (N := 9) hx hb hts inX4_step_4 tyX4 tyX4_ok nmX4 hown hK hP hD hS 0 rfl rfl 6 (by decide) (hts (.fieldLink RX4 100 "RangeCodes$Reader" "start" "I") (List.mem_of_getElem? (i := 4) rfl)) (fun _ h9 => h9) rfl (by decide +kernel) rfl rfl (Nat.le_of_ble_eq_true rfl) dX4_step_44 (fun H locs hP hD hS => ?_)
  have hP : va_P g.1 vwCl [(qd, .inr (4, [.ref qtr, .ref qtx, .int (D 2), .int (D 3), .int (D 4), .int (D 5), .int (D 7), .int (D 7), .int (D 8)])), (qtx, .inl (g.2 1, 500, .inl tx))] H := hP
  have hD : va_D A [(qd, .inr (4, [.ref qtr, .ref qtx, .int (D 2), .int (D 3), .int (D 4), .int (D 5), .int (D 7), .int (D 7), .int (D 8)])), (qtx, .inl (g.2 1, 500, .inl tx))] := hD
  refine lv_aload_n hx hb dX4_step_47 rfl (lv_at hl 0 rfl) ?_
  refine lv_iconst (v := (0 : Int32)) hx hb dX4_step_48 (by decide) ?_
  refine va_put (D := g.1) (ci := 4) (v := .int (0 : Int32)) (ty := .int) (C := RX4) (T := TX4) (N := 9) hx hb hts inX4_step_4 tyX4 tyX4_ok nmX4 hown hK hP hD hS 0 rfl rfl 8 (by decide) (hts (.fieldLink RX4 63 "RangeCodes$Reader" "value" "I") (List.mem_of_getElem? (i := 5) rfl)) (fun _ h9 => h9) rfl (by decide +kernel) rfl rfl (Nat.le_of_ble_eq_true rfl) dX4_step_49 (fun H locs hP hD hS => ?_)
  have hP : va_P g.1 vwCl [(qd, .inr (4, [.ref qtr, .ref qtx, .int (D 2), .int (D 3), .int (D 4), .int (D 5), .int (D 7), .int (D 7), .int (0 : Int32)])), (qtx, .inl (g.2 1, 500, .inl tx))] H := hP
  have hD : va_D A [(qd, .inr (4, [.ref qtr, .ref qtx, .int (D 2), .int (D 3), .int (D 4), .int (D 5), .int (D 7), .int (D 7), .int (0 : Int32)])), (qtx, .inl (g.2 1, 500, .inl tx))] := hD
  refine lv_aload_n hx hb dX4_step_52 rfl (lv_at hl 0 rfl) ?_
  refine va_get (D := g.1) (ci := 4) (v := .int (D 7)) (C := RX4) (T := TX4) (N := 9) hx hb hts inX4_step_4 hown hK hP 0 rfl rfl 7 (by decide) (hts (.fieldLink RX4 35 "RangeCodes$Reader" "at" "I") (List.mem_of_getElem? (i := 1) rfl)) (fun _ h9 => h9) rfl dX4_step_53 ?_
  refine lv_aload_n hx hb dX4_step_56 rfl (lv_at hl 0 rfl) ?_
  refine va_get (D := g.1) (ci := 4) (v := .int (D 4)) (C := RX4) (T := TX4) (N := 9) hx hb hts inX4_step_4 hown hK hP 0 rfl rfl 4 (by decide) (hts (.fieldLink RX4 32 "RangeCodes$Reader" "length" "I") (List.mem_of_getElem? (i := 2) rfl)) (fun _ h9 => h9) rfl dX4_step_57 ?_
  obtain ⟨hvt, hvf⟩ := hv
  refine lv_icmp_lt (tgt := 71) hx hb dX4_step_60 (by decide) (fun hc => ?_) (fun hc => ?_)
  · have hv := hvt hc
    refine lv_aload_n hx hb dX4_step_71 rfl (lv_at hl 0 rfl) ?_
    refine va_get (D := g.1) (ci := 4) (v := .ref qtx) (C := RX4) (T := TX4) (N := 9) hx hb hts inX4_step_4 hown hK hP 0 rfl rfl 1 (by decide) (hts (.fieldLink RX4 18 "RangeCodes$Reader" "text" "[B") (List.mem_of_getElem? (i := 3) rfl)) (fun _ h9 => h9) rfl dX4_step_72 ?_
    refine lv_aload_n hx hb dX4_step_75 rfl (lv_at hl 0 rfl) ?_
    refine va_get (D := g.1) (ci := 4) (v := .int (D 7)) (C := RX4) (T := TX4) (N := 9) hx hb hts inX4_step_4 hown hK hP 0 rfl rfl 7 (by decide) (hts (.fieldLink RX4 35 "RangeCodes$Reader" "at" "I") (List.mem_of_getElem? (i := 1) rfl)) (fun _ h9 => h9) rfl dX4_step_76 ?_
    obtain ⟨ho_1, hv⟩ := hv
    refine va_bald hx hb hK hP 1 1 rfl rfl ho_1 dX4_step_79 ?_
    obtain ⟨ho_2, hv⟩ := hv
    refine vp_callSi (W.runS (As := [.int (tx (D 7).toNatClampNeg)]) (rest := []) S (wX4_isLetter l g (tx (D 7).toNatClampNeg) (sX4_isLetter (tx (D 7).toNatClampNeg) ho_2)) (va_cwS 1 hts gX4_step_X4_isLetter rfl rfl rfl (by decide +kernel) ⟨Nat.le_of_ble_eq_true rfl, Nat.le_of_ble_eq_true rfl⟩) ⟨blindRO, fun U hU hW => ⟨rfl, by rw [hU]; exact hP.sub (ws' := []) [] rfl, hG.warm hW⟩⟩ rfl rfl hl.1 rfl (lv_room (Nat.le_of_ble_eq_true rfl)) dX4_step_80 ⟨Nat.le_of_ble_eq_true rfl, Nat.le_of_ble_eq_true rfl⟩) (fun r_80 hr_80 => ?_)
    have hv := hv r_80 hr_80
    obtain ⟨hvt, hvf⟩ := hv
    refine lv_if_eq (tgt := 151) hx hb dX4_step_83 (by decide) (fun hc => ?_) (fun hc => ?_)
    · have hv := hvt hc
      refine lv_aload_n hx hb dX4_step_151 rfl (lv_at hl 0 rfl) ?_
      refine va_get (D := g.1) (ci := 4) (v := .ref qtx) (C := RX4) (T := TX4) (N := 9) hx hb hts inX4_step_4 hown hK hP 0 rfl rfl 1 (by decide) (hts (.fieldLink RX4 18 "RangeCodes$Reader" "text" "[B") (List.mem_of_getElem? (i := 3) rfl)) (fun _ h9 => h9) rfl dX4_step_152 ?_
      refine lv_aload_n hx hb dX4_step_155 rfl (lv_at hl 0 rfl) ?_
      refine va_get (D := g.1) (ci := 4) (v := .int (D 7)) (C := RX4) (T := TX4) (N := 9) hx hb hts inX4_step_4 hown hK hP 0 rfl rfl 7 (by decide) (hts (.fieldLink RX4 35 "RangeCodes$Reader" "at" "I") (List.mem_of_getElem? (i := 1) rfl)) (fun _ h9 => h9) rfl dX4_step_156 ?_
      obtain ⟨ho_3, hv⟩ := hv
      refine va_bald hx hb hK hP 1 1 rfl rfl ho_3 dX4_step_159 ?_
      obtain ⟨ho_4, hv⟩ := hv
      refine vp_callSi (W.runS (As := [.int (tx (D 7).toNatClampNeg)]) (rest := []) S (wX4_isDigit l g (tx (D 7).toNatClampNeg) (sX4_isDigit (tx (D 7).toNatClampNeg) ho_4)) (va_cwS 1 hts gX4_step_X4_isDigit rfl rfl rfl (by decide +kernel) ⟨Nat.le_of_ble_eq_true rfl, Nat.le_of_ble_eq_true rfl⟩) ⟨blindRO, fun U hU hW => ⟨rfl, by rw [hU]; exact hP.sub (ws' := []) [] rfl, hG.warm hW⟩⟩ rfl rfl hl.1 rfl (lv_room (Nat.le_of_ble_eq_true rfl)) dX4_step_160 ⟨Nat.le_of_ble_eq_true rfl, Nat.le_of_ble_eq_true rfl⟩) (fun r_160 hr_160 => ?_)
      have hv := hv r_160 hr_160
      obtain ⟨hvt, hvf⟩ := hv
      refine lv_if_eq (tgt := 254) hx hb dX4_step_163 (by decide) (fun hc => ?_) (fun hc => ?_)
      · have hv := hvt hc
        refine lv_aload_n hx hb dX4_step_254 rfl (lv_at hl 0 rfl) ?_
        refine lv_aload_n hx hb dX4_step_255 rfl (lv_at hl 0 rfl) ?_
        refine va_get (D := g.1) (ci := 4) (v := .ref qtx) (C := RX4) (T := TX4) (N := 9) hx hb hts inX4_step_4 hown hK hP 0 rfl rfl 1 (by decide) (hts (.fieldLink RX4 18 "RangeCodes$Reader" "text" "[B") (List.mem_of_getElem? (i := 3) rfl)) (fun _ h9 => h9) rfl dX4_step_256 ?_
        refine lv_aload_n hx hb dX4_step_259 rfl (lv_at hl 0 rfl) ?_
        refine va_get (D := g.1) (ci := 4) (v := .int (D 7)) (C := RX4) (T := TX4) (N := 9) hx hb hts inX4_step_4 hown hK hP 0 rfl rfl 7 (by decide) (hts (.fieldLink RX4 35 "RangeCodes$Reader" "at" "I") (List.mem_of_getElem? (i := 1) rfl)) (fun _ h9 => h9) rfl dX4_step_260 ?_
        obtain ⟨ho_5, hv⟩ := hv
        refine va_bald hx hb hK hP 1 1 rfl rfl ho_5 dX4_step_263 ?_
        refine lv_bipush (v := (59 : Int32)) hx hb dX4_step_264 (by decide) ?_
        obtain ⟨hvt, hvf⟩ := hv
        refine lv_icmp_ne (tgt := 273) hx hb dX4_step_266 (by decide) (fun hc => ?_) (fun hc => ?_)
        · have hv := hvt hc
          refine lv_iconst (v := (4 : Int32)) hx hb dX4_step_273 (by decide) ?_
          exact kX4_step_c274 S hr hlocks hG hA _ _ hv _ _ (hP.sub (ws' := [(qd, .inr (4, [.ref qtr, .ref qtx, .int ((upd (upd D 6 (D 7)) 8 (0 : Int32)) 2), .int ((upd (upd D 6 (D 7)) 8 (0 : Int32)) 3), .int ((upd (upd D 6 (D 7)) 8 (0 : Int32)) 4), .int ((upd (upd D 6 (D 7)) 8 (0 : Int32)) 5), .int ((upd (upd D 6 (D 7)) 8 (0 : Int32)) 6), .int ((upd (upd D 6 (D 7)) 8 (0 : Int32)) 7), .int ((upd (upd D 6 (D 7)) 8 (0 : Int32)) 8)])), (qtx, .inl (g.2 1, 500, .inl tx))]) [0, 1] rfl) (hD.sub (ws' := [(qd, .inr (4, [.ref qtr, .ref qtx, .int ((upd (upd D 6 (D 7)) 8 (0 : Int32)) 2), .int ((upd (upd D 6 (D 7)) 8 (0 : Int32)) 3), .int ((upd (upd D 6 (D 7)) 8 (0 : Int32)) 4), .int ((upd (upd D 6 (D 7)) 8 (0 : Int32)) 5), .int ((upd (upd D 6 (D 7)) 8 (0 : Int32)) 6), .int ((upd (upd D 6 (D 7)) 8 (0 : Int32)) 7), .int ((upd (upd D 6 (D 7)) 8 (0 : Int32)) 8)])), (qtx, .inl (g.2 1, 500, .inl tx))]) [0, 1] (by decide) rfl) hS ls (lv_sub hl [0] rfl)
        · have hv := hvf hc
          refine lv_iconst (v := (3 : Int32)) hx hb dX4_step_269 (by decide) ?_
          refine lv_goto (tgt := 274) hx hb dX4_step_270 (by decide) ?_
          exact kX4_step_c274 S hr hlocks hG hA _ _ hv _ _ (hP.sub (ws' := [(qd, .inr (4, [.ref qtr, .ref qtx, .int ((upd (upd D 6 (D 7)) 8 (0 : Int32)) 2), .int ((upd (upd D 6 (D 7)) 8 (0 : Int32)) 3), .int ((upd (upd D 6 (D 7)) 8 (0 : Int32)) 4), .int ((upd (upd D 6 (D 7)) 8 (0 : Int32)) 5), .int ((upd (upd D 6 (D 7)) 8 (0 : Int32)) 6), .int ((upd (upd D 6 (D 7)) 8 (0 : Int32)) 7), .int ((upd (upd D 6 (D 7)) 8 (0 : Int32)) 8)])), (qtx, .inl (g.2 1, 500, .inl tx))]) [0, 1] rfl) (hD.sub (ws' := [(qd, .inr (4, [.ref qtr, .ref qtx, .int ((upd (upd D 6 (D 7)) 8 (0 : Int32)) 2), .int ((upd (upd D 6 (D 7)) 8 (0 : Int32)) 3), .int ((upd (upd D 6 (D 7)) 8 (0 : Int32)) 4), .int ((upd (upd D 6 (D 7)) 8 (0 : Int32)) 5), .int ((upd (upd D 6 (D 7)) 8 (0 : Int32)) 6), .int ((upd (upd D 6 (D 7)) 8 (0 : Int32)) 7), .int ((upd (upd D 6 (D 7)) 8 (0 : Int32)) 8)])), (qtx, .inl (g.2 1, 500, .inl tx))]) [0, 1] (by decide) rfl) hS ls (lv_sub hl [0] rfl)
      · have hv := hvf hc
        obtain ⟨nn, hv⟩ := hv
        exact kX4_step_c166 S hr hlocks hG hA nn _ hv _ _ (hP.sub (ws' := [(qd, .inr (4, [.ref qtr, .ref qtx, .int ((upd (upd D 6 (D 7)) 8 (0 : Int32)) 2), .int ((upd (upd D 6 (D 7)) 8 (0 : Int32)) 3), .int ((upd (upd D 6 (D 7)) 8 (0 : Int32)) 4), .int ((upd (upd D 6 (D 7)) 8 (0 : Int32)) 5), .int ((upd (upd D 6 (D 7)) 8 (0 : Int32)) 6), .int ((upd (upd D 6 (D 7)) 8 (0 : Int32)) 7), .int ((upd (upd D 6 (D 7)) 8 (0 : Int32)) 8)])), (qtx, .inl (g.2 1, 500, .inl tx))]) [0, 1] rfl) (hD.sub (ws' := [(qd, .inr (4, [.ref qtr, .ref qtx, .int ((upd (upd D 6 (D 7)) 8 (0 : Int32)) 2), .int ((upd (upd D 6 (D 7)) 8 (0 : Int32)) 3), .int ((upd (upd D 6 (D 7)) 8 (0 : Int32)) 4), .int ((upd (upd D 6 (D 7)) 8 (0 : Int32)) 5), .int ((upd (upd D 6 (D 7)) 8 (0 : Int32)) 6), .int ((upd (upd D 6 (D 7)) 8 (0 : Int32)) 7), .int ((upd (upd D 6 (D 7)) 8 (0 : Int32)) 8)])), (qtx, .inl (g.2 1, 500, .inl tx))]) [0, 1] (by decide) rfl) hS ls (lv_sub hl [0] rfl)
    · have hv := hvf hc
      obtain ⟨nn, hv⟩ := hv
      exact kX4_step_c86 S hr hlocks hG hA nn _ hv _ _ (hP.sub (ws' := [(qd, .inr (4, [.ref qtr, .ref qtx, .int ((upd (upd D 6 (D 7)) 8 (0 : Int32)) 2), .int ((upd (upd D 6 (D 7)) 8 (0 : Int32)) 3), .int ((upd (upd D 6 (D 7)) 8 (0 : Int32)) 4), .int ((upd (upd D 6 (D 7)) 8 (0 : Int32)) 5), .int ((upd (upd D 6 (D 7)) 8 (0 : Int32)) 6), .int ((upd (upd D 6 (D 7)) 8 (0 : Int32)) 7), .int ((upd (upd D 6 (D 7)) 8 (0 : Int32)) 8)])), (qtx, .inl (g.2 1, 500, .inl tx))]) [0, 1] rfl) (hD.sub (ws' := [(qd, .inr (4, [.ref qtr, .ref qtx, .int ((upd (upd D 6 (D 7)) 8 (0 : Int32)) 2), .int ((upd (upd D 6 (D 7)) 8 (0 : Int32)) 3), .int ((upd (upd D 6 (D 7)) 8 (0 : Int32)) 4), .int ((upd (upd D 6 (D 7)) 8 (0 : Int32)) 5), .int ((upd (upd D 6 (D 7)) 8 (0 : Int32)) 6), .int ((upd (upd D 6 (D 7)) 8 (0 : Int32)) 7), .int ((upd (upd D 6 (D 7)) 8 (0 : Int32)) 8)])), (qtx, .inl (g.2 1, 500, .inl tx))]) [0, 1] (by decide) rfl) hS ls (lv_sub hl [0] rfl)
  · have hv := hvf hc
    refine lv_aload_n hx hb dX4_step_63 rfl (lv_at hl 0 rfl) ?_
    refine lv_iconst (v := (0 : Int32)) hx hb dX4_step_64 (by decide) ?_
    refine va_put (D := g.1) (ci := 4) (v := .int (0 : Int32)) (ty := .int) (C := RX4) (T := TX4) (N := 9) hx hb hts inX4_step_4 tyX4 tyX4_ok nmX4 hown hK hP hD hS 0 rfl rfl 5 (by decide) (hts (.fieldLink RX4 41 "RangeCodes$Reader" "kind" "I") (List.mem_of_getElem? (i := 6) rfl)) (fun _ h9 => h9) rfl (by decide +kernel) rfl rfl (Nat.le_of_ble_eq_true rfl) dX4_step_65 (fun H locs hP hD hS => ?_)
    have hP : va_P g.1 vwCl [(qd, .inr (4, [.ref qtr, .ref qtx, .int (D 2), .int (D 3), .int (D 4), .int (0 : Int32), .int (D 7), .int (D 7), .int (0 : Int32)])), (qtx, .inl (g.2 1, 500, .inl tx))] H := hP
    have hD : va_D A [(qd, .inr (4, [.ref qtr, .ref qtx, .int (D 2), .int (D 3), .int (D 4), .int (0 : Int32), .int (D 7), .int (D 7), .int (0 : Int32)])), (qtx, .inl (g.2 1, 500, .inl tx))] := hD
    refine lv_goto (tgt := 287) hx hb dX4_step_68 (by decide) ?_
    have hP9 := hP.sub (ws' := [(qd, .inr (4, [.ref qtr, .ref qtx, .int ((upd (upd (upd D 5 (0 : Int32)) 6 (D 7)) 8 (0 : Int32)) 2), .int ((upd (upd (upd D 5 (0 : Int32)) 6 (D 7)) 8 (0 : Int32)) 3), .int ((upd (upd (upd D 5 (0 : Int32)) 6 (D 7)) 8 (0 : Int32)) 4), .int ((upd (upd (upd D 5 (0 : Int32)) 6 (D 7)) 8 (0 : Int32)) 5), .int ((upd (upd (upd D 5 (0 : Int32)) 6 (D 7)) 8 (0 : Int32)) 6), .int ((upd (upd (upd D 5 (0 : Int32)) 6 (D 7)) 8 (0 : Int32)) 7), .int ((upd (upd (upd D 5 (0 : Int32)) 6 (D 7)) 8 (0 : Int32)) 8)])), (qtx, .inl (g.2 1, 500, .inl tx))]) [0, 1] rfl
    have hD9 := hD.sub (ws' := [(qd, .inr (4, [.ref qtr, .ref qtx, .int ((upd (upd (upd D 5 (0 : Int32)) 6 (D 7)) 8 (0 : Int32)) 2), .int ((upd (upd (upd D 5 (0 : Int32)) 6 (D 7)) 8 (0 : Int32)) 3), .int ((upd (upd (upd D 5 (0 : Int32)) 6 (D 7)) 8 (0 : Int32)) 4), .int ((upd (upd (upd D 5 (0 : Int32)) 6 (D 7)) 8 (0 : Int32)) 5), .int ((upd (upd (upd D 5 (0 : Int32)) 6 (D 7)) 8 (0 : Int32)) 6), .int ((upd (upd (upd D 5 (0 : Int32)) 6 (D 7)) 8 (0 : Int32)) 7), .int ((upd (upd (upd D 5 (0 : Int32)) 6 (D 7)) 8 (0 : Int32)) 8)])), (qtx, .inl (g.2 1, 500, .inl tx))]) [0, 1] (by decide) rfl
    exact W.vret hx hb hr (fun t ht hW => ⟨⟨((upd (upd (upd D 5 (0 : Int32)) 6 (D 7)) 8 (0 : Int32))), rfl, hv, by rw [ht]; exact hP9, hD9⟩, hS.F ht⟩) hS.2.2 dX4_step_287
def vX4_step_c0 (tx : Nat → Int32) (Q : (Nat → Int32) → Prop) : Nat → (Nat → Int32) → Prop
  | 0, _ => False
  | n + 1, D => (((D 4) ≤ (D 7) → (vX4_step_c39 tx Q D)) ∧ (¬ (D 4) ≤ (D 7) → (vp_in (D 7) 500 ∧ (preX4_isBlank (tx (D 7).toNatClampNeg) ∧ (∀ r_20 : Int32, postX4_isBlank (tx (D 7).toNatClampNeg) r_20 → ((r_20 = 0 → (vX4_step_c39 tx Q D)) ∧ (¬ r_20 = 0 → (vX4_step_c0 tx Q n (upd D 7 ((D 7) + (1 : Int32)))))))))))
set_option maxHeartbeats 4000000 in
set_option maxRecDepth 100000 in
theorem kX4_step_c0 {p : Program} {l : Launch} {e : Env} {s : State} {m : MethodId} {args : Array Value} {below : List Frame} {meth : Method} {c : Code} {g : GP} {qd : Nat} {qtr : Nat} {qtx : Nat} {tx : Nat → Int32}  {Q : (Nat → Int32) → Prop} {A : Nat → Prop} (S : CallFix p m c cX4_step 1 s args wsX4_step RX4) (hr : meth.sig.returnType = none) (hlocks : meth.locks = false) (hG : GK g s) (hA : ∀ q : Nat, s.heap.size ≤ q → A q) : ∀ (n : Nat), ∀ (D : Nat → Int32), vX4_step_c0 tx Q n D → ∀ (H : Heap) (locs : List Loc), va_P g.1 vwCl [(qd, .inr (4, [.ref qtr, .ref qtx, .int (D 2), .int (D 3), .int (D 4), .int (D 5), .int (D 6), .int (D 7), .int (D 8)])), (qtx, .inl (g.2 1, 500, .inl tx))] H → va_D A [(qd, .inr (4, [.ref qtr, .ref qtx, .int (D 2), .int (D 3), .int (D 4), .int (D 5), .int (D 6), .int (D 7), .int (D 8)])), (qtx, .inl (g.2 1, 500, .inl tx))] → va_S A s.heap H locs → ∀ (ls : Array Slot), lv_has ls 1 [(0, .ref qd)] → W p l e (headSpec wsX4_step rmX4_step).room s m args below meth c H locs 0 0 (MQ below (va_Qv (fun (u : (Nat → Int32)) => Q u) (fun (u : (Nat → Int32)) t => va_P g.1 vwCl [(qd, .inr (4, [.ref qtr, .ref qtx, .int (u 2), .int (u 3), .int (u 4), .int (u 5), .int (u 6), .int (u 7), .int (u 8)])), (qtx, .inl (g.2 1, 500, .inl tx))] t.heap ∧ va_D A [(qd, .inr (4, [.ref qtr, .ref qtx, .int (u 2), .int (u 3), .int (u 4), .int (u 5), .int (u 6), .int (u 7), .int (u 8)])), (qtx, .inl (g.2 1, 500, .inl tx))]) A) args s 0 0 A) (F0 m 0 ls []) := by
  obtain ⟨hx, hb, hml, hown, hts⟩ := id S
  have hK := hG.1
  intro n
  induction n with
  | zero => intro D hv; exact hv.elim
  | succ n ih =>
    intro D hv H locs hP hD hS ls hl
    refine lv_aload_n hx hb dX4_step_0 rfl (lv_at hl 0 rfl) ?_
    refine va_get (D := g.1) (ci := 4) (v := .int (D 7)) (C := RX4) (T := TX4) (N := 9) hx hb hts inX4_step_4 hown hK hP 0 rfl rfl 7 (by decide) (hts (.fieldLink RX4 35 "RangeCodes$Reader" "at" "I") (List.mem_of_getElem? (i := 1) rfl)) (fun _ h9 => h9) rfl dX4_step_1 ?_
    refine lv_aload_n hx hb dX4_step_4 rfl (lv_at hl 0 rfl) ?_
    refine va_get (D := g.1) (ci := 4) (v := .int (D 4)) (C := RX4) (T := TX4) (N := 9) hx hb hts inX4_step_4 hown hK hP 0 rfl rfl 4 (by decide) (hts (.fieldLink RX4 32 "RangeCodes$Reader" "length" "I") (List.mem_of_getElem? (i := 2) rfl)) (fun _ h9 => h9) rfl dX4_step_5 ?_
    obtain ⟨hvt, hvf⟩ := hv
    refine lv_icmp_ge (tgt := 39) hx hb dX4_step_8 (by decide) (fun hc => ?_) (fun hc => ?_)
    · have hv := hvt hc
      exact kX4_step_c39 S hr hlocks hG hA _ hv _ _ (hP.sub (ws' := [(qd, .inr (4, [.ref qtr, .ref qtx, .int (D 2), .int (D 3), .int (D 4), .int (D 5), .int (D 6), .int (D 7), .int (D 8)])), (qtx, .inl (g.2 1, 500, .inl tx))]) [0, 1] rfl) (hD.sub (ws' := [(qd, .inr (4, [.ref qtr, .ref qtx, .int (D 2), .int (D 3), .int (D 4), .int (D 5), .int (D 6), .int (D 7), .int (D 8)])), (qtx, .inl (g.2 1, 500, .inl tx))]) [0, 1] (by decide) rfl) hS ls (lv_sub hl [0] rfl)
    · have hv := hvf hc
      refine lv_aload_n hx hb dX4_step_11 rfl (lv_at hl 0 rfl) ?_
      refine va_get (D := g.1) (ci := 4) (v := .ref qtx) (C := RX4) (T := TX4) (N := 9) hx hb hts inX4_step_4 hown hK hP 0 rfl rfl 1 (by decide) (hts (.fieldLink RX4 18 "RangeCodes$Reader" "text" "[B") (List.mem_of_getElem? (i := 3) rfl)) (fun _ h9 => h9) rfl dX4_step_12 ?_
      refine lv_aload_n hx hb dX4_step_15 rfl (lv_at hl 0 rfl) ?_
      refine va_get (D := g.1) (ci := 4) (v := .int (D 7)) (C := RX4) (T := TX4) (N := 9) hx hb hts inX4_step_4 hown hK hP 0 rfl rfl 7 (by decide) (hts (.fieldLink RX4 35 "RangeCodes$Reader" "at" "I") (List.mem_of_getElem? (i := 1) rfl)) (fun _ h9 => h9) rfl dX4_step_16 ?_
      obtain ⟨ho_1, hv⟩ := hv
      refine va_bald hx hb hK hP 1 1 rfl rfl ho_1 dX4_step_19 ?_
      obtain ⟨ho_2, hv⟩ := hv
      refine vp_callSi (W.runS (As := [.int (tx (D 7).toNatClampNeg)]) (rest := []) S (wX4_isBlank l g (tx (D 7).toNatClampNeg) (sX4_isBlank (tx (D 7).toNatClampNeg) ho_2)) (va_cwS 1 hts gX4_step_X4_isBlank rfl rfl rfl (by decide +kernel) ⟨Nat.le_of_ble_eq_true rfl, Nat.le_of_ble_eq_true rfl⟩) ⟨blindRO, fun U hU hW => ⟨rfl, by rw [hU]; exact hP.sub (ws' := []) [] rfl, hG.warm hW⟩⟩ rfl rfl hl.1 rfl (lv_room (Nat.le_of_ble_eq_true rfl)) dX4_step_20 ⟨Nat.le_of_ble_eq_true rfl, Nat.le_of_ble_eq_true rfl⟩) (fun r_20 hr_20 => ?_)
      have hv := hv r_20 hr_20
      obtain ⟨hvt, hvf⟩ := hv
      refine lv_if_eq (tgt := 39) hx hb dX4_step_23 (by decide) (fun hc => ?_) (fun hc => ?_)
      · have hv := hvt hc
        exact kX4_step_c39 S hr hlocks hG hA _ hv _ _ (hP.sub (ws' := [(qd, .inr (4, [.ref qtr, .ref qtx, .int (D 2), .int (D 3), .int (D 4), .int (D 5), .int (D 6), .int (D 7), .int (D 8)])), (qtx, .inl (g.2 1, 500, .inl tx))]) [0, 1] rfl) (hD.sub (ws' := [(qd, .inr (4, [.ref qtr, .ref qtx, .int (D 2), .int (D 3), .int (D 4), .int (D 5), .int (D 6), .int (D 7), .int (D 8)])), (qtx, .inl (g.2 1, 500, .inl tx))]) [0, 1] (by decide) rfl) hS ls (lv_sub hl [0] rfl)
      · have hv := hvf hc
        refine lv_aload_n hx hb dX4_step_26 rfl (lv_at hl 0 rfl) ?_
        refine lv_dup hx hb dX4_step_27 rfl ?_
        refine va_get (D := g.1) (ci := 4) (v := .int (D 7)) (C := RX4) (T := TX4) (N := 9) hx hb hts inX4_step_4 hown hK hP 0 rfl rfl 7 (by decide) (hts (.fieldLink RX4 35 "RangeCodes$Reader" "at" "I") (List.mem_of_getElem? (i := 1) rfl)) (fun _ h9 => h9) rfl dX4_step_28 ?_
        refine lv_iconst (v := (1 : Int32)) hx hb dX4_step_31 (by decide) ?_
        refine lv_iadd hx hb dX4_step_32 ?_
        refine va_put (D := g.1) (ci := 4) (v := .int ((D 7) + (1 : Int32))) (ty := .int) (C := RX4) (T := TX4) (N := 9) hx hb hts inX4_step_4 tyX4 tyX4_ok nmX4 hown hK hP hD hS 0 rfl rfl 7 (by decide) (hts (.fieldLink RX4 35 "RangeCodes$Reader" "at" "I") (List.mem_of_getElem? (i := 1) rfl)) (fun _ h9 => h9) rfl (by decide +kernel) rfl rfl (Nat.le_of_ble_eq_true rfl) dX4_step_33 (fun H locs hP hD hS => ?_)
        have hP : va_P g.1 vwCl [(qd, .inr (4, [.ref qtr, .ref qtx, .int (D 2), .int (D 3), .int (D 4), .int (D 5), .int (D 6), .int ((D 7) + (1 : Int32)), .int (D 8)])), (qtx, .inl (g.2 1, 500, .inl tx))] H := hP
        have hD : va_D A [(qd, .inr (4, [.ref qtr, .ref qtx, .int (D 2), .int (D 3), .int (D 4), .int (D 5), .int (D 6), .int ((D 7) + (1 : Int32)), .int (D 8)])), (qtx, .inl (g.2 1, 500, .inl tx))] := hD
        refine lv_goto (tgt := 0) hx hb dX4_step_36 (by decide) ?_
        exact ih _ hv _ _ (hP.sub (ws' := [(qd, .inr (4, [.ref qtr, .ref qtx, .int ((upd D 7 ((D 7) + (1 : Int32))) 2), .int ((upd D 7 ((D 7) + (1 : Int32))) 3), .int ((upd D 7 ((D 7) + (1 : Int32))) 4), .int ((upd D 7 ((D 7) + (1 : Int32))) 5), .int ((upd D 7 ((D 7) + (1 : Int32))) 6), .int ((upd D 7 ((D 7) + (1 : Int32))) 7), .int ((upd D 7 ((D 7) + (1 : Int32))) 8)])), (qtx, .inl (g.2 1, 500, .inl tx))]) [0, 1] rfl) (hD.sub (ws' := [(qd, .inr (4, [.ref qtr, .ref qtx, .int ((upd D 7 ((D 7) + (1 : Int32))) 2), .int ((upd D 7 ((D 7) + (1 : Int32))) 3), .int ((upd D 7 ((D 7) + (1 : Int32))) 4), .int ((upd D 7 ((D 7) + (1 : Int32))) 5), .int ((upd D 7 ((D 7) + (1 : Int32))) 6), .int ((upd D 7 ((D 7) + (1 : Int32))) 7), .int ((upd D 7 ((D 7) + (1 : Int32))) 8)])), (qtx, .inl (g.2 1, 500, .inl tx))]) [0, 1] (by decide) rfl) hS ls (lv_sub hl [0] rfl)
def vX4_step (D : Nat → Int32) (tx : Nat → Int32) (Q : (Nat → Int32) → Prop) : Prop := (((D 4) ≤ (D 7) → (vX4_step_c39 tx Q D)) ∧ (¬ (D 4) ≤ (D 7) → (vp_in (D 7) 500 ∧ (preX4_isBlank (tx (D 7).toNatClampNeg) ∧ (∀ r_20 : Int32, postX4_isBlank (tx (D 7).toNatClampNeg) r_20 → ((r_20 = 0 → (vX4_step_c39 tx Q D)) ∧ (¬ r_20 = 0 → (∃ nn, vX4_step_c0 tx Q nn (upd D 7 ((D 7) + (1 : Int32)))))))))))
set_option maxHeartbeats 4000000 in
set_option maxRecDepth 100000 in
theorem wX4_step (l : Launch) (g : GP) (qd : Nat) (qtr : Nat) (qtx : Nat) (sz : Nat) (D : Nat → Int32) (tx : Nat → Int32) {Q : (Nat → Int32) → Prop} (hv : vX4_step D tx Q) : Met l yX4_step wsX4_step rmX4_step (va_Pc [.ref qd] (fun U => U.heap.size = sz ∧ va_P g.1 vwCl [(qd, .inr (4, [.ref qtr, .ref qtx, .int (D 2), .int (D 3), .int (D 4), .int (D 5), .int (D 6), .int (D 7), .int (D 8)])), (qtx, .inl (g.2 1, 500, .inl tx))] U.heap ∧ GK g U ∧ va_D (fun _ => True) [(qd, .inr (4, [.ref qtr, .ref qtx, .int (D 2), .int (D 3), .int (D 4), .int (D 5), .int (D 6), .int (D 7), .int (D 8)])), (qtx, .inl (g.2 1, 500, .inl tx))])) (va_Qv (fun (u : (Nat → Int32)) => Q u) (fun (u : (Nat → Int32)) t => va_P g.1 vwCl [(qd, .inr (4, [.ref qtr, .ref qtx, .int (u 2), .int (u 3), .int (u 4), .int (u 5), .int (u 6), .int (u 7), .int (u 8)])), (qtx, .inl (g.2 1, 500, .inl tx))] t.heap ∧ va_D (va_A [(qd, .inr (4, [.ref qtr, .ref qtx, .int (D 2), .int (D 3), .int (D 4), .int (D 5), .int (D 6), .int (D 7), .int (D 8)])), (qtx, .inl (g.2 1, 500, .inl tx))] sz) [(qd, .inr (4, [.ref qtr, .ref qtx, .int (u 2), .int (u 3), .int (u 4), .int (u 5), .int (u 6), .int (u 7), .int (u 8)])), (qtx, .inl (g.2 1, 500, .inl tx))]) (va_A [(qd, .inr (4, [.ref qtr, .ref qtx, .int (D 2), .int (D 3), .int (D 4), .int (D 5), .int (D 6), .int (D 7), .int (D 8)])), (qtx, .inl (g.2 1, 500, .inl tx))] sz)) 0 0 (va_A [(qd, .inr (4, [.ref qtr, .ref qtx, .int (D 2), .int (D 3), .int (D 4), .int (D 5), .int (D 6), .int (D 7), .int (D 8)])), (qtx, .inl (g.2 1, 500, .inl tx))] sz) := by
  refine Met.ofW (cc := cX4_step) (maxL := 1) (ret := none) (by decide) rfl ?_
  intro p e s m args below meth c s₁ B hml hv'
  obtain ⟨rfl, hsz, hP, hG, hD0⟩ := hv'
  have S : CallFix p m c cX4_step 1 s _ wsX4_step RX4 := ⟨B.exec, B.bytes, hml, findClass_of_methodNamed B.named, atoms_spec (ws := wsX4_step) B.pre⟩
  obtain ⟨hx, hb, hml, hown, hts⟩ := id S
  have hK := hG.1
  have hr := B.returns
  have hlocks := B.notSynchronized
  subst hsz
  have hD := hD0.self (sz := s.heap.size)
  generalize hAe : va_A [(qd, .inr (4, [.ref qtr, .ref qtx, .int (D 2), .int (D 3), .int (D 4), .int (D 5), .int (D 6), .int (D 7), .int (D 8)])), (qtx, .inl (g.2 1, 500, .inl tx))] s.heap.size = A at hD ⊢
  have hA : ∀ q : Nat, s.heap.size ≤ q → A q := fun q h => by rw [← hAe]; exact Or.inr h
  have hS : va_S A s.heap s.heap [] := va_S.rf
  clear hD0 hAe
  have hl := lv_entry ([.ref qd]) (n := 1) (Nat.le_of_ble_eq_true rfl)
  rw [lg_entry_eq]
  generalize (lg_sl ([.ref qd]) ++ List.replicate (1 - (lg_sl ([.ref qd])).length) Slot.unset).toArray = ls at hl ⊢
  have hl : lv_has ls 1 [(0, .ref qd)] := hl
  unfold vX4_step at hv
  refine lv_aload_n hx hb dX4_step_0 rfl (lv_at hl 0 rfl) ?_
  refine va_get (D := g.1) (ci := 4) (v := .int (D 7)) (C := RX4) (T := TX4) (N := 9) hx hb hts inX4_step_4 hown hK hP 0 rfl rfl 7 (by decide) (hts (.fieldLink RX4 35 "RangeCodes$Reader" "at" "I") (List.mem_of_getElem? (i := 1) rfl)) (fun _ h9 => h9) rfl dX4_step_1 ?_
  refine lv_aload_n hx hb dX4_step_4 rfl (lv_at hl 0 rfl) ?_
  refine va_get (D := g.1) (ci := 4) (v := .int (D 4)) (C := RX4) (T := TX4) (N := 9) hx hb hts inX4_step_4 hown hK hP 0 rfl rfl 4 (by decide) (hts (.fieldLink RX4 32 "RangeCodes$Reader" "length" "I") (List.mem_of_getElem? (i := 2) rfl)) (fun _ h9 => h9) rfl dX4_step_5 ?_
  obtain ⟨hvt, hvf⟩ := hv
  refine lv_icmp_ge (tgt := 39) hx hb dX4_step_8 (by decide) (fun hc => ?_) (fun hc => ?_)
  · have hv := hvt hc
    exact kX4_step_c39 S hr hlocks hG hA _ hv _ _ (hP.sub (ws' := [(qd, .inr (4, [.ref qtr, .ref qtx, .int (D 2), .int (D 3), .int (D 4), .int (D 5), .int (D 6), .int (D 7), .int (D 8)])), (qtx, .inl (g.2 1, 500, .inl tx))]) [0, 1] rfl) (hD.sub (ws' := [(qd, .inr (4, [.ref qtr, .ref qtx, .int (D 2), .int (D 3), .int (D 4), .int (D 5), .int (D 6), .int (D 7), .int (D 8)])), (qtx, .inl (g.2 1, 500, .inl tx))]) [0, 1] (by decide) rfl) hS ls (lv_sub hl [0] rfl)
  · have hv := hvf hc
    refine lv_aload_n hx hb dX4_step_11 rfl (lv_at hl 0 rfl) ?_
    refine va_get (D := g.1) (ci := 4) (v := .ref qtx) (C := RX4) (T := TX4) (N := 9) hx hb hts inX4_step_4 hown hK hP 0 rfl rfl 1 (by decide) (hts (.fieldLink RX4 18 "RangeCodes$Reader" "text" "[B") (List.mem_of_getElem? (i := 3) rfl)) (fun _ h9 => h9) rfl dX4_step_12 ?_
    refine lv_aload_n hx hb dX4_step_15 rfl (lv_at hl 0 rfl) ?_
    refine va_get (D := g.1) (ci := 4) (v := .int (D 7)) (C := RX4) (T := TX4) (N := 9) hx hb hts inX4_step_4 hown hK hP 0 rfl rfl 7 (by decide) (hts (.fieldLink RX4 35 "RangeCodes$Reader" "at" "I") (List.mem_of_getElem? (i := 1) rfl)) (fun _ h9 => h9) rfl dX4_step_16 ?_
    obtain ⟨ho_1, hv⟩ := hv
    refine va_bald hx hb hK hP 1 1 rfl rfl ho_1 dX4_step_19 ?_
    obtain ⟨ho_2, hv⟩ := hv
    refine vp_callSi (W.runS (As := [.int (tx (D 7).toNatClampNeg)]) (rest := []) S (wX4_isBlank l g (tx (D 7).toNatClampNeg) (sX4_isBlank (tx (D 7).toNatClampNeg) ho_2)) (va_cwS 1 hts gX4_step_X4_isBlank rfl rfl rfl (by decide +kernel) ⟨Nat.le_of_ble_eq_true rfl, Nat.le_of_ble_eq_true rfl⟩) ⟨blindRO, fun U hU hW => ⟨rfl, by rw [hU]; exact hP.sub (ws' := []) [] rfl, hG.warm hW⟩⟩ rfl rfl hl.1 rfl (lv_room (Nat.le_of_ble_eq_true rfl)) dX4_step_20 ⟨Nat.le_of_ble_eq_true rfl, Nat.le_of_ble_eq_true rfl⟩) (fun r_20 hr_20 => ?_)
    have hv := hv r_20 hr_20
    obtain ⟨hvt, hvf⟩ := hv
    refine lv_if_eq (tgt := 39) hx hb dX4_step_23 (by decide) (fun hc => ?_) (fun hc => ?_)
    · have hv := hvt hc
      exact kX4_step_c39 S hr hlocks hG hA _ hv _ _ (hP.sub (ws' := [(qd, .inr (4, [.ref qtr, .ref qtx, .int (D 2), .int (D 3), .int (D 4), .int (D 5), .int (D 6), .int (D 7), .int (D 8)])), (qtx, .inl (g.2 1, 500, .inl tx))]) [0, 1] rfl) (hD.sub (ws' := [(qd, .inr (4, [.ref qtr, .ref qtx, .int (D 2), .int (D 3), .int (D 4), .int (D 5), .int (D 6), .int (D 7), .int (D 8)])), (qtx, .inl (g.2 1, 500, .inl tx))]) [0, 1] (by decide) rfl) hS ls (lv_sub hl [0] rfl)
    · have hv := hvf hc
      refine lv_aload_n hx hb dX4_step_26 rfl (lv_at hl 0 rfl) ?_
      refine lv_dup hx hb dX4_step_27 rfl ?_
      refine va_get (D := g.1) (ci := 4) (v := .int (D 7)) (C := RX4) (T := TX4) (N := 9) hx hb hts inX4_step_4 hown hK hP 0 rfl rfl 7 (by decide) (hts (.fieldLink RX4 35 "RangeCodes$Reader" "at" "I") (List.mem_of_getElem? (i := 1) rfl)) (fun _ h9 => h9) rfl dX4_step_28 ?_
      refine lv_iconst (v := (1 : Int32)) hx hb dX4_step_31 (by decide) ?_
      refine lv_iadd hx hb dX4_step_32 ?_
      refine va_put (D := g.1) (ci := 4) (v := .int ((D 7) + (1 : Int32))) (ty := .int) (C := RX4) (T := TX4) (N := 9) hx hb hts inX4_step_4 tyX4 tyX4_ok nmX4 hown hK hP hD hS 0 rfl rfl 7 (by decide) (hts (.fieldLink RX4 35 "RangeCodes$Reader" "at" "I") (List.mem_of_getElem? (i := 1) rfl)) (fun _ h9 => h9) rfl (by decide +kernel) rfl rfl (Nat.le_of_ble_eq_true rfl) dX4_step_33 (fun H locs hP hD hS => ?_)
      have hP : va_P g.1 vwCl [(qd, .inr (4, [.ref qtr, .ref qtx, .int (D 2), .int (D 3), .int (D 4), .int (D 5), .int (D 6), .int ((D 7) + (1 : Int32)), .int (D 8)])), (qtx, .inl (g.2 1, 500, .inl tx))] H := hP
      have hD : va_D A [(qd, .inr (4, [.ref qtr, .ref qtx, .int (D 2), .int (D 3), .int (D 4), .int (D 5), .int (D 6), .int ((D 7) + (1 : Int32)), .int (D 8)])), (qtx, .inl (g.2 1, 500, .inl tx))] := hD
      refine lv_goto (tgt := 0) hx hb dX4_step_36 (by decide) ?_
      obtain ⟨nn, hv⟩ := hv
      exact kX4_step_c0 S hr hlocks hG hA nn _ hv _ _ (hP.sub (ws' := [(qd, .inr (4, [.ref qtr, .ref qtx, .int ((upd D 7 ((D 7) + (1 : Int32))) 2), .int ((upd D 7 ((D 7) + (1 : Int32))) 3), .int ((upd D 7 ((D 7) + (1 : Int32))) 4), .int ((upd D 7 ((D 7) + (1 : Int32))) 5), .int ((upd D 7 ((D 7) + (1 : Int32))) 6), .int ((upd D 7 ((D 7) + (1 : Int32))) 7), .int ((upd D 7 ((D 7) + (1 : Int32))) 8)])), (qtx, .inl (g.2 1, 500, .inl tx))]) [0, 1] rfl) (hD.sub (ws' := [(qd, .inr (4, [.ref qtr, .ref qtx, .int ((upd D 7 ((D 7) + (1 : Int32))) 2), .int ((upd D 7 ((D 7) + (1 : Int32))) 3), .int ((upd D 7 ((D 7) + (1 : Int32))) 4), .int ((upd D 7 ((D 7) + (1 : Int32))) 5), .int ((upd D 7 ((D 7) + (1 : Int32))) 6), .int ((upd D 7 ((D 7) + (1 : Int32))) 7), .int ((upd D 7 ((D 7) + (1 : Int32))) 8)])), (qtx, .inl (g.2 1, 500, .inl tx))]) [0, 1] (by decide) rfl) hS ls (lv_sub hl [0] rfl)
abbrev preX4_step (b : Nat → Int32) (nb : Nat) (i : Nat) (D : Nat → Int32) (tx : Nat → Int32) : Prop := (D 4).toInt = (nb : Int) ∧ nb ≤ 500 ∧ i ≤ nb ∧ (D 7).toInt = (i : Int) ∧ isTx b nb tx
abbrev postX4_step (b : Nat → Int32) (nb : Nat) (i : Nat) (D : Nat → Int32) (tx : Nat → Int32) (D' : Nat → Int32) : Prop := rdK b nb i D' ∧ kp23 D D'
theorem sX4_step_125 {b : Nat → Int32} {nb i : Nat} {tx D D0 : Nat → Int32} (hnb : nb ≤ 500) (hi : i ≤ nb) (hs : tS b nb i < nb) (hl : leB (b (tS b nb i)) = true) (h4 : (D 4).toInt = (nb : Int)) (h6 : (D 6).toInt = (tS b nb i : Int)) (h7 : (D 7).toInt = (enS leB b nb (tS b nb i) : Int)) (hk : kp23 D0 D) : vX4_step_c125 tx (postX4_step b nb i D0 tx) D := by
  have he := enS_le leB b (Nat.le_of_lt hs)
  have hE : tE b nb i = enS leB b nb (tS b nb i) := by unfold tE; rw [if_neg (by omega), if_pos hl]
  have hK : tK b nb i = if enS leB b nb (tS b nb i) - tS b nb i ≤ 13 then 1 else 4 := by unfold tK; rw [if_neg (by omega), if_pos hl]
  have h := q_subN h7 h6 he.1 (by omega)
  unfold vX4_step_c125
  rw [fa_lt, z13, h]
  refine ⟨fun c => ⟨⟨h4, hnb, hi, h6, by rw [hE]; exact h7, ?_, fun q => ?_⟩, hk⟩, fun c => ⟨⟨h4, hnb, hi, h6, by rw [hE]; exact h7, ?_, fun q => ?_⟩, hk⟩⟩
  · rw [hK, if_neg (by omega)]; rfl
  · rw [hK, if_neg (by omega)] at q; exact absurd q (by decide)
  · rw [hK, if_pos (by omega)]; rfl
  · rw [hK, if_pos (by omega)] at q; exact absurd q (by decide)
theorem sX4_step_86 {b : Nat → Int32} {nb i : Nat} {tx D0 : Nat → Int32} (hnb : nb ≤ 500) (hi : i ≤ nb) (htx : isTx b nb tx) (hs : tS b nb i < nb) (hl : leB (b (tS b nb i)) = true) : ∀ (n a : Nat) (D : Nat → Int32), (D 4).toInt = (nb : Int) → (D 6).toInt = (tS b nb i : Int) → (D 7).toInt = (a : Int) → kp23 D0 D → tS b nb i ≤ a → a ≤ nb → (∀ j, tS b nb i ≤ j → j < a → leB (b j) = true) → nb + 1 ≤ a + n → vX4_step_c86 tx (postX4_step b nb i D0 tx) n D
  | 0, a, D, _, _, _, _, _, _, _, hf => absurd hf (by omega)
  | n + 1, a, D, h4, h6, h7, hk, h1, h2, hall, hf => by
    rw [vX4_step_c86, q_le h4 h7]
    refine ⟨fun c => ?_, fun c => ⟨q_in h7 (by omega), trivial, fun r hr => ?_⟩⟩
    · have e : a = nb := by omega
      rw [e] at hall h7
      exact sX4_step_125 hnb hi hs hl h4 h6 (by rw [enS_nb (by omega) hall]; exact h7) hk
    · have ht := (htx a (by omega)).1
      rw [q_cl h7, ht] at hr
      have hr : r = if leB (b a) = true then 1 else 0 := hr
      rw [hr, q_if1]
      refine ⟨fun d => ?_, fun d => ?_⟩
      · have d : leB (b a) = false := by simpa using d
        exact sX4_step_125 hnb hi hs hl h4 h6 (by rw [enS_at h1 (by omega) hall d]; exact h7) hk
      · have d := Decidable.not_not.mp d
        refine sX4_step_86 hnb hi htx hs hl n (a + 1) _ h4 h6 (q_1 h7 (by omega)) hk (by omega) (by omega) (fun j hj1 hj2 => ?_) (by omega)
        by_cases e : j = a
        · subst e; exact d
        · exact hall j hj1 (by omega)
theorem sX4_step_229 {b : Nat → Int32} {nb i : Nat} {tx D D0 : Nat → Int32} (hnb : nb ≤ 500) (hi : i ≤ nb) (hs : tS b nb i < nb) (hl : ¬ leB (b (tS b nb i)) = true) (hd : diB (b (tS b nb i)) = true) (h4 : (D 4).toInt = (nb : Int)) (h6 : (D 6).toInt = (tS b nb i : Int)) (h7 : (D 7).toInt = (enS diB b nb (tS b nb i) : Int)) (hk : kp23 D0 D) (h8 : enS diB b nb (tS b nb i) - tS b nb i ≤ 4 → (D 8).toInt = (vaN b (tS b nb i) (enS diB b nb (tS b nb i) - tS b nb i) : Int)) : vX4_step_c229 tx (postX4_step b nb i D0 tx) D := by
  have he := enS_le diB b (Nat.le_of_lt hs)
  have hE : tE b nb i = enS diB b nb (tS b nb i) := by unfold tE; rw [if_neg (by omega), if_neg hl, if_pos hd]
  have hK : tK b nb i = if enS diB b nb (tS b nb i) - tS b nb i ≤ 4 then 2 else 4 := by unfold tK; rw [if_neg (by omega), if_neg hl, if_pos hd]
  have h := q_subN h7 h6 he.1 (by omega)
  unfold vX4_step_c229
  rw [fa_lt, z4, h]
  refine ⟨fun c => ⟨⟨h4, hnb, hi, h6, by rw [hE]; exact h7, ?_, fun q => ?_⟩, hk⟩, fun c => ⟨⟨h4, hnb, hi, h6, by rw [hE]; exact h7, ?_, fun q => ?_⟩, hk⟩⟩
  · rw [hK, if_neg (by omega)]; rfl
  · rw [hK, if_neg (by omega)] at q; exact absurd q (by decide)
  · rw [hK, if_pos (by omega)]; rfl
  · unfold tV; rw [hE]; exact h8 (by omega)
theorem sX4_step_166 {b : Nat → Int32} {nb i : Nat} {tx D0 : Nat → Int32} (hnb : nb ≤ 500) (hi : i ≤ nb) (htx : isTx b nb tx) (hs : tS b nb i < nb) (hl : ¬ leB (b (tS b nb i)) = true) (hd : diB (b (tS b nb i)) = true) : ∀ (n a : Nat) (D : Nat → Int32), (D 4).toInt = (nb : Int) → (D 6).toInt = (tS b nb i : Int) → (D 7).toInt = (a : Int) → kp23 D0 D → (a - tS b nb i ≤ 4 → (D 8).toInt = (vaN b (tS b nb i) (a - tS b nb i) : Int)) → tS b nb i ≤ a → a ≤ nb → (∀ j, tS b nb i ≤ j → j < a → diB (b j) = true) → nb + 1 ≤ a + n → vX4_step_c166 tx (postX4_step b nb i D0 tx) n D
  | 0, a, D, _, _, _, _, _, _, _, _, hf => absurd hf (by omega)
  | n + 1, a, D, h4, h6, h7, hk, h8, h1, h2, hall, hf => by
    rw [vX4_step_c166, q_le h4 h7]
    refine ⟨fun c => ?_, fun c => ⟨q_in h7 (by omega), trivial, fun r hr => ?_⟩⟩
    · have e : a = nb := by omega
      rw [e] at hall h7 h8
      have e2 := enS_nb (by omega) hall
      exact sX4_step_229 hnb hi hs hl hd h4 h6 (by rw [e2]; exact h7) hk (by rw [e2]; exact h8)
    · have ht := (htx a (by omega)).1
      rw [q_cl h7, ht] at hr
      have hr : r = if diB (b a) = true then 1 else 0 := hr
      rw [hr, q_if1]
      refine ⟨fun d => ?_, fun d => ⟨q_in h7 (by omega), fun f ef => ?_⟩⟩
      · have d : diB (b a) = false := by simpa using d
        have e2 := enS_at (nb := nb) h1 (by omega) hall d
        exact sX4_step_229 hnb hi hs hl hd h4 h6 (by rw [e2]; exact h7) hk (by rw [e2]; exact h8)
      · have d := Decidable.not_not.mp d
        refine sX4_step_166 hnb hi htx hs hl hd n (a + 1) _ h4 h6 (q_1 h7 (by omega)) hk (fun hz => ?_) (by omega) (by omega) (fun j hj1 hj2 => ?_) (by omega)
        · have h8 := h8 (by omega)
          have hb := vaN_le (b := b) (s := tS b nb i) (a - tS b nb i) (fun j hj => hall _ (by omega) (by omega))
          have hp : 10 ^ (a - tS b nb i) ≤ 10 ^ 3 := Nat.pow_le_pow_right (by decide) (by omega)
          have hdd := of_decide_eq_true d
          rw [q_cl h7, ht] at ef
          show f.toInt = _
          rw [ef, show a + 1 - tS b nb i = (a - tS b nb i) + 1 by omega, vaN, show tS b nb i + (a - tS b nb i) = a by omega]
          have e1 := q_mul h8 z10 (by omega) (by omega)
          have e3 := q_sub (x := b a) (y := (48 : Int32)) rfl (show (48 : Int32).toInt = 48 from rfl) (by omega) (by omega)
          rw [q_add e1 e3 (by omega) (by omega)]
          omega
        · by_cases e : j = a
          · subst e; exact d
          · exact hall j hj1 (by omega)
theorem sX4_step_39 {b : Nat → Int32} {nb i : Nat} {tx D D0 : Nat → Int32} (hnb : nb ≤ 500) (hi : i ≤ nb) (htx : isTx b nb tx) (h4 : (D 4).toInt = (nb : Int)) (h7 : (D 7).toInt = (tS b nb i : Int)) (hk : kp23 D0 D) : vX4_step_c39 tx (postX4_step b nb i D0 tx) D := by
  have hsl := tS_le b hi
  unfold vX4_step_c39
  rw [q_lt h7 h4]
  refine ⟨fun c => ⟨q_in h7 (by omega), trivial, fun r hr => ?_⟩, fun c => ?_⟩
  · have ht := (htx (tS b nb i) (by omega)).1
    rw [q_cl h7, ht] at hr
    have hr : r = if leB (b (tS b nb i)) = true then 1 else 0 := hr
    rw [hr, q_if1]
    refine ⟨fun d => ⟨q_in h7 (by omega), trivial, fun r2 hr2 => ?_⟩, fun d => ?_⟩
    · rw [q_cl h7, ht] at hr2
      have hr2 : r2 = if diB (b (tS b nb i)) = true then 1 else 0 := hr2
      rw [hr2, q_if1, q_cl h7, ht, fa_eq (b (tS b nb i)), show (59 : Int32).toInt = 59 from rfl]
      have hE : ∀ _ : ¬ diB (b (tS b nb i)) = true, tE b nb i = tS b nb i + 1 := fun e => by unfold tE; rw [if_neg (by omega), if_neg d, if_neg e]
      have hK : ∀ _ : ¬ diB (b (tS b nb i)) = true, tK b nb i = if (b (tS b nb i)).toInt = 59 then 3 else 4 := fun e => by unfold tK; rw [if_neg (by omega), if_neg d, if_neg e]
      have h71 := q_1 h7 (by omega)
      refine ⟨fun e => ⟨q_in h7 (by omega), fun f => ⟨⟨h4, hnb, hi, h7, by rw [hE e]; exact h71, by rw [hK e, if_neg f]; rfl, fun q => ?_⟩, hk⟩, fun f => ⟨⟨h4, hnb, hi, h7, by rw [hE e]; exact h71, by rw [hK e, if_pos f]; rfl, fun q => ?_⟩, hk⟩⟩, fun e => ?_⟩
      · rw [hK e, if_neg f] at q; exact absurd q (by decide)
      · rw [hK e, if_pos f] at q; exact absurd q (by decide)
      · have e := Decidable.not_not.mp e
        exact ⟨nb + 1, sX4_step_166 hnb hi htx (by omega) d e (nb + 1) (tS b nb i) _ h4 h7 h7 hk (fun _ => by rw [Nat.sub_self]; rfl) (Nat.le_refl _) (by omega) (fun j h1 h2 => absurd h2 (by omega)) (by omega)⟩
    · have d := Decidable.not_not.mp d
      exact ⟨nb + 1, sX4_step_86 hnb hi htx (by omega) d (nb + 1) (tS b nb i) _ h4 h7 h7 hk (Nat.le_refl _) (by omega) (fun j h1 h2 => absurd h2 (by omega)) (by omega)⟩
  · have hE : tE b nb i = tS b nb i := by unfold tE; rw [if_pos (by omega)]
    have hK : tK b nb i = 0 := by unfold tK; rw [if_pos (by omega)]
    exact ⟨⟨h4, hnb, hi, h7, by rw [hE]; exact h7, by rw [hK]; rfl, fun q => by rw [hK] at q; exact absurd q (by decide)⟩, hk⟩
theorem sX4_step_b {b : Nat → Int32} {nb i : Nat} {tx D0 : Nat → Int32} (hnb : nb ≤ 500) (hi : i ≤ nb) (htx : isTx b nb tx) (a : Nat) (D : Nat → Int32) (h4 : (D 4).toInt = (nb : Int)) (h7 : (D 7).toInt = (a : Int)) (hk : kp23 D0 D) (h1 : i ≤ a) (h2 : a ≤ nb) (hall : ∀ j, i ≤ j → j < a → blB (b j) = true) (X : Prop) (hX : a < nb → blB (b a) = true → X) : ((D 4) ≤ (D 7) → vX4_step_c39 tx (postX4_step b nb i D0 tx) D) ∧ (¬ (D 4) ≤ (D 7) → (vp_in (D 7) 500 ∧ (preX4_isBlank (tx (D 7).toNatClampNeg) ∧ (∀ r_20 : Int32, postX4_isBlank (tx (D 7).toNatClampNeg) r_20 → ((r_20 = 0 → vX4_step_c39 tx (postX4_step b nb i D0 tx) D) ∧ (¬ r_20 = 0 → X)))))) := by
  rw [q_le h4 h7]
  refine ⟨fun c => ?_, fun c => ⟨q_in h7 (by omega), trivial, fun r hr => ?_⟩⟩
  · have e : a = nb := by omega
    rw [e] at hall h7
    exact sX4_step_39 hnb hi htx h4 (by unfold tS; rw [enS_nb (by omega) hall]; exact h7) hk
  · have ht := (htx a (by omega)).1
    rw [q_cl h7, ht] at hr
    have hr : r = if blB (b a) = true then 1 else 0 := hr
    rw [hr, q_if1]
    refine ⟨fun d => ?_, fun d => hX (by omega) (Decidable.not_not.mp d)⟩
    have d : blB (b a) = false := by simpa using d
    exact sX4_step_39 hnb hi htx h4 (by unfold tS; rw [enS_at h1 (by omega) hall d]; exact h7) hk
theorem sX4_step_0 {b : Nat → Int32} {nb i : Nat} {tx D0 : Nat → Int32} (hnb : nb ≤ 500) (hi : i ≤ nb) (htx : isTx b nb tx) : ∀ (n a : Nat) (D : Nat → Int32), (D 4).toInt = (nb : Int) → (D 7).toInt = (a : Int) → kp23 D0 D → i ≤ a → a ≤ nb → (∀ j, i ≤ j → j < a → blB (b j) = true) → nb + 1 ≤ a + n → vX4_step_c0 tx (postX4_step b nb i D0 tx) n D
  | 0, a, D, _, _, _, _, _, _, hf => absurd hf (by omega)
  | n + 1, a, D, h4, h7, hk, h1, h2, hall, hf => by
    rw [vX4_step_c0]
    refine sX4_step_b hnb hi htx a D h4 h7 hk h1 h2 hall _ (fun hlt hb => sX4_step_0 hnb hi htx n (a + 1) _ h4 (q_1 h7 (by omega)) hk (by omega) (by omega) (fun j hj1 hj2 => ?_) (by omega))
    by_cases e : j = a
    · subst e; exact hb
    · exact hall j hj1 (by omega)
theorem sX4_step (b : Nat → Int32) (nb : Nat) (i : Nat) (D : Nat → Int32) (tx : Nat → Int32) (H : preX4_step b nb i D tx) : vX4_step D tx (postX4_step b nb i D tx) := by
  obtain ⟨h4, hnb, hi, h7, htx⟩ := H
  have hk : kp23 D D := ⟨rfl, rfl⟩
  exact sX4_step_b hnb hi htx i D h4 h7 hk (Nat.le_refl _) hi (fun j h1 h2 => absurd h2 (by omega)) _ (fun hlt hb => ⟨nb + 1, sX4_step_0 hnb hi htx (nb + 1) (i + 1) _ h4 (q_1 h7 (by omega)) hk (by omega) (by omega) (fun j hj1 hj2 => by rw [show j = i by omega]; exact hb) (by omega)⟩)
set_option maxRecDepth 20000 in
theorem ggX4_isWord_J0_length_8abf5 : GoodIn wsX4_isWord wsJ0_length_8abf5 := goodIn_r _ [9, 10, 11, 12, 13, 8, 14, 15, 16] (by decide +kernel) (by decide +kernel)
set_option maxRecDepth 20000 in
theorem gX4_isWord_J0_length_8abf5 : GoodIn wsX4_isWord (wsV RX4 168 RJ0 yJ0_length_8abf5 wsJ0_length_8abf5) := goodIn_app (goodIn_of _ (by decide +kernel)) ggX4_isWord_J0_length_8abf5
set_option maxRecDepth 20000 in
theorem ggX4_isWord_J0_charAt_5068e : GoodIn wsX4_isWord wsJ0_charAt_5068e := goodIn_r _ [20, 10, 21, 22, 23, 8, 24, 15, 16, 25, 26, 27, 28, 29, 30, 31, 32, 33, 34, 35, 36, 37, 38, 39, 40, 41, 42, 43, 44, 45, 46, 47, 48, 49, 50, 51, 52, 53] (by decide +kernel) (by decide +kernel)
set_option maxRecDepth 20000 in
theorem gX4_isWord_J0_charAt_5068e : GoodIn wsX4_isWord (wsV RX4 172 RJ0 yJ0_charAt_5068e wsJ0_charAt_5068e) := goodIn_app (goodIn_of _ (by decide +kernel)) ggX4_isWord_J0_charAt_5068e
theorem dX4_isWord_0 : decode cX4_isWord 0 = .ok (.aload_n 0, 1) := by decide +kernel
theorem dX4_isWord_1 : decode cX4_isWord 1 = .ok (.getfield 41, 3) := by decide +kernel
theorem dX4_isWord_4 : decode cX4_isWord 4 = .ok (.iconst 1, 1) := by decide +kernel
theorem dX4_isWord_5 : decode cX4_isWord 5 = .ok (.if_icmp .ne 19, 3) := by decide +kernel
theorem dX4_isWord_8 : decode cX4_isWord 8 = .ok (.aload_n 0, 1) := by decide +kernel
theorem dX4_isWord_9 : decode cX4_isWord 9 = .ok (.getfield 35, 3) := by decide +kernel
theorem dX4_isWord_12 : decode cX4_isWord 12 = .ok (.aload_n 0, 1) := by decide +kernel
theorem dX4_isWord_13 : decode cX4_isWord 13 = .ok (.getfield 100, 3) := by decide +kernel
theorem dX4_isWord_16 : decode cX4_isWord 16 = .ok (.isub, 1) := by decide +kernel
theorem dX4_isWord_17 : decode cX4_isWord 17 = .ok (.aload_n 1, 1) := by decide +kernel
theorem dX4_isWord_18 : decode cX4_isWord 18 = .ok (.invokevirtual 168, 3) := by decide +kernel
theorem dX4_isWord_21 : decode cX4_isWord 21 = .ok (.if_icmp .eq 5, 3) := by decide +kernel
theorem dX4_isWord_24 : decode cX4_isWord 24 = .ok (.iconst 0, 1) := by decide +kernel
theorem dX4_isWord_25 : decode cX4_isWord 25 = .ok (.ireturn, 1) := by decide +kernel
theorem dX4_isWord_26 : decode cX4_isWord 26 = .ok (.iconst 0, 1) := by decide +kernel
theorem dX4_isWord_27 : decode cX4_isWord 27 = .ok (.istore_n 2, 1) := by decide +kernel
theorem dX4_isWord_28 : decode cX4_isWord 28 = .ok (.iload_n 2, 1) := by decide +kernel
theorem dX4_isWord_29 : decode cX4_isWord 29 = .ok (.aload_n 1, 1) := by decide +kernel
theorem dX4_isWord_30 : decode cX4_isWord 30 = .ok (.invokevirtual 168, 3) := by decide +kernel
theorem dX4_isWord_33 : decode cX4_isWord 33 = .ok (.if_icmp .ge 30, 3) := by decide +kernel
theorem dX4_isWord_36 : decode cX4_isWord 36 = .ok (.aload_n 0, 1) := by decide +kernel
theorem dX4_isWord_37 : decode cX4_isWord 37 = .ok (.getfield 18, 3) := by decide +kernel
theorem dX4_isWord_40 : decode cX4_isWord 40 = .ok (.aload_n 0, 1) := by decide +kernel
theorem dX4_isWord_41 : decode cX4_isWord 41 = .ok (.getfield 100, 3) := by decide +kernel
theorem dX4_isWord_44 : decode cX4_isWord 44 = .ok (.iload_n 2, 1) := by decide +kernel
theorem dX4_isWord_45 : decode cX4_isWord 45 = .ok (.iadd, 1) := by decide +kernel
theorem dX4_isWord_46 : decode cX4_isWord 46 = .ok (.baload, 1) := by decide +kernel
theorem dX4_isWord_47 : decode cX4_isWord 47 = .ok (.aload_n 1, 1) := by decide +kernel
theorem dX4_isWord_48 : decode cX4_isWord 48 = .ok (.iload_n 2, 1) := by decide +kernel
theorem dX4_isWord_49 : decode cX4_isWord 49 = .ok (.invokevirtual 172, 3) := by decide +kernel
theorem dX4_isWord_52 : decode cX4_isWord 52 = .ok (.if_icmp .eq 5, 3) := by decide +kernel
theorem dX4_isWord_55 : decode cX4_isWord 55 = .ok (.iconst 0, 1) := by decide +kernel
theorem dX4_isWord_56 : decode cX4_isWord 56 = .ok (.ireturn, 1) := by decide +kernel
theorem dX4_isWord_57 : decode cX4_isWord 57 = .ok (.iinc 2 1, 3) := by decide +kernel
theorem dX4_isWord_60 : decode cX4_isWord 60 = .ok (.goto (-32), 3) := by decide +kernel
theorem dX4_isWord_63 : decode cX4_isWord 63 = .ok (.iconst 1, 1) := by decide +kernel
theorem dX4_isWord_64 : decode cX4_isWord 64 = .ok (.ireturn, 1) := by decide +kernel
abbrev rmX4_isWord : Room := { frames := 4, cells := 0, slots := 0, locals := 85 }
theorem inX4_isWord_4 : ∀ w ∈ wsX40, w ∈ wsX4_isWord := by decide +kernel
def vX4_isWord_c28 (D : Nat → Int32) (tx : Nat → Int32) (si : Nat) (Q : Int32 → Prop) : Nat → Int32 → Prop
  | 0, _ => False
  | n + 1, x2 => (preJ0_length_8abf5 si ∧ (si < 15 ∧ (∀ r_30 : Int32, postJ0_length_8abf5 si r_30 → ((r_30 ≤ x2 → (Q (1 : Int32))) ∧ (¬ r_30 ≤ x2 → (vp_in ((D 6) + x2) 500 ∧ (preJ0_charAt_5068e si x2 ∧ (si < 15 ∧ (∀ r_49 : Int32, postJ0_charAt_5068e si x2 r_49 → (((tx ((D 6) + x2).toNatClampNeg) = r_49 → (vX4_isWord_c28 D tx si Q n (x2 + (1 : Int32)))) ∧ (¬ (tx ((D 6) + x2).toNatClampNeg) = r_49 → (Q (0 : Int32)))))))))))))
set_option maxHeartbeats 4000000 in
set_option maxRecDepth 100000 in
theorem kX4_isWord_c28 {p : Program} {l : Launch} {e : Env} {s : State} {m : MethodId} {args : Array Value} {below : List Frame} {meth : Method} {c : Code} {g : GP} {v : GV} {qd : Nat} {qtr : Nat} {qtx : Nat} {D : Nat → Int32} {tx : Nat → Int32} {si : Nat}  {Q : Int32 → Prop} (S : CallFix p m c cX4_isWord 3 s args wsX4_isWord RX4) (hr : meth.sig.returnType = (some .boolean)) (hlocks : meth.locks = false) (hG : GK g s) (hP : va_P g.1 vwCl [(qd, .inr (4, [.ref qtr, .ref qtx, .int (D 2), .int (D 3), .int (D 4), .int (D 5), .int (D 6), .int (D 7), .int (D 8)])), (qtx, .inl (g.2 1, 500, .inl tx))] s.heap) (hE : GE v (fun _ => False) s s.heap) : ∀ (n : Nat), ∀ (x2 : Int32), vX4_isWord_c28 D tx si Q n x2 → ∀ (ls : Array Slot), lv_has ls 3 [(0, .ref qd), (1, .ref (kyS v si)), (2, .int x2)] → W p l e (headSpec wsX4_isWord rmX4_isWord).room s m args below meth c s.heap [] 0 0 (MQ below (vp_Si Q) args s 0 0 (fun _ => False)) (F0 m 28 ls []) := by
  obtain ⟨hx, hb, hml, hown, hts⟩ := id S
  have hK := hG.1
  intro n
  induction n with
  | zero => intro x2 hv; exact hv.elim
  | succ n ih =>
    intro x2 hv ls hl
    refine lv_iload_n hx hb dX4_isWord_28 rfl (lv_at hl 2 rfl) ?_
    refine lv_aload_n hx hb dX4_isWord_29 rfl (lv_at hl 1 rfl) ?_
    obtain ⟨ho_1, hv⟩ := hv
    obtain ⟨ho_2, hv⟩ := hv
    refine vp_callSi (W.runV (As := []) (rest := [.int x2]) S (wJ0_length_8abf5 l g v si (sJ0_length_8abf5 si ho_1)) (cwV 0 hts gX4_isWord_J0_length_8abf5 rfl rfl rfl (by decide +kernel) ⟨Nat.le_of_ble_eq_true rfl, Nat.le_of_ble_eq_true rfl⟩) ⟨blindROE, vk_recv hE.2.2.2.2.2.2.1 ho_2 (va_S.rf (A := fun _ => False)), fun U hU hW => ⟨rfl, by rw [hU]; exact hP.sub (ws' := []) [] rfl, hG.warm hW, by rw [hU]; exact hE.warm hW⟩⟩ rfl rfl hl.1 rfl (lv_room (Nat.le_of_ble_eq_true rfl)) dX4_isWord_30 ⟨Nat.le_of_ble_eq_true rfl, Nat.le_of_ble_eq_true rfl⟩) (fun r_30 hr_30 => ?_)
    have hv := hv r_30 hr_30
    obtain ⟨hvt, hvf⟩ := hv
    refine lv_icmp_ge (tgt := 63) hx hb dX4_isWord_33 (by decide) (fun hc => ?_) (fun hc => ?_)
    · have hv := hvt hc
      refine lv_iconst (v := (1 : Int32)) hx hb dX4_isWord_63 (by decide) ?_
      exact W.zret (v := (1 : Int32)) (ty := .boolean) hx hb hr rfl (fun t ht hW => ⟨_, rfl, hv, ht⟩) (fun _ h => by cases h) dX4_isWord_64
    · have hv := hvf hc
      refine lv_aload_n hx hb dX4_isWord_36 rfl (lv_at hl 0 rfl) ?_
      refine va_get (D := g.1) (ci := 4) (v := .ref qtx) (C := RX4) (T := TX4) (N := 9) hx hb hts inX4_isWord_4 hown hK hP 0 rfl rfl 1 (by decide) (hts (.fieldLink RX4 18 "RangeCodes$Reader" "text" "[B") (List.mem_of_getElem? (i := 4) rfl)) (fun _ h9 => h9) rfl dX4_isWord_37 ?_
      refine lv_aload_n hx hb dX4_isWord_40 rfl (lv_at hl 0 rfl) ?_
      refine va_get (D := g.1) (ci := 4) (v := .int (D 6)) (C := RX4) (T := TX4) (N := 9) hx hb hts inX4_isWord_4 hown hK hP 0 rfl rfl 6 (by decide) (hts (.fieldLink RX4 100 "RangeCodes$Reader" "start" "I") (List.mem_of_getElem? (i := 3) rfl)) (fun _ h9 => h9) rfl dX4_isWord_41 ?_
      refine lv_iload_n hx hb dX4_isWord_44 rfl (lv_at hl 2 rfl) ?_
      refine lv_iadd hx hb dX4_isWord_45 ?_
      obtain ⟨ho_3, hv⟩ := hv
      refine va_bald hx hb hK hP 1 1 rfl rfl ho_3 dX4_isWord_46 ?_
      refine lv_aload_n hx hb dX4_isWord_47 rfl (lv_at hl 1 rfl) ?_
      refine lv_iload_n hx hb dX4_isWord_48 rfl (lv_at hl 2 rfl) ?_
      obtain ⟨ho_4, hv⟩ := hv
      obtain ⟨ho_5, hv⟩ := hv
      refine vp_callSi (W.runV (As := [.int x2]) (rest := [.int (tx ((D 6) + x2).toNatClampNeg)]) S (wJ0_charAt_5068e l g v si x2 (sJ0_charAt_5068e si x2 ho_4)) (cwV 1 hts gX4_isWord_J0_charAt_5068e rfl rfl rfl (by decide +kernel) ⟨Nat.le_of_ble_eq_true rfl, Nat.le_of_ble_eq_true rfl⟩) ⟨blindROE, vk_recv hE.2.2.2.2.2.2.1 ho_5 (va_S.rf (A := fun _ => False)), fun U hU hW => ⟨rfl, by rw [hU]; exact hP.sub (ws' := []) [] rfl, hG.warm hW, by rw [hU]; exact hE.warm hW⟩⟩ rfl rfl hl.1 rfl (lv_room (Nat.le_of_ble_eq_true rfl)) dX4_isWord_49 ⟨Nat.le_of_ble_eq_true rfl, Nat.le_of_ble_eq_true rfl⟩) (fun r_49 hr_49 => ?_)
      have hv := hv r_49 hr_49
      obtain ⟨hvt, hvf⟩ := hv
      refine lv_icmp_eq (tgt := 57) hx hb dX4_isWord_52 (by decide) (fun hc => ?_) (fun hc => ?_)
      · have hv := hvt hc
        refine lv_iinc (v := (x2 + (1 : Int32))) (lv' := [(2, .int (x2 + (1 : Int32))), (0, .ref qd), (1, .ref (kyS v si))]) hx hb dX4_isWord_57 hl (k := 2) rfl rfl (by decide) rfl (fun ls hl => ?_)
        refine lv_goto (tgt := 28) hx hb dX4_isWord_60 (by decide) ?_
        exact ih _ hv ls (lv_sub hl [1, 2, 0] rfl)
      · have hv := hvf hc
        refine lv_iconst (v := (0 : Int32)) hx hb dX4_isWord_55 (by decide) ?_
        exact W.zret (v := (0 : Int32)) (ty := .boolean) hx hb hr rfl (fun t ht hW => ⟨_, rfl, hv, ht⟩) (fun _ h => by cases h) dX4_isWord_56
def vX4_isWord (D : Nat → Int32) (tx : Nat → Int32) (si : Nat) (Q : Int32 → Prop) : Prop := ((¬ (D 5) = (1 : Int32) → (Q (0 : Int32))) ∧ ((D 5) = (1 : Int32) → (preJ0_length_8abf5 si ∧ (si < 15 ∧ (∀ r_18 : Int32, postJ0_length_8abf5 si r_18 → ((((D 7) - (D 6)) = r_18 → (∃ nn, vX4_isWord_c28 D tx si Q nn (0 : Int32))) ∧ (¬ ((D 7) - (D 6)) = r_18 → (Q (0 : Int32)))))))))
set_option maxHeartbeats 4000000 in
set_option maxRecDepth 100000 in
theorem wX4_isWord (l : Launch) (g : GP) (v : GV) (qd : Nat) (qtr : Nat) (qtx : Nat) (D : Nat → Int32) (tx : Nat → Int32) (si : Nat) {Q : Int32 → Prop} (hv : vX4_isWord D tx si Q) : Met l yX4_isWord wsX4_isWord rmX4_isWord (va_Pc [.ref qd, .ref (kyS v si)] (fun U => va_P g.1 vwCl [(qd, .inr (4, [.ref qtr, .ref qtx, .int (D 2), .int (D 3), .int (D 4), .int (D 5), .int (D 6), .int (D 7), .int (D 8)])), (qtx, .inl (g.2 1, 500, .inl tx))] U.heap ∧ GK g U ∧ GE v (fun _ => False) U U.heap)) (vp_Si Q) 0 0 (fun _ => False) := by
  refine Met.ofW (cc := cX4_isWord) (maxL := 3) (ret := (some .boolean)) (by decide) rfl ?_
  intro p e s m args below meth c s₁ B hml hv'
  obtain ⟨rfl, hP, hG, hE⟩ := hv'
  have S : CallFix p m c cX4_isWord 3 s _ wsX4_isWord RX4 := ⟨B.exec, B.bytes, hml, findClass_of_methodNamed B.named, atoms_spec (ws := wsX4_isWord) B.pre⟩
  obtain ⟨hx, hb, hml, hown, hts⟩ := id S
  have hK := hG.1
  have hr := B.returns
  have hlocks := B.notSynchronized
  have hl := lv_entry ([.ref qd, .ref (kyS v si)]) (n := 3) (Nat.le_of_ble_eq_true rfl)
  rw [lg_entry_eq]
  generalize (lg_sl ([.ref qd, .ref (kyS v si)]) ++ List.replicate (3 - (lg_sl ([.ref qd, .ref (kyS v si)])).length) Slot.unset).toArray = ls at hl ⊢
  have hl : lv_has ls 3 [(0, .ref qd), (1, .ref (kyS v si))] := hl
  unfold vX4_isWord at hv
  refine lv_aload_n hx hb dX4_isWord_0 rfl (lv_at hl 0 rfl) ?_
  refine va_get (D := g.1) (ci := 4) (v := .int (D 5)) (C := RX4) (T := TX4) (N := 9) hx hb hts inX4_isWord_4 hown hK hP 0 rfl rfl 5 (by decide) (hts (.fieldLink RX4 41 "RangeCodes$Reader" "kind" "I") (List.mem_of_getElem? (i := 1) rfl)) (fun _ h9 => h9) rfl dX4_isWord_1 ?_
  refine lv_iconst (v := (1 : Int32)) hx hb dX4_isWord_4 (by decide) ?_
  obtain ⟨hvt, hvf⟩ := hv
  refine lv_icmp_ne (tgt := 24) hx hb dX4_isWord_5 (by decide) (fun hc => ?_) (fun hc => ?_)
  · have hv := hvt hc
    refine lv_iconst (v := (0 : Int32)) hx hb dX4_isWord_24 (by decide) ?_
    exact W.zret (v := (0 : Int32)) (ty := .boolean) hx hb hr rfl (fun t ht hW => ⟨_, rfl, hv, ht⟩) (fun _ h => by cases h) dX4_isWord_25
  · have hv := hvf hc
    refine lv_aload_n hx hb dX4_isWord_8 rfl (lv_at hl 0 rfl) ?_
    refine va_get (D := g.1) (ci := 4) (v := .int (D 7)) (C := RX4) (T := TX4) (N := 9) hx hb hts inX4_isWord_4 hown hK hP 0 rfl rfl 7 (by decide) (hts (.fieldLink RX4 35 "RangeCodes$Reader" "at" "I") (List.mem_of_getElem? (i := 2) rfl)) (fun _ h9 => h9) rfl dX4_isWord_9 ?_
    refine lv_aload_n hx hb dX4_isWord_12 rfl (lv_at hl 0 rfl) ?_
    refine va_get (D := g.1) (ci := 4) (v := .int (D 6)) (C := RX4) (T := TX4) (N := 9) hx hb hts inX4_isWord_4 hown hK hP 0 rfl rfl 6 (by decide) (hts (.fieldLink RX4 100 "RangeCodes$Reader" "start" "I") (List.mem_of_getElem? (i := 3) rfl)) (fun _ h9 => h9) rfl dX4_isWord_13 ?_
    refine lv_isub hx hb dX4_isWord_16 ?_
    refine lv_aload_n hx hb dX4_isWord_17 rfl (lv_at hl 1 rfl) ?_
    obtain ⟨ho_1, hv⟩ := hv
    obtain ⟨ho_2, hv⟩ := hv
    refine vp_callSi (W.runV (As := []) (rest := [.int ((D 7) - (D 6))]) S (wJ0_length_8abf5 l g v si (sJ0_length_8abf5 si ho_1)) (cwV 0 hts gX4_isWord_J0_length_8abf5 rfl rfl rfl (by decide +kernel) ⟨Nat.le_of_ble_eq_true rfl, Nat.le_of_ble_eq_true rfl⟩) ⟨blindROE, vk_recv hE.2.2.2.2.2.2.1 ho_2 (va_S.rf (A := fun _ => False)), fun U hU hW => ⟨rfl, by rw [hU]; exact hP.sub (ws' := []) [] rfl, hG.warm hW, by rw [hU]; exact hE.warm hW⟩⟩ rfl rfl hl.1 rfl (lv_room (Nat.le_of_ble_eq_true rfl)) dX4_isWord_18 ⟨Nat.le_of_ble_eq_true rfl, Nat.le_of_ble_eq_true rfl⟩) (fun r_18 hr_18 => ?_)
    have hv := hv r_18 hr_18
    obtain ⟨hvt, hvf⟩ := hv
    refine lv_icmp_eq (tgt := 26) hx hb dX4_isWord_21 (by decide) (fun hc => ?_) (fun hc => ?_)
    · have hv := hvt hc
      refine lv_iconst (v := (0 : Int32)) hx hb dX4_isWord_26 (by decide) ?_
      refine lv_istore_n (lv' := [(2, .int (0 : Int32)), (0, .ref qd), (1, .ref (kyS v si))]) hx hb dX4_isWord_27 rfl hl (by decide) rfl (fun ls hl => ?_)
      obtain ⟨nn, hv⟩ := hv
      exact kX4_isWord_c28 S hr hlocks hG hP hE nn _ hv ls (lv_sub hl [1, 2, 0] rfl)
    · have hv := hvf hc
      refine lv_iconst (v := (0 : Int32)) hx hb dX4_isWord_24 (by decide) ?_
      exact W.zret (v := (0 : Int32)) (ty := .boolean) hx hb hr rfl (fun t ht hW => ⟨_, rfl, hv, ht⟩) (fun _ h => by cases h) dX4_isWord_25
abbrev preX4_isWord (b : Nat → Int32) (nb : Nat) (i : Nat) (D : Nat → Int32) (tx : Nat → Int32) (si : Nat) : Prop := rdK b nb i D ∧ isTx b nb tx ∧ si < 15
abbrev postX4_isWord (b : Nat → Int32) (nb : Nat) (i : Nat) (D : Nat → Int32) (tx : Nat → Int32) (si : Nat) (r : Int32) : Prop := r = if wB b nb i si = true then 1 else 0
theorem sX4_isWord_28 (b : Nat → Int32) (nb : Nat) (i : Nat) (D : Nat → Int32) (tx : Nat → Int32) (si : Nat) (H : preX4_isWord b nb i D tx si) (h1 : tK b nb i = 1) (hl : tE b nb i - tS b nb i = lenW.getD si 0) : ∀ (n k : Nat) (x2 : Int32), x2.toInt = (k : Int) → k ≤ lenW.getD si 0 → (∀ j, j < k → b (tS b nb i + j) = chW si j) → lenW.getD si 0 + 1 ≤ k + n → vX4_isWord_c28 D tx si (postX4_isWord b nb i D tx si) n x2
  | 0, k, x2, _, _, _, hf => absurd hf (by omega)
  | n + 1, k, x2, h2, hk, hall, hf => by
    obtain ⟨⟨h4, hnb, hi, h6, h7, h5, -⟩, htx, hsi⟩ := id H
    have hw := lenW_lt si hsi
    have hel := tE_le b hi
    have hsl := tS_le b hi
    rw [vX4_isWord_c28]
    refine ⟨hsi, hsi, fun r hr => ?_⟩
    have hr : r.toInt = (lenW.getD si 0 : Int) := by rw [show r = nI (lenW.getD si 0) from hr]; exact q_nI (by omega)
    rw [q_le hr h2]
    refine ⟨fun c => by rw [postX4_isWord, if_pos (show wB b nb i si = true from decide_eq_true ⟨h1, hl, fun j hj => hall j (by omega)⟩)], fun c => ?_⟩
    have ha := q_addN h6 h2 (by omega)
    refine ⟨q_in ha (by omega), ⟨hsi, by omega, by omega⟩, hsi, fun r2 hr2 => ?_⟩
    have hr2 : r2 = chW si x2.toInt.toNat := hr2
    rw [show x2.toInt.toNat = k by omega] at hr2
    rw [q_cl ha, (htx _ (by omega)).1, hr2]
    refine ⟨fun d => sX4_isWord_28 b nb i D tx si H h1 hl n (k + 1) _ (q_1 h2 (by omega)) (by omega) (fun j hj => ?_) (by omega), fun d => by rw [postX4_isWord, if_neg (show ¬ wB b nb i si = true from fun q => d ((of_decide_eq_true q).2.2 k (by omega)))]⟩
    by_cases e : j = k
    · subst e; exact d
    · exact hall j (by omega)
theorem sX4_isWord (b : Nat → Int32) (nb : Nat) (i : Nat) (D : Nat → Int32) (tx : Nat → Int32) (si : Nat) (H : preX4_isWord b nb i D tx si) : vX4_isWord D tx si (postX4_isWord b nb i D tx si) := by
  obtain ⟨⟨h4, hnb, hi, h6, h7, h5, -⟩, htx, hsi⟩ := id H
  have hw := lenW_lt si hsi
  have hel := tE_le b hi
  unfold vX4_isWord
  rw [fa_eq (D 5), h5, z1]
  refine ⟨fun c => by rw [postX4_isWord, if_neg (show ¬ wB b nb i si = true from fun q => c (by rw [(of_decide_eq_true q).1]; rfl))], fun c => ⟨hsi, hsi, fun r hr => ?_⟩⟩
  have hr : r.toInt = (lenW.getD si 0 : Int) := by rw [show r = nI (lenW.getD si 0) from hr]; exact q_nI (by omega)
  have hd := q_subN h7 h6 hel.1 (by omega)
  rw [q_eq hd hr]
  refine ⟨fun d => ⟨lenW.getD si 0 + 1, sX4_isWord_28 b nb i D tx si H (by omega) (by omega) _ 0 0 rfl (by omega) (fun j hj => absurd hj (by omega)) (by omega)⟩, fun d => by rw [postX4_isWord, if_neg (show ¬ wB b nb i si = true from fun q => d (by rw [(of_decide_eq_true q).2.1]))]⟩
theorem dX4_isRow_0 : decode cX4_isRow 0 = .ok (.aload_n 0, 1) := by decide +kernel
theorem dX4_isRow_1 : decode cX4_isRow 1 = .ok (.getfield 41, 3) := by decide +kernel
theorem dX4_isRow_4 : decode cX4_isRow 4 = .ok (.iconst 1, 1) := by decide +kernel
theorem dX4_isRow_5 : decode cX4_isRow 5 = .ok (.if_icmp .ne 16, 3) := by decide +kernel
theorem dX4_isRow_8 : decode cX4_isRow 8 = .ok (.aload_n 0, 1) := by decide +kernel
theorem dX4_isRow_9 : decode cX4_isRow 9 = .ok (.getfield 35, 3) := by decide +kernel
theorem dX4_isRow_12 : decode cX4_isRow 12 = .ok (.aload_n 0, 1) := by decide +kernel
theorem dX4_isRow_13 : decode cX4_isRow 13 = .ok (.getfield 100, 3) := by decide +kernel
theorem dX4_isRow_16 : decode cX4_isRow 16 = .ok (.isub, 1) := by decide +kernel
theorem dX4_isRow_17 : decode cX4_isRow 17 = .ok (.iconst 2, 1) := by decide +kernel
theorem dX4_isRow_18 : decode cX4_isRow 18 = .ok (.if_icmp .ge 5, 3) := by decide +kernel
theorem dX4_isRow_21 : decode cX4_isRow 21 = .ok (.iconst 0, 1) := by decide +kernel
theorem dX4_isRow_22 : decode cX4_isRow 22 = .ok (.ireturn, 1) := by decide +kernel
theorem dX4_isRow_23 : decode cX4_isRow 23 = .ok (.aload_n 0, 1) := by decide +kernel
theorem dX4_isRow_24 : decode cX4_isRow 24 = .ok (.getfield 100, 3) := by decide +kernel
theorem dX4_isRow_27 : decode cX4_isRow 27 = .ok (.istore_n 1, 1) := by decide +kernel
theorem dX4_isRow_28 : decode cX4_isRow 28 = .ok (.iload_n 1, 1) := by decide +kernel
theorem dX4_isRow_29 : decode cX4_isRow 29 = .ok (.aload_n 0, 1) := by decide +kernel
theorem dX4_isRow_30 : decode cX4_isRow 30 = .ok (.getfield 35, 3) := by decide +kernel
theorem dX4_isRow_33 : decode cX4_isRow 33 = .ok (.if_icmp .ge 33, 3) := by decide +kernel
theorem dX4_isRow_36 : decode cX4_isRow 36 = .ok (.aload_n 0, 1) := by decide +kernel
theorem dX4_isRow_37 : decode cX4_isRow 37 = .ok (.getfield 18, 3) := by decide +kernel
theorem dX4_isRow_40 : decode cX4_isRow 40 = .ok (.iload_n 1, 1) := by decide +kernel
theorem dX4_isRow_41 : decode cX4_isRow 41 = .ok (.baload, 1) := by decide +kernel
theorem dX4_isRow_42 : decode cX4_isRow 42 = .ok (.bipush 120, 2) := by decide +kernel
theorem dX4_isRow_44 : decode cX4_isRow 44 = .ok (.if_icmp .eq 16, 3) := by decide +kernel
theorem dX4_isRow_47 : decode cX4_isRow 47 = .ok (.aload_n 0, 1) := by decide +kernel
theorem dX4_isRow_48 : decode cX4_isRow 48 = .ok (.getfield 18, 3) := by decide +kernel
theorem dX4_isRow_51 : decode cX4_isRow 51 = .ok (.iload_n 1, 1) := by decide +kernel
theorem dX4_isRow_52 : decode cX4_isRow 52 = .ok (.baload, 1) := by decide +kernel
theorem dX4_isRow_53 : decode cX4_isRow 53 = .ok (.bipush 111, 2) := by decide +kernel
theorem dX4_isRow_55 : decode cX4_isRow 55 = .ok (.if_icmp .eq 5, 3) := by decide +kernel
theorem dX4_isRow_58 : decode cX4_isRow 58 = .ok (.iconst 0, 1) := by decide +kernel
theorem dX4_isRow_59 : decode cX4_isRow 59 = .ok (.ireturn, 1) := by decide +kernel
theorem dX4_isRow_60 : decode cX4_isRow 60 = .ok (.iinc 1 1, 3) := by decide +kernel
theorem dX4_isRow_63 : decode cX4_isRow 63 = .ok (.goto (-35), 3) := by decide +kernel
theorem dX4_isRow_66 : decode cX4_isRow 66 = .ok (.iconst 1, 1) := by decide +kernel
theorem dX4_isRow_67 : decode cX4_isRow 67 = .ok (.ireturn, 1) := by decide +kernel
abbrev rmX4_isRow : Room := { frames := 0, cells := 0, slots := 0, locals := 0 }
theorem inX4_isRow_4 : ∀ w ∈ wsX40, w ∈ wsX4_isRow := by decide +kernel
def vX4_isRow_c28 (D : Nat → Int32) (tx : Nat → Int32) (Q : Int32 → Prop) : Nat → Int32 → Prop
  | 0, _ => False
  | n + 1, x1 => (((D 7) ≤ x1 → (Q (1 : Int32))) ∧ (¬ (D 7) ≤ x1 → (vp_in x1 500 ∧ (((tx x1.toNatClampNeg) = (120 : Int32) → (vX4_isRow_c28 D tx Q n (x1 + (1 : Int32)))) ∧ (¬ (tx x1.toNatClampNeg) = (120 : Int32) → (vp_in x1 500 ∧ (((tx x1.toNatClampNeg) = (111 : Int32) → (vX4_isRow_c28 D tx Q n (x1 + (1 : Int32)))) ∧ (¬ (tx x1.toNatClampNeg) = (111 : Int32) → (Q (0 : Int32))))))))))
set_option maxHeartbeats 4000000 in
set_option maxRecDepth 100000 in
theorem kX4_isRow_c28 {p : Program} {l : Launch} {e : Env} {s : State} {m : MethodId} {args : Array Value} {below : List Frame} {meth : Method} {c : Code} {g : GP} {qd : Nat} {qtr : Nat} {qtx : Nat} {D : Nat → Int32} {tx : Nat → Int32}  {Q : Int32 → Prop} (S : CallFix p m c cX4_isRow 2 s args wsX4_isRow RX4) (hr : meth.sig.returnType = (some .boolean)) (hlocks : meth.locks = false) (hG : GK g s) (hP : va_P g.1 vwCl [(qd, .inr (4, [.ref qtr, .ref qtx, .int (D 2), .int (D 3), .int (D 4), .int (D 5), .int (D 6), .int (D 7), .int (D 8)])), (qtx, .inl (g.2 1, 500, .inl tx))] s.heap) : ∀ (n : Nat), ∀ (x1 : Int32), vX4_isRow_c28 D tx Q n x1 → ∀ (ls : Array Slot), lv_has ls 2 [(0, .ref qd), (1, .int x1)] → W p l e (headSpec wsX4_isRow rmX4_isRow).room s m args below meth c s.heap [] 0 0 (MQ below (vp_Si Q) args s 0 0 (fun _ => False)) (F0 m 28 ls []) := by
  obtain ⟨hx, hb, hml, hown, hts⟩ := id S
  have hK := hG.1
  intro n
  induction n with
  | zero => intro x1 hv; exact hv.elim
  | succ n ih =>
    intro x1 hv ls hl
    refine lv_iload_n hx hb dX4_isRow_28 rfl (lv_at hl 1 rfl) ?_
    refine lv_aload_n hx hb dX4_isRow_29 rfl (lv_at hl 0 rfl) ?_
    refine va_get (D := g.1) (ci := 4) (v := .int (D 7)) (C := RX4) (T := TX4) (N := 9) hx hb hts inX4_isRow_4 hown hK hP 0 rfl rfl 7 (by decide) (hts (.fieldLink RX4 35 "RangeCodes$Reader" "at" "I") (List.mem_of_getElem? (i := 2) rfl)) (fun _ h9 => h9) rfl dX4_isRow_30 ?_
    obtain ⟨hvt, hvf⟩ := hv
    refine lv_icmp_ge (tgt := 66) hx hb dX4_isRow_33 (by decide) (fun hc => ?_) (fun hc => ?_)
    · have hv := hvt hc
      refine lv_iconst (v := (1 : Int32)) hx hb dX4_isRow_66 (by decide) ?_
      exact W.zret (v := (1 : Int32)) (ty := .boolean) hx hb hr rfl (fun t ht hW => ⟨_, rfl, hv, ht⟩) (fun _ h => by cases h) dX4_isRow_67
    · have hv := hvf hc
      refine lv_aload_n hx hb dX4_isRow_36 rfl (lv_at hl 0 rfl) ?_
      refine va_get (D := g.1) (ci := 4) (v := .ref qtx) (C := RX4) (T := TX4) (N := 9) hx hb hts inX4_isRow_4 hown hK hP 0 rfl rfl 1 (by decide) (hts (.fieldLink RX4 18 "RangeCodes$Reader" "text" "[B") (List.mem_of_getElem? (i := 4) rfl)) (fun _ h9 => h9) rfl dX4_isRow_37 ?_
      refine lv_iload_n hx hb dX4_isRow_40 rfl (lv_at hl 1 rfl) ?_
      obtain ⟨ho_1, hv⟩ := hv
      refine va_bald hx hb hK hP 1 1 rfl rfl ho_1 dX4_isRow_41 ?_
      refine lv_bipush (v := (120 : Int32)) hx hb dX4_isRow_42 (by decide) ?_
      obtain ⟨hvt, hvf⟩ := hv
      refine lv_icmp_eq (tgt := 60) hx hb dX4_isRow_44 (by decide) (fun hc => ?_) (fun hc => ?_)
      · have hv := hvt hc
        refine lv_iinc (v := (x1 + (1 : Int32))) (lv' := [(1, .int (x1 + (1 : Int32))), (0, .ref qd)]) hx hb dX4_isRow_60 hl (k := 1) rfl rfl (by decide) rfl (fun ls hl => ?_)
        refine lv_goto (tgt := 28) hx hb dX4_isRow_63 (by decide) ?_
        exact ih _ hv ls (lv_sub hl [1, 0] rfl)
      · have hv := hvf hc
        refine lv_aload_n hx hb dX4_isRow_47 rfl (lv_at hl 0 rfl) ?_
        refine va_get (D := g.1) (ci := 4) (v := .ref qtx) (C := RX4) (T := TX4) (N := 9) hx hb hts inX4_isRow_4 hown hK hP 0 rfl rfl 1 (by decide) (hts (.fieldLink RX4 18 "RangeCodes$Reader" "text" "[B") (List.mem_of_getElem? (i := 4) rfl)) (fun _ h9 => h9) rfl dX4_isRow_48 ?_
        refine lv_iload_n hx hb dX4_isRow_51 rfl (lv_at hl 1 rfl) ?_
        obtain ⟨ho_2, hv⟩ := hv
        refine va_bald hx hb hK hP 1 1 rfl rfl ho_2 dX4_isRow_52 ?_
        refine lv_bipush (v := (111 : Int32)) hx hb dX4_isRow_53 (by decide) ?_
        obtain ⟨hvt, hvf⟩ := hv
        refine lv_icmp_eq (tgt := 60) hx hb dX4_isRow_55 (by decide) (fun hc => ?_) (fun hc => ?_)
        · have hv := hvt hc
          refine lv_iinc (v := (x1 + (1 : Int32))) (lv' := [(1, .int (x1 + (1 : Int32))), (0, .ref qd)]) hx hb dX4_isRow_60 hl (k := 1) rfl rfl (by decide) rfl (fun ls hl => ?_)
          refine lv_goto (tgt := 28) hx hb dX4_isRow_63 (by decide) ?_
          exact ih _ hv ls (lv_sub hl [1, 0] rfl)
        · have hv := hvf hc
          refine lv_iconst (v := (0 : Int32)) hx hb dX4_isRow_58 (by decide) ?_
          exact W.zret (v := (0 : Int32)) (ty := .boolean) hx hb hr rfl (fun t ht hW => ⟨_, rfl, hv, ht⟩) (fun _ h => by cases h) dX4_isRow_59
def vX4_isRow (D : Nat → Int32) (tx : Nat → Int32) (Q : Int32 → Prop) : Prop := ((¬ (D 5) = (1 : Int32) → (Q (0 : Int32))) ∧ ((D 5) = (1 : Int32) → (((2 : Int32) ≤ ((D 7) - (D 6)) → (∃ nn, vX4_isRow_c28 D tx Q nn (D 6))) ∧ (¬ (2 : Int32) ≤ ((D 7) - (D 6)) → (Q (0 : Int32))))))
set_option maxHeartbeats 4000000 in
set_option maxRecDepth 100000 in
theorem wX4_isRow (l : Launch) (g : GP) (qd : Nat) (qtr : Nat) (qtx : Nat) (D : Nat → Int32) (tx : Nat → Int32) {Q : Int32 → Prop} (hv : vX4_isRow D tx Q) : Met l yX4_isRow wsX4_isRow rmX4_isRow (va_Pc [.ref qd] (fun U => va_P g.1 vwCl [(qd, .inr (4, [.ref qtr, .ref qtx, .int (D 2), .int (D 3), .int (D 4), .int (D 5), .int (D 6), .int (D 7), .int (D 8)])), (qtx, .inl (g.2 1, 500, .inl tx))] U.heap ∧ GK g U)) (vp_Si Q) 0 0 (fun _ => False) := by
  refine Met.ofW (cc := cX4_isRow) (maxL := 2) (ret := (some .boolean)) (by decide) rfl ?_
  intro p e s m args below meth c s₁ B hml hv'
  obtain ⟨rfl, hP, hG⟩ := hv'
  have S : CallFix p m c cX4_isRow 2 s _ wsX4_isRow RX4 := ⟨B.exec, B.bytes, hml, findClass_of_methodNamed B.named, atoms_spec (ws := wsX4_isRow) B.pre⟩
  obtain ⟨hx, hb, hml, hown, hts⟩ := id S
  have hK := hG.1
  have hr := B.returns
  have hlocks := B.notSynchronized
  have hl := lv_entry ([.ref qd]) (n := 2) (Nat.le_of_ble_eq_true rfl)
  rw [lg_entry_eq]
  generalize (lg_sl ([.ref qd]) ++ List.replicate (2 - (lg_sl ([.ref qd])).length) Slot.unset).toArray = ls at hl ⊢
  have hl : lv_has ls 2 [(0, .ref qd)] := hl
  unfold vX4_isRow at hv
  refine lv_aload_n hx hb dX4_isRow_0 rfl (lv_at hl 0 rfl) ?_
  refine va_get (D := g.1) (ci := 4) (v := .int (D 5)) (C := RX4) (T := TX4) (N := 9) hx hb hts inX4_isRow_4 hown hK hP 0 rfl rfl 5 (by decide) (hts (.fieldLink RX4 41 "RangeCodes$Reader" "kind" "I") (List.mem_of_getElem? (i := 1) rfl)) (fun _ h9 => h9) rfl dX4_isRow_1 ?_
  refine lv_iconst (v := (1 : Int32)) hx hb dX4_isRow_4 (by decide) ?_
  obtain ⟨hvt, hvf⟩ := hv
  refine lv_icmp_ne (tgt := 21) hx hb dX4_isRow_5 (by decide) (fun hc => ?_) (fun hc => ?_)
  · have hv := hvt hc
    refine lv_iconst (v := (0 : Int32)) hx hb dX4_isRow_21 (by decide) ?_
    exact W.zret (v := (0 : Int32)) (ty := .boolean) hx hb hr rfl (fun t ht hW => ⟨_, rfl, hv, ht⟩) (fun _ h => by cases h) dX4_isRow_22
  · have hv := hvf hc
    refine lv_aload_n hx hb dX4_isRow_8 rfl (lv_at hl 0 rfl) ?_
    refine va_get (D := g.1) (ci := 4) (v := .int (D 7)) (C := RX4) (T := TX4) (N := 9) hx hb hts inX4_isRow_4 hown hK hP 0 rfl rfl 7 (by decide) (hts (.fieldLink RX4 35 "RangeCodes$Reader" "at" "I") (List.mem_of_getElem? (i := 2) rfl)) (fun _ h9 => h9) rfl dX4_isRow_9 ?_
    refine lv_aload_n hx hb dX4_isRow_12 rfl (lv_at hl 0 rfl) ?_
    refine va_get (D := g.1) (ci := 4) (v := .int (D 6)) (C := RX4) (T := TX4) (N := 9) hx hb hts inX4_isRow_4 hown hK hP 0 rfl rfl 6 (by decide) (hts (.fieldLink RX4 100 "RangeCodes$Reader" "start" "I") (List.mem_of_getElem? (i := 3) rfl)) (fun _ h9 => h9) rfl dX4_isRow_13 ?_
    refine lv_isub hx hb dX4_isRow_16 ?_
    refine lv_iconst (v := (2 : Int32)) hx hb dX4_isRow_17 (by decide) ?_
    obtain ⟨hvt, hvf⟩ := hv
    refine lv_icmp_ge (tgt := 23) hx hb dX4_isRow_18 (by decide) (fun hc => ?_) (fun hc => ?_)
    · have hv := hvt hc
      refine lv_aload_n hx hb dX4_isRow_23 rfl (lv_at hl 0 rfl) ?_
      refine va_get (D := g.1) (ci := 4) (v := .int (D 6)) (C := RX4) (T := TX4) (N := 9) hx hb hts inX4_isRow_4 hown hK hP 0 rfl rfl 6 (by decide) (hts (.fieldLink RX4 100 "RangeCodes$Reader" "start" "I") (List.mem_of_getElem? (i := 3) rfl)) (fun _ h9 => h9) rfl dX4_isRow_24 ?_
      refine lv_istore_n (lv' := [(1, .int (D 6)), (0, .ref qd)]) hx hb dX4_isRow_27 rfl hl (by decide) rfl (fun ls hl => ?_)
      obtain ⟨nn, hv⟩ := hv
      exact kX4_isRow_c28 S hr hlocks hG hP nn _ hv ls (lv_sub hl [1, 0] rfl)
    · have hv := hvf hc
      refine lv_iconst (v := (0 : Int32)) hx hb dX4_isRow_21 (by decide) ?_
      exact W.zret (v := (0 : Int32)) (ty := .boolean) hx hb hr rfl (fun t ht hW => ⟨_, rfl, hv, ht⟩) (fun _ h => by cases h) dX4_isRow_22
abbrev preX4_isRow (b : Nat → Int32) (nb : Nat) (i : Nat) (D : Nat → Int32) (tx : Nat → Int32) : Prop := rdK b nb i D ∧ isTx b nb tx
abbrev postX4_isRow (b : Nat → Int32) (nb : Nat) (i : Nat) (D : Nat → Int32) (tx : Nat → Int32) (r : Int32) : Prop := r = if rwB b nb i = true then 1 else 0
theorem sX4_isRow_28 (b : Nat → Int32) (nb : Nat) (i : Nat) (D : Nat → Int32) (tx : Nat → Int32) (H : preX4_isRow b nb i D tx) (h1 : tK b nb i = 1) (h2 : 2 ≤ tE b nb i - tS b nb i) : ∀ (n k : Nat) (x1 : Int32), x1.toInt = ((tS b nb i + k : Nat) : Int) → tS b nb i + k ≤ tE b nb i → (∀ j, j < k → (b (tS b nb i + j)).toInt = 120 ∨ (b (tS b nb i + j)).toInt = 111) → tE b nb i + 1 ≤ tS b nb i + k + n → vX4_isRow_c28 D tx (postX4_isRow b nb i D tx) n x1
  | 0, k, x1, _, _, _, hf => absurd hf (by omega)
  | n + 1, k, x1, hx, hk, hall, hf => by
    obtain ⟨⟨h4, hnb, hi, h6, h7, h5, -⟩, htx⟩ := id H
    have hel := tE_le b hi
    rw [vX4_isRow_c28, q_le h7 hx]
    refine ⟨fun c => by rw [postX4_isRow, if_pos (show rwB b nb i = true from decide_eq_true ⟨h1, h2, fun j hj => hall j (by omega)⟩)], fun c => ⟨q_in hx (by omega), ?_⟩⟩
    rw [q_cl hx, (htx _ (by omega)).1, fa_eq (b _), fa_eq (b _), show (120 : Int32).toInt = 120 from rfl, show (111 : Int32).toInt = 111 from rfl]
    have nx : ∀ _ : (b (tS b nb i + k)).toInt = 120 ∨ (b (tS b nb i + k)).toInt = 111, vX4_isRow_c28 D tx (postX4_isRow b nb i D tx) n (x1 + (1 : Int32)) := fun q => sX4_isRow_28 b nb i D tx H h1 h2 n (k + 1) _ (q_1 (n := tS b nb i + k) hx (by omega)) (by omega) (fun j hj => by
      by_cases e : j = k
      · subst e; exact q
      · exact hall j (by omega)) (by omega)
    exact ⟨fun d => nx (Or.inl d), fun d => ⟨q_in hx (by omega), fun e => nx (Or.inr e), fun e => by rw [postX4_isRow, if_neg (show ¬ rwB b nb i = true from fun q => ((of_decide_eq_true q).2.2 k (by omega)).elim d e)]⟩⟩
theorem sX4_isRow (b : Nat → Int32) (nb : Nat) (i : Nat) (D : Nat → Int32) (tx : Nat → Int32) (H : preX4_isRow b nb i D tx) : vX4_isRow D tx (postX4_isRow b nb i D tx) := by
  obtain ⟨⟨h4, hnb, hi, h6, h7, h5, -⟩, htx⟩ := id H
  have hel := tE_le b hi
  have hd := q_subN h7 h6 hel.1 (by omega)
  unfold vX4_isRow
  rw [fa_eq (D 5), h5, z1, fa_le, hd, z2]
  refine ⟨fun c => by rw [postX4_isRow, if_neg (show ¬ rwB b nb i = true from fun q => c (by rw [(of_decide_eq_true q).1]; rfl))], fun c => ⟨fun d => ⟨tE b nb i + 1, sX4_isRow_28 b nb i D tx H (by omega) (by omega) _ 0 _ (by rw [h6]; rfl) (by omega) (fun j hj => absurd hj (by omega)) (by omega)⟩, fun d => by rw [postX4_isRow, if_neg (show ¬ rwB b nb i = true from fun q => d (by have := (of_decide_eq_true q).2.1; omega))]⟩⟩
theorem dX4_rowBits_0 : decode cX4_rowBits 0 = .ok (.iconst 0, 1) := by decide +kernel
theorem dX4_rowBits_1 : decode cX4_rowBits 1 = .ok (.istore_n 1, 1) := by decide +kernel
theorem dX4_rowBits_2 : decode cX4_rowBits 2 = .ok (.aload_n 0, 1) := by decide +kernel
theorem dX4_rowBits_3 : decode cX4_rowBits 3 = .ok (.getfield 100, 3) := by decide +kernel
theorem dX4_rowBits_6 : decode cX4_rowBits 6 = .ok (.istore_n 2, 1) := by decide +kernel
theorem dX4_rowBits_7 : decode cX4_rowBits 7 = .ok (.iload_n 2, 1) := by decide +kernel
theorem dX4_rowBits_8 : decode cX4_rowBits 8 = .ok (.aload_n 0, 1) := by decide +kernel
theorem dX4_rowBits_9 : decode cX4_rowBits 9 = .ok (.getfield 35, 3) := by decide +kernel
theorem dX4_rowBits_12 : decode cX4_rowBits 12 = .ok (.if_icmp .ge 31, 3) := by decide +kernel
theorem dX4_rowBits_15 : decode cX4_rowBits 15 = .ok (.aload_n 0, 1) := by decide +kernel
theorem dX4_rowBits_16 : decode cX4_rowBits 16 = .ok (.getfield 18, 3) := by decide +kernel
theorem dX4_rowBits_19 : decode cX4_rowBits 19 = .ok (.iload_n 2, 1) := by decide +kernel
theorem dX4_rowBits_20 : decode cX4_rowBits 20 = .ok (.baload, 1) := by decide +kernel
theorem dX4_rowBits_21 : decode cX4_rowBits 21 = .ok (.bipush 120, 2) := by decide +kernel
theorem dX4_rowBits_23 : decode cX4_rowBits 23 = .ok (.if_icmp .ne 14, 3) := by decide +kernel
theorem dX4_rowBits_26 : decode cX4_rowBits 26 = .ok (.iload_n 1, 1) := by decide +kernel
theorem dX4_rowBits_27 : decode cX4_rowBits 27 = .ok (.iconst 1, 1) := by decide +kernel
theorem dX4_rowBits_28 : decode cX4_rowBits 28 = .ok (.iload_n 2, 1) := by decide +kernel
theorem dX4_rowBits_29 : decode cX4_rowBits 29 = .ok (.aload_n 0, 1) := by decide +kernel
theorem dX4_rowBits_30 : decode cX4_rowBits 30 = .ok (.getfield 100, 3) := by decide +kernel
theorem dX4_rowBits_33 : decode cX4_rowBits 33 = .ok (.isub, 1) := by decide +kernel
theorem dX4_rowBits_34 : decode cX4_rowBits 34 = .ok (.ishl, 1) := by decide +kernel
theorem dX4_rowBits_35 : decode cX4_rowBits 35 = .ok (.ior, 1) := by decide +kernel
theorem dX4_rowBits_36 : decode cX4_rowBits 36 = .ok (.istore_n 1, 1) := by decide +kernel
theorem dX4_rowBits_37 : decode cX4_rowBits 37 = .ok (.iinc 2 1, 3) := by decide +kernel
theorem dX4_rowBits_40 : decode cX4_rowBits 40 = .ok (.goto (-33), 3) := by decide +kernel
theorem dX4_rowBits_43 : decode cX4_rowBits 43 = .ok (.iload_n 1, 1) := by decide +kernel
theorem dX4_rowBits_44 : decode cX4_rowBits 44 = .ok (.ireturn, 1) := by decide +kernel
abbrev rmX4_rowBits : Room := { frames := 0, cells := 0, slots := 0, locals := 0 }
theorem inX4_rowBits_4 : ∀ w ∈ wsX40, w ∈ wsX4_rowBits := by decide +kernel
def vX4_rowBits_c7 (D : Nat → Int32) (tx : Nat → Int32) (Q : Int32 → Prop) : Nat → Int32 → Int32 → Prop
  | 0, _, _ => False
  | n + 1, x1, x2 => (((D 7) ≤ x2 → (Q x1)) ∧ (¬ (D 7) ≤ x2 → (vp_in x2 500 ∧ ((¬ (tx x2.toNatClampNeg) = (120 : Int32) → (vX4_rowBits_c7 D tx Q n x1 (x2 + (1 : Int32)))) ∧ ((tx x2.toNatClampNeg) = (120 : Int32) → (∀ y_36 : Int32, y_36 = (x1 ||| ((1 : Int32) <<< ((x2 - (D 6)) &&& 31))) → (vX4_rowBits_c7 D tx Q n y_36 (x2 + (1 : Int32)))))))))
set_option maxHeartbeats 4000000 in
set_option maxRecDepth 100000 in
theorem kX4_rowBits_c7 {p : Program} {l : Launch} {e : Env} {s : State} {m : MethodId} {args : Array Value} {below : List Frame} {meth : Method} {c : Code} {g : GP} {qd : Nat} {qtr : Nat} {qtx : Nat} {D : Nat → Int32} {tx : Nat → Int32}  {Q : Int32 → Prop} (S : CallFix p m c cX4_rowBits 3 s args wsX4_rowBits RX4) (hr : meth.sig.returnType = (some .int)) (hlocks : meth.locks = false) (hG : GK g s) (hP : va_P g.1 vwCl [(qd, .inr (4, [.ref qtr, .ref qtx, .int (D 2), .int (D 3), .int (D 4), .int (D 5), .int (D 6), .int (D 7), .int (D 8)])), (qtx, .inl (g.2 1, 500, .inl tx))] s.heap) : ∀ (n : Nat), ∀ (x1 : Int32) (x2 : Int32), vX4_rowBits_c7 D tx Q n x1 x2 → ∀ (ls : Array Slot), lv_has ls 3 [(0, .ref qd), (1, .int x1), (2, .int x2)] → W p l e (headSpec wsX4_rowBits rmX4_rowBits).room s m args below meth c s.heap [] 0 0 (MQ below (vp_Si Q) args s 0 0 (fun _ => False)) (F0 m 7 ls []) := by
  obtain ⟨hx, hb, hml, hown, hts⟩ := id S
  have hK := hG.1
  intro n
  induction n with
  | zero => intro x1 x2 hv; exact hv.elim
  | succ n ih =>
    intro x1 x2 hv ls hl
    refine lv_iload_n hx hb dX4_rowBits_7 rfl (lv_at hl 2 rfl) ?_
    refine lv_aload_n hx hb dX4_rowBits_8 rfl (lv_at hl 0 rfl) ?_
    refine va_get (D := g.1) (ci := 4) (v := .int (D 7)) (C := RX4) (T := TX4) (N := 9) hx hb hts inX4_rowBits_4 hown hK hP 0 rfl rfl 7 (by decide) (hts (.fieldLink RX4 35 "RangeCodes$Reader" "at" "I") (List.mem_of_getElem? (i := 2) rfl)) (fun _ h9 => h9) rfl dX4_rowBits_9 ?_
    obtain ⟨hvt, hvf⟩ := hv
    refine lv_icmp_ge (tgt := 43) hx hb dX4_rowBits_12 (by decide) (fun hc => ?_) (fun hc => ?_)
    · have hv := hvt hc
      refine lv_iload_n hx hb dX4_rowBits_43 rfl (lv_at hl 1 rfl) ?_
      exact W.iret (v := x1) hx hb hr (fun t ht hW => ⟨_, rfl, hv, ht⟩) (fun _ h => by cases h) dX4_rowBits_44
    · have hv := hvf hc
      refine lv_aload_n hx hb dX4_rowBits_15 rfl (lv_at hl 0 rfl) ?_
      refine va_get (D := g.1) (ci := 4) (v := .ref qtx) (C := RX4) (T := TX4) (N := 9) hx hb hts inX4_rowBits_4 hown hK hP 0 rfl rfl 1 (by decide) (hts (.fieldLink RX4 18 "RangeCodes$Reader" "text" "[B") (List.mem_of_getElem? (i := 3) rfl)) (fun _ h9 => h9) rfl dX4_rowBits_16 ?_
      refine lv_iload_n hx hb dX4_rowBits_19 rfl (lv_at hl 2 rfl) ?_
      obtain ⟨ho_1, hv⟩ := hv
      refine va_bald hx hb hK hP 1 1 rfl rfl ho_1 dX4_rowBits_20 ?_
      refine lv_bipush (v := (120 : Int32)) hx hb dX4_rowBits_21 (by decide) ?_
      obtain ⟨hvt, hvf⟩ := hv
      refine lv_icmp_ne (tgt := 37) hx hb dX4_rowBits_23 (by decide) (fun hc => ?_) (fun hc => ?_)
      · have hv := hvt hc
        refine lv_iinc (v := (x2 + (1 : Int32))) (lv' := [(2, .int (x2 + (1 : Int32))), (0, .ref qd), (1, .int x1)]) hx hb dX4_rowBits_37 hl (k := 2) rfl rfl (by decide) rfl (fun ls hl => ?_)
        refine lv_goto (tgt := 7) hx hb dX4_rowBits_40 (by decide) ?_
        exact ih _ _ hv ls (lv_sub hl [1, 2, 0] rfl)
      · have hv := hvf hc
        refine lv_iload_n hx hb dX4_rowBits_26 rfl (lv_at hl 1 rfl) ?_
        refine lv_iconst (v := (1 : Int32)) hx hb dX4_rowBits_27 (by decide) ?_
        refine lv_iload_n hx hb dX4_rowBits_28 rfl (lv_at hl 2 rfl) ?_
        refine lv_aload_n hx hb dX4_rowBits_29 rfl (lv_at hl 0 rfl) ?_
        refine va_get (D := g.1) (ci := 4) (v := .int (D 6)) (C := RX4) (T := TX4) (N := 9) hx hb hts inX4_rowBits_4 hown hK hP 0 rfl rfl 6 (by decide) (hts (.fieldLink RX4 100 "RangeCodes$Reader" "start" "I") (List.mem_of_getElem? (i := 1) rfl)) (fun _ h9 => h9) rfl dX4_rowBits_30 ?_
        refine lv_isub hx hb dX4_rowBits_33 ?_
        refine lv_ishl hx hb dX4_rowBits_34 ?_
        refine lv_ior hx hb dX4_rowBits_35 ?_
        refine lv_topi (fun y_36 ey_36 => ?_)
        have hv := hv y_36 ey_36
        refine lv_istore_n (lv' := [(1, .int y_36), (0, .ref qd), (2, .int x2)]) hx hb dX4_rowBits_36 rfl hl (by decide) rfl (fun ls hl => ?_)
        refine lv_iinc (v := (x2 + (1 : Int32))) (lv' := [(2, .int (x2 + (1 : Int32))), (1, .int y_36), (0, .ref qd)]) hx hb dX4_rowBits_37 hl (k := 2) rfl rfl (by decide) rfl (fun ls hl => ?_)
        refine lv_goto (tgt := 7) hx hb dX4_rowBits_40 (by decide) ?_
        exact ih _ _ hv ls (lv_sub hl [2, 1, 0] rfl)
def vX4_rowBits (D : Nat → Int32) (tx : Nat → Int32) (Q : Int32 → Prop) : Prop := (∃ nn, vX4_rowBits_c7 D tx Q nn (0 : Int32) (D 6))
set_option maxHeartbeats 4000000 in
set_option maxRecDepth 100000 in
theorem wX4_rowBits (l : Launch) (g : GP) (qd : Nat) (qtr : Nat) (qtx : Nat) (D : Nat → Int32) (tx : Nat → Int32) {Q : Int32 → Prop} (hv : vX4_rowBits D tx Q) : Met l yX4_rowBits wsX4_rowBits rmX4_rowBits (va_Pc [.ref qd] (fun U => va_P g.1 vwCl [(qd, .inr (4, [.ref qtr, .ref qtx, .int (D 2), .int (D 3), .int (D 4), .int (D 5), .int (D 6), .int (D 7), .int (D 8)])), (qtx, .inl (g.2 1, 500, .inl tx))] U.heap ∧ GK g U)) (vp_Si Q) 0 0 (fun _ => False) := by
  refine Met.ofW (cc := cX4_rowBits) (maxL := 3) (ret := (some .int)) (by decide) rfl ?_
  intro p e s m args below meth c s₁ B hml hv'
  obtain ⟨rfl, hP, hG⟩ := hv'
  have S : CallFix p m c cX4_rowBits 3 s _ wsX4_rowBits RX4 := ⟨B.exec, B.bytes, hml, findClass_of_methodNamed B.named, atoms_spec (ws := wsX4_rowBits) B.pre⟩
  obtain ⟨hx, hb, hml, hown, hts⟩ := id S
  have hK := hG.1
  have hr := B.returns
  have hlocks := B.notSynchronized
  have hl := lv_entry ([.ref qd]) (n := 3) (Nat.le_of_ble_eq_true rfl)
  rw [lg_entry_eq]
  generalize (lg_sl ([.ref qd]) ++ List.replicate (3 - (lg_sl ([.ref qd])).length) Slot.unset).toArray = ls at hl ⊢
  have hl : lv_has ls 3 [(0, .ref qd)] := hl
  unfold vX4_rowBits at hv
  refine lv_iconst (v := (0 : Int32)) hx hb dX4_rowBits_0 (by decide) ?_
  refine lv_istore_n (lv' := [(1, .int (0 : Int32)), (0, .ref qd)]) hx hb dX4_rowBits_1 rfl hl (by decide) rfl (fun ls hl => ?_)
  refine lv_aload_n hx hb dX4_rowBits_2 rfl (lv_at hl 1 rfl) ?_
  refine va_get (D := g.1) (ci := 4) (v := .int (D 6)) (C := RX4) (T := TX4) (N := 9) hx hb hts inX4_rowBits_4 hown hK hP 0 rfl rfl 6 (by decide) (hts (.fieldLink RX4 100 "RangeCodes$Reader" "start" "I") (List.mem_of_getElem? (i := 1) rfl)) (fun _ h9 => h9) rfl dX4_rowBits_3 ?_
  refine lv_istore_n (lv' := [(2, .int (D 6)), (1, .int (0 : Int32)), (0, .ref qd)]) hx hb dX4_rowBits_6 rfl hl (by decide) rfl (fun ls hl => ?_)
  obtain ⟨nn, hv⟩ := hv
  exact kX4_rowBits_c7 S hr hlocks hG hP nn _ _ hv ls (lv_sub hl [2, 1, 0] rfl)
abbrev preX4_rowBits (b : Nat → Int32) (nb : Nat) (i : Nat) (D : Nat → Int32) (tx : Nat → Int32) : Prop := rdK b nb i D ∧ isTx b nb tx ∧ tE b nb i - tS b nb i ≤ 13
abbrev postX4_rowBits (b : Nat → Int32) (nb : Nat) (i : Nat) (D : Nat → Int32) (tx : Nat → Int32) (r : Int32) : Prop := r.toInt = (rwN b nb i : Int)
theorem sX4_rowBits_7 (b : Nat → Int32) (nb : Nat) (i : Nat) (D : Nat → Int32) (tx : Nat → Int32) (H : preX4_rowBits b nb i D tx) : ∀ (n k : Nat) (x1 x2 : Int32), x1.toInt = (trN (fun k => decide ((b (tS b nb i + k)).toInt = 120)) k : Int) → x2.toInt = ((tS b nb i + k : Nat) : Int) → tS b nb i + k ≤ tE b nb i → tE b nb i + 1 ≤ tS b nb i + k + n → vX4_rowBits_c7 D tx (postX4_rowBits b nb i D tx) n x1 x2
  | 0, k, x1, x2, _, _, _, hf => absurd hf (by omega)
  | n + 1, k, x1, x2, h1, h2, hk, hf => by
    obtain ⟨⟨h4, hnb, hi, h6, h7, h5, -⟩, htx, h13⟩ := id H
    have hel := tE_le b hi
    rw [vX4_rowBits_c7, q_le h7 h2]
    refine ⟨fun c => ?_, fun c => ⟨q_in h2 (by omega), ?_⟩⟩
    · have e : k = tE b nb i - tS b nb i := by omega
      rw [e] at h1; exact h1
    · have hlt := trN_lt (fun k => decide ((b (tS b nb i + k)).toInt = 120)) k
      have hp : 2 ^ k ≤ 2 ^ 12 := Nat.pow_le_pow_right (by decide) (by omega)
      rw [q_cl h2, (htx _ (by omega)).1, fa_eq (b _), show (120 : Int32).toInt = 120 from rfl]
      refine ⟨fun d => sX4_rowBits_7 b nb i D tx H n (k + 1) _ _ ?_ (q_1 (n := tS b nb i + k) h2 (by omega)) (by omega) (by omega), fun d y ey => sX4_rowBits_7 b nb i D tx H n (k + 1) _ _ ?_ (q_1 (n := tS b nb i + k) h2 (by omega)) (by omega) (by omega)⟩
      · rw [trN, if_neg (fun q => d (of_decide_eq_true q)), Nat.add_zero]; exact h1
      · have hs : (x2 - D 6).toInt = (k : Int) := by rw [q_subN h2 h6 (by omega) (by omega)]; omega
        have e1 := q_shlN (x := (1 : Int32)) (a := 1) rfl hs (by omega) (by omega)
        rw [ey, q_orS (b := 1) h1 hlt (by rw [e1]; omega) (by omega), trN, if_pos (decide_eq_true d)]
        omega
theorem sX4_rowBits (b : Nat → Int32) (nb : Nat) (i : Nat) (D : Nat → Int32) (tx : Nat → Int32) (H : preX4_rowBits b nb i D tx) : vX4_rowBits D tx (postX4_rowBits b nb i D tx) := by
  obtain ⟨⟨h4, hnb, hi, h6, h7, h5, -⟩, htx, h13⟩ := id H
  have hel := tE_le b hi
  exact ⟨tE b nb i + 1, sX4_rowBits_7 b nb i D tx H _ 0 _ _ rfl h6 (by omega) (by omega)⟩
theorem dX4_refuse_0 : decode cX4_refuse 0 = .ok (.aload_n 0, 1) := by decide +kernel
theorem dX4_refuse_1 : decode cX4_refuse 1 = .ok (.iconst 1, 1) := by decide +kernel
theorem dX4_refuse_2 : decode cX4_refuse 2 = .ok (.putfield 25, 3) := by decide +kernel
theorem dX4_refuse_5 : decode cX4_refuse 5 = .ok (.aload_n 0, 1) := by decide +kernel
theorem dX4_refuse_6 : decode cX4_refuse 6 = .ok (.aload_n 0, 1) := by decide +kernel
theorem dX4_refuse_7 : decode cX4_refuse 7 = .ok (.getfield 100, 3) := by decide +kernel
theorem dX4_refuse_10 : decode cX4_refuse 10 = .ok (.putfield 29, 3) := by decide +kernel
theorem dX4_refuse_13 : decode cX4_refuse 13 = .ok (.iconst 0, 1) := by decide +kernel
theorem dX4_refuse_14 : decode cX4_refuse 14 = .ok (.ireturn, 1) := by decide +kernel
abbrev rmX4_refuse : Room := { frames := 0, cells := 0, slots := 0, locals := 0 }
theorem inX4_refuse_4 : ∀ w ∈ wsX40, w ∈ wsX4_refuse := by decide +kernel
def vX4_refuse (D : Nat → Int32) (Q : Int32 → (Nat → Int32) → Prop) : Prop := (Q (0 : Int32) (upd (upd D 2 (1 : Int32)) 3 (D 6)))
set_option maxHeartbeats 4000000 in
set_option maxRecDepth 100000 in
theorem wX4_refuse (l : Launch) (g : GP) (qd : Nat) (qtr : Nat) (qtx : Nat) (sz : Nat) (D : Nat → Int32) {Q : Int32 → (Nat → Int32) → Prop} (hv : vX4_refuse D Q) : Met l yX4_refuse wsX4_refuse rmX4_refuse (va_Pc [.ref qd] (fun U => U.heap.size = sz ∧ va_P g.1 vwCl [(qd, .inr (4, [.ref qtr, .ref qtx, .int (D 2), .int (D 3), .int (D 4), .int (D 5), .int (D 6), .int (D 7), .int (D 8)]))] U.heap ∧ GK g U ∧ va_D (fun _ => True) [(qd, .inr (4, [.ref qtr, .ref qtx, .int (D 2), .int (D 3), .int (D 4), .int (D 5), .int (D 6), .int (D 7), .int (D 8)]))])) (va_Qi (fun (r : Int32) (u : (Nat → Int32)) => Q r u) (fun (u : (Nat → Int32)) t => va_P g.1 vwCl [(qd, .inr (4, [.ref qtr, .ref qtx, .int (u 2), .int (u 3), .int (u 4), .int (u 5), .int (u 6), .int (u 7), .int (u 8)]))] t.heap ∧ va_D (va_A [(qd, .inr (4, [.ref qtr, .ref qtx, .int (D 2), .int (D 3), .int (D 4), .int (D 5), .int (D 6), .int (D 7), .int (D 8)]))] sz) [(qd, .inr (4, [.ref qtr, .ref qtx, .int (u 2), .int (u 3), .int (u 4), .int (u 5), .int (u 6), .int (u 7), .int (u 8)]))]) (va_A [(qd, .inr (4, [.ref qtr, .ref qtx, .int (D 2), .int (D 3), .int (D 4), .int (D 5), .int (D 6), .int (D 7), .int (D 8)]))] sz)) 0 0 (va_A [(qd, .inr (4, [.ref qtr, .ref qtx, .int (D 2), .int (D 3), .int (D 4), .int (D 5), .int (D 6), .int (D 7), .int (D 8)]))] sz) := by
  refine Met.ofW (cc := cX4_refuse) (maxL := 1) (ret := (some .boolean)) (by decide) rfl ?_
  intro p e s m args below meth c s₁ B hml hv'
  obtain ⟨rfl, hsz, hP, hG, hD0⟩ := hv'
  have S : CallFix p m c cX4_refuse 1 s _ wsX4_refuse RX4 := ⟨B.exec, B.bytes, hml, findClass_of_methodNamed B.named, atoms_spec (ws := wsX4_refuse) B.pre⟩
  obtain ⟨hx, hb, hml, hown, hts⟩ := id S
  have hK := hG.1
  have hr := B.returns
  have hlocks := B.notSynchronized
  subst hsz
  have hD := hD0.self (sz := s.heap.size)
  generalize hAe : va_A [(qd, .inr (4, [.ref qtr, .ref qtx, .int (D 2), .int (D 3), .int (D 4), .int (D 5), .int (D 6), .int (D 7), .int (D 8)]))] s.heap.size = A at hD ⊢
  have hA : ∀ q : Nat, s.heap.size ≤ q → A q := fun q h => by rw [← hAe]; exact Or.inr h
  have hS : va_S A s.heap s.heap [] := va_S.rf
  clear hD0 hAe
  have hl := lv_entry ([.ref qd]) (n := 1) (Nat.le_of_ble_eq_true rfl)
  rw [lg_entry_eq]
  generalize (lg_sl ([.ref qd]) ++ List.replicate (1 - (lg_sl ([.ref qd])).length) Slot.unset).toArray = ls at hl ⊢
  have hl : lv_has ls 1 [(0, .ref qd)] := hl
  unfold vX4_refuse at hv
  refine lv_aload_n hx hb dX4_refuse_0 rfl (lv_at hl 0 rfl) ?_
  refine lv_iconst (v := (1 : Int32)) hx hb dX4_refuse_1 (by decide) ?_
  refine va_put (D := g.1) (ci := 4) (v := .int (1 : Int32)) (ty := .int) (C := RX4) (T := TX4) (N := 9) hx hb hts inX4_refuse_4 tyX4 tyX4_ok nmX4 hown hK hP hD hS 0 rfl rfl 2 (by decide) (hts (.fieldLink RX4 25 "RangeCodes$Reader" "fault" "I") (List.mem_of_getElem? (i := 1) rfl)) (fun _ h9 => h9) rfl (by decide +kernel) rfl rfl (Nat.le_of_ble_eq_true rfl) dX4_refuse_2 (fun H locs hP hD hS => ?_)
  have hP : va_P g.1 vwCl [(qd, .inr (4, [.ref qtr, .ref qtx, .int (1 : Int32), .int (D 3), .int (D 4), .int (D 5), .int (D 6), .int (D 7), .int (D 8)]))] H := hP
  have hD : va_D A [(qd, .inr (4, [.ref qtr, .ref qtx, .int (1 : Int32), .int (D 3), .int (D 4), .int (D 5), .int (D 6), .int (D 7), .int (D 8)]))] := hD
  refine lv_aload_n hx hb dX4_refuse_5 rfl (lv_at hl 0 rfl) ?_
  refine lv_aload_n hx hb dX4_refuse_6 rfl (lv_at hl 0 rfl) ?_
  refine va_get (D := g.1) (ci := 4) (v := .int (D 6)) (C := RX4) (T := TX4) (N := 9) hx hb hts inX4_refuse_4 hown hK hP 0 rfl rfl 6 (by decide) (hts (.fieldLink RX4 100 "RangeCodes$Reader" "start" "I") (List.mem_of_getElem? (i := 2) rfl)) (fun _ h9 => h9) rfl dX4_refuse_7 ?_
  refine va_put (D := g.1) (ci := 4) (v := .int (D 6)) (ty := .int) (C := RX4) (T := TX4) (N := 9) hx hb hts inX4_refuse_4 tyX4 tyX4_ok nmX4 hown hK hP hD hS 0 rfl rfl 3 (by decide) (hts (.fieldLink RX4 29 "RangeCodes$Reader" "place" "I") (List.mem_of_getElem? (i := 3) rfl)) (fun _ h9 => h9) rfl (by decide +kernel) rfl rfl (Nat.le_of_ble_eq_true rfl) dX4_refuse_10 (fun H locs hP hD hS => ?_)
  have hP : va_P g.1 vwCl [(qd, .inr (4, [.ref qtr, .ref qtx, .int (1 : Int32), .int (D 6), .int (D 4), .int (D 5), .int (D 6), .int (D 7), .int (D 8)]))] H := hP
  have hD : va_D A [(qd, .inr (4, [.ref qtr, .ref qtx, .int (1 : Int32), .int (D 6), .int (D 4), .int (D 5), .int (D 6), .int (D 7), .int (D 8)]))] := hD
  refine lv_iconst (v := (0 : Int32)) hx hb dX4_refuse_13 (by decide) ?_
  have hP9 := hP.sub (ws' := [(qd, .inr (4, [.ref qtr, .ref qtx, .int ((upd (upd D 2 (1 : Int32)) 3 (D 6)) 2), .int ((upd (upd D 2 (1 : Int32)) 3 (D 6)) 3), .int ((upd (upd D 2 (1 : Int32)) 3 (D 6)) 4), .int ((upd (upd D 2 (1 : Int32)) 3 (D 6)) 5), .int ((upd (upd D 2 (1 : Int32)) 3 (D 6)) 6), .int ((upd (upd D 2 (1 : Int32)) 3 (D 6)) 7), .int ((upd (upd D 2 (1 : Int32)) 3 (D 6)) 8)]))]) [0] rfl
  have hD9 := hD.sub (ws' := [(qd, .inr (4, [.ref qtr, .ref qtx, .int ((upd (upd D 2 (1 : Int32)) 3 (D 6)) 2), .int ((upd (upd D 2 (1 : Int32)) 3 (D 6)) 3), .int ((upd (upd D 2 (1 : Int32)) 3 (D 6)) 4), .int ((upd (upd D 2 (1 : Int32)) 3 (D 6)) 5), .int ((upd (upd D 2 (1 : Int32)) 3 (D 6)) 6), .int ((upd (upd D 2 (1 : Int32)) 3 (D 6)) 7), .int ((upd (upd D 2 (1 : Int32)) 3 (D 6)) 8)]))]) [0] (by decide) rfl
  exact W.zret (v := (0 : Int32)) (ty := .boolean) hx hb hr rfl (fun t ht hW => ⟨⟨_, ((upd (upd D 2 (1 : Int32)) 3 (D 6))), rfl, hv, by rw [ht]; exact hP9, hD9⟩, hS.F ht⟩) hS.2.2 dX4_refuse_14
abbrev preX4_refuse (D : Nat → Int32) : Prop := True
abbrev postX4_refuse (D : Nat → Int32) (r : Int32) (D' : Nat → Int32) : Prop := r = 0 ∧ fl D' = (1, (D 6).toInt)
theorem sX4_refuse (D : Nat → Int32) (H : preX4_refuse D) : vX4_refuse D (postX4_refuse D) := ⟨rfl, rfl⟩
theorem dX4_note_0 : decode cX4_note 0 = .ok (.aload_n 0, 1) := by decide +kernel
theorem dX4_note_1 : decode cX4_note 1 = .ok (.getfield 25, 3) := by decide +kernel
theorem dX4_note_4 : decode cX4_note 4 = .ok (.ifCond .ne 16, 3) := by decide +kernel
theorem dX4_note_7 : decode cX4_note 7 = .ok (.aload_n 0, 1) := by decide +kernel
theorem dX4_note_8 : decode cX4_note 8 = .ok (.iload_n 1, 1) := by decide +kernel
theorem dX4_note_9 : decode cX4_note 9 = .ok (.putfield 25, 3) := by decide +kernel
theorem dX4_note_12 : decode cX4_note 12 = .ok (.aload_n 0, 1) := by decide +kernel
theorem dX4_note_13 : decode cX4_note 13 = .ok (.aload_n 0, 1) := by decide +kernel
theorem dX4_note_14 : decode cX4_note 14 = .ok (.getfield 100, 3) := by decide +kernel
theorem dX4_note_17 : decode cX4_note 17 = .ok (.putfield 29, 3) := by decide +kernel
theorem dX4_note_20 : decode cX4_note 20 = .ok (.return_, 1) := by decide +kernel
abbrev rmX4_note : Room := { frames := 0, cells := 0, slots := 0, locals := 0 }
theorem inX4_note_4 : ∀ w ∈ wsX40, w ∈ wsX4_note := by decide +kernel
def vX4_note (D : Nat → Int32) (p1 : Int32) (Q : (Nat → Int32) → Prop) : Prop := ((¬ (D 2) = 0 → (Q D)) ∧ ((D 2) = 0 → (Q (upd (upd D 2 p1) 3 (D 6)))))
set_option maxHeartbeats 4000000 in
set_option maxRecDepth 100000 in
theorem wX4_note (l : Launch) (g : GP) (qd : Nat) (qtr : Nat) (qtx : Nat) (sz : Nat) (D : Nat → Int32) (p1 : Int32) {Q : (Nat → Int32) → Prop} (hv : vX4_note D p1 Q) : Met l yX4_note wsX4_note rmX4_note (va_Pc [.ref qd, .int p1] (fun U => U.heap.size = sz ∧ va_P g.1 vwCl [(qd, .inr (4, [.ref qtr, .ref qtx, .int (D 2), .int (D 3), .int (D 4), .int (D 5), .int (D 6), .int (D 7), .int (D 8)]))] U.heap ∧ GK g U ∧ va_D (fun _ => True) [(qd, .inr (4, [.ref qtr, .ref qtx, .int (D 2), .int (D 3), .int (D 4), .int (D 5), .int (D 6), .int (D 7), .int (D 8)]))])) (va_Qv (fun (u : (Nat → Int32)) => Q u) (fun (u : (Nat → Int32)) t => va_P g.1 vwCl [(qd, .inr (4, [.ref qtr, .ref qtx, .int (u 2), .int (u 3), .int (u 4), .int (u 5), .int (u 6), .int (u 7), .int (u 8)]))] t.heap ∧ va_D (va_A [(qd, .inr (4, [.ref qtr, .ref qtx, .int (D 2), .int (D 3), .int (D 4), .int (D 5), .int (D 6), .int (D 7), .int (D 8)]))] sz) [(qd, .inr (4, [.ref qtr, .ref qtx, .int (u 2), .int (u 3), .int (u 4), .int (u 5), .int (u 6), .int (u 7), .int (u 8)]))]) (va_A [(qd, .inr (4, [.ref qtr, .ref qtx, .int (D 2), .int (D 3), .int (D 4), .int (D 5), .int (D 6), .int (D 7), .int (D 8)]))] sz)) 0 0 (va_A [(qd, .inr (4, [.ref qtr, .ref qtx, .int (D 2), .int (D 3), .int (D 4), .int (D 5), .int (D 6), .int (D 7), .int (D 8)]))] sz) := by
  refine Met.ofW (cc := cX4_note) (maxL := 2) (ret := none) (by decide) rfl ?_
  intro p e s m args below meth c s₁ B hml hv'
  obtain ⟨rfl, hsz, hP, hG, hD0⟩ := hv'
  have S : CallFix p m c cX4_note 2 s _ wsX4_note RX4 := ⟨B.exec, B.bytes, hml, findClass_of_methodNamed B.named, atoms_spec (ws := wsX4_note) B.pre⟩
  obtain ⟨hx, hb, hml, hown, hts⟩ := id S
  have hK := hG.1
  have hr := B.returns
  have hlocks := B.notSynchronized
  subst hsz
  have hD := hD0.self (sz := s.heap.size)
  generalize hAe : va_A [(qd, .inr (4, [.ref qtr, .ref qtx, .int (D 2), .int (D 3), .int (D 4), .int (D 5), .int (D 6), .int (D 7), .int (D 8)]))] s.heap.size = A at hD ⊢
  have hA : ∀ q : Nat, s.heap.size ≤ q → A q := fun q h => by rw [← hAe]; exact Or.inr h
  have hS : va_S A s.heap s.heap [] := va_S.rf
  clear hD0 hAe
  have hl := lv_entry ([.ref qd, .int p1]) (n := 2) (Nat.le_of_ble_eq_true rfl)
  rw [lg_entry_eq]
  generalize (lg_sl ([.ref qd, .int p1]) ++ List.replicate (2 - (lg_sl ([.ref qd, .int p1])).length) Slot.unset).toArray = ls at hl ⊢
  have hl : lv_has ls 2 [(0, .ref qd), (1, .int p1)] := hl
  unfold vX4_note at hv
  refine lv_aload_n hx hb dX4_note_0 rfl (lv_at hl 0 rfl) ?_
  refine va_get (D := g.1) (ci := 4) (v := .int (D 2)) (C := RX4) (T := TX4) (N := 9) hx hb hts inX4_note_4 hown hK hP 0 rfl rfl 2 (by decide) (hts (.fieldLink RX4 25 "RangeCodes$Reader" "fault" "I") (List.mem_of_getElem? (i := 1) rfl)) (fun _ h9 => h9) rfl dX4_note_1 ?_
  obtain ⟨hvt, hvf⟩ := hv
  refine lv_if_ne (tgt := 20) hx hb dX4_note_4 (by decide) (fun hc => ?_) (fun hc => ?_)
  · have hv := hvt hc
    have hP9 := hP.sub (ws' := [(qd, .inr (4, [.ref qtr, .ref qtx, .int (D 2), .int (D 3), .int (D 4), .int (D 5), .int (D 6), .int (D 7), .int (D 8)]))]) [0] rfl
    have hD9 := hD.sub (ws' := [(qd, .inr (4, [.ref qtr, .ref qtx, .int (D 2), .int (D 3), .int (D 4), .int (D 5), .int (D 6), .int (D 7), .int (D 8)]))]) [0] (by decide) rfl
    exact W.vret hx hb hr (fun t ht hW => ⟨⟨(D), rfl, hv, by rw [ht]; exact hP9, hD9⟩, hS.F ht⟩) hS.2.2 dX4_note_20
  · have hv := hvf hc
    refine lv_aload_n hx hb dX4_note_7 rfl (lv_at hl 0 rfl) ?_
    refine lv_iload_n hx hb dX4_note_8 rfl (lv_at hl 1 rfl) ?_
    refine va_put (D := g.1) (ci := 4) (v := .int p1) (ty := .int) (C := RX4) (T := TX4) (N := 9) hx hb hts inX4_note_4 tyX4 tyX4_ok nmX4 hown hK hP hD hS 0 rfl rfl 2 (by decide) (hts (.fieldLink RX4 25 "RangeCodes$Reader" "fault" "I") (List.mem_of_getElem? (i := 1) rfl)) (fun _ h9 => h9) rfl (by decide +kernel) rfl rfl (Nat.le_of_ble_eq_true rfl) dX4_note_9 (fun H locs hP hD hS => ?_)
    have hP : va_P g.1 vwCl [(qd, .inr (4, [.ref qtr, .ref qtx, .int p1, .int (D 3), .int (D 4), .int (D 5), .int (D 6), .int (D 7), .int (D 8)]))] H := hP
    have hD : va_D A [(qd, .inr (4, [.ref qtr, .ref qtx, .int p1, .int (D 3), .int (D 4), .int (D 5), .int (D 6), .int (D 7), .int (D 8)]))] := hD
    refine lv_aload_n hx hb dX4_note_12 rfl (lv_at hl 0 rfl) ?_
    refine lv_aload_n hx hb dX4_note_13 rfl (lv_at hl 0 rfl) ?_
    refine va_get (D := g.1) (ci := 4) (v := .int (D 6)) (C := RX4) (T := TX4) (N := 9) hx hb hts inX4_note_4 hown hK hP 0 rfl rfl 6 (by decide) (hts (.fieldLink RX4 100 "RangeCodes$Reader" "start" "I") (List.mem_of_getElem? (i := 2) rfl)) (fun _ h9 => h9) rfl dX4_note_14 ?_
    refine va_put (D := g.1) (ci := 4) (v := .int (D 6)) (ty := .int) (C := RX4) (T := TX4) (N := 9) hx hb hts inX4_note_4 tyX4 tyX4_ok nmX4 hown hK hP hD hS 0 rfl rfl 3 (by decide) (hts (.fieldLink RX4 29 "RangeCodes$Reader" "place" "I") (List.mem_of_getElem? (i := 3) rfl)) (fun _ h9 => h9) rfl (by decide +kernel) rfl rfl (Nat.le_of_ble_eq_true rfl) dX4_note_17 (fun H locs hP hD hS => ?_)
    have hP : va_P g.1 vwCl [(qd, .inr (4, [.ref qtr, .ref qtx, .int p1, .int (D 6), .int (D 4), .int (D 5), .int (D 6), .int (D 7), .int (D 8)]))] H := hP
    have hD : va_D A [(qd, .inr (4, [.ref qtr, .ref qtx, .int p1, .int (D 6), .int (D 4), .int (D 5), .int (D 6), .int (D 7), .int (D 8)]))] := hD
    have hP9 := hP.sub (ws' := [(qd, .inr (4, [.ref qtr, .ref qtx, .int ((upd (upd D 2 p1) 3 (D 6)) 2), .int ((upd (upd D 2 p1) 3 (D 6)) 3), .int ((upd (upd D 2 p1) 3 (D 6)) 4), .int ((upd (upd D 2 p1) 3 (D 6)) 5), .int ((upd (upd D 2 p1) 3 (D 6)) 6), .int ((upd (upd D 2 p1) 3 (D 6)) 7), .int ((upd (upd D 2 p1) 3 (D 6)) 8)]))]) [0] rfl
    have hD9 := hD.sub (ws' := [(qd, .inr (4, [.ref qtr, .ref qtx, .int ((upd (upd D 2 p1) 3 (D 6)) 2), .int ((upd (upd D 2 p1) 3 (D 6)) 3), .int ((upd (upd D 2 p1) 3 (D 6)) 4), .int ((upd (upd D 2 p1) 3 (D 6)) 5), .int ((upd (upd D 2 p1) 3 (D 6)) 6), .int ((upd (upd D 2 p1) 3 (D 6)) 7), .int ((upd (upd D 2 p1) 3 (D 6)) 8)]))]) [0] (by decide) rfl
    exact W.vret hx hb hr (fun t ht hW => ⟨⟨((upd (upd D 2 p1) 3 (D 6))), rfl, hv, by rw [ht]; exact hP9, hD9⟩, hS.F ht⟩) hS.2.2 dX4_note_20
abbrev preX4_note (D : Nat → Int32) (p1 : Int32) : Prop := 0 ≤ (D 6).toInt
abbrev postX4_note (D : Nat → Int32) (p1 : Int32) (D' : Nat → Int32) : Prop := fl D' = noF (fl D) p1.toInt (D 6).toInt.toNat ∧ ∀ k, 4 ≤ k → D' k = D k
theorem sX4_note (D : Nat → Int32) (p1 : Int32) (H : preX4_note D p1) : vX4_note D p1 (postX4_note D p1) := by
  unfold vX4_note
  rw [fa_eq (D 2), z0]
  refine ⟨fun c => ⟨(noF_k c).symm, fun _ _ => rfl⟩, fun c => ⟨?_, fun k hk => ?_⟩⟩
  · unfold noF
    rw [if_pos (show (fl D).1 = 0 from c)]
    show (p1.toInt, (D 6).toInt) = (p1.toInt, ((D 6).toInt.toNat : Int))
    rw [Int.toNat_of_nonneg H]
  · rw [upd_ne (by omega), upd_ne (by omega)]
set_option maxRecDepth 20000 in
theorem ggX4_readNumber_X4_step : GoodIn wsX4_readNumber wsX4_step := goodIn_r _ [7, 8, 9, 10, 11, 2, 1, 12, 13, 6, 14, 15, 16, 17, 18, 19, 20, 31, 32, 33, 34, 35, 36, 37, 38, 39] (by decide +kernel) (by decide +kernel)
set_option maxRecDepth 20000 in
theorem gX4_readNumber_X4_step : GoodIn wsX4_readNumber (wsV RX4 38 RX4 yX4_step wsX4_step) := goodIn_app (goodIn_of _ (by decide +kernel)) ggX4_readNumber_X4_step
set_option maxRecDepth 20000 in
theorem ggX4_readNumber_X4_refuse : GoodIn wsX4_readNumber wsX4_refuse := goodIn_r _ [24, 25, 11, 26, 31, 32, 33, 34, 35, 36, 37, 38, 39] (by decide +kernel) (by decide +kernel)
set_option maxRecDepth 20000 in
theorem gX4_readNumber_X4_refuse : GoodIn wsX4_readNumber (wsV RX4 83 RX4 yX4_refuse wsX4_refuse) := goodIn_app (goodIn_of _ (by decide +kernel)) ggX4_readNumber_X4_refuse
set_option maxRecDepth 20000 in
theorem ggX4_readNumber_X4_note : GoodIn wsX4_readNumber wsX4_note := goodIn_r _ [30, 25, 11, 26, 31, 32, 33, 34, 35, 36, 37, 38, 39] (by decide +kernel) (by decide +kernel)
set_option maxRecDepth 20000 in
theorem gX4_readNumber_X4_note : GoodIn wsX4_readNumber (wsV RX4 89 RX4 yX4_note wsX4_note) := goodIn_app (goodIn_of _ (by decide +kernel)) ggX4_readNumber_X4_note
theorem dX4_readNumber_0 : decode cX4_readNumber 0 = .ok (.aload_n 0, 1) := by decide +kernel
theorem dX4_readNumber_1 : decode cX4_readNumber 1 = .ok (.invokevirtual 38, 3) := by decide +kernel
theorem dX4_readNumber_4 : decode cX4_readNumber 4 = .ok (.aload_n 0, 1) := by decide +kernel
theorem dX4_readNumber_5 : decode cX4_readNumber 5 = .ok (.getfield 41, 3) := by decide +kernel
theorem dX4_readNumber_8 : decode cX4_readNumber 8 = .ok (.iconst 2, 1) := by decide +kernel
theorem dX4_readNumber_9 : decode cX4_readNumber 9 = .ok (.if_icmp .eq 8, 3) := by decide +kernel
theorem dX4_readNumber_12 : decode cX4_readNumber 12 = .ok (.aload_n 0, 1) := by decide +kernel
theorem dX4_readNumber_13 : decode cX4_readNumber 13 = .ok (.invokevirtual 83, 3) := by decide +kernel
theorem dX4_readNumber_16 : decode cX4_readNumber 16 = .ok (.ireturn, 1) := by decide +kernel
theorem dX4_readNumber_17 : decode cX4_readNumber 17 = .ok (.aload_n 0, 1) := by decide +kernel
theorem dX4_readNumber_18 : decode cX4_readNumber 18 = .ok (.getfield 63, 3) := by decide +kernel
theorem dX4_readNumber_21 : decode cX4_readNumber 21 = .ok (.iload_n 1, 1) := by decide +kernel
theorem dX4_readNumber_22 : decode cX4_readNumber 22 = .ok (.if_icmp .lt 11, 3) := by decide +kernel
theorem dX4_readNumber_25 : decode cX4_readNumber 25 = .ok (.aload_n 0, 1) := by decide +kernel
theorem dX4_readNumber_26 : decode cX4_readNumber 26 = .ok (.getfield 63, 3) := by decide +kernel
theorem dX4_readNumber_29 : decode cX4_readNumber 29 = .ok (.iload_n 2, 1) := by decide +kernel
theorem dX4_readNumber_30 : decode cX4_readNumber 30 = .ok (.if_icmp .le 8, 3) := by decide +kernel
theorem dX4_readNumber_33 : decode cX4_readNumber 33 = .ok (.aload_n 0, 1) := by decide +kernel
theorem dX4_readNumber_34 : decode cX4_readNumber 34 = .ok (.iconst 2, 1) := by decide +kernel
theorem dX4_readNumber_35 : decode cX4_readNumber 35 = .ok (.invokevirtual 89, 3) := by decide +kernel
theorem dX4_readNumber_38 : decode cX4_readNumber 38 = .ok (.iconst 1, 1) := by decide +kernel
theorem dX4_readNumber_39 : decode cX4_readNumber 39 = .ok (.ireturn, 1) := by decide +kernel
abbrev rmX4_readNumber : Room := { frames := 2, cells := 0, slots := 0, locals := 40 }
theorem inX4_readNumber_4 : ∀ w ∈ wsX40, w ∈ wsX4_readNumber := by decide +kernel
def vX4_readNumber (D : Nat → Int32) (tx : Nat → Int32) (p1 : Int32) (p2 : Int32) (Q : Int32 → (Nat → Int32) → Prop) : Prop := (∃ (b_1 : Nat → Int32) (nb_1 : Nat) (i_1 : Nat), preX4_step b_1 nb_1 i_1 D tx ∧ (∀ (D_1 : Nat → Int32), postX4_step b_1 nb_1 i_1 D tx D_1 → (((D_1 5) = (2 : Int32) → (((D_1 8) < p1 → (preX4_note D_1 (2 : Int32) ∧ (∀ (D_35 : Nat → Int32), postX4_note D_1 (2 : Int32) D_35 → (Q (1 : Int32) D_35)))) ∧ (¬ (D_1 8) < p1 → (((D_1 8) ≤ p2 → (Q (1 : Int32) D_1)) ∧ (¬ (D_1 8) ≤ p2 → (preX4_note D_1 (2 : Int32) ∧ (∀ (D_35 : Nat → Int32), postX4_note D_1 (2 : Int32) D_35 → (Q (1 : Int32) D_35)))))))) ∧ (¬ (D_1 5) = (2 : Int32) → (preX4_refuse D_1 ∧ (∀ (r_13 : Int32) (D_13 : Nat → Int32), postX4_refuse D_1 r_13 D_13 → (narrow .boolean (.int r_13) = .int r_13 ∧ (Q r_13 D_13))))))))
set_option maxHeartbeats 4000000 in
set_option maxRecDepth 100000 in
theorem wX4_readNumber (l : Launch) (g : GP) (qd : Nat) (qtr : Nat) (qtx : Nat) (sz : Nat) (D : Nat → Int32) (tx : Nat → Int32) (p1 : Int32) (p2 : Int32) {Q : Int32 → (Nat → Int32) → Prop} (hv : vX4_readNumber D tx p1 p2 Q) : Met l yX4_readNumber wsX4_readNumber rmX4_readNumber (va_Pc [.ref qd, .int p1, .int p2] (fun U => U.heap.size = sz ∧ va_P g.1 vwCl [(qd, .inr (4, [.ref qtr, .ref qtx, .int (D 2), .int (D 3), .int (D 4), .int (D 5), .int (D 6), .int (D 7), .int (D 8)])), (qtx, .inl (g.2 1, 500, .inl tx))] U.heap ∧ GK g U ∧ va_D (fun _ => True) [(qd, .inr (4, [.ref qtr, .ref qtx, .int (D 2), .int (D 3), .int (D 4), .int (D 5), .int (D 6), .int (D 7), .int (D 8)])), (qtx, .inl (g.2 1, 500, .inl tx))])) (va_Qi (fun (r : Int32) (u : (Nat → Int32)) => Q r u) (fun (u : (Nat → Int32)) t => va_P g.1 vwCl [(qd, .inr (4, [.ref qtr, .ref qtx, .int (u 2), .int (u 3), .int (u 4), .int (u 5), .int (u 6), .int (u 7), .int (u 8)])), (qtx, .inl (g.2 1, 500, .inl tx))] t.heap ∧ va_D (va_A [(qd, .inr (4, [.ref qtr, .ref qtx, .int (D 2), .int (D 3), .int (D 4), .int (D 5), .int (D 6), .int (D 7), .int (D 8)])), (qtx, .inl (g.2 1, 500, .inl tx))] sz) [(qd, .inr (4, [.ref qtr, .ref qtx, .int (u 2), .int (u 3), .int (u 4), .int (u 5), .int (u 6), .int (u 7), .int (u 8)])), (qtx, .inl (g.2 1, 500, .inl tx))]) (va_A [(qd, .inr (4, [.ref qtr, .ref qtx, .int (D 2), .int (D 3), .int (D 4), .int (D 5), .int (D 6), .int (D 7), .int (D 8)])), (qtx, .inl (g.2 1, 500, .inl tx))] sz)) 0 0 (va_A [(qd, .inr (4, [.ref qtr, .ref qtx, .int (D 2), .int (D 3), .int (D 4), .int (D 5), .int (D 6), .int (D 7), .int (D 8)])), (qtx, .inl (g.2 1, 500, .inl tx))] sz) := by
  refine Met.ofW (cc := cX4_readNumber) (maxL := 3) (ret := (some .boolean)) (by decide) rfl ?_
  intro p e s m args below meth c s₁ B hml hv'
  obtain ⟨rfl, hsz, hP, hG, hD0⟩ := hv'
  have S : CallFix p m c cX4_readNumber 3 s _ wsX4_readNumber RX4 := ⟨B.exec, B.bytes, hml, findClass_of_methodNamed B.named, atoms_spec (ws := wsX4_readNumber) B.pre⟩
  obtain ⟨hx, hb, hml, hown, hts⟩ := id S
  have hK := hG.1
  have hr := B.returns
  have hlocks := B.notSynchronized
  subst hsz
  have hD := hD0.self (sz := s.heap.size)
  generalize hAe : va_A [(qd, .inr (4, [.ref qtr, .ref qtx, .int (D 2), .int (D 3), .int (D 4), .int (D 5), .int (D 6), .int (D 7), .int (D 8)])), (qtx, .inl (g.2 1, 500, .inl tx))] s.heap.size = A at hD ⊢
  have hA : ∀ q : Nat, s.heap.size ≤ q → A q := fun q h => by rw [← hAe]; exact Or.inr h
  have hS : va_S A s.heap s.heap [] := va_S.rf
  clear hD0 hAe
  have hl := lv_entry ([.ref qd, .int p1, .int p2]) (n := 3) (Nat.le_of_ble_eq_true rfl)
  rw [lg_entry_eq]
  generalize (lg_sl ([.ref qd, .int p1, .int p2]) ++ List.replicate (3 - (lg_sl ([.ref qd, .int p1, .int p2])).length) Slot.unset).toArray = ls at hl ⊢
  have hl : lv_has ls 3 [(0, .ref qd), (1, .int p1), (2, .int p2)] := hl
  unfold vX4_readNumber at hv
  refine lv_aload_n hx hb dX4_readNumber_0 rfl (lv_at hl 0 rfl) ?_
  obtain ⟨b_1, nb_1, i_1, ho_1, hv⟩ := hv
  have hPc := hP.sub (ws' := [(qd, .inr (4, [.ref qtr, .ref qtx, .int (D 2), .int (D 3), .int (D 4), .int (D 5), .int (D 6), .int (D 7), .int (D 8)])), (qtx, .inl (g.2 1, 500, .inl tx))]) [0, 1] rfl
  have hDc := hD.sub (ws' := [(qd, .inr (4, [.ref qtr, .ref qtx, .int (D 2), .int (D 3), .int (D 4), .int (D 5), .int (D 6), .int (D 7), .int (D 8)])), (qtx, .inl (g.2 1, 500, .inl tx))]) [0, 1] (by decide) rfl
  have hFc := va_free (wc := [(qd, .inr (4, [.ref qtr, .ref qtx, .int (D 2), .int (D 3), .int (D 4), .int (D 5), .int (D 6), .int (D 7), .int (D 8)])), (qtx, .inl (g.2 1, 500, .inl tx))]) hD hS hA [0, 1] rfl
  refine va_callv (va_runV (As := []) (rest := []) S (wX4_step l g qd qtr qtx s.heap.size D tx (sX4_step b_1 nb_1 i_1 D tx ho_1)) (cwV 0 hts gX4_readNumber_X4_step rfl rfl rfl (by decide +kernel) ⟨Nat.le_of_ble_eq_true rfl, Nat.le_of_ble_eq_true rfl⟩) ⟨blindRW, va_recv hK hP (ci := 4) (q0 := 0) rfl rfl, fun U hU hW => ⟨rfl, by rw [hU], by rw [hU]; exact hPc, hG.warm hW, hDc.weaken (fun _ _ _ _ => trivial)⟩⟩ rfl rfl hl.1 rfl (lv_room (Nat.le_of_ble_eq_true rfl)) dX4_readNumber_1 ⟨Nat.le_of_ble_eq_true rfl, Nat.le_of_ble_eq_true rfl⟩) hS (fun q _ h => hFc q h) hFc (fun u t H1 locs ht hvm hw hB hz1 hk1 hS => ?_)
  obtain ⟨D_1, rfl⟩ : ∃ z, z = u := ⟨_, rfl⟩
  obtain ⟨hP1, hD1⟩ := hB
  rw [ht] at hP1
  have hv := hv D_1 hw
  obtain ⟨hP, hD⟩ := va_join (wr := []) (w1 := [(qd, .inr (4, [.ref qtr, .ref qtx, .int (D_1 2), .int (D_1 3), .int (D_1 4), .int (D_1 5), .int (D_1 6), .int (D_1 7), .int (D_1 8)])), (qtx, .inl (g.2 1, 500, .inl tx))]) hP hD [0, 1] [] rfl rfl (by decide) (by decide) hk1 hFc hP1 hD1
  clear hP1 hD1 hPc hDc hFc hk1
  generalize H1 = H at hP hS ⊢
  have hP : va_P g.1 vwCl [(qd, .inr (4, [.ref qtr, .ref qtx, .int (D_1 2), .int (D_1 3), .int (D_1 4), .int (D_1 5), .int (D_1 6), .int (D_1 7), .int (D_1 8)])), (qtx, .inl (g.2 1, 500, .inl tx))] H := hP
  have hD : va_D A [(qd, .inr (4, [.ref qtr, .ref qtx, .int (D_1 2), .int (D_1 3), .int (D_1 4), .int (D_1 5), .int (D_1 6), .int (D_1 7), .int (D_1 8)])), (qtx, .inl (g.2 1, 500, .inl tx))] := hD
  refine lv_aload_n hx hb dX4_readNumber_4 rfl (lv_at hl 0 rfl) ?_
  refine va_get (D := g.1) (ci := 4) (v := .int (D_1 5)) (C := RX4) (T := TX4) (N := 9) hx hb hts inX4_readNumber_4 hown hK hP 0 rfl rfl 5 (by decide) (hts (.fieldLink RX4 41 "RangeCodes$Reader" "kind" "I") (List.mem_of_getElem? (i := 1) rfl)) (fun _ h9 => h9) rfl dX4_readNumber_5 ?_
  refine lv_iconst (v := (2 : Int32)) hx hb dX4_readNumber_8 (by decide) ?_
  obtain ⟨hvt, hvf⟩ := hv
  refine lv_icmp_eq (tgt := 17) hx hb dX4_readNumber_9 (by decide) (fun hc => ?_) (fun hc => ?_)
  · have hv := hvt hc
    refine lv_aload_n hx hb dX4_readNumber_17 rfl (lv_at hl 0 rfl) ?_
    refine va_get (D := g.1) (ci := 4) (v := .int (D_1 8)) (C := RX4) (T := TX4) (N := 9) hx hb hts inX4_readNumber_4 hown hK hP 0 rfl rfl 8 (by decide) (hts (.fieldLink RX4 63 "RangeCodes$Reader" "value" "I") (List.mem_of_getElem? (i := 2) rfl)) (fun _ h9 => h9) rfl dX4_readNumber_18 ?_
    refine lv_iload_n hx hb dX4_readNumber_21 rfl (lv_at hl 1 rfl) ?_
    obtain ⟨hvt, hvf⟩ := hv
    refine lv_icmp_lt (tgt := 33) hx hb dX4_readNumber_22 (by decide) (fun hc => ?_) (fun hc => ?_)
    · have hv := hvt hc
      refine lv_aload_n hx hb dX4_readNumber_33 rfl (lv_at hl 0 rfl) ?_
      refine lv_iconst (v := (2 : Int32)) hx hb dX4_readNumber_34 (by decide) ?_
      obtain ⟨ho_2, hv⟩ := hv
      have hPc := hP.sub (ws' := [(qd, .inr (4, [.ref qtr, .ref qtx, .int (D_1 2), .int (D_1 3), .int (D_1 4), .int (D_1 5), .int (D_1 6), .int (D_1 7), .int (D_1 8)]))]) [0] rfl
      have hDc := hD.sub (ws' := [(qd, .inr (4, [.ref qtr, .ref qtx, .int (D_1 2), .int (D_1 3), .int (D_1 4), .int (D_1 5), .int (D_1 6), .int (D_1 7), .int (D_1 8)]))]) [0] (by decide) rfl
      have hFc := va_free (wc := [(qd, .inr (4, [.ref qtr, .ref qtx, .int (D_1 2), .int (D_1 3), .int (D_1 4), .int (D_1 5), .int (D_1 6), .int (D_1 7), .int (D_1 8)]))]) hD hS hA [0] rfl
      refine va_callv (va_runV (As := [.int (2 : Int32)]) (rest := []) S (wX4_note l g qd qtr qtx H.size D_1 (2 : Int32) (sX4_note D_1 (2 : Int32) ho_2)) (cwV 1 hts gX4_readNumber_X4_note rfl rfl rfl (by decide +kernel) ⟨Nat.le_of_ble_eq_true rfl, Nat.le_of_ble_eq_true rfl⟩) ⟨blindRW, va_recv hK hP (ci := 4) (q0 := 0) rfl rfl, fun U hU hW => ⟨rfl, by rw [hU], by rw [hU]; exact hPc, hG.warm hW, hDc.weaken (fun _ _ _ _ => trivial)⟩⟩ rfl rfl hl.1 rfl (lv_room (Nat.le_of_ble_eq_true rfl)) dX4_readNumber_35 ⟨Nat.le_of_ble_eq_true rfl, Nat.le_of_ble_eq_true rfl⟩) hS (fun q _ h => hFc q h) hFc (fun u t H1 locs ht hvm hw hB hz1 hk1 hS => ?_)
      obtain ⟨D_35, rfl⟩ : ∃ z, z = u := ⟨_, rfl⟩
      obtain ⟨hP1, hD1⟩ := hB
      rw [ht] at hP1
      have hv := hv D_35 hw
      obtain ⟨hP, hD⟩ := va_join (wr := [(qtx, .inl (g.2 1, 500, .inl tx))]) (w1 := [(qd, .inr (4, [.ref qtr, .ref qtx, .int (D_35 2), .int (D_35 3), .int (D_35 4), .int (D_35 5), .int (D_35 6), .int (D_35 7), .int (D_35 8)]))]) hP hD [0] [1] rfl rfl (by decide) (by decide) hk1 hFc hP1 hD1
      clear hP1 hD1 hPc hDc hFc hk1
      generalize H1 = H at hP hS ⊢
      have hP : va_P g.1 vwCl [(qtx, .inl (g.2 1, 500, .inl tx)), (qd, .inr (4, [.ref qtr, .ref qtx, .int (D_35 2), .int (D_35 3), .int (D_35 4), .int (D_35 5), .int (D_35 6), .int (D_35 7), .int (D_35 8)]))] H := hP
      have hD : va_D A [(qtx, .inl (g.2 1, 500, .inl tx)), (qd, .inr (4, [.ref qtr, .ref qtx, .int (D_35 2), .int (D_35 3), .int (D_35 4), .int (D_35 5), .int (D_35 6), .int (D_35 7), .int (D_35 8)]))] := hD
      refine lv_iconst (v := (1 : Int32)) hx hb dX4_readNumber_38 (by decide) ?_
      have hP9 := hP.sub (ws' := [(qd, .inr (4, [.ref qtr, .ref qtx, .int (D_35 2), .int (D_35 3), .int (D_35 4), .int (D_35 5), .int (D_35 6), .int (D_35 7), .int (D_35 8)])), (qtx, .inl (g.2 1, 500, .inl tx))]) [1, 0] rfl
      have hD9 := hD.sub (ws' := [(qd, .inr (4, [.ref qtr, .ref qtx, .int (D_35 2), .int (D_35 3), .int (D_35 4), .int (D_35 5), .int (D_35 6), .int (D_35 7), .int (D_35 8)])), (qtx, .inl (g.2 1, 500, .inl tx))]) [1, 0] (by decide) rfl
      exact W.zret (v := (1 : Int32)) (ty := .boolean) hx hb hr rfl (fun t ht hW => ⟨⟨_, (D_35), rfl, hv, by rw [ht]; exact hP9, hD9⟩, hS.F ht⟩) hS.2.2 dX4_readNumber_39
    · have hv := hvf hc
      refine lv_aload_n hx hb dX4_readNumber_25 rfl (lv_at hl 0 rfl) ?_
      refine va_get (D := g.1) (ci := 4) (v := .int (D_1 8)) (C := RX4) (T := TX4) (N := 9) hx hb hts inX4_readNumber_4 hown hK hP 0 rfl rfl 8 (by decide) (hts (.fieldLink RX4 63 "RangeCodes$Reader" "value" "I") (List.mem_of_getElem? (i := 2) rfl)) (fun _ h9 => h9) rfl dX4_readNumber_26 ?_
      refine lv_iload_n hx hb dX4_readNumber_29 rfl (lv_at hl 2 rfl) ?_
      obtain ⟨hvt, hvf⟩ := hv
      refine lv_icmp_le (tgt := 38) hx hb dX4_readNumber_30 (by decide) (fun hc => ?_) (fun hc => ?_)
      · have hv := hvt hc
        refine lv_iconst (v := (1 : Int32)) hx hb dX4_readNumber_38 (by decide) ?_
        have hP9 := hP.sub (ws' := [(qd, .inr (4, [.ref qtr, .ref qtx, .int (D_1 2), .int (D_1 3), .int (D_1 4), .int (D_1 5), .int (D_1 6), .int (D_1 7), .int (D_1 8)])), (qtx, .inl (g.2 1, 500, .inl tx))]) [0, 1] rfl
        have hD9 := hD.sub (ws' := [(qd, .inr (4, [.ref qtr, .ref qtx, .int (D_1 2), .int (D_1 3), .int (D_1 4), .int (D_1 5), .int (D_1 6), .int (D_1 7), .int (D_1 8)])), (qtx, .inl (g.2 1, 500, .inl tx))]) [0, 1] (by decide) rfl
        exact W.zret (v := (1 : Int32)) (ty := .boolean) hx hb hr rfl (fun t ht hW => ⟨⟨_, (D_1), rfl, hv, by rw [ht]; exact hP9, hD9⟩, hS.F ht⟩) hS.2.2 dX4_readNumber_39
      · have hv := hvf hc
        refine lv_aload_n hx hb dX4_readNumber_33 rfl (lv_at hl 0 rfl) ?_
        refine lv_iconst (v := (2 : Int32)) hx hb dX4_readNumber_34 (by decide) ?_
        obtain ⟨ho_3, hv⟩ := hv
        have hPc := hP.sub (ws' := [(qd, .inr (4, [.ref qtr, .ref qtx, .int (D_1 2), .int (D_1 3), .int (D_1 4), .int (D_1 5), .int (D_1 6), .int (D_1 7), .int (D_1 8)]))]) [0] rfl
        have hDc := hD.sub (ws' := [(qd, .inr (4, [.ref qtr, .ref qtx, .int (D_1 2), .int (D_1 3), .int (D_1 4), .int (D_1 5), .int (D_1 6), .int (D_1 7), .int (D_1 8)]))]) [0] (by decide) rfl
        have hFc := va_free (wc := [(qd, .inr (4, [.ref qtr, .ref qtx, .int (D_1 2), .int (D_1 3), .int (D_1 4), .int (D_1 5), .int (D_1 6), .int (D_1 7), .int (D_1 8)]))]) hD hS hA [0] rfl
        refine va_callv (va_runV (As := [.int (2 : Int32)]) (rest := []) S (wX4_note l g qd qtr qtx H.size D_1 (2 : Int32) (sX4_note D_1 (2 : Int32) ho_3)) (cwV 1 hts gX4_readNumber_X4_note rfl rfl rfl (by decide +kernel) ⟨Nat.le_of_ble_eq_true rfl, Nat.le_of_ble_eq_true rfl⟩) ⟨blindRW, va_recv hK hP (ci := 4) (q0 := 0) rfl rfl, fun U hU hW => ⟨rfl, by rw [hU], by rw [hU]; exact hPc, hG.warm hW, hDc.weaken (fun _ _ _ _ => trivial)⟩⟩ rfl rfl hl.1 rfl (lv_room (Nat.le_of_ble_eq_true rfl)) dX4_readNumber_35 ⟨Nat.le_of_ble_eq_true rfl, Nat.le_of_ble_eq_true rfl⟩) hS (fun q _ h => hFc q h) hFc (fun u t H1 locs ht hvm hw hB hz1 hk1 hS => ?_)
        obtain ⟨D_35, rfl⟩ : ∃ z, z = u := ⟨_, rfl⟩
        obtain ⟨hP1, hD1⟩ := hB
        rw [ht] at hP1
        have hv := hv D_35 hw
        obtain ⟨hP, hD⟩ := va_join (wr := [(qtx, .inl (g.2 1, 500, .inl tx))]) (w1 := [(qd, .inr (4, [.ref qtr, .ref qtx, .int (D_35 2), .int (D_35 3), .int (D_35 4), .int (D_35 5), .int (D_35 6), .int (D_35 7), .int (D_35 8)]))]) hP hD [0] [1] rfl rfl (by decide) (by decide) hk1 hFc hP1 hD1
        clear hP1 hD1 hPc hDc hFc hk1
        generalize H1 = H at hP hS ⊢
        have hP : va_P g.1 vwCl [(qtx, .inl (g.2 1, 500, .inl tx)), (qd, .inr (4, [.ref qtr, .ref qtx, .int (D_35 2), .int (D_35 3), .int (D_35 4), .int (D_35 5), .int (D_35 6), .int (D_35 7), .int (D_35 8)]))] H := hP
        have hD : va_D A [(qtx, .inl (g.2 1, 500, .inl tx)), (qd, .inr (4, [.ref qtr, .ref qtx, .int (D_35 2), .int (D_35 3), .int (D_35 4), .int (D_35 5), .int (D_35 6), .int (D_35 7), .int (D_35 8)]))] := hD
        refine lv_iconst (v := (1 : Int32)) hx hb dX4_readNumber_38 (by decide) ?_
        have hP9 := hP.sub (ws' := [(qd, .inr (4, [.ref qtr, .ref qtx, .int (D_35 2), .int (D_35 3), .int (D_35 4), .int (D_35 5), .int (D_35 6), .int (D_35 7), .int (D_35 8)])), (qtx, .inl (g.2 1, 500, .inl tx))]) [1, 0] rfl
        have hD9 := hD.sub (ws' := [(qd, .inr (4, [.ref qtr, .ref qtx, .int (D_35 2), .int (D_35 3), .int (D_35 4), .int (D_35 5), .int (D_35 6), .int (D_35 7), .int (D_35 8)])), (qtx, .inl (g.2 1, 500, .inl tx))]) [1, 0] (by decide) rfl
        exact W.zret (v := (1 : Int32)) (ty := .boolean) hx hb hr rfl (fun t ht hW => ⟨⟨_, (D_35), rfl, hv, by rw [ht]; exact hP9, hD9⟩, hS.F ht⟩) hS.2.2 dX4_readNumber_39
  · have hv := hvf hc
    refine lv_aload_n hx hb dX4_readNumber_12 rfl (lv_at hl 0 rfl) ?_
    obtain ⟨ho_4, hv⟩ := hv
    have hPc := hP.sub (ws' := [(qd, .inr (4, [.ref qtr, .ref qtx, .int (D_1 2), .int (D_1 3), .int (D_1 4), .int (D_1 5), .int (D_1 6), .int (D_1 7), .int (D_1 8)]))]) [0] rfl
    have hDc := hD.sub (ws' := [(qd, .inr (4, [.ref qtr, .ref qtx, .int (D_1 2), .int (D_1 3), .int (D_1 4), .int (D_1 5), .int (D_1 6), .int (D_1 7), .int (D_1 8)]))]) [0] (by decide) rfl
    have hFc := va_free (wc := [(qd, .inr (4, [.ref qtr, .ref qtx, .int (D_1 2), .int (D_1 3), .int (D_1 4), .int (D_1 5), .int (D_1 6), .int (D_1 7), .int (D_1 8)]))]) hD hS hA [0] rfl
    refine va_calli (va_runV (As := []) (rest := []) S (wX4_refuse l g qd qtr qtx H.size D_1 (sX4_refuse D_1 ho_4)) (cwV 0 hts gX4_readNumber_X4_refuse rfl rfl rfl (by decide +kernel) ⟨Nat.le_of_ble_eq_true rfl, Nat.le_of_ble_eq_true rfl⟩) ⟨blindRW, va_recv hK hP (ci := 4) (q0 := 0) rfl rfl, fun U hU hW => ⟨rfl, by rw [hU], by rw [hU]; exact hPc, hG.warm hW, hDc.weaken (fun _ _ _ _ => trivial)⟩⟩ rfl rfl hl.1 rfl (lv_room (Nat.le_of_ble_eq_true rfl)) dX4_readNumber_13 ⟨Nat.le_of_ble_eq_true rfl, Nat.le_of_ble_eq_true rfl⟩) hS (fun q _ h => hFc q h) hFc (fun r_13 u t H1 locs ht hvm hw hB hz1 hk1 hS => ?_)
    obtain ⟨D_13, rfl⟩ : ∃ z, z = u := ⟨_, rfl⟩
    obtain ⟨hP1, hD1⟩ := hB
    rw [ht] at hP1
    have hv := hv r_13 D_13 hw
    obtain ⟨hP, hD⟩ := va_join (wr := [(qtx, .inl (g.2 1, 500, .inl tx))]) (w1 := [(qd, .inr (4, [.ref qtr, .ref qtx, .int (D_13 2), .int (D_13 3), .int (D_13 4), .int (D_13 5), .int (D_13 6), .int (D_13 7), .int (D_13 8)]))]) hP hD [0] [1] rfl rfl (by decide) (by decide) hk1 hFc hP1 hD1
    clear hP1 hD1 hPc hDc hFc hk1
    generalize H1 = H at hP hS ⊢
    have hP : va_P g.1 vwCl [(qtx, .inl (g.2 1, 500, .inl tx)), (qd, .inr (4, [.ref qtr, .ref qtx, .int (D_13 2), .int (D_13 3), .int (D_13 4), .int (D_13 5), .int (D_13 6), .int (D_13 7), .int (D_13 8)]))] H := hP
    have hD : va_D A [(qtx, .inl (g.2 1, 500, .inl tx)), (qd, .inr (4, [.ref qtr, .ref qtx, .int (D_13 2), .int (D_13 3), .int (D_13 4), .int (D_13 5), .int (D_13 6), .int (D_13 7), .int (D_13 8)]))] := hD
    have hP9 := hP.sub (ws' := [(qd, .inr (4, [.ref qtr, .ref qtx, .int (D_13 2), .int (D_13 3), .int (D_13 4), .int (D_13 5), .int (D_13 6), .int (D_13 7), .int (D_13 8)])), (qtx, .inl (g.2 1, 500, .inl tx))]) [1, 0] rfl
    have hD9 := hD.sub (ws' := [(qd, .inr (4, [.ref qtr, .ref qtx, .int (D_13 2), .int (D_13 3), .int (D_13 4), .int (D_13 5), .int (D_13 6), .int (D_13 7), .int (D_13 8)])), (qtx, .inl (g.2 1, 500, .inl tx))]) [1, 0] (by decide) rfl
    obtain ⟨hn, hv⟩ := hv
    exact W.zret (v := r_13) (ty := .boolean) hx hb hr hn (fun t ht hW => ⟨⟨_, (D_13), rfl, hv, by rw [ht]; exact hP9, hD9⟩, hS.F ht⟩) hS.2.2 dX4_readNumber_16
theorem rdK_kp {b : Nat → Int32} {nb i : Nat} {D D' : Nat → Int32} (h : rdK b nb i D) (hk : ∀ k, 4 ≤ k → D' k = D k) : rdK b nb i D' := by
  unfold rdK
  rw [hk 4 (by decide), hk 5 (by decide), hk 6 (by decide), hk 7 (by decide), hk 8 (by decide)]
  exact h
theorem fl_kp {D D' : Nat → Int32} (h : kp23 D D') : fl D' = fl D := by unfold fl; rw [h.1, h.2]
abbrev preX4_readNumber (b : Nat → Int32) (nb : Nat) (i : Nat) (D : Nat → Int32) (tx : Nat → Int32) (p1 : Int32) (p2 : Int32) : Prop := preX4_step b nb i D tx
abbrev postX4_readNumber (b : Nat → Int32) (nb : Nat) (i : Nat) (D : Nat → Int32) (tx : Nat → Int32) (p1 : Int32) (p2 : Int32) (r : Int32) (D' : Nat → Int32) : Prop := (r = if (numS b nb i p1.toInt p2.toInt (fl D)).1 = true then 1 else 0) ∧ fl D' = (numS b nb i p1.toInt p2.toInt (fl D)).2.2 ∧ ((numS b nb i p1.toInt p2.toInt (fl D)).1 = true → rdK b nb i D')
theorem sX4_readNumber (b : Nat → Int32) (nb : Nat) (i : Nat) (D : Nat → Int32) (tx : Nat → Int32) (p1 : Int32) (p2 : Int32) (H : preX4_readNumber b nb i D tx p1 p2) : vX4_readNumber D tx p1 p2 (postX4_readNumber b nb i D tx p1 p2) := by
  refine ⟨b, nb, i, H, fun D1 h1 => ?_⟩
  obtain ⟨hr, hk⟩ := h1
  obtain ⟨h4, hnb, hi, h6, h7, h5, h8⟩ := id hr
  have hf := fl_kp hk
  rw [fa_eq (D1 5), h5, z2]
  refine ⟨fun c => ?_, fun c => ⟨trivial, fun r D2 h2 => ?_⟩⟩
  · have c : tK b nb i = 2 := by omega
    have h8 := h8 c
    have en : ∀ D3 : Nat → Int32, fl D3 = (if (tV b nb i : Int) < p1.toInt ∨ p2.toInt < (tV b nb i : Int) then noF (fl D) 2 (tS b nb i) else fl D) → rdK b nb i D3 → postX4_readNumber b nb i D tx p1 p2 1 D3 := fun D3 e1 e2 => by
      unfold postX4_readNumber numS
      rw [if_pos c]
      exact ⟨rfl, e1, fun _ => e2⟩
    have nt : ∀ _ : (tV b nb i : Int) < p1.toInt ∨ p2.toInt < (tV b nb i : Int), preX4_note D1 (2 : Int32) ∧ (∀ D_35 : Nat → Int32, postX4_note D1 (2 : Int32) D_35 → postX4_readNumber b nb i D tx p1 p2 1 D_35) := fun q => ⟨by show 0 ≤ (D1 6).toInt; omega, fun D3 h3 => en D3 (by
      rw [h3.1, hf, if_pos q, h6]; rfl) (rdK_kp hr h3.2)⟩
    rw [fa_lt (D1 8), h8, fa_le (D1 8), h8]
    exact ⟨fun d => nt (Or.inl d), fun d => ⟨fun e => en D1 (by rw [hf, if_neg (by omega)]) hr, fun e => nt (Or.inr (by omega))⟩⟩
  · have c : ¬ tK b nb i = 2 := fun q => c (by omega)
    obtain ⟨hr2, hf2⟩ := h2
    subst hr2
    refine ⟨rfl, ?_⟩
    unfold postX4_readNumber numS
    rw [if_neg c]
    exact ⟨rfl, by rw [hf2, h6]; rfl, fun q => absurd q rfS_1⟩
set_option maxRecDepth 20000 in
theorem ggX4_readSign_X4_step : GoodIn wsX4_readSign wsX4_step := goodIn_r _ [6, 7, 8, 9, 10, 11, 1, 12, 13, 5, 14, 15, 16, 17, 18, 19, 20, 27, 28, 29, 30, 31, 32, 33, 34, 35] (by decide +kernel) (by decide +kernel)
set_option maxRecDepth 20000 in
theorem gX4_readSign_X4_step : GoodIn wsX4_readSign (wsV RX4 38 RX4 yX4_step wsX4_step) := goodIn_app (goodIn_of _ (by decide +kernel)) ggX4_readSign_X4_step
set_option maxRecDepth 20000 in
theorem ggX4_readSign_X4_refuse : GoodIn wsX4_readSign wsX4_refuse := goodIn_r _ [24, 25, 10, 26, 27, 28, 29, 30, 31, 32, 33, 34, 35] (by decide +kernel) (by decide +kernel)
set_option maxRecDepth 20000 in
theorem gX4_readSign_X4_refuse : GoodIn wsX4_readSign (wsV RX4 83 RX4 yX4_refuse wsX4_refuse) := goodIn_app (goodIn_of _ (by decide +kernel)) ggX4_readSign_X4_refuse
theorem dX4_readSign_0 : decode cX4_readSign 0 = .ok (.aload_n 0, 1) := by decide +kernel
theorem dX4_readSign_1 : decode cX4_readSign 1 = .ok (.invokevirtual 38, 3) := by decide +kernel
theorem dX4_readSign_4 : decode cX4_readSign 4 = .ok (.aload_n 0, 1) := by decide +kernel
theorem dX4_readSign_5 : decode cX4_readSign 5 = .ok (.getfield 41, 3) := by decide +kernel
theorem dX4_readSign_8 : decode cX4_readSign 8 = .ok (.iconst 3, 1) := by decide +kernel
theorem dX4_readSign_9 : decode cX4_readSign 9 = .ok (.if_icmp .eq 10, 3) := by decide +kernel
theorem dX4_readSign_12 : decode cX4_readSign 12 = .ok (.aload_n 0, 1) := by decide +kernel
theorem dX4_readSign_13 : decode cX4_readSign 13 = .ok (.invokevirtual 83, 3) := by decide +kernel
theorem dX4_readSign_16 : decode cX4_readSign 16 = .ok (.ifCond .eq 7, 3) := by decide +kernel
theorem dX4_readSign_19 : decode cX4_readSign 19 = .ok (.iconst 1, 1) := by decide +kernel
theorem dX4_readSign_20 : decode cX4_readSign 20 = .ok (.goto 4, 3) := by decide +kernel
theorem dX4_readSign_23 : decode cX4_readSign 23 = .ok (.iconst 0, 1) := by decide +kernel
theorem dX4_readSign_24 : decode cX4_readSign 24 = .ok (.ireturn, 1) := by decide +kernel
abbrev rmX4_readSign : Room := { frames := 2, cells := 0, slots := 0, locals := 40 }
theorem inX4_readSign_4 : ∀ w ∈ wsX40, w ∈ wsX4_readSign := by decide +kernel
def vX4_readSign (D : Nat → Int32) (tx : Nat → Int32) (Q : Int32 → (Nat → Int32) → Prop) : Prop := (∃ (b_1 : Nat → Int32) (nb_1 : Nat) (i_1 : Nat), preX4_step b_1 nb_1 i_1 D tx ∧ (∀ (D_1 : Nat → Int32), postX4_step b_1 nb_1 i_1 D tx D_1 → (((D_1 5) = (3 : Int32) → (Q (1 : Int32) D_1)) ∧ (¬ (D_1 5) = (3 : Int32) → (preX4_refuse D_1 ∧ (∀ (r_13 : Int32) (D_13 : Nat → Int32), postX4_refuse D_1 r_13 D_13 → ((r_13 = 0 → (Q (0 : Int32) D_13)) ∧ (¬ r_13 = 0 → (Q (1 : Int32) D_13)))))))))
set_option maxHeartbeats 4000000 in
set_option maxRecDepth 100000 in
theorem wX4_readSign (l : Launch) (g : GP) (qd : Nat) (qtr : Nat) (qtx : Nat) (sz : Nat) (D : Nat → Int32) (tx : Nat → Int32) {Q : Int32 → (Nat → Int32) → Prop} (hv : vX4_readSign D tx Q) : Met l yX4_readSign wsX4_readSign rmX4_readSign (va_Pc [.ref qd] (fun U => U.heap.size = sz ∧ va_P g.1 vwCl [(qd, .inr (4, [.ref qtr, .ref qtx, .int (D 2), .int (D 3), .int (D 4), .int (D 5), .int (D 6), .int (D 7), .int (D 8)])), (qtx, .inl (g.2 1, 500, .inl tx))] U.heap ∧ GK g U ∧ va_D (fun _ => True) [(qd, .inr (4, [.ref qtr, .ref qtx, .int (D 2), .int (D 3), .int (D 4), .int (D 5), .int (D 6), .int (D 7), .int (D 8)])), (qtx, .inl (g.2 1, 500, .inl tx))])) (va_Qi (fun (r : Int32) (u : (Nat → Int32)) => Q r u) (fun (u : (Nat → Int32)) t => va_P g.1 vwCl [(qd, .inr (4, [.ref qtr, .ref qtx, .int (u 2), .int (u 3), .int (u 4), .int (u 5), .int (u 6), .int (u 7), .int (u 8)])), (qtx, .inl (g.2 1, 500, .inl tx))] t.heap ∧ va_D (va_A [(qd, .inr (4, [.ref qtr, .ref qtx, .int (D 2), .int (D 3), .int (D 4), .int (D 5), .int (D 6), .int (D 7), .int (D 8)])), (qtx, .inl (g.2 1, 500, .inl tx))] sz) [(qd, .inr (4, [.ref qtr, .ref qtx, .int (u 2), .int (u 3), .int (u 4), .int (u 5), .int (u 6), .int (u 7), .int (u 8)])), (qtx, .inl (g.2 1, 500, .inl tx))]) (va_A [(qd, .inr (4, [.ref qtr, .ref qtx, .int (D 2), .int (D 3), .int (D 4), .int (D 5), .int (D 6), .int (D 7), .int (D 8)])), (qtx, .inl (g.2 1, 500, .inl tx))] sz)) 0 0 (va_A [(qd, .inr (4, [.ref qtr, .ref qtx, .int (D 2), .int (D 3), .int (D 4), .int (D 5), .int (D 6), .int (D 7), .int (D 8)])), (qtx, .inl (g.2 1, 500, .inl tx))] sz) := by
  refine Met.ofW (cc := cX4_readSign) (maxL := 1) (ret := (some .boolean)) (by decide) rfl ?_
  intro p e s m args below meth c s₁ B hml hv'
  obtain ⟨rfl, hsz, hP, hG, hD0⟩ := hv'
  have S : CallFix p m c cX4_readSign 1 s _ wsX4_readSign RX4 := ⟨B.exec, B.bytes, hml, findClass_of_methodNamed B.named, atoms_spec (ws := wsX4_readSign) B.pre⟩
  obtain ⟨hx, hb, hml, hown, hts⟩ := id S
  have hK := hG.1
  have hr := B.returns
  have hlocks := B.notSynchronized
  subst hsz
  have hD := hD0.self (sz := s.heap.size)
  generalize hAe : va_A [(qd, .inr (4, [.ref qtr, .ref qtx, .int (D 2), .int (D 3), .int (D 4), .int (D 5), .int (D 6), .int (D 7), .int (D 8)])), (qtx, .inl (g.2 1, 500, .inl tx))] s.heap.size = A at hD ⊢
  have hA : ∀ q : Nat, s.heap.size ≤ q → A q := fun q h => by rw [← hAe]; exact Or.inr h
  have hS : va_S A s.heap s.heap [] := va_S.rf
  clear hD0 hAe
  have hl := lv_entry ([.ref qd]) (n := 1) (Nat.le_of_ble_eq_true rfl)
  rw [lg_entry_eq]
  generalize (lg_sl ([.ref qd]) ++ List.replicate (1 - (lg_sl ([.ref qd])).length) Slot.unset).toArray = ls at hl ⊢
  have hl : lv_has ls 1 [(0, .ref qd)] := hl
  unfold vX4_readSign at hv
  refine lv_aload_n hx hb dX4_readSign_0 rfl (lv_at hl 0 rfl) ?_
  obtain ⟨b_1, nb_1, i_1, ho_1, hv⟩ := hv
  have hPc := hP.sub (ws' := [(qd, .inr (4, [.ref qtr, .ref qtx, .int (D 2), .int (D 3), .int (D 4), .int (D 5), .int (D 6), .int (D 7), .int (D 8)])), (qtx, .inl (g.2 1, 500, .inl tx))]) [0, 1] rfl
  have hDc := hD.sub (ws' := [(qd, .inr (4, [.ref qtr, .ref qtx, .int (D 2), .int (D 3), .int (D 4), .int (D 5), .int (D 6), .int (D 7), .int (D 8)])), (qtx, .inl (g.2 1, 500, .inl tx))]) [0, 1] (by decide) rfl
  have hFc := va_free (wc := [(qd, .inr (4, [.ref qtr, .ref qtx, .int (D 2), .int (D 3), .int (D 4), .int (D 5), .int (D 6), .int (D 7), .int (D 8)])), (qtx, .inl (g.2 1, 500, .inl tx))]) hD hS hA [0, 1] rfl
  refine va_callv (va_runV (As := []) (rest := []) S (wX4_step l g qd qtr qtx s.heap.size D tx (sX4_step b_1 nb_1 i_1 D tx ho_1)) (cwV 0 hts gX4_readSign_X4_step rfl rfl rfl (by decide +kernel) ⟨Nat.le_of_ble_eq_true rfl, Nat.le_of_ble_eq_true rfl⟩) ⟨blindRW, va_recv hK hP (ci := 4) (q0 := 0) rfl rfl, fun U hU hW => ⟨rfl, by rw [hU], by rw [hU]; exact hPc, hG.warm hW, hDc.weaken (fun _ _ _ _ => trivial)⟩⟩ rfl rfl hl.1 rfl (lv_room (Nat.le_of_ble_eq_true rfl)) dX4_readSign_1 ⟨Nat.le_of_ble_eq_true rfl, Nat.le_of_ble_eq_true rfl⟩) hS (fun q _ h => hFc q h) hFc (fun u t H1 locs ht hvm hw hB hz1 hk1 hS => ?_)
  obtain ⟨D_1, rfl⟩ : ∃ z, z = u := ⟨_, rfl⟩
  obtain ⟨hP1, hD1⟩ := hB
  rw [ht] at hP1
  have hv := hv D_1 hw
  obtain ⟨hP, hD⟩ := va_join (wr := []) (w1 := [(qd, .inr (4, [.ref qtr, .ref qtx, .int (D_1 2), .int (D_1 3), .int (D_1 4), .int (D_1 5), .int (D_1 6), .int (D_1 7), .int (D_1 8)])), (qtx, .inl (g.2 1, 500, .inl tx))]) hP hD [0, 1] [] rfl rfl (by decide) (by decide) hk1 hFc hP1 hD1
  clear hP1 hD1 hPc hDc hFc hk1
  generalize H1 = H at hP hS ⊢
  have hP : va_P g.1 vwCl [(qd, .inr (4, [.ref qtr, .ref qtx, .int (D_1 2), .int (D_1 3), .int (D_1 4), .int (D_1 5), .int (D_1 6), .int (D_1 7), .int (D_1 8)])), (qtx, .inl (g.2 1, 500, .inl tx))] H := hP
  have hD : va_D A [(qd, .inr (4, [.ref qtr, .ref qtx, .int (D_1 2), .int (D_1 3), .int (D_1 4), .int (D_1 5), .int (D_1 6), .int (D_1 7), .int (D_1 8)])), (qtx, .inl (g.2 1, 500, .inl tx))] := hD
  refine lv_aload_n hx hb dX4_readSign_4 rfl (lv_at hl 0 rfl) ?_
  refine va_get (D := g.1) (ci := 4) (v := .int (D_1 5)) (C := RX4) (T := TX4) (N := 9) hx hb hts inX4_readSign_4 hown hK hP 0 rfl rfl 5 (by decide) (hts (.fieldLink RX4 41 "RangeCodes$Reader" "kind" "I") (List.mem_of_getElem? (i := 1) rfl)) (fun _ h9 => h9) rfl dX4_readSign_5 ?_
  refine lv_iconst (v := (3 : Int32)) hx hb dX4_readSign_8 (by decide) ?_
  obtain ⟨hvt, hvf⟩ := hv
  refine lv_icmp_eq (tgt := 19) hx hb dX4_readSign_9 (by decide) (fun hc => ?_) (fun hc => ?_)
  · have hv := hvt hc
    refine lv_iconst (v := (1 : Int32)) hx hb dX4_readSign_19 (by decide) ?_
    refine lv_goto (tgt := 24) hx hb dX4_readSign_20 (by decide) ?_
    have hP9 := hP.sub (ws' := [(qd, .inr (4, [.ref qtr, .ref qtx, .int (D_1 2), .int (D_1 3), .int (D_1 4), .int (D_1 5), .int (D_1 6), .int (D_1 7), .int (D_1 8)])), (qtx, .inl (g.2 1, 500, .inl tx))]) [0, 1] rfl
    have hD9 := hD.sub (ws' := [(qd, .inr (4, [.ref qtr, .ref qtx, .int (D_1 2), .int (D_1 3), .int (D_1 4), .int (D_1 5), .int (D_1 6), .int (D_1 7), .int (D_1 8)])), (qtx, .inl (g.2 1, 500, .inl tx))]) [0, 1] (by decide) rfl
    exact W.zret (v := (1 : Int32)) (ty := .boolean) hx hb hr rfl (fun t ht hW => ⟨⟨_, (D_1), rfl, hv, by rw [ht]; exact hP9, hD9⟩, hS.F ht⟩) hS.2.2 dX4_readSign_24
  · have hv := hvf hc
    refine lv_aload_n hx hb dX4_readSign_12 rfl (lv_at hl 0 rfl) ?_
    obtain ⟨ho_2, hv⟩ := hv
    have hPc := hP.sub (ws' := [(qd, .inr (4, [.ref qtr, .ref qtx, .int (D_1 2), .int (D_1 3), .int (D_1 4), .int (D_1 5), .int (D_1 6), .int (D_1 7), .int (D_1 8)]))]) [0] rfl
    have hDc := hD.sub (ws' := [(qd, .inr (4, [.ref qtr, .ref qtx, .int (D_1 2), .int (D_1 3), .int (D_1 4), .int (D_1 5), .int (D_1 6), .int (D_1 7), .int (D_1 8)]))]) [0] (by decide) rfl
    have hFc := va_free (wc := [(qd, .inr (4, [.ref qtr, .ref qtx, .int (D_1 2), .int (D_1 3), .int (D_1 4), .int (D_1 5), .int (D_1 6), .int (D_1 7), .int (D_1 8)]))]) hD hS hA [0] rfl
    refine va_calli (va_runV (As := []) (rest := []) S (wX4_refuse l g qd qtr qtx H.size D_1 (sX4_refuse D_1 ho_2)) (cwV 0 hts gX4_readSign_X4_refuse rfl rfl rfl (by decide +kernel) ⟨Nat.le_of_ble_eq_true rfl, Nat.le_of_ble_eq_true rfl⟩) ⟨blindRW, va_recv hK hP (ci := 4) (q0 := 0) rfl rfl, fun U hU hW => ⟨rfl, by rw [hU], by rw [hU]; exact hPc, hG.warm hW, hDc.weaken (fun _ _ _ _ => trivial)⟩⟩ rfl rfl hl.1 rfl (lv_room (Nat.le_of_ble_eq_true rfl)) dX4_readSign_13 ⟨Nat.le_of_ble_eq_true rfl, Nat.le_of_ble_eq_true rfl⟩) hS (fun q _ h => hFc q h) hFc (fun r_13 u t H1 locs ht hvm hw hB hz1 hk1 hS => ?_)
    obtain ⟨D_13, rfl⟩ : ∃ z, z = u := ⟨_, rfl⟩
    obtain ⟨hP1, hD1⟩ := hB
    rw [ht] at hP1
    have hv := hv r_13 D_13 hw
    obtain ⟨hP, hD⟩ := va_join (wr := [(qtx, .inl (g.2 1, 500, .inl tx))]) (w1 := [(qd, .inr (4, [.ref qtr, .ref qtx, .int (D_13 2), .int (D_13 3), .int (D_13 4), .int (D_13 5), .int (D_13 6), .int (D_13 7), .int (D_13 8)]))]) hP hD [0] [1] rfl rfl (by decide) (by decide) hk1 hFc hP1 hD1
    clear hP1 hD1 hPc hDc hFc hk1
    generalize H1 = H at hP hS ⊢
    have hP : va_P g.1 vwCl [(qtx, .inl (g.2 1, 500, .inl tx)), (qd, .inr (4, [.ref qtr, .ref qtx, .int (D_13 2), .int (D_13 3), .int (D_13 4), .int (D_13 5), .int (D_13 6), .int (D_13 7), .int (D_13 8)]))] H := hP
    have hD : va_D A [(qtx, .inl (g.2 1, 500, .inl tx)), (qd, .inr (4, [.ref qtr, .ref qtx, .int (D_13 2), .int (D_13 3), .int (D_13 4), .int (D_13 5), .int (D_13 6), .int (D_13 7), .int (D_13 8)]))] := hD
    obtain ⟨hvt, hvf⟩ := hv
    refine lv_if_eq (tgt := 23) hx hb dX4_readSign_16 (by decide) (fun hc => ?_) (fun hc => ?_)
    · have hv := hvt hc
      refine lv_iconst (v := (0 : Int32)) hx hb dX4_readSign_23 (by decide) ?_
      have hP9 := hP.sub (ws' := [(qd, .inr (4, [.ref qtr, .ref qtx, .int (D_13 2), .int (D_13 3), .int (D_13 4), .int (D_13 5), .int (D_13 6), .int (D_13 7), .int (D_13 8)])), (qtx, .inl (g.2 1, 500, .inl tx))]) [1, 0] rfl
      have hD9 := hD.sub (ws' := [(qd, .inr (4, [.ref qtr, .ref qtx, .int (D_13 2), .int (D_13 3), .int (D_13 4), .int (D_13 5), .int (D_13 6), .int (D_13 7), .int (D_13 8)])), (qtx, .inl (g.2 1, 500, .inl tx))]) [1, 0] (by decide) rfl
      exact W.zret (v := (0 : Int32)) (ty := .boolean) hx hb hr rfl (fun t ht hW => ⟨⟨_, (D_13), rfl, hv, by rw [ht]; exact hP9, hD9⟩, hS.F ht⟩) hS.2.2 dX4_readSign_24
    · have hv := hvf hc
      refine lv_iconst (v := (1 : Int32)) hx hb dX4_readSign_19 (by decide) ?_
      refine lv_goto (tgt := 24) hx hb dX4_readSign_20 (by decide) ?_
      have hP9 := hP.sub (ws' := [(qd, .inr (4, [.ref qtr, .ref qtx, .int (D_13 2), .int (D_13 3), .int (D_13 4), .int (D_13 5), .int (D_13 6), .int (D_13 7), .int (D_13 8)])), (qtx, .inl (g.2 1, 500, .inl tx))]) [1, 0] rfl
      have hD9 := hD.sub (ws' := [(qd, .inr (4, [.ref qtr, .ref qtx, .int (D_13 2), .int (D_13 3), .int (D_13 4), .int (D_13 5), .int (D_13 6), .int (D_13 7), .int (D_13 8)])), (qtx, .inl (g.2 1, 500, .inl tx))]) [1, 0] (by decide) rfl
      exact W.zret (v := (1 : Int32)) (ty := .boolean) hx hb hr rfl (fun t ht hW => ⟨⟨_, (D_13), rfl, hv, by rw [ht]; exact hP9, hD9⟩, hS.F ht⟩) hS.2.2 dX4_readSign_24
abbrev preX4_readSign (b : Nat → Int32) (nb : Nat) (i : Nat) (D : Nat → Int32) (tx : Nat → Int32) : Prop := preX4_step b nb i D tx
abbrev postX4_readSign (b : Nat → Int32) (nb : Nat) (i : Nat) (D : Nat → Int32) (tx : Nat → Int32) (r : Int32) (D' : Nat → Int32) : Prop := (r = if (sgnS b nb (true, i, fl D)).1 = true then 1 else 0) ∧ fl D' = (sgnS b nb (true, i, fl D)).2.2 ∧ ((sgnS b nb (true, i, fl D)).1 = true → rdK b nb i D')
theorem sX4_readSign (b : Nat → Int32) (nb : Nat) (i : Nat) (D : Nat → Int32) (tx : Nat → Int32) (H : preX4_readSign b nb i D tx) : vX4_readSign D tx (postX4_readSign b nb i D tx) := by
  refine ⟨b, nb, i, H, fun D1 h1 => ?_⟩
  obtain ⟨hr, hk⟩ := h1
  obtain ⟨h4, hnb, hi, h6, h7, h5, h8⟩ := id hr
  have hf := fl_kp hk
  unfold postX4_readSign sgnS
  rw [if_pos rfl, fa_eq (D1 5), h5, z3]
  refine ⟨fun c => ?_, fun c => ⟨trivial, fun r D2 h2 => ?_⟩⟩
  · rw [if_pos (show tK b nb i = 3 by omega)]
    exact ⟨rfl, hf, fun _ => hr⟩
  · rw [if_neg (show ¬ tK b nb i = 3 by omega)]
    obtain ⟨hr2, hf2⟩ := h2
    subst hr2
    exact ⟨fun _ => ⟨rfl, by rw [hf2, h6]; rfl, fun q => absurd q rfS_1⟩, fun q => absurd rfl q⟩
set_option maxRecDepth 20000 in
theorem ggX4_settingWord_X4_isWord : GoodIn wsX4_settingWord wsX4_isWord := goodIn_r _ [5, 6, 7, 8, 9, 10, 11, 12, 13, 14, 15, 16, 17, 18, 19, 20, 21, 22, 23, 24, 25, 26, 27, 28, 29, 30, 31, 32, 33, 34, 35, 36, 37, 38, 39, 40, 41, 42, 43, 44, 45, 46, 47, 48, 49, 50, 51, 52, 53, 54, 55, 56, 57, 58, 59, 60, 61, 62, 63, 64, 65, 66, 67] (by decide +kernel) (by decide +kernel)
set_option maxRecDepth 20000 in
theorem gX4_settingWord_X4_isWord : GoodIn wsX4_settingWord (wsV RX4 50 RX4 yX4_isWord wsX4_isWord) := goodIn_app (goodIn_of _ (by decide +kernel)) ggX4_settingWord_X4_isWord
theorem dX4_settingWord_0 : decode cX4_settingWord 0 = .ok (.aload_n 0, 1) := by decide +kernel
theorem dX4_settingWord_1 : decode cX4_settingWord 1 = .ok (.ldc 136, 2) := by decide +kernel
theorem dX4_settingWord_3 : decode cX4_settingWord 3 = .ok (.invokevirtual 50, 3) := by decide +kernel
theorem dX4_settingWord_6 : decode cX4_settingWord 6 = .ok (.ifCond .eq 5, 3) := by decide +kernel
theorem dX4_settingWord_9 : decode cX4_settingWord 9 = .ok (.iconst 0, 1) := by decide +kernel
theorem dX4_settingWord_10 : decode cX4_settingWord 10 = .ok (.ireturn, 1) := by decide +kernel
theorem dX4_settingWord_11 : decode cX4_settingWord 11 = .ok (.aload_n 0, 1) := by decide +kernel
theorem dX4_settingWord_12 : decode cX4_settingWord 12 = .ok (.ldc 138, 2) := by decide +kernel
theorem dX4_settingWord_14 : decode cX4_settingWord 14 = .ok (.invokevirtual 50, 3) := by decide +kernel
theorem dX4_settingWord_17 : decode cX4_settingWord 17 = .ok (.ifCond .eq 5, 3) := by decide +kernel
theorem dX4_settingWord_20 : decode cX4_settingWord 20 = .ok (.iconst 1, 1) := by decide +kernel
theorem dX4_settingWord_21 : decode cX4_settingWord 21 = .ok (.ireturn, 1) := by decide +kernel
theorem dX4_settingWord_22 : decode cX4_settingWord 22 = .ok (.aload_n 0, 1) := by decide +kernel
theorem dX4_settingWord_23 : decode cX4_settingWord 23 = .ok (.ldc 140, 2) := by decide +kernel
theorem dX4_settingWord_25 : decode cX4_settingWord 25 = .ok (.invokevirtual 50, 3) := by decide +kernel
theorem dX4_settingWord_28 : decode cX4_settingWord 28 = .ok (.ifCond .eq 6, 3) := by decide +kernel
theorem dX4_settingWord_31 : decode cX4_settingWord 31 = .ok (.bipush 6, 2) := by decide +kernel
theorem dX4_settingWord_33 : decode cX4_settingWord 33 = .ok (.ireturn, 1) := by decide +kernel
theorem dX4_settingWord_34 : decode cX4_settingWord 34 = .ok (.aload_n 0, 1) := by decide +kernel
theorem dX4_settingWord_35 : decode cX4_settingWord 35 = .ok (.ldc 142, 2) := by decide +kernel
theorem dX4_settingWord_37 : decode cX4_settingWord 37 = .ok (.invokevirtual 50, 3) := by decide +kernel
theorem dX4_settingWord_40 : decode cX4_settingWord 40 = .ok (.ifCond .eq 5, 3) := by decide +kernel
theorem dX4_settingWord_43 : decode cX4_settingWord 43 = .ok (.iconst 2, 1) := by decide +kernel
theorem dX4_settingWord_44 : decode cX4_settingWord 44 = .ok (.ireturn, 1) := by decide +kernel
theorem dX4_settingWord_45 : decode cX4_settingWord 45 = .ok (.aload_n 0, 1) := by decide +kernel
theorem dX4_settingWord_46 : decode cX4_settingWord 46 = .ok (.ldc 144, 2) := by decide +kernel
theorem dX4_settingWord_48 : decode cX4_settingWord 48 = .ok (.invokevirtual 50, 3) := by decide +kernel
theorem dX4_settingWord_51 : decode cX4_settingWord 51 = .ok (.ifCond .eq 5, 3) := by decide +kernel
theorem dX4_settingWord_54 : decode cX4_settingWord 54 = .ok (.iconst 3, 1) := by decide +kernel
theorem dX4_settingWord_55 : decode cX4_settingWord 55 = .ok (.ireturn, 1) := by decide +kernel
theorem dX4_settingWord_56 : decode cX4_settingWord 56 = .ok (.aload_n 0, 1) := by decide +kernel
theorem dX4_settingWord_57 : decode cX4_settingWord 57 = .ok (.ldc 146, 2) := by decide +kernel
theorem dX4_settingWord_59 : decode cX4_settingWord 59 = .ok (.invokevirtual 50, 3) := by decide +kernel
theorem dX4_settingWord_62 : decode cX4_settingWord 62 = .ok (.ifCond .eq 5, 3) := by decide +kernel
theorem dX4_settingWord_65 : decode cX4_settingWord 65 = .ok (.iconst 4, 1) := by decide +kernel
theorem dX4_settingWord_66 : decode cX4_settingWord 66 = .ok (.ireturn, 1) := by decide +kernel
theorem dX4_settingWord_67 : decode cX4_settingWord 67 = .ok (.aload_n 0, 1) := by decide +kernel
theorem dX4_settingWord_68 : decode cX4_settingWord 68 = .ok (.ldc 148, 2) := by decide +kernel
theorem dX4_settingWord_70 : decode cX4_settingWord 70 = .ok (.invokevirtual 50, 3) := by decide +kernel
theorem dX4_settingWord_73 : decode cX4_settingWord 73 = .ok (.ifCond .eq 7, 3) := by decide +kernel
theorem dX4_settingWord_76 : decode cX4_settingWord 76 = .ok (.iconst 5, 1) := by decide +kernel
theorem dX4_settingWord_77 : decode cX4_settingWord 77 = .ok (.goto 4, 3) := by decide +kernel
theorem dX4_settingWord_80 : decode cX4_settingWord 80 = .ok (.iconst (-1), 1) := by decide +kernel
theorem dX4_settingWord_81 : decode cX4_settingWord 81 = .ok (.ireturn, 1) := by decide +kernel
abbrev rmX4_settingWord : Room := { frames := 5, cells := 0, slots := 0, locals := 107 }
def vX4_settingWord (D : Nat → Int32) (tx : Nat → Int32) (Q : Int32 → Prop) : Prop := (∃ (b_3 : Nat → Int32) (nb_3 : Nat) (i_3 : Nat), preX4_isWord b_3 nb_3 i_3 D tx 4 ∧ (∀ r_3 : Int32, postX4_isWord b_3 nb_3 i_3 D tx 4 r_3 → ((r_3 = 0 → (∃ (b_14 : Nat → Int32) (nb_14 : Nat) (i_14 : Nat), preX4_isWord b_14 nb_14 i_14 D tx 5 ∧ (∀ r_14 : Int32, postX4_isWord b_14 nb_14 i_14 D tx 5 r_14 → ((r_14 = 0 → (∃ (b_25 : Nat → Int32) (nb_25 : Nat) (i_25 : Nat), preX4_isWord b_25 nb_25 i_25 D tx 6 ∧ (∀ r_25 : Int32, postX4_isWord b_25 nb_25 i_25 D tx 6 r_25 → ((r_25 = 0 → (∃ (b_37 : Nat → Int32) (nb_37 : Nat) (i_37 : Nat), preX4_isWord b_37 nb_37 i_37 D tx 7 ∧ (∀ r_37 : Int32, postX4_isWord b_37 nb_37 i_37 D tx 7 r_37 → ((r_37 = 0 → (∃ (b_48 : Nat → Int32) (nb_48 : Nat) (i_48 : Nat), preX4_isWord b_48 nb_48 i_48 D tx 8 ∧ (∀ r_48 : Int32, postX4_isWord b_48 nb_48 i_48 D tx 8 r_48 → ((r_48 = 0 → (∃ (b_59 : Nat → Int32) (nb_59 : Nat) (i_59 : Nat), preX4_isWord b_59 nb_59 i_59 D tx 9 ∧ (∀ r_59 : Int32, postX4_isWord b_59 nb_59 i_59 D tx 9 r_59 → ((r_59 = 0 → (∃ (b_70 : Nat → Int32) (nb_70 : Nat) (i_70 : Nat), preX4_isWord b_70 nb_70 i_70 D tx 10 ∧ (∀ r_70 : Int32, postX4_isWord b_70 nb_70 i_70 D tx 10 r_70 → ((r_70 = 0 → (Q (-1 : Int32))) ∧ (¬ r_70 = 0 → (Q (5 : Int32))))))) ∧ (¬ r_59 = 0 → (Q (4 : Int32))))))) ∧ (¬ r_48 = 0 → (Q (3 : Int32))))))) ∧ (¬ r_37 = 0 → (Q (2 : Int32))))))) ∧ (¬ r_25 = 0 → (Q (6 : Int32))))))) ∧ (¬ r_14 = 0 → (Q (1 : Int32))))))) ∧ (¬ r_3 = 0 → (Q (0 : Int32))))))
set_option maxHeartbeats 4000000 in
set_option maxRecDepth 100000 in
theorem wX4_settingWord (l : Launch) (g : GP) (v : GV) (qd : Nat) (qtr : Nat) (qtx : Nat) (D : Nat → Int32) (tx : Nat → Int32) {Q : Int32 → Prop} (hv : vX4_settingWord D tx Q) : Met l yX4_settingWord wsX4_settingWord rmX4_settingWord (va_Pc [.ref qd] (fun U => va_P g.1 vwCl [(qd, .inr (4, [.ref qtr, .ref qtx, .int (D 2), .int (D 3), .int (D 4), .int (D 5), .int (D 6), .int (D 7), .int (D 8)])), (qtx, .inl (g.2 1, 500, .inl tx))] U.heap ∧ GK g U ∧ GE v (fun _ => False) U U.heap)) (vp_Si Q) 0 0 (fun _ => False) := by
  refine Met.ofW (cc := cX4_settingWord) (maxL := 1) (ret := (some .int)) (by decide) rfl ?_
  intro p e s m args below meth c s₁ B hml hv'
  obtain ⟨rfl, hP, hG, hE⟩ := hv'
  have S : CallFix p m c cX4_settingWord 1 s _ wsX4_settingWord RX4 := ⟨B.exec, B.bytes, hml, findClass_of_methodNamed B.named, atoms_spec (ws := wsX4_settingWord) B.pre⟩
  obtain ⟨hx, hb, hml, hown, hts⟩ := id S
  have hK := hG.1
  have hr := B.returns
  have hlocks := B.notSynchronized
  have hl := lv_entry ([.ref qd]) (n := 1) (Nat.le_of_ble_eq_true rfl)
  rw [lg_entry_eq]
  generalize (lg_sl ([.ref qd]) ++ List.replicate (1 - (lg_sl ([.ref qd])).length) Slot.unset).toArray = ls at hl ⊢
  have hl : lv_has ls 1 [(0, .ref qd)] := hl
  unfold vX4_settingWord at hv
  refine lv_aload_n hx hb dX4_settingWord_0 rfl (lv_at hl 0 rfl) ?_
  refine va_ldcS hx hb hown (hE.2.2.2.2.2.2.2.1 4 (by decide)) dX4_settingWord_1 ?_
  obtain ⟨b_3, nb_3, i_3, ho_1, hv⟩ := hv
  refine vp_callSi (W.runV (As := [.ref (kyS v 4)]) (rest := []) S (wX4_isWord l g v qd qtr qtx D tx 4 (sX4_isWord b_3 nb_3 i_3 D tx 4 ho_1)) (cwV 1 hts gX4_settingWord_X4_isWord rfl rfl rfl (by decide +kernel) ⟨Nat.le_of_ble_eq_true rfl, Nat.le_of_ble_eq_true rfl⟩) ⟨blindROE, va_recv hK hP (ci := 4) (q0 := 0) rfl rfl, fun U hU hW => ⟨rfl, by rw [hU]; exact hP.sub (ws' := [(qd, .inr (4, [.ref qtr, .ref qtx, .int (D 2), .int (D 3), .int (D 4), .int (D 5), .int (D 6), .int (D 7), .int (D 8)])), (qtx, .inl (g.2 1, 500, .inl tx))]) [0, 1] rfl, hG.warm hW, by rw [hU]; exact hE.warm hW⟩⟩ rfl rfl hl.1 rfl (lv_room (Nat.le_of_ble_eq_true rfl)) dX4_settingWord_3 ⟨Nat.le_of_ble_eq_true rfl, Nat.le_of_ble_eq_true rfl⟩) (fun r_3 hr_3 => ?_)
  have hv := hv r_3 hr_3
  obtain ⟨hvt, hvf⟩ := hv
  refine lv_if_eq (tgt := 11) hx hb dX4_settingWord_6 (by decide) (fun hc => ?_) (fun hc => ?_)
  · have hv := hvt hc
    refine lv_aload_n hx hb dX4_settingWord_11 rfl (lv_at hl 0 rfl) ?_
    refine va_ldcS hx hb hown (hE.2.2.2.2.2.2.2.1 5 (by decide)) dX4_settingWord_12 ?_
    obtain ⟨b_14, nb_14, i_14, ho_2, hv⟩ := hv
    refine vp_callSi (W.runV (As := [.ref (kyS v 5)]) (rest := []) S (wX4_isWord l g v qd qtr qtx D tx 5 (sX4_isWord b_14 nb_14 i_14 D tx 5 ho_2)) (cwV 1 hts gX4_settingWord_X4_isWord rfl rfl rfl (by decide +kernel) ⟨Nat.le_of_ble_eq_true rfl, Nat.le_of_ble_eq_true rfl⟩) ⟨blindROE, va_recv hK hP (ci := 4) (q0 := 0) rfl rfl, fun U hU hW => ⟨rfl, by rw [hU]; exact hP.sub (ws' := [(qd, .inr (4, [.ref qtr, .ref qtx, .int (D 2), .int (D 3), .int (D 4), .int (D 5), .int (D 6), .int (D 7), .int (D 8)])), (qtx, .inl (g.2 1, 500, .inl tx))]) [0, 1] rfl, hG.warm hW, by rw [hU]; exact hE.warm hW⟩⟩ rfl rfl hl.1 rfl (lv_room (Nat.le_of_ble_eq_true rfl)) dX4_settingWord_14 ⟨Nat.le_of_ble_eq_true rfl, Nat.le_of_ble_eq_true rfl⟩) (fun r_14 hr_14 => ?_)
    have hv := hv r_14 hr_14
    obtain ⟨hvt, hvf⟩ := hv
    refine lv_if_eq (tgt := 22) hx hb dX4_settingWord_17 (by decide) (fun hc => ?_) (fun hc => ?_)
    · have hv := hvt hc
      refine lv_aload_n hx hb dX4_settingWord_22 rfl (lv_at hl 0 rfl) ?_
      refine va_ldcS hx hb hown (hE.2.2.2.2.2.2.2.1 6 (by decide)) dX4_settingWord_23 ?_
      obtain ⟨b_25, nb_25, i_25, ho_3, hv⟩ := hv
      refine vp_callSi (W.runV (As := [.ref (kyS v 6)]) (rest := []) S (wX4_isWord l g v qd qtr qtx D tx 6 (sX4_isWord b_25 nb_25 i_25 D tx 6 ho_3)) (cwV 1 hts gX4_settingWord_X4_isWord rfl rfl rfl (by decide +kernel) ⟨Nat.le_of_ble_eq_true rfl, Nat.le_of_ble_eq_true rfl⟩) ⟨blindROE, va_recv hK hP (ci := 4) (q0 := 0) rfl rfl, fun U hU hW => ⟨rfl, by rw [hU]; exact hP.sub (ws' := [(qd, .inr (4, [.ref qtr, .ref qtx, .int (D 2), .int (D 3), .int (D 4), .int (D 5), .int (D 6), .int (D 7), .int (D 8)])), (qtx, .inl (g.2 1, 500, .inl tx))]) [0, 1] rfl, hG.warm hW, by rw [hU]; exact hE.warm hW⟩⟩ rfl rfl hl.1 rfl (lv_room (Nat.le_of_ble_eq_true rfl)) dX4_settingWord_25 ⟨Nat.le_of_ble_eq_true rfl, Nat.le_of_ble_eq_true rfl⟩) (fun r_25 hr_25 => ?_)
      have hv := hv r_25 hr_25
      obtain ⟨hvt, hvf⟩ := hv
      refine lv_if_eq (tgt := 34) hx hb dX4_settingWord_28 (by decide) (fun hc => ?_) (fun hc => ?_)
      · have hv := hvt hc
        refine lv_aload_n hx hb dX4_settingWord_34 rfl (lv_at hl 0 rfl) ?_
        refine va_ldcS hx hb hown (hE.2.2.2.2.2.2.2.1 7 (by decide)) dX4_settingWord_35 ?_
        obtain ⟨b_37, nb_37, i_37, ho_4, hv⟩ := hv
        refine vp_callSi (W.runV (As := [.ref (kyS v 7)]) (rest := []) S (wX4_isWord l g v qd qtr qtx D tx 7 (sX4_isWord b_37 nb_37 i_37 D tx 7 ho_4)) (cwV 1 hts gX4_settingWord_X4_isWord rfl rfl rfl (by decide +kernel) ⟨Nat.le_of_ble_eq_true rfl, Nat.le_of_ble_eq_true rfl⟩) ⟨blindROE, va_recv hK hP (ci := 4) (q0 := 0) rfl rfl, fun U hU hW => ⟨rfl, by rw [hU]; exact hP.sub (ws' := [(qd, .inr (4, [.ref qtr, .ref qtx, .int (D 2), .int (D 3), .int (D 4), .int (D 5), .int (D 6), .int (D 7), .int (D 8)])), (qtx, .inl (g.2 1, 500, .inl tx))]) [0, 1] rfl, hG.warm hW, by rw [hU]; exact hE.warm hW⟩⟩ rfl rfl hl.1 rfl (lv_room (Nat.le_of_ble_eq_true rfl)) dX4_settingWord_37 ⟨Nat.le_of_ble_eq_true rfl, Nat.le_of_ble_eq_true rfl⟩) (fun r_37 hr_37 => ?_)
        have hv := hv r_37 hr_37
        obtain ⟨hvt, hvf⟩ := hv
        refine lv_if_eq (tgt := 45) hx hb dX4_settingWord_40 (by decide) (fun hc => ?_) (fun hc => ?_)
        · have hv := hvt hc
          refine lv_aload_n hx hb dX4_settingWord_45 rfl (lv_at hl 0 rfl) ?_
          refine va_ldcS hx hb hown (hE.2.2.2.2.2.2.2.1 8 (by decide)) dX4_settingWord_46 ?_
          obtain ⟨b_48, nb_48, i_48, ho_5, hv⟩ := hv
          refine vp_callSi (W.runV (As := [.ref (kyS v 8)]) (rest := []) S (wX4_isWord l g v qd qtr qtx D tx 8 (sX4_isWord b_48 nb_48 i_48 D tx 8 ho_5)) (cwV 1 hts gX4_settingWord_X4_isWord rfl rfl rfl (by decide +kernel) ⟨Nat.le_of_ble_eq_true rfl, Nat.le_of_ble_eq_true rfl⟩) ⟨blindROE, va_recv hK hP (ci := 4) (q0 := 0) rfl rfl, fun U hU hW => ⟨rfl, by rw [hU]; exact hP.sub (ws' := [(qd, .inr (4, [.ref qtr, .ref qtx, .int (D 2), .int (D 3), .int (D 4), .int (D 5), .int (D 6), .int (D 7), .int (D 8)])), (qtx, .inl (g.2 1, 500, .inl tx))]) [0, 1] rfl, hG.warm hW, by rw [hU]; exact hE.warm hW⟩⟩ rfl rfl hl.1 rfl (lv_room (Nat.le_of_ble_eq_true rfl)) dX4_settingWord_48 ⟨Nat.le_of_ble_eq_true rfl, Nat.le_of_ble_eq_true rfl⟩) (fun r_48 hr_48 => ?_)
          have hv := hv r_48 hr_48
          obtain ⟨hvt, hvf⟩ := hv
          refine lv_if_eq (tgt := 56) hx hb dX4_settingWord_51 (by decide) (fun hc => ?_) (fun hc => ?_)
          · have hv := hvt hc
            refine lv_aload_n hx hb dX4_settingWord_56 rfl (lv_at hl 0 rfl) ?_
            refine va_ldcS hx hb hown (hE.2.2.2.2.2.2.2.1 9 (by decide)) dX4_settingWord_57 ?_
            obtain ⟨b_59, nb_59, i_59, ho_6, hv⟩ := hv
            refine vp_callSi (W.runV (As := [.ref (kyS v 9)]) (rest := []) S (wX4_isWord l g v qd qtr qtx D tx 9 (sX4_isWord b_59 nb_59 i_59 D tx 9 ho_6)) (cwV 1 hts gX4_settingWord_X4_isWord rfl rfl rfl (by decide +kernel) ⟨Nat.le_of_ble_eq_true rfl, Nat.le_of_ble_eq_true rfl⟩) ⟨blindROE, va_recv hK hP (ci := 4) (q0 := 0) rfl rfl, fun U hU hW => ⟨rfl, by rw [hU]; exact hP.sub (ws' := [(qd, .inr (4, [.ref qtr, .ref qtx, .int (D 2), .int (D 3), .int (D 4), .int (D 5), .int (D 6), .int (D 7), .int (D 8)])), (qtx, .inl (g.2 1, 500, .inl tx))]) [0, 1] rfl, hG.warm hW, by rw [hU]; exact hE.warm hW⟩⟩ rfl rfl hl.1 rfl (lv_room (Nat.le_of_ble_eq_true rfl)) dX4_settingWord_59 ⟨Nat.le_of_ble_eq_true rfl, Nat.le_of_ble_eq_true rfl⟩) (fun r_59 hr_59 => ?_)
            have hv := hv r_59 hr_59
            obtain ⟨hvt, hvf⟩ := hv
            refine lv_if_eq (tgt := 67) hx hb dX4_settingWord_62 (by decide) (fun hc => ?_) (fun hc => ?_)
            · have hv := hvt hc
              refine lv_aload_n hx hb dX4_settingWord_67 rfl (lv_at hl 0 rfl) ?_
              refine va_ldcS hx hb hown (hE.2.2.2.2.2.2.2.1 10 (by decide)) dX4_settingWord_68 ?_
              obtain ⟨b_70, nb_70, i_70, ho_7, hv⟩ := hv
              refine vp_callSi (W.runV (As := [.ref (kyS v 10)]) (rest := []) S (wX4_isWord l g v qd qtr qtx D tx 10 (sX4_isWord b_70 nb_70 i_70 D tx 10 ho_7)) (cwV 1 hts gX4_settingWord_X4_isWord rfl rfl rfl (by decide +kernel) ⟨Nat.le_of_ble_eq_true rfl, Nat.le_of_ble_eq_true rfl⟩) ⟨blindROE, va_recv hK hP (ci := 4) (q0 := 0) rfl rfl, fun U hU hW => ⟨rfl, by rw [hU]; exact hP.sub (ws' := [(qd, .inr (4, [.ref qtr, .ref qtx, .int (D 2), .int (D 3), .int (D 4), .int (D 5), .int (D 6), .int (D 7), .int (D 8)])), (qtx, .inl (g.2 1, 500, .inl tx))]) [0, 1] rfl, hG.warm hW, by rw [hU]; exact hE.warm hW⟩⟩ rfl rfl hl.1 rfl (lv_room (Nat.le_of_ble_eq_true rfl)) dX4_settingWord_70 ⟨Nat.le_of_ble_eq_true rfl, Nat.le_of_ble_eq_true rfl⟩) (fun r_70 hr_70 => ?_)
              have hv := hv r_70 hr_70
              obtain ⟨hvt, hvf⟩ := hv
              refine lv_if_eq (tgt := 80) hx hb dX4_settingWord_73 (by decide) (fun hc => ?_) (fun hc => ?_)
              · have hv := hvt hc
                refine lv_iconst (v := (-1 : Int32)) hx hb dX4_settingWord_80 (by decide) ?_
                exact W.iret (v := (-1 : Int32)) hx hb hr (fun t ht hW => ⟨_, rfl, hv, ht⟩) (fun _ h => by cases h) dX4_settingWord_81
              · have hv := hvf hc
                refine lv_iconst (v := (5 : Int32)) hx hb dX4_settingWord_76 (by decide) ?_
                refine lv_goto (tgt := 81) hx hb dX4_settingWord_77 (by decide) ?_
                exact W.iret (v := (5 : Int32)) hx hb hr (fun t ht hW => ⟨_, rfl, hv, ht⟩) (fun _ h => by cases h) dX4_settingWord_81
            · have hv := hvf hc
              refine lv_iconst (v := (4 : Int32)) hx hb dX4_settingWord_65 (by decide) ?_
              exact W.iret (v := (4 : Int32)) hx hb hr (fun t ht hW => ⟨_, rfl, hv, ht⟩) (fun _ h => by cases h) dX4_settingWord_66
          · have hv := hvf hc
            refine lv_iconst (v := (3 : Int32)) hx hb dX4_settingWord_54 (by decide) ?_
            exact W.iret (v := (3 : Int32)) hx hb hr (fun t ht hW => ⟨_, rfl, hv, ht⟩) (fun _ h => by cases h) dX4_settingWord_55
        · have hv := hvf hc
          refine lv_iconst (v := (2 : Int32)) hx hb dX4_settingWord_43 (by decide) ?_
          exact W.iret (v := (2 : Int32)) hx hb hr (fun t ht hW => ⟨_, rfl, hv, ht⟩) (fun _ h => by cases h) dX4_settingWord_44
      · have hv := hvf hc
        refine lv_bipush (v := (6 : Int32)) hx hb dX4_settingWord_31 (by decide) ?_
        exact W.iret (v := (6 : Int32)) hx hb hr (fun t ht hW => ⟨_, rfl, hv, ht⟩) (fun _ h => by cases h) dX4_settingWord_33
    · have hv := hvf hc
      refine lv_iconst (v := (1 : Int32)) hx hb dX4_settingWord_20 (by decide) ?_
      exact W.iret (v := (1 : Int32)) hx hb hr (fun t ht hW => ⟨_, rfl, hv, ht⟩) (fun _ h => by cases h) dX4_settingWord_21
  · have hv := hvf hc
    refine lv_iconst (v := (0 : Int32)) hx hb dX4_settingWord_9 (by decide) ?_
    exact W.iret (v := (0 : Int32)) hx hb hr (fun t ht hW => ⟨_, rfl, hv, ht⟩) (fun _ h => by cases h) dX4_settingWord_10
theorem br_w {b : Nat → Int32} {nb i k : Nat} {r : Int32} (hk : k < 15) (hr : r = if wB b nb i k = true then 1 else 0) {A B : Prop} (hA : ¬ wI b nb i = k → A) (hB : wI b nb i = k → B) : (r = 0 → A) ∧ (¬ r = 0 → B) := by
  rw [hr, q_if1]
  exact ⟨fun q => hA (fun z => q ((wI_iff hk).mpr z)), fun q => hB ((wI_iff hk).mp (Decidable.not_not.mp q))⟩
def seI (w : Nat) : Int := if w = 4 then 0 else if w = 5 then 1 else if w = 6 then 6 else if w = 7 then 2 else if w = 8 then 3 else if w = 9 then 4 else if w = 10 then 5 else -1
def mkI (w : Nat) : Int := if w = 11 then 0 else if w = 12 then 1 else if w = 13 then 2 else if w = 14 then 3 else -1
theorem seI_m (w : Nat) : seI w = -1 ↔ ¬ (4 ≤ w ∧ w ≤ 10) := by
  constructor
  · intro h q
    rcases (show w = 4 ∨ w = 5 ∨ w = 6 ∨ w = 7 ∨ w = 8 ∨ w = 9 ∨ w = 10 by omega) with rfl | rfl | rfl | rfl | rfl | rfl | rfl <;> exact absurd h (by decide)
  · intro h
    unfold seI
    rw [if_neg (by omega), if_neg (by omega), if_neg (by omega), if_neg (by omega), if_neg (by omega), if_neg (by omega), if_neg (by omega)]
theorem mkI_m (w : Nat) : mkI w = -1 ↔ ¬ (11 ≤ w ∧ w ≤ 14) := by
  constructor
  · intro h q
    rcases (show w = 11 ∨ w = 12 ∨ w = 13 ∨ w = 14 by omega) with rfl | rfl | rfl | rfl <;> exact absurd h (by decide)
  · intro h
    unfold mkI
    rw [if_neg (by omega), if_neg (by omega), if_neg (by omega), if_neg (by omega)]
theorem mkI_e {w : Nat} (h : 11 ≤ w ∧ w ≤ 14) : mkI w = (w : Int) - 11 := by
  rcases (show w = 11 ∨ w = 12 ∨ w = 13 ∨ w = 14 by omega) with rfl | rfl | rfl | rfl <;> rfl
abbrev preX4_settingWord (b : Nat → Int32) (nb : Nat) (i : Nat) (D : Nat → Int32) (tx : Nat → Int32) : Prop := rdK b nb i D ∧ isTx b nb tx
abbrev postX4_settingWord (b : Nat → Int32) (nb : Nat) (i : Nat) (D : Nat → Int32) (tx : Nat → Int32) (r : Int32) : Prop := r.toInt = seI (wI b nb i)
theorem sX4_settingWord (b : Nat → Int32) (nb : Nat) (i : Nat) (D : Nat → Int32) (tx : Nat → Int32) (H : preX4_settingWord b nb i D tx) : vX4_settingWord D tx (postX4_settingWord b nb i D tx) := by
  obtain ⟨h1, h2⟩ := H
  unfold postX4_settingWord
  exact ⟨b, nb, i, ⟨h1, h2, by decide⟩, fun r hr => br_w (k := 4) (by decide) hr (fun n4 => ⟨b, nb, i, ⟨h1, h2, by decide⟩, fun r hr => br_w (k := 5) (by decide) hr (fun n5 => ⟨b, nb, i, ⟨h1, h2, by decide⟩, fun r hr => br_w (k := 6) (by decide) hr (fun n6 => ⟨b, nb, i, ⟨h1, h2, by decide⟩, fun r hr => br_w (k := 7) (by decide) hr (fun n7 => ⟨b, nb, i, ⟨h1, h2, by decide⟩, fun r hr => br_w (k := 8) (by decide) hr (fun n8 => ⟨b, nb, i, ⟨h1, h2, by decide⟩, fun r hr => br_w (k := 9) (by decide) hr (fun n9 => ⟨b, nb, i, ⟨h1, h2, by decide⟩, fun r hr => br_w (k := 10) (by decide) hr (fun n10 => by unfold seI; rw [if_neg n4, if_neg n5, if_neg n6, if_neg n7, if_neg n8, if_neg n9, if_neg n10]; rfl) (fun e => by rw [e]; rfl)⟩) (fun e => by rw [e]; rfl)⟩) (fun e => by rw [e]; rfl)⟩) (fun e => by rw [e]; rfl)⟩) (fun e => by rw [e]; rfl)⟩) (fun e => by rw [e]; rfl)⟩) (fun e => by rw [e]; rfl)⟩
set_option maxRecDepth 20000 in
theorem ggX4_markWord_X4_isWord : GoodIn wsX4_markWord wsX4_isWord := goodIn_r _ [5, 6, 7, 8, 9, 10, 11, 12, 13, 14, 15, 16, 17, 18, 19, 20, 21, 22, 23, 24, 25, 26, 27, 28, 29, 30, 31, 32, 33, 34, 35, 36, 37, 38, 39, 40, 41, 42, 43, 44, 45, 46, 47, 48, 49, 50, 51, 52, 53, 54, 55, 56, 57, 58, 59, 60, 61, 62, 63, 64, 65, 66, 67] (by decide +kernel) (by decide +kernel)
set_option maxRecDepth 20000 in
theorem gX4_markWord_X4_isWord : GoodIn wsX4_markWord (wsV RX4 50 RX4 yX4_isWord wsX4_isWord) := goodIn_app (goodIn_of _ (by decide +kernel)) ggX4_markWord_X4_isWord
theorem dX4_markWord_0 : decode cX4_markWord 0 = .ok (.aload_n 0, 1) := by decide +kernel
theorem dX4_markWord_1 : decode cX4_markWord 1 = .ok (.ldc 150, 2) := by decide +kernel
theorem dX4_markWord_3 : decode cX4_markWord 3 = .ok (.invokevirtual 50, 3) := by decide +kernel
theorem dX4_markWord_6 : decode cX4_markWord 6 = .ok (.ifCond .eq 5, 3) := by decide +kernel
theorem dX4_markWord_9 : decode cX4_markWord 9 = .ok (.iconst 0, 1) := by decide +kernel
theorem dX4_markWord_10 : decode cX4_markWord 10 = .ok (.ireturn, 1) := by decide +kernel
theorem dX4_markWord_11 : decode cX4_markWord 11 = .ok (.aload_n 0, 1) := by decide +kernel
theorem dX4_markWord_12 : decode cX4_markWord 12 = .ok (.ldc 152, 2) := by decide +kernel
theorem dX4_markWord_14 : decode cX4_markWord 14 = .ok (.invokevirtual 50, 3) := by decide +kernel
theorem dX4_markWord_17 : decode cX4_markWord 17 = .ok (.ifCond .eq 5, 3) := by decide +kernel
theorem dX4_markWord_20 : decode cX4_markWord 20 = .ok (.iconst 1, 1) := by decide +kernel
theorem dX4_markWord_21 : decode cX4_markWord 21 = .ok (.ireturn, 1) := by decide +kernel
theorem dX4_markWord_22 : decode cX4_markWord 22 = .ok (.aload_n 0, 1) := by decide +kernel
theorem dX4_markWord_23 : decode cX4_markWord 23 = .ok (.ldc 154, 2) := by decide +kernel
theorem dX4_markWord_25 : decode cX4_markWord 25 = .ok (.invokevirtual 50, 3) := by decide +kernel
theorem dX4_markWord_28 : decode cX4_markWord 28 = .ok (.ifCond .eq 5, 3) := by decide +kernel
theorem dX4_markWord_31 : decode cX4_markWord 31 = .ok (.iconst 2, 1) := by decide +kernel
theorem dX4_markWord_32 : decode cX4_markWord 32 = .ok (.ireturn, 1) := by decide +kernel
theorem dX4_markWord_33 : decode cX4_markWord 33 = .ok (.aload_n 0, 1) := by decide +kernel
theorem dX4_markWord_34 : decode cX4_markWord 34 = .ok (.ldc 156, 2) := by decide +kernel
theorem dX4_markWord_36 : decode cX4_markWord 36 = .ok (.invokevirtual 50, 3) := by decide +kernel
theorem dX4_markWord_39 : decode cX4_markWord 39 = .ok (.ifCond .eq 7, 3) := by decide +kernel
theorem dX4_markWord_42 : decode cX4_markWord 42 = .ok (.iconst 3, 1) := by decide +kernel
theorem dX4_markWord_43 : decode cX4_markWord 43 = .ok (.goto 4, 3) := by decide +kernel
theorem dX4_markWord_46 : decode cX4_markWord 46 = .ok (.iconst (-1), 1) := by decide +kernel
theorem dX4_markWord_47 : decode cX4_markWord 47 = .ok (.ireturn, 1) := by decide +kernel
abbrev rmX4_markWord : Room := { frames := 5, cells := 0, slots := 0, locals := 107 }
def vX4_markWord (D : Nat → Int32) (tx : Nat → Int32) (Q : Int32 → Prop) : Prop := (∃ (b_3 : Nat → Int32) (nb_3 : Nat) (i_3 : Nat), preX4_isWord b_3 nb_3 i_3 D tx 11 ∧ (∀ r_3 : Int32, postX4_isWord b_3 nb_3 i_3 D tx 11 r_3 → ((r_3 = 0 → (∃ (b_14 : Nat → Int32) (nb_14 : Nat) (i_14 : Nat), preX4_isWord b_14 nb_14 i_14 D tx 12 ∧ (∀ r_14 : Int32, postX4_isWord b_14 nb_14 i_14 D tx 12 r_14 → ((r_14 = 0 → (∃ (b_25 : Nat → Int32) (nb_25 : Nat) (i_25 : Nat), preX4_isWord b_25 nb_25 i_25 D tx 13 ∧ (∀ r_25 : Int32, postX4_isWord b_25 nb_25 i_25 D tx 13 r_25 → ((r_25 = 0 → (∃ (b_36 : Nat → Int32) (nb_36 : Nat) (i_36 : Nat), preX4_isWord b_36 nb_36 i_36 D tx 14 ∧ (∀ r_36 : Int32, postX4_isWord b_36 nb_36 i_36 D tx 14 r_36 → ((r_36 = 0 → (Q (-1 : Int32))) ∧ (¬ r_36 = 0 → (Q (3 : Int32))))))) ∧ (¬ r_25 = 0 → (Q (2 : Int32))))))) ∧ (¬ r_14 = 0 → (Q (1 : Int32))))))) ∧ (¬ r_3 = 0 → (Q (0 : Int32))))))
set_option maxHeartbeats 4000000 in
set_option maxRecDepth 100000 in
theorem wX4_markWord (l : Launch) (g : GP) (v : GV) (qd : Nat) (qtr : Nat) (qtx : Nat) (D : Nat → Int32) (tx : Nat → Int32) {Q : Int32 → Prop} (hv : vX4_markWord D tx Q) : Met l yX4_markWord wsX4_markWord rmX4_markWord (va_Pc [.ref qd] (fun U => va_P g.1 vwCl [(qd, .inr (4, [.ref qtr, .ref qtx, .int (D 2), .int (D 3), .int (D 4), .int (D 5), .int (D 6), .int (D 7), .int (D 8)])), (qtx, .inl (g.2 1, 500, .inl tx))] U.heap ∧ GK g U ∧ GE v (fun _ => False) U U.heap)) (vp_Si Q) 0 0 (fun _ => False) := by
  refine Met.ofW (cc := cX4_markWord) (maxL := 1) (ret := (some .int)) (by decide) rfl ?_
  intro p e s m args below meth c s₁ B hml hv'
  obtain ⟨rfl, hP, hG, hE⟩ := hv'
  have S : CallFix p m c cX4_markWord 1 s _ wsX4_markWord RX4 := ⟨B.exec, B.bytes, hml, findClass_of_methodNamed B.named, atoms_spec (ws := wsX4_markWord) B.pre⟩
  obtain ⟨hx, hb, hml, hown, hts⟩ := id S
  have hK := hG.1
  have hr := B.returns
  have hlocks := B.notSynchronized
  have hl := lv_entry ([.ref qd]) (n := 1) (Nat.le_of_ble_eq_true rfl)
  rw [lg_entry_eq]
  generalize (lg_sl ([.ref qd]) ++ List.replicate (1 - (lg_sl ([.ref qd])).length) Slot.unset).toArray = ls at hl ⊢
  have hl : lv_has ls 1 [(0, .ref qd)] := hl
  unfold vX4_markWord at hv
  refine lv_aload_n hx hb dX4_markWord_0 rfl (lv_at hl 0 rfl) ?_
  refine va_ldcS hx hb hown (hE.2.2.2.2.2.2.2.1 11 (by decide)) dX4_markWord_1 ?_
  obtain ⟨b_3, nb_3, i_3, ho_1, hv⟩ := hv
  refine vp_callSi (W.runV (As := [.ref (kyS v 11)]) (rest := []) S (wX4_isWord l g v qd qtr qtx D tx 11 (sX4_isWord b_3 nb_3 i_3 D tx 11 ho_1)) (cwV 1 hts gX4_markWord_X4_isWord rfl rfl rfl (by decide +kernel) ⟨Nat.le_of_ble_eq_true rfl, Nat.le_of_ble_eq_true rfl⟩) ⟨blindROE, va_recv hK hP (ci := 4) (q0 := 0) rfl rfl, fun U hU hW => ⟨rfl, by rw [hU]; exact hP.sub (ws' := [(qd, .inr (4, [.ref qtr, .ref qtx, .int (D 2), .int (D 3), .int (D 4), .int (D 5), .int (D 6), .int (D 7), .int (D 8)])), (qtx, .inl (g.2 1, 500, .inl tx))]) [0, 1] rfl, hG.warm hW, by rw [hU]; exact hE.warm hW⟩⟩ rfl rfl hl.1 rfl (lv_room (Nat.le_of_ble_eq_true rfl)) dX4_markWord_3 ⟨Nat.le_of_ble_eq_true rfl, Nat.le_of_ble_eq_true rfl⟩) (fun r_3 hr_3 => ?_)
  have hv := hv r_3 hr_3
  obtain ⟨hvt, hvf⟩ := hv
  refine lv_if_eq (tgt := 11) hx hb dX4_markWord_6 (by decide) (fun hc => ?_) (fun hc => ?_)
  · have hv := hvt hc
    refine lv_aload_n hx hb dX4_markWord_11 rfl (lv_at hl 0 rfl) ?_
    refine va_ldcS hx hb hown (hE.2.2.2.2.2.2.2.1 12 (by decide)) dX4_markWord_12 ?_
    obtain ⟨b_14, nb_14, i_14, ho_2, hv⟩ := hv
    refine vp_callSi (W.runV (As := [.ref (kyS v 12)]) (rest := []) S (wX4_isWord l g v qd qtr qtx D tx 12 (sX4_isWord b_14 nb_14 i_14 D tx 12 ho_2)) (cwV 1 hts gX4_markWord_X4_isWord rfl rfl rfl (by decide +kernel) ⟨Nat.le_of_ble_eq_true rfl, Nat.le_of_ble_eq_true rfl⟩) ⟨blindROE, va_recv hK hP (ci := 4) (q0 := 0) rfl rfl, fun U hU hW => ⟨rfl, by rw [hU]; exact hP.sub (ws' := [(qd, .inr (4, [.ref qtr, .ref qtx, .int (D 2), .int (D 3), .int (D 4), .int (D 5), .int (D 6), .int (D 7), .int (D 8)])), (qtx, .inl (g.2 1, 500, .inl tx))]) [0, 1] rfl, hG.warm hW, by rw [hU]; exact hE.warm hW⟩⟩ rfl rfl hl.1 rfl (lv_room (Nat.le_of_ble_eq_true rfl)) dX4_markWord_14 ⟨Nat.le_of_ble_eq_true rfl, Nat.le_of_ble_eq_true rfl⟩) (fun r_14 hr_14 => ?_)
    have hv := hv r_14 hr_14
    obtain ⟨hvt, hvf⟩ := hv
    refine lv_if_eq (tgt := 22) hx hb dX4_markWord_17 (by decide) (fun hc => ?_) (fun hc => ?_)
    · have hv := hvt hc
      refine lv_aload_n hx hb dX4_markWord_22 rfl (lv_at hl 0 rfl) ?_
      refine va_ldcS hx hb hown (hE.2.2.2.2.2.2.2.1 13 (by decide)) dX4_markWord_23 ?_
      obtain ⟨b_25, nb_25, i_25, ho_3, hv⟩ := hv
      refine vp_callSi (W.runV (As := [.ref (kyS v 13)]) (rest := []) S (wX4_isWord l g v qd qtr qtx D tx 13 (sX4_isWord b_25 nb_25 i_25 D tx 13 ho_3)) (cwV 1 hts gX4_markWord_X4_isWord rfl rfl rfl (by decide +kernel) ⟨Nat.le_of_ble_eq_true rfl, Nat.le_of_ble_eq_true rfl⟩) ⟨blindROE, va_recv hK hP (ci := 4) (q0 := 0) rfl rfl, fun U hU hW => ⟨rfl, by rw [hU]; exact hP.sub (ws' := [(qd, .inr (4, [.ref qtr, .ref qtx, .int (D 2), .int (D 3), .int (D 4), .int (D 5), .int (D 6), .int (D 7), .int (D 8)])), (qtx, .inl (g.2 1, 500, .inl tx))]) [0, 1] rfl, hG.warm hW, by rw [hU]; exact hE.warm hW⟩⟩ rfl rfl hl.1 rfl (lv_room (Nat.le_of_ble_eq_true rfl)) dX4_markWord_25 ⟨Nat.le_of_ble_eq_true rfl, Nat.le_of_ble_eq_true rfl⟩) (fun r_25 hr_25 => ?_)
      have hv := hv r_25 hr_25
      obtain ⟨hvt, hvf⟩ := hv
      refine lv_if_eq (tgt := 33) hx hb dX4_markWord_28 (by decide) (fun hc => ?_) (fun hc => ?_)
      · have hv := hvt hc
        refine lv_aload_n hx hb dX4_markWord_33 rfl (lv_at hl 0 rfl) ?_
        refine va_ldcS hx hb hown (hE.2.2.2.2.2.2.2.1 14 (by decide)) dX4_markWord_34 ?_
        obtain ⟨b_36, nb_36, i_36, ho_4, hv⟩ := hv
        refine vp_callSi (W.runV (As := [.ref (kyS v 14)]) (rest := []) S (wX4_isWord l g v qd qtr qtx D tx 14 (sX4_isWord b_36 nb_36 i_36 D tx 14 ho_4)) (cwV 1 hts gX4_markWord_X4_isWord rfl rfl rfl (by decide +kernel) ⟨Nat.le_of_ble_eq_true rfl, Nat.le_of_ble_eq_true rfl⟩) ⟨blindROE, va_recv hK hP (ci := 4) (q0 := 0) rfl rfl, fun U hU hW => ⟨rfl, by rw [hU]; exact hP.sub (ws' := [(qd, .inr (4, [.ref qtr, .ref qtx, .int (D 2), .int (D 3), .int (D 4), .int (D 5), .int (D 6), .int (D 7), .int (D 8)])), (qtx, .inl (g.2 1, 500, .inl tx))]) [0, 1] rfl, hG.warm hW, by rw [hU]; exact hE.warm hW⟩⟩ rfl rfl hl.1 rfl (lv_room (Nat.le_of_ble_eq_true rfl)) dX4_markWord_36 ⟨Nat.le_of_ble_eq_true rfl, Nat.le_of_ble_eq_true rfl⟩) (fun r_36 hr_36 => ?_)
        have hv := hv r_36 hr_36
        obtain ⟨hvt, hvf⟩ := hv
        refine lv_if_eq (tgt := 46) hx hb dX4_markWord_39 (by decide) (fun hc => ?_) (fun hc => ?_)
        · have hv := hvt hc
          refine lv_iconst (v := (-1 : Int32)) hx hb dX4_markWord_46 (by decide) ?_
          exact W.iret (v := (-1 : Int32)) hx hb hr (fun t ht hW => ⟨_, rfl, hv, ht⟩) (fun _ h => by cases h) dX4_markWord_47
        · have hv := hvf hc
          refine lv_iconst (v := (3 : Int32)) hx hb dX4_markWord_42 (by decide) ?_
          refine lv_goto (tgt := 47) hx hb dX4_markWord_43 (by decide) ?_
          exact W.iret (v := (3 : Int32)) hx hb hr (fun t ht hW => ⟨_, rfl, hv, ht⟩) (fun _ h => by cases h) dX4_markWord_47
      · have hv := hvf hc
        refine lv_iconst (v := (2 : Int32)) hx hb dX4_markWord_31 (by decide) ?_
        exact W.iret (v := (2 : Int32)) hx hb hr (fun t ht hW => ⟨_, rfl, hv, ht⟩) (fun _ h => by cases h) dX4_markWord_32
    · have hv := hvf hc
      refine lv_iconst (v := (1 : Int32)) hx hb dX4_markWord_20 (by decide) ?_
      exact W.iret (v := (1 : Int32)) hx hb hr (fun t ht hW => ⟨_, rfl, hv, ht⟩) (fun _ h => by cases h) dX4_markWord_21
  · have hv := hvf hc
    refine lv_iconst (v := (0 : Int32)) hx hb dX4_markWord_9 (by decide) ?_
    exact W.iret (v := (0 : Int32)) hx hb hr (fun t ht hW => ⟨_, rfl, hv, ht⟩) (fun _ h => by cases h) dX4_markWord_10
abbrev preX4_markWord (b : Nat → Int32) (nb : Nat) (i : Nat) (D : Nat → Int32) (tx : Nat → Int32) : Prop := rdK b nb i D ∧ isTx b nb tx
abbrev postX4_markWord (b : Nat → Int32) (nb : Nat) (i : Nat) (D : Nat → Int32) (tx : Nat → Int32) (r : Int32) : Prop := r.toInt = mkI (wI b nb i)
theorem sX4_markWord (b : Nat → Int32) (nb : Nat) (i : Nat) (D : Nat → Int32) (tx : Nat → Int32) (H : preX4_markWord b nb i D tx) : vX4_markWord D tx (postX4_markWord b nb i D tx) := by
  obtain ⟨h1, h2⟩ := H
  unfold postX4_markWord
  exact ⟨b, nb, i, ⟨h1, h2, by decide⟩, fun r hr => br_w (k := 11) (by decide) hr (fun n1 => ⟨b, nb, i, ⟨h1, h2, by decide⟩, fun r hr => br_w (k := 12) (by decide) hr (fun n2 => ⟨b, nb, i, ⟨h1, h2, by decide⟩, fun r hr => br_w (k := 13) (by decide) hr (fun n3 => ⟨b, nb, i, ⟨h1, h2, by decide⟩, fun r hr => br_w (k := 14) (by decide) hr (fun n4 => by unfold mkI; rw [if_neg n1, if_neg n2, if_neg n3, if_neg n4]; rfl) (fun e => by rw [e]; rfl)⟩) (fun e => by rw [e]; rfl)⟩) (fun e => by rw [e]; rfl)⟩) (fun e => by rw [e]; rfl)⟩
