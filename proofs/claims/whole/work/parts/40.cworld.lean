/-! the class's world; what its guards say -/
abbrev cWg (cI cR : ClassId) (x kk pr w wr wc ro wt : Nat) (need c0 c1 c2 hh pc0 pz0 pc1 pz1 : Int32) (dr sd ds : Nat) (fd : Nat → Int32) (tw sw wn : Nat) (fw fr : Nat → Int32) (nr : Nat) (ra : Nat → Nat) (rd : Nat → R6) (cc : Nat) (ch : Int32) (cp : Nat → Int32) (w1 w2 : Nat) : va_W :=
  (x, .inr (6, [.ref kk, .ref pr, .ref ro, .ref w])) :: (kk, .inr (0, [.int need, .int c0, .int c1, .int c2, .int hh])) :: (pr, .inr (1, [.int pc0, .int pz0, .int pc1, .int pz1])) :: (dr, .inr (4, [.ref sd, .int (nI ds)])) :: (sd, .inl (cI, 40, .inl fd)) :: ([(w, .inr (5, [.ref wr, .ref wc, .int (nI nr), .int (nI cc), .int ch])), (wr, .inl (cR, 30, .inr (.inr (.inr (.inr (rwA nr ra)))))), (wc, .inl (cI, 30, .inl cp)), (ro, .inr (2, [.ref wt, .ref w1, .ref w2])), (wt, .inl (cI, 36, .inl fr)), (tw, .inr (4, [.ref sw, .int (nI wn)])), (sw, .inl (cI, 40, .inl fw))] ++ rwL nr ra rd)
abbrev cW (cI cR : ClassId) (x kk pr w wr wc ro wt : Nat) (need c0 c1 c2 hh pc0 pz0 pc1 pz1 : Int32) (dr sd ds : Nat) (fd : Nat → Int32) (tw sw wn : Nat) (fw fr : Nat → Int32) (nr : Nat) (ra : Nat → Nat) (rd : Nat → R6) (cc : Nat) (ch : Int32) (cp : Nat → Int32) : va_W := cWg cI cR x kk pr w wr wc ro wt need c0 c1 c2 hh pc0 pz0 pc1 pz1 dr sd ds fd tw sw wn fw fr nr ra rd cc ch cp tw dr
theorem within_eq (a b c : Int32) : x_X8_within a b c = x_X9_in a b c := rfl
theorem booth_eq (a b : Int32) : x_X8_areBooth a b = x_X9_isBooth a b := rfl
theorem le_k {j k : Nat} (h : j ≤ k) (hk : k < 2 ^ 31) : nI j ≤ nI k := nI_le h hk
theorem lie_k {n k x : Int32} (h : x_X8_areBooth n k = true) (hx : x_X8_within x 0 n = true) : x ≤ nI 1000 := by
  obtain ⟨a, b, rfl, rfl, h1, h2, h3⟩ := booth_of h
  obtain ⟨c, rfl, -, h4⟩ := in_nat 0 a (by omega) hx
  exact le_k (by omega) (by decide)
theorem ask_k {n k : Int32} (h : x_X8_areBooth n k = true) : ¬ n < 0 ∧ n ≤ nI 1000 ∧ ¬ (0 : Int32) < 0 ∧ 0 ≤ n := by
  obtain ⟨a, b, rfl, rfl, h1, h2, h3⟩ := booth_of h
  exact ⟨nI_pos (by omega), le_k (by omega) (by decide), by decide +kernel, nI_pos' (by omega)⟩
theorem slip_k {a n w : Int32} (h1 : x_X8_within a 2 40 = true) (h2 : x_X8_within n 0 a = true) (h3 : x_X8_within w 0 n = true) : ¬ n < 0 ∧ n ≤ nI 1000 ∧ ¬ w < 0 ∧ w ≤ n := by
  obtain ⟨A, B, C, rfl, rfl, rfl, q1, q2, q3, q4⟩ := slips_of h1 h2 h3
  exact ⟨nI_pos (by omega), le_k (by omega) (by decide), nI_pos (by omega), nI_le q4 (by omega)⟩
theorem sure_k {a : Int32} (h1 : x_X8_within a 2 40 = true) : ¬ a < 0 ∧ a ≤ nI 1000 ∧ ¬ (1 : Int32) < 0 ∧ 1 ≤ a := by
  obtain ⟨A, rfl, q1, q2⟩ := all_of h1
  exact ⟨nI_pos (by omega), le_k (by omega) (by decide), by decide +kernel, nI_le (a := 1) (by omega) (by omega)⟩
theorem low_k {x lo hi : Int32} (h : x_X8_within x lo hi = true) : ¬ x < lo := (in_of h).1
theorem high_k {x lo hi : Int32} (h : x_X8_within x lo hi = true) : x ≤ hi := le_of_nlt (in_of h).2
theorem pos_k {x hi : Int32} (h : x_X8_within x 1 hi = true) : ¬ x < 0 := fun q => (in_of h).1 (by
  rw [Int32.lt_iff_toInt_lt] at q ⊢
  rw [Int32.toInt_zero] at q
  rw [show (1 : Int32).toInt = 1 by decide +kernel]
  omega)
