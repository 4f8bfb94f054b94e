/-! MATHEMATICS: odds, class and reference alike -/
theorem lN_0 : lN 0 = 0 := rfl
theorem lN_z {a : Nat} (h : a < 2 ^ 63) : lN a = 0 ↔ a = 0 := by
  rw [show (0 : Int64) = lN 0 from rfl, pk_lEQ h (by decide)]
theorem mod_half {q r : Nat} (h0 : 0 < r) (h : r < q) : 2 * (q % r) < q := by
  rcases Nat.lt_or_ge (q - r) r with h1 | h1
  · have e : q % r = q - r := by
      rw [Nat.mod_eq_sub_mod (by omega), Nat.mod_eq_of_lt h1]
    omega
  · have h2 := Nat.mod_lt q h0
    omega
/-- the class's Euclid: two rounds halve -/
theorem cgcd (x y : Int64) : ∀ (j n k p q : Nat), q < 2 ^ j → k + 2 * j ≤ 100 → 100 < k + n → p < 2 ^ 62 → q < 2 ^ 62 → x_X1_greatestShared_L9 x y n (lN p) (lN q) (nI k) = lN (Nat.gcd p q) := by
  intro j
  induction j with
  | zero =>
    intro n k p q h1 h2 h3 h4 h5
    obtain ⟨n, rfl⟩ : ∃ n', n = n' + 1 := ⟨n - 1, by omega⟩
    have e : q = 0 := by omega
    subst e
    rw [x_X1_greatestShared_L9, if_pos (show lN 0 = 0 from rfl), Nat.gcd_zero_right, ite_self]
  | succ j ih =>
    intro n k p q h1 h2 h3 h4 h5
    obtain ⟨n, rfl⟩ : ∃ n', n = n' + 1 := ⟨n - 1, by omega⟩
    rw [x_X1_greatestShared_L9, if_neg (show ¬ (100 : Int32) ≤ nI k from nI_ge (b := 100) (by omega) (by decide))]
    rcases Nat.eq_zero_or_pos q with e | hq
    · subst e
      rw [if_pos (show lN 0 = 0 from rfl), Nat.gcd_zero_right]
    · rw [if_neg (fun e => by rw [lN_z (by omega)] at e; omega), remL_n (by omega) hq (by omega), nI_1]
      have hm := Nat.mod_lt p hq
      have g1 : Nat.gcd p q = Nat.gcd q (p % q) := by rw [Nat.gcd_comm p q, Nat.gcd_rec q p, Nat.gcd_comm]
      obtain ⟨n, rfl⟩ : ∃ n', n = n' + 1 := ⟨n - 1, by omega⟩
      rw [x_X1_greatestShared_L9, if_neg (show ¬ (100 : Int32) ≤ nI (k + 1) from nI_ge (b := 100) (by omega) (by decide))]
      rcases Nat.eq_zero_or_pos (p % q) with e | hr
      · rw [e, if_pos (show lN 0 = 0 from rfl), g1, e, Nat.gcd_zero_right]
      · rw [if_neg (fun e => by rw [lN_z (by omega)] at e; omega), remL_n (by omega) hr (by omega), nI_1]
        have hh := mod_half hr hm
        have pj : 2 ^ (j + 1) = 2 * 2 ^ j := by rw [Nat.pow_succ, Nat.mul_comm]
        have g2 : Nat.gcd q (p % q) = Nat.gcd (p % q) (q % (p % q)) := by rw [Nat.gcd_comm q (p % q), Nat.gcd_rec (p % q) q, Nat.gcd_comm]
        rw [g1, g2]
        exact ih n (k + 1 + 1) (p % q) (q % (p % q)) (by omega) (by omega) (by omega) (by omega) (by omega)
theorem mgcd (x y : Int64) (pt : Int32) : ∀ (n p q : Nat), q < n → p < 2 ^ 62 → q < 2 ^ 62 → x_X9_term_L6 x y pt n (lN p) (lN q) = (if pt = 0 then x / lN (Nat.gcd p q) else y / lN (Nat.gcd p q)) := by
  intro n
  induction n with
  | zero =>
    intro p q h
    omega
  | succ n ih =>
    intro p q h1 h2 h3
    rw [x_X9_term_L6]
    rcases Nat.eq_zero_or_pos q with e | hq
    · subst e
      rw [if_pos (show lN 0 = 0 from rfl), Nat.gcd_zero_right]
    · have hm := Nat.mod_lt p hq
      have g1 : Nat.gcd p q = Nat.gcd q (p % q) := by rw [Nat.gcd_comm p q, Nat.gcd_rec q p, Nat.gcd_comm]
      rw [if_neg (fun e => by rw [lN_z (by omega)] at e; omega), remL_n (by omega) hq (by omega), g1]
      exact ih q (p % q) (by omega) h3 (by omega)
theorem term_eq {a b : Nat} (pt : Int32) (ha : a < 2 ^ 62) (hb : b < 2 ^ 45) (h0 : 0 < b) : x_X1_inLowestTerms (lN a) (lN b) pt = x_X9_term (lN a) (lN b) pt := by
  have m := mgcd (lN a) (lN b) pt ((lN b).toInt.toNat + 1) a b (by rw [pk_lT (by omega)]; omega) ha (by omega)
  have c := cgcd (lN a) (lN b) 45 101 0 a b hb (by omega) (by omega) ha (by omega)
  have c : x_X1_greatestShared (lN a) (lN b) = lN (Nat.gcd a b) := c
  rw [x_X9_term, m, x_X1_inLowestTerms, c]
  have gl : Nat.gcd a b ≤ b := Nat.gcd_le_right _ h0
  have gp : 0 < Nat.gcd a b := Nat.gcd_pos_of_pos_right _ h0
  rcases Nat.eq_zero_or_pos a with e | ha0
  · subst e
    rw [if_pos (show lN 0 = 0 from rfl), Nat.gcd_zero_left, pk_lDiv (by omega) h0 (by omega), pk_lDiv (by omega) h0 (by omega), Nat.zero_div, Nat.div_self h0]
    rfl
  · rw [if_neg (fun e => by rw [lN_z (by omega)] at e; omega), if_neg (fun e => by rw [lN_z (by omega)] at e; omega)]
theorem lies_eq (p0 p1 p2 p3 : Int32) : x_X8_lies p0 p1 p2 p3 = x_X9_lies p0 p1 p2 p3 := by
  rw [x_X8_lies, x_X9_lies, booth_eq, within_eq, within_eq]
  by_cases h1 : x_X9_isBooth p0 p1 = true
  · rw [if_pos h1, if_pos h1]
    by_cases h2 : x_X9_in p2 0 p0 = true
    · rw [if_pos h2, if_pos h2]
      obtain ⟨a, b, rfl, rfl, q1, q2, q3⟩ := booth_of h1
      obtain ⟨c, rfl, -, q4⟩ := in_nat 0 a (by omega) h2
      obtain ⟨u1, u2, u3, -, -⟩ := ch_ok (n := a - b) (k := c) (by omega) (by omega)
      obtain ⟨w1, w2, w3, w4, -⟩ := ch_ok (n := a) (k := c) (by omega) (by omega)
      rw [pk_sub q3, u3, w3, u1, w1, term_eq p3 (by omega) (by omega) (w4 q4)]
    · rw [if_neg h2, if_neg h2]
  · rw [if_neg h1, if_neg h1]
theorem slips_loop {a b : Nat} (w pt : Int32) (h2 : 2 ≤ a) (ha : a ≤ 40) (hb : b ≤ a) : ∀ (n i U : Nat), U ≤ i * 2 ^ 36 → i ≤ b + 1 → b + 1 < i + n → x_X9_slips_L50 (nI a) (nI b) w pt n (lN U) (nI i) = x_X1_inLowestTerms (x_X1_waysForOne_L5 (nI a) (nI b) w n (lN U) (nI i)) (x_X1_choose (nI a) (nI b)) pt := by
  intro n
  induction n with
  | zero =>
    intro i U q1 q2 q3
    omega
  | succ n ih =>
    intro i U q1 q2 q3
    rw [x_X9_slips_L50, x_X1_waysForOne_L5]
    by_cases hc : nI b < nI i
    · rw [if_pos hc, if_pos hc]
      obtain ⟨w1, w2, w3, w4, -⟩ := ch_ok (n := a) (k := b) (by omega) (by omega)
      rw [w3, w1, term_eq pt (by omega) (by omega) (w4 hb)]
    · rw [if_neg hc, if_neg hc]
      have hi : i ≤ b := by
        rcases Nat.lt_or_ge b i with q | q
        · exact absurd (nI_lt q (by omega)) hc
        · exact q
      rw [x_X1_forOne, show (2 : Int32) = nI 2 from rfl, pk_div (by omega) (by decide) (by decide), pk_sub (by omega), pk_sub hi]
      obtain ⟨a1, -, a3, -, a5⟩ := ch_ok (n := a - a / 2) (k := i) (by omega) (by omega)
      obtain ⟨b1, -, b3, -, b5⟩ := ch_ok (n := a / 2) (k := b - i) (by omega) (by omega)
      have m1 := a5 (by omega)
      have m2 := b5 (by omega)
      have m3 : chN (a - a / 2) i * chN (a / 2) (b - i) ≤ 2 ^ 18 * 2 ^ 18 := Nat.mul_le_mul (by omega) (by omega)
      rw [a3, b3, a1, b1, lN_mul, lN_add, nI_1]
      exact ih (i + 1) _ (by omega) (by omega) (by omega)
theorem slips_eq (p0 p1 p2 p3 : Int32) : x_X8_slips p0 p1 p2 p3 = x_X9_slips p0 p1 p2 p3 := by
  rw [x_X8_slips, x_X9_slips, within_eq, within_eq, within_eq, within_eq]
  by_cases h1 : x_X9_isAll p0 = true
  · rw [if_pos (show x_X9_in p0 2 40 = true from h1), if_pos h1]
    by_cases h2 : x_X9_in p1 0 p0 = true
    · rw [if_pos h2, if_pos h2]
      by_cases h3 : x_X9_in p2 0 p1 = true
      · rw [if_pos h3, if_pos h3]
        obtain ⟨a, b, c, rfl, rfl, rfl, q1, q2, q3, q4⟩ := slips_of h1 h2 h3
        rw [x_X1_waysForOne, ix_nI (by omega), show (0 : Int64) = lN 0 from rfl, slips_loop (nI c) p3 q1 q2 q3 (b + 2) c 0 (by omega) (by omega) (by omega)]
      · rw [if_neg h3, if_neg h3]
    · rw [if_neg h2, if_neg h2]
  · rw [if_neg (show ¬ x_X9_in p0 2 40 = true from h1), if_neg h1]
theorem ask_loop {a b : Nat} (lst s : Int32) (ha : a ≤ 40) (hb : b ≤ a) : ∀ (n i : Nat), i ≤ a + 1 → a + 1 < i + n → x_X1_leastDrawn_L3 (nI (a - b)) (nI a) lst s n (nI i) = x_X9_ask_L24 (nI a) (nI b) s n (nI i) := by
  intro n
  induction n with
  | zero =>
    intro i q1 q2
    omega
  | succ n ih =>
    intro i q1 q2
    rw [x_X1_leastDrawn_L3, x_X9_ask_L24]
    by_cases hc : nI a < nI i
    · rw [if_pos hc, if_pos hc]
    · rw [if_neg hc, if_neg hc]
      have hi : i ≤ a := by
        rcases Nat.lt_or_ge a i with q | q
        · exact absurd (nI_lt q (by omega)) hc
        · exact q
      rw [pk_sub hb, (ch_ok (n := a) (k := i) ha (by omega)).2.2.1, (ch_ok (n := a - b) (k := i) (by omega) (by omega)).2.2.1, Int64.mul_comm (x_X9_choose (nI a) (nI i)), nI_1, ih (i + 1) (by omega) (by omega)]
theorem ask_eq (p0 p1 p2 : Int32) : x_X8_ask p0 p1 p2 = x_X9_ask p0 p1 p2 := by
  rw [x_X8_ask, x_X9_ask, booth_eq, within_eq]
  by_cases h1 : x_X9_isBooth p0 p1 = true
  · rw [if_pos h1, if_pos h1]
    obtain ⟨a, b, rfl, rfl, q1, q2, q3⟩ := booth_of h1
    rw [x_X1_leastDrawn, ix_nI (by omega), pk_sub q3, show (0 : Int32) = nI 0 from rfl, ask_loop (nI 0) p2 q2 q3 (a + 2) 0 (by omega) (by omega)]
  · rw [if_neg h1, if_neg h1]
theorem sure_loop {a : Nat} (lst s : Int32) (h2 : 2 ≤ a) (ha : a ≤ 40) : ∀ (n i : Nat), i ≤ a + 1 → a + 1 < i + n → x_X1_leastDrawn_L3 (nI (a - a / 2)) (nI a) lst s n (nI i) = x_X9_sure_L22 (nI a) s n (nI i) := by
  intro n
  induction n with
  | zero =>
    intro i q1 q2
    omega
  | succ n ih =>
    intro i q1 q2
    rw [x_X1_leastDrawn_L3, x_X9_sure_L22]
    by_cases hc : nI a < nI i
    · rw [if_pos hc, if_pos hc]
    · rw [if_neg hc, if_neg hc]
      have hi : i ≤ a := by
        rcases Nat.lt_or_ge a i with q | q
        · exact absurd (nI_lt q (by omega)) hc
        · exact q
      rw [show (2 : Int32) = nI 2 from rfl, pk_div (by omega) (by decide) (by decide), pk_sub (by omega), (ch_ok (n := a) (k := i) ha (by omega)).2.2.1, (ch_ok (n := a - a / 2) (k := i) (by omega) (by omega)).2.2.1, Int64.mul_comm (x_X9_choose (nI a) (nI i)), nI_1, ih (i + 1) (by omega) (by omega)]
theorem sure_eq (p0 p1 : Int32) : x_X8_sure p0 p1 = x_X9_sure p0 p1 := by
  rw [x_X8_sure, x_X9_sure, within_eq, within_eq]
  by_cases h1 : x_X9_isAll p0 = true
  · rw [if_pos (show x_X9_in p0 2 40 = true from h1), if_pos h1]
    obtain ⟨a, rfl, q1, q2⟩ := all_of h1
    rw [x_X1_leastDrawn, ix_nI (by omega), x_X1_forOne, show (2 : Int32) = nI 2 from rfl, pk_div (by omega) (by decide) (by decide), pk_sub (by omega), show (1 : Int32) = nI 1 from rfl, sure_loop (nI 1) p1 q1 q2 (a + 2) 1 (by omega) (by omega)]
  · rw [if_neg (show ¬ x_X9_in p0 2 40 = true from h1), if_neg h1]
theorem drawn_loop (p0 p1 p2 : Int32) : ∀ (n : Nat) (v : Int64) (i : Int32), x_X1_slipDrawn_L13 p0 p1 p2 n v i = x_X9_drawn_L37 p0 p1 p2 n v i
  | 0, _, _ => rfl
  | n + 1, v, i => by rw [x_X1_slipDrawn_L13, x_X9_drawn_L37, drawn_loop p0 p1 p2 n]
theorem drawn_eq (p0 p1 p2 : Int32) : x_X8_drawn p0 p1 p2 = x_X9_drawn p0 p1 p2 := by
  rw [x_X8_drawn, x_X9_drawn, within_eq, within_eq, within_eq]
  by_cases h1 : x_X9_isAll p1 = true
  · rw [if_pos (show x_X9_in p1 2 40 = true from h1), if_pos h1]
    obtain ⟨a, rfl, q1, q2⟩ := all_of h1
    rw [x_X1_slipDrawn, if_pos (show (0 : Int32) < nI a from nI_lt (a := 0) (by omega) (by omega)), drawn_loop]
  · rw [if_neg (show ¬ x_X9_in p1 2 40 = true from h1), if_neg h1]
theorem sums_eq (a b c ka kb kc : Int32) : x_X9_areSums a b c ka kb kc = true ↔ x_X8_areSums a b c = true ∧ x_X8_areKnown a b c ka kb kc = true := by
  rw [x_X9_areSums, x_X8_areSums, x_X8_areKnown]
  simp only [within_eq]
  by_cases h1 : x_X9_in a 0 8 = true <;> by_cases h2 : x_X9_in b 0 8 = true <;> by_cases h3 : x_X9_in c 0 8 = true <;> by_cases h4 : x_X9_in (a + b + c) 1 8 = true <;> by_cases h5 : x_X9_in ka 0 a = true <;> by_cases h6 : x_X9_in kb 0 b = true <;> by_cases h7 : x_X9_in kc 0 c = true <;> simp [h1, h2, h3, h4, h5, h6, h7]
theorem rest_eq {A B C KA KB KC : Nat} (h1 : KA ≤ A) (h2 : KB ≤ B) (h3 : KC ≤ C) : nI A - nI KA + nI B - nI KB + nI C - nI KC = nI (A + B + C - KA - KB - KC) := by
  rw [pk_sub h1, nI_add, pk_sub (by omega), nI_add, pk_sub (by omega)]
  congr 1
  omega
theorem i2l_term {x y : Nat} (pt : Int32) (hx : x < 100) (hy : y < 100) (h : ¬ nI y = 0) : x_X1_inLowestTerms (Int32.toInt64 (nI x)) (Int32.toInt64 (nI y)) pt = x_X9_term (Int32.toInt64 (nI x)) (Int32.toInt64 (nI y)) pt := by
  rw [nI_l (by omega), nI_l (by omega), term_eq pt (by omega) (by omega)]
  rcases Nat.eq_zero_or_pos y with q | q
  · subst q
    exact absurd nI_0 h
  · exact q
theorem told_eq (p0 p1 p2 p3 p4 p5 p6 p7 : Int32) : x_X8_told p0 p1 p2 p3 p4 p5 p6 p7 = x_X9_told p0 p1 p2 p3 p4 p5 p6 p7 := by
  rw [x_X8_told, x_X9_told, within_eq, within_eq]
  by_cases h1 : x_X9_areSums p0 p1 p2 p3 p4 p5 = true
  · rw [if_pos ((sums_eq ..).mp h1).1, if_pos ((sums_eq ..).mp h1).2, if_pos h1]
    obtain ⟨A, B, C, KA, KB, KC, rfl, rfl, rfl, rfl, rfl, rfl, a1, a2, a3, a4, a5, a6, a7, a8⟩ := sums_of h1
    rw [rest_eq a6 a7 a8, told_rest a6 a7 a8, pk_sub a6, pk_sub a7, pk_sub a8]
    by_cases h2 : nI (A + B + C - KA - KB - KC) = 0
    · rw [if_pos h2, if_pos h2]
    · rw [if_neg h2, if_neg h2, i2l_term p7 (by omega) (by omega) h2, i2l_term p7 (by omega) (by omega) h2, i2l_term p7 (by omega) (by omega) h2]
  · rw [if_neg h1]
    by_cases h2 : x_X8_areSums p0 p1 p2 = true
    · rw [if_pos h2, if_neg (fun q => h1 ((sums_eq ..).mpr ⟨h2, q⟩))]
    · rw [if_neg h2]
theorem forced_eq (p0 p1 p2 p3 p4 p5 : Int32) : x_X8_forced p0 p1 p2 p3 p4 p5 = x_X9_forced p0 p1 p2 p3 p4 p5 := by
  rw [x_X8_forced, x_X9_forced]
  by_cases h1 : x_X9_areSums p0 p1 p2 p3 p4 p5 = true
  · rw [if_pos ((sums_eq ..).mp h1).1, if_pos ((sums_eq ..).mp h1).2, if_pos h1]
    obtain ⟨A, B, C, KA, KB, KC, rfl, rfl, rfl, rfl, rfl, rfl, a1, a2, a3, a4, a5, a6, a7, a8⟩ := sums_of h1
    rw [rest_eq a6 a7 a8, told_rest a6 a7 a8, pk_sub a6, pk_sub a7, pk_sub a8]
    have L : ∀ x y : Nat, x < 100 → y < 100 → ((nI x < nI y) ↔ x < y) := fun x y hx hy => nI_ltI (by omega) (by omega)
    have E : ∀ x y : Nat, x < 100 → y < 100 → ((nI x ≤ nI y) ↔ x ≤ y) := fun x y hx hy => nI_leI (by omega) (by omega)
    by_cases c1 : B - KB < C - KC
    · rw [if_pos ((L _ _ (by omega) (by omega)).mpr c1)]
      by_cases c2 : A - KA < C - KC
      · rw [if_pos ((L _ _ (by omega) (by omega)).mpr c2)]
        by_cases c3 : A - KA ≤ B - KB
        · rw [if_pos ((E _ _ (by omega) (by omega)).mpr c3), if_neg (fun q => by rw [E _ _ (by omega) (by omega)] at q; omega)]
        · rw [if_neg (fun q => c3 ((E _ _ (by omega) (by omega)).mp q)), if_neg (fun q => by rw [E _ _ (by omega) (by omega)] at q; omega)]
      · rw [if_neg (fun q => c2 ((L _ _ (by omega) (by omega)).mp q)), if_neg (fun q => by rw [E _ _ (by omega) (by omega)] at q; omega), if_pos ((E _ _ (by omega) (by omega)).mpr (by omega))]
    · rw [if_neg (fun q => c1 ((L _ _ (by omega) (by omega)).mp q))]
      by_cases c2 : A - KA < B - KB
      · rw [if_pos ((L _ _ (by omega) (by omega)).mpr c2), if_pos ((E _ _ (by omega) (by omega)).mpr (by omega)), if_pos ((E _ _ (by omega) (by omega)).mpr (by omega))]
      · rw [if_neg (fun q => c2 ((L _ _ (by omega) (by omega)).mp q))]
        by_cases c3 : A - KA ≤ B - KB
        · rw [if_pos ((E _ _ (by omega) (by omega)).mpr c3), if_pos ((E _ _ (by omega) (by omega)).mpr (by omega)), show A - KA = B - KB by omega]
        · rw [if_neg (fun q => c3 ((E _ _ (by omega) (by omega)).mp q)), if_pos ((E _ _ (by omega) (by omega)).mpr (by omega))]
  · rw [if_neg h1]
    by_cases h2 : x_X8_areSums p0 p1 p2 = true
    · rw [if_pos h2, if_neg (fun q => h1 ((sums_eq ..).mpr ⟨h2, q⟩))]
    · rw [if_neg h2]
