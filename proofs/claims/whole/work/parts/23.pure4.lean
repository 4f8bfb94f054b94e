/-! the reference's odds: what its loops hold, what goes to Euclid -/
theorem booth_of {n k : Int32} (h : x_X9_isBooth n k = true) : ∃ a b : Nat, n = nI a ∧ k = nI b ∧ 1 ≤ a ∧ a ≤ 40 ∧ b ≤ a := by
  rw [x_X9_isBooth] at h
  by_cases h0 : x_X9_in n 1 40 = true
  · rw [if_pos h0] at h
    obtain ⟨a, rfl, h1, h2⟩ := in_nat 1 40 (by decide) h0
    by_cases h3 : x_X9_in k 0 (nI a) = true
    · obtain ⟨b, rfl, -, h4⟩ := in_nat 0 a (by omega) h3
      exact ⟨a, b, rfl, rfl, h1, h2, h4⟩
    · rw [if_neg h3] at h
      cases h
  · rw [if_neg h0] at h
    cases h
theorem all_of {n : Int32} (h : x_X9_isAll n = true) : ∃ a : Nat, n = nI a ∧ 2 ≤ a ∧ a ≤ 40 := in_nat 2 40 (by decide) h
theorem ch_TM {n m k l : Nat} (hn : n ≤ 40) (hk : k ≤ 40) (hm : m ≤ 40) (hl : l ≤ m) : TM (x_X9_choose (nI n) (nI k)) (x_X9_choose (nI m) (nI l)) := by
  obtain ⟨a1, a2, -, -, -⟩ := ch_ok hn hk
  obtain ⟨b1, b2, -, b4, -⟩ := ch_ok hm (show l ≤ 40 by omega)
  exact ⟨_, _, a1, b1, by omega, by omega, b4 hl⟩
theorem lies_TM {n k x : Int32} (h : x_X9_isBooth n k = true) (hx : x_X9_in x 0 n = true) : TM (x_X9_choose (n - k) x) (x_X9_choose n x) := by
  obtain ⟨a, b, rfl, rfl, h1, h2, h3⟩ := booth_of h
  obtain ⟨c, rfl, -, h4⟩ := in_nat 0 a (by omega) hx
  rw [pk_sub h3]
  exact ch_TM (by omega) (by omega) h2 h4
/-- the sum of slips: what its loop holds -/
def SL (N n : Nat) (v6 : Int64) (v8 : Int32) : Prop := ∃ i U : Nat, v8 = nI i ∧ v6 = lN U ∧ U ≤ i * 2 ^ 36 ∧ i ≤ N + 1 ∧ N + 1 < i + n ∧ N ≤ 40
theorem SL.zero {N : Nat} {v6 : Int64} {v8 : Int32} : ¬ SL N 0 v6 v8 := by
  rintro ⟨i, U, -, -, -, h1, h2, -⟩
  omega
theorem slips_of {all n w : Int32} (h1 : x_X9_isAll all = true) (h2 : x_X9_in n 0 all = true) (h3 : x_X9_in w 0 n = true) : ∃ a b c : Nat, all = nI a ∧ n = nI b ∧ w = nI c ∧ 2 ≤ a ∧ a ≤ 40 ∧ b ≤ a ∧ c ≤ b := by
  obtain ⟨a, rfl, q1, q2⟩ := all_of h1
  obtain ⟨b, rfl, -, q3⟩ := in_nat 0 a (by omega) h2
  obtain ⟨c, rfl, -, q4⟩ := in_nat 0 b (by omega) h3
  exact ⟨a, b, c, rfl, rfl, rfl, q1, q2, q3, q4⟩
theorem SL.start {all n w : Int32} (h1 : x_X9_isAll all = true) (h2 : x_X9_in n 0 all = true) (h3 : x_X9_in w 0 n = true) : SL (ix n) (ix n + 2) 0 w := by
  obtain ⟨a, b, c, rfl, rfl, rfl, q1, q2, q3, q4⟩ := slips_of h1 h2 h3
  rw [ix_nI (by omega)]
  exact ⟨c, 0, rfl, rfl, by omega, by omega, by omega, by omega⟩
theorem SL.step {all n w : Int32} {k : Nat} {v6 : Int64} {v8 : Int32} (hI : SL (ix n) (k + 1) v6 v8) (h1 : x_X9_isAll all = true) (h2 : x_X9_in n 0 all = true) (h3 : x_X9_in w 0 n = true) (hc : ¬ n < v8) : SL (ix n) k (v6 + x_X9_choose (all - all / 2) v8 * x_X9_choose (all / 2) (n - v8)) (v8 + 1) := by
  obtain ⟨a, b, c, rfl, rfl, rfl, q1, q2, q3, q4⟩ := slips_of h1 h2 h3
  rw [ix_nI (by omega)] at hI ⊢
  obtain ⟨i, U, rfl, rfl, h4, h5, h6, h7⟩ := hI
  have hi : i ≤ b := by
    rcases Nat.lt_or_ge b i with q | q
    · exact absurd (nI_lt q (by omega)) hc
    · exact q
  rw [show (2 : Int32) = nI 2 from rfl, pk_div (by omega) (by decide) (by decide), pk_sub (by omega), pk_sub hi]
  obtain ⟨a1, -, -, -, a5⟩ := ch_ok (n := a - a / 2) (k := i) (by omega) (by omega)
  obtain ⟨b1, -, -, -, b5⟩ := ch_ok (n := a / 2) (k := b - i) (by omega) (by omega)
  rw [a1, b1, lN_mul, lN_add]
  refine ⟨i + 1, _, nI_1 i, rfl, ?_, by omega, by omega, h7⟩
  have m1 := a5 (by omega)
  have m2 := b5 (by omega)
  have m3 : chN (a - a / 2) i * chN (a / 2) (b - i) ≤ 2 ^ 18 * 2 ^ 18 := Nat.mul_le_mul (by omega) (by omega)
  omega
theorem SL.tm {all n w : Int32} {k : Nat} {v6 : Int64} {v8 : Int32} (hI : SL (ix n) k v6 v8) (h1 : x_X9_isAll all = true) (h2 : x_X9_in n 0 all = true) (h3 : x_X9_in w 0 n = true) : TM v6 (x_X9_choose all n) := by
  obtain ⟨a, b, c, rfl, rfl, rfl, q1, q2, q3, q4⟩ := slips_of h1 h2 h3
  obtain ⟨i, U, rfl, rfl, h4, h5, h6, h7⟩ := hI
  obtain ⟨b1, b2, -, b4, -⟩ := ch_ok (n := a) (k := b) q2 (by omega)
  exact ⟨U, _, rfl, b1, by omega, by omega, b4 q3⟩
theorem sums_of {a b c ka kb kc : Int32} (h : x_X9_areSums a b c ka kb kc = true) : ∃ A B C KA KB KC : Nat, a = nI A ∧ b = nI B ∧ c = nI C ∧ ka = nI KA ∧ kb = nI KB ∧ kc = nI KC ∧ A ≤ 8 ∧ B ≤ 8 ∧ C ≤ 8 ∧ 1 ≤ A + B + C ∧ A + B + C ≤ 8 ∧ KA ≤ A ∧ KB ≤ B ∧ KC ≤ C := by
  rw [x_X9_areSums] at h
  by_cases h1 : x_X9_in a 0 8 = true
  · rw [if_pos h1] at h
    by_cases h2 : x_X9_in b 0 8 = true
    · rw [if_pos h2] at h
      by_cases h3 : x_X9_in c 0 8 = true
      · rw [if_pos h3] at h
        by_cases h4 : x_X9_in (a + b + c) 1 8 = true
        · rw [if_pos h4] at h
          by_cases h5 : x_X9_in ka 0 a = true
          · rw [if_pos h5] at h
            by_cases h6 : x_X9_in kb 0 b = true
            · rw [if_pos h6] at h
              by_cases h7 : x_X9_in kc 0 c = true
              · obtain ⟨A, rfl, -, a1⟩ := in_nat 0 8 (by decide) h1
                obtain ⟨B, rfl, -, a2⟩ := in_nat 0 8 (by decide) h2
                obtain ⟨C, rfl, -, a3⟩ := in_nat 0 8 (by decide) h3
                obtain ⟨KA, rfl, -, a5⟩ := in_nat 0 A (by omega) h5
                obtain ⟨KB, rfl, -, a6⟩ := in_nat 0 B (by omega) h6
                obtain ⟨KC, rfl, -, a7⟩ := in_nat 0 C (by omega) h7
                rw [nI_add, nI_add] at h4
                obtain ⟨S, e, a8, a9⟩ := in_nat 1 8 (by decide) h4
                have e : A + B + C = S := (nI_eq (by omega) (by omega)).mp e
                exact ⟨A, B, C, KA, KB, KC, rfl, rfl, rfl, rfl, rfl, rfl, a1, a2, a3, by omega, by omega, a5, a6, a7⟩
              · rw [if_neg h7] at h
                cases h
            · rw [if_neg h6] at h
              cases h
          · rw [if_neg h5] at h
            cases h
        · rw [if_neg h4] at h
          cases h
      · rw [if_neg h3] at h
        cases h
    · rw [if_neg h2] at h
      cases h
  · rw [if_neg h1] at h
    cases h
theorem tm_nI {x y : Nat} (hx : x < 2 ^ 31) (hy : y < 2 ^ 31) (h : ¬ nI y = 0) : TM (nI x).toInt64 (nI y).toInt64 := by
  refine ⟨x, y, nI_l hx, nI_l hy, by omega, by omega, ?_⟩
  rcases Nat.eq_zero_or_pos y with q | q
  · subst q
    exact absurd nI_0 h
  · exact q
theorem told_rest {A B C KA KB KC : Nat} (h1 : KA ≤ A) (h2 : KB ≤ B) (h3 : KC ≤ C) : nI A + nI B + nI C - nI KA - nI KB - nI KC = nI (A + B + C - KA - KB - KC) := by
  rw [nI_add, nI_add, pk_sub (by omega), pk_sub (by omega), pk_sub (by omega)]
theorem told_TM {a b c ka kb kc : Int32} (h : x_X9_areSums a b c ka kb kc = true) (hr : ¬ a + b + c - ka - kb - kc = 0) : TM (a - ka).toInt64 (a + b + c - ka - kb - kc).toInt64 ∧ TM (b - kb).toInt64 (a + b + c - ka - kb - kc).toInt64 ∧ TM (c - kc).toInt64 (a + b + c - ka - kb - kc).toInt64 := by
  obtain ⟨A, B, C, KA, KB, KC, rfl, rfl, rfl, rfl, rfl, rfl, a1, a2, a3, a4, a5, a6, a7, a8⟩ := sums_of h
  rw [told_rest a6 a7 a8] at hr ⊢
  rw [pk_sub a6, pk_sub a7, pk_sub a8]
  exact ⟨tm_nI (by omega) (by omega) hr, tm_nI (by omega) (by omega) hr, tm_nI (by omega) (by omega) hr⟩
theorem head_in {nr n : Nat} {p v : Int32} (hn : nr ≤ 30) (hin : inR nr p = true) (hI : UP 0 (ix p + 1) (n + 1) v) (hc : ¬ p < v) : UP 0 (ix p + 1) n (v + 1) ∧ inR nr v = true := by
  have h1 := inR_lt hn hin
  have h2 := hI.gt (by omega) (nI_ix (inR_iff.mp hin).1) hc
  refine ⟨h2.1, ?_⟩
  obtain ⟨i, rfl, -, h3⟩ := h2.2
  exact inR_iff.mpr ⟨nI_pos (by omega), nI_ge (by omega) (by omega)⟩
theorem up_inR {a K n k : Nat} {v : Int32} (hI : UP a K n v) (hK : K < 2 ^ 31) (hc : ¬ nI k ≤ v) : inR k v = true := by
  obtain ⟨i, rfl, h1, h2, h3⟩ := hI
  exact inR_iff.mpr ⟨nI_pos (by omega), hc⟩
