/-! counters, and small facts of Int32 -/
theorem ne_pos {x : Int32} (h : 0 < x) : ¬ x = 0 := by
  intro q
  subst q
  exact absurd h (by decide +kernel)
theorem ne_posL {x : Int64} (h : 0 < x) : ¬ x = 0 := by
  intro q
  subst q
  exact absurd h (by decide +kernel)
/-- a counter v between a and K, with n rounds enough for what is left -/
def UP (a K n : Nat) (v : Int32) : Prop := ∃ i : Nat, v = nI i ∧ a ≤ i ∧ i ≤ K ∧ K < i + n
theorem UP.zero {a K : Nat} {v : Int32} : ¬ UP a K 0 v := by
  rintro ⟨i, h1, h2, h3, h4⟩
  omega
theorem UP.start {a K : Nat} (b : Nat) (h1 : a ≤ b) (h2 : b ≤ K) : UP a K (K + 1) (nI b) := ⟨b, rfl, h1, h2, by omega⟩
/-- the test was: leave if K ≤ v -/
theorem UP.ge {a K n : Nat} {v k : Int32} (hI : UP a K (n + 1) v) (hK : K < 2 ^ 31) (hk : k = nI K) (hc : ¬ k ≤ v) : UP a K n (v + 1) ∧ ∃ i : Nat, v = nI i ∧ a ≤ i ∧ i < K := by
  obtain ⟨i, rfl, h1, h2, h3⟩ := hI
  have hlt : i < K := by
    rcases Nat.lt_or_ge i K with q | q
    · exact q
    · exact absurd (by rw [hk]; exact nI_le q (by omega)) hc
  exact ⟨⟨i + 1, nI_1 i, by omega, by omega, by omega⟩, i, rfl, h1, hlt⟩
/-- the test was: leave if K < v, for the counter's bound K + 1 -/
theorem UP.gt {a K n : Nat} {v k : Int32} (hI : UP a (K + 1) (n + 1) v) (hK : K + 1 < 2 ^ 31) (hk : k = nI K) (hc : ¬ k < v) : UP a (K + 1) n (v + 1) ∧ ∃ i : Nat, v = nI i ∧ a ≤ i ∧ i ≤ K := by
  obtain ⟨i, rfl, h1, h2, h3⟩ := hI
  have hlt : i ≤ K := by
    rcases Nat.lt_or_ge K i with q | q
    · exact absurd (by rw [hk]; exact nI_lt q (by omega)) hc
    · exact q
  exact ⟨⟨i + 1, nI_1 i, by omega, by omega, by omega⟩, i, rfl, h1, hlt⟩
theorem nI_ix {x : Int32} (h : ¬ x < 0) : x = nI (ix x) := by
  obtain ⟨j, hj, rfl⟩ := nI_of h
  rw [ix, nI_clamp hj]
theorem ix_lt (x : Int32) : ix x < 2 ^ 31 := by
  by_cases h : x < 0
  · have h1 := Int32.lt_iff_toInt_lt.mp h
    rw [Int32.toInt_zero] at h1
    have h2 : ix x = x.toInt.toNat := rfl
    omega
  · obtain ⟨j, hj, rfl⟩ := nI_of h
    rw [ix, nI_clamp hj]
    exact hj
theorem le_of_nlt {x y : Int32} (h : ¬ x < y) : y ≤ x := by
  rw [Int32.lt_iff_toInt_lt] at h
  rw [Int32.le_iff_toInt_le]
  omega
theorem lt_of_nle {x y : Int32} (h : ¬ x ≤ y) : y < x := by
  rw [Int32.le_iff_toInt_le] at h
  rw [Int32.lt_iff_toInt_lt]
  omega
theorem sw_out3 {x : Int32} (h0 : ¬ x = 0) (h1 : ¬ x = 1) (h2 : ¬ x = 2) : x.toInt < 0 ∨ 2 < x.toInt := by
  rw [← Int32.toInt_inj] at h0 h1 h2
  have e0 : (0 : Int32).toInt = 0 := by decide +kernel
  have e1 : (1 : Int32).toInt = 1 := by decide +kernel
  have e2 : (2 : Int32).toInt = 2 := by decide +kernel
  omega
theorem sw_out6 {x : Int32} (h0 : ¬ x = 0) (h1 : ¬ x = 1) (h2 : ¬ x = 2) (h3 : ¬ x = 3) (h4 : ¬ x = 4) (h5 : ¬ x = 5) : x.toInt < 0 ∨ 5 < x.toInt := by
  rw [← Int32.toInt_inj] at h0 h1 h2 h3 h4 h5
  have e0 : (0 : Int32).toInt = 0 := by decide +kernel
  have e1 : (1 : Int32).toInt = 1 := by decide +kernel
  have e2 : (2 : Int32).toInt = 2 := by decide +kernel
  have e3 : (3 : Int32).toInt = 3 := by decide +kernel
  have e4 : (4 : Int32).toInt = 4 := by decide +kernel
  have e5 : (5 : Int32).toInt = 5 := by decide +kernel
  omega
theorem sw_out7 {x : Int32} (h0 : ¬ x = 0) (h1 : ¬ x = 1) (h2 : ¬ x = 2) (h3 : ¬ x = 3) (h4 : ¬ x = 4) (h5 : ¬ x = 5) (h6 : ¬ x = 6) : x.toInt < 0 ∨ 6 < x.toInt := by
  have h := sw_out6 h0 h1 h2 h3 h4 h5
  rw [← Int32.toInt_inj] at h6
  have e6 : (6 : Int32).toInt = 6 := by decide +kernel
  omega
