/-! ranges as numbers; choose on its small domain, class and reference -/
theorem in_of {x lo hi : Int32} (h : x_X9_in x lo hi = true) : ¬ x < lo ∧ ¬ hi < x := by
  rw [x_X9_in] at h
  by_cases h0 : x < lo
  · rw [if_pos h0] at h
    cases h
  · rw [if_neg h0] at h
    by_cases h1 : hi < x
    · rw [if_pos h1] at h
      cases h
    · exact ⟨h0, h1⟩
theorem in_mk {x lo hi : Int32} (h0 : ¬ x < lo) (h1 : ¬ hi < x) : x_X9_in x lo hi = true := by
  rw [x_X9_in, if_neg h0, if_neg h1]
theorem in_nat {x : Int32} (L K : Nat) (hK : K < 2 ^ 31) (h : x_X9_in x (nI L) (nI K) = true) (hL : L < 2 ^ 31 := by decide) : ∃ j : Nat, x = nI j ∧ L ≤ j ∧ j ≤ K := by
  obtain ⟨h0, h1⟩ := in_of h
  have h2 : ¬ x < 0 := fun q => by
    have a := nI_toInt hL
    rw [Int32.lt_iff_toInt_lt] at h0 q
    rw [Int32.toInt_zero] at q
    omega
  obtain ⟨j, hj, rfl⟩ := nI_of h2
  refine ⟨j, rfl, ?_, ?_⟩
  · rcases Nat.lt_or_ge j L with q | q
    · exact absurd (nI_lt q hL) h0
    · exact q
  · rcases Nat.lt_or_ge K j with q | q
    · exact absurd (nI_lt q hj) h1
    · exact q
theorem nat_in {L K j : Nat} (h0 : L ≤ j) (h1 : j ≤ K) (hK : K < 2 ^ 31) : x_X9_in (nI j) (nI L) (nI K) = true := in_mk (nI_nlt h0 (by omega)) (nI_nlt h1 hK)
def chOK (n k : Nat) : Bool := decide (x_X9_choose (nI n) (nI k) = lN (x_X9_choose (nI n) (nI k)).toInt.toNat) && (decide ((x_X9_choose (nI n) (nI k)).toInt.toNat < 2 ^ 38) && (decide (x_X1_choose (nI n) (nI k) = x_X9_choose (nI n) (nI k)) && ((decide (n < k) || decide (0 < (x_X9_choose (nI n) (nI k)).toInt.toNat)) && (decide (20 < n) || decide ((x_X9_choose (nI n) (nI k)).toInt.toNat < 2 ^ 18)))))
set_option maxRecDepth 100000 in
theorem ch_all : (List.range 41).all (fun n => (List.range 41).all (fun k => chOK n k)) = true := by decide +kernel
def chN (n k : Nat) : Nat := (x_X9_choose (nI n) (nI k)).toInt.toNat
theorem ch_ok {n k : Nat} (hn : n ≤ 40) (hk : k ≤ 40) : x_X9_choose (nI n) (nI k) = lN (chN n k) ∧ chN n k < 2 ^ 38 ∧ x_X1_choose (nI n) (nI k) = x_X9_choose (nI n) (nI k) ∧ (k ≤ n → 0 < chN n k) ∧ (n ≤ 20 → chN n k < 2 ^ 18) := by
  have h := ch_all
  rw [List.all_eq_true] at h
  have h1 := h n (List.mem_range.mpr (by omega))
  rw [List.all_eq_true] at h1
  have h2 := h1 k (List.mem_range.mpr (by omega))
  simp only [chOK, Bool.and_eq_true, Bool.or_eq_true, decide_eq_true_eq] at h2
  obtain ⟨a, b, c, d, e⟩ := h2
  exact ⟨a, b, c, fun q => d.resolve_left (by omega), fun q => e.resolve_left (by omega)⟩
