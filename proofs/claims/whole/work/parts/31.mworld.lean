/-! the reference's world, and the indices of its stores -/
abbrev mW (cI cZ : ClassId) (o aS aH aG aR aV aA aB aO aP aF aC : Nat) (nd : Int32) (fs fh : Nat → Int32) (sg : Nat) (fg : Nat → Int32) (rq : Nat) (fq : Nat → Int32) (cl : Int32) (nr : Nat) (fV fA fB fO fP fF : Nat → Int32) (cn : Nat) (fC : Nat → Int32) (mx : Int32) : va_W :=
  [(o, .inr (7, [.int nd, .ref aS, .ref aH, .int (nI sg), .ref aG, .int (nI rq), .ref aR, .int cl, .int (nI nr), .ref aV, .ref aA, .ref aB, .ref aO, .ref aP, .ref aF, .int (nI cn), .ref aC, .int mx])), (aS, .inl (cI, 3, .inl fs)), (aH, .inl (cI, 36, .inl fh)), (aG, .inl (cI, 40, .inl fg)), (aR, .inl (cI, 40, .inl fq)), (aV, .inl (cI, 30, .inl fV)), (aA, .inl (cI, 30, .inl fA)), (aB, .inl (cI, 30, .inl fB)), (aO, .inl (cI, 30, .inl fO)), (aP, .inl (cZ, 30, .inl fP)), (aF, .inl (cI, 120, .inl fF)), (aC, .inl (cI, 30, .inl fC))]
theorem has_in2 {p w : Int32} (h : x_X9_isVoter p = true) (hw : x_X9_in w 0 2 = true) : vp_in (3 * p + w) 36 := by
  obtain ⟨k, rfl, -, h1⟩ := in_nat 0 2 (by decide) hw
  refine has_in h ?_
  rcases (show k = 0 ∨ k = 1 ∨ k = 2 by omega) with e | e | e <;> subst e
  · exact Or.inl rfl
  · exact Or.inr (Or.inl rfl)
  · exact Or.inr (Or.inr rfl)
theorem free_lt {k K : Nat} {x : Int32} (h : k ≤ K) (hx : x = nI K) (hc : ¬ nI k = x) : k < K := by
  rcases Nat.lt_or_ge k K with q | q
  · exact q
  · exact absurd (by rw [hx, show k = K by omega]) hc
theorem free_in {k K : Nat} {x : Int32} (h : k ≤ K) (hK : K < 2 ^ 31) (hx : x = nI K) (hc : ¬ nI k = x) : vp_in (nI k) K := vp_in_nI (free_lt h hx hc) hK
theorem proof_in {nr : Nat} {v : Int32} (h : nr < 30) (hv : ∃ i : Nat, v = nI i ∧ 0 ≤ i ∧ i < 4) : vp_in (4 * nI nr + v) 120 := by
  obtain ⟨i, rfl, -, hi⟩ := hv
  rw [show (4 : Int32) = nI 4 from rfl, pk_mul, nI_add]
  exact vp_in_nI (by omega) (by decide)
theorem att_in0 {nr : Nat} {p : Int32} (hn : nr ≤ 30) (h : inR nr p = true) : vp_in (4 * p) 120 := by
  have h1 := inR_lt hn h
  have h2 := nI_ix (inR_iff.mp h).1
  rw [h2, show (4 : Int32) = nI 4 from rfl, pk_mul]
  exact vp_in_nI (by omega) (by decide)
theorem att_in {nr : Nat} {p x : Int32} (k : Nat) (hx : x = nI k) (hk : k < 4) (hn : nr ≤ 30) (h : inR nr p = true) : vp_in (4 * p + x) 120 := by
  have h1 := inR_lt hn h
  have h2 := nI_ix (inR_iff.mp h).1
  rw [h2, hx, show (4 : Int32) = nI 4 from rfl, pk_mul, nI_add]
  exact vp_in_nI (by omega) (by decide)
theorem isRow_in {nr : Nat} {p : Int32} (hn : nr ≤ 30) (h : x_X9_isRow nr p = true) : inR nr p = true := by
  obtain ⟨h0, h1⟩ := in_of h
  refine inR_iff.mpr ⟨h0, fun q => ?_⟩
  obtain ⟨j, hj, rfl⟩ := nI_of h0
  have h2 : nr ≤ j := (nI_leI (by omega) hj).mp q
  refine h1 ?_
  rcases Nat.eq_zero_or_pos nr with e | e
  · subst e
    rw [Int32.lt_iff_toInt_lt, nI_toInt hj]
    rw [show (nI 0 - 1 : Int32).toInt = -1 by decide +kernel]
    omega
  · obtain ⟨k, rfl⟩ : ∃ k, nr = k + 1 := ⟨nr - 1, by omega⟩
    rw [nI_pred]
    exact nI_lt (by omega) hj
