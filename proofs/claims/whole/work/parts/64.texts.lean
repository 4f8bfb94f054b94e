/-! MATHEMATICS: texts: faults, rules, who may -/
theorem cmp_of {x : Int32} (h : x_X6_isCompare x = true) : x = 60 ∨ x = 62 ∨ x = 61 := by
  rw [x_X6_isCompare] at h
  by_cases h1 : x = 60
  · exact Or.inl h1
  · by_cases h2 : x = 62
    · exact Or.inr (Or.inl h2)
    · by_cases h3 : x = 61
      · exact Or.inr (Or.inr h3)
      · rw [if_neg h1, if_neg h2, if_neg h3] at h
        cases h
theorem nam_of {x : Int32} (h : x_X6_isName x = true) : x = 97 ∨ x = 121 ∨ x = 98 := by
  rw [x_X6_isName] at h
  by_cases h1 : x = 97
  · exact Or.inl h1
  · by_cases h2 : x = 121
    · exact Or.inr (Or.inl h2)
    · by_cases h3 : x = 98
      · exact Or.inr (Or.inr h3)
      · rw [if_neg h1, if_neg h2, if_neg h3] at h
        cases h
theorem joi_of {x : Int32} (h : x_X6_isJoin x = true) : x = 38 ∨ x = 124 := by
  rw [x_X6_isJoin] at h
  by_cases h1 : x = 38
  · exact Or.inl h1
  · by_cases h2 : x = 124
    · exact Or.inr h2
    · rw [if_neg h1, if_neg h2] at h
      cases h
theorem dig_of {x : Int32} (h : x_X6_isDigit x = true) : x = 48 ∨ x = 49 ∨ x = 50 ∨ x = 51 ∨ x = 52 ∨ x = 53 ∨ x = 54 ∨ x = 55 ∨ x = 56 ∨ x = 57 := by
  obtain ⟨j, rfl, h1, h2⟩ := in_nat 48 57 (by decide) (show x_X9_in x 48 57 = true from h)
  rcases (show j = 48 ∨ j = 49 ∨ j = 50 ∨ j = 51 ∨ j = 52 ∨ j = 53 ∨ j = 54 ∨ j = 55 ∨ j = 56 ∨ j = 57 by omega) with e | e | e | e | e | e | e | e | e | e <;> subst e <;> decide +kernel
theorem cmp_not {x : Int32} (h : x_X6_isCompare x = true) : ¬ x_X6_isName x = true := by
  rcases cmp_of h with e | e | e <;> subst e <;> decide +kernel
theorem dig_not {x : Int32} (h : x_X6_isDigit x = true) : ¬ x_X6_isName x = true ∧ ¬ x_X6_isCompare x = true ∧ ¬ x_X6_isJoin x = true := by
  rcases dig_of h with e | e | e | e | e | e | e | e | e | e <;> subst e <;> decide +kernel
theorem joi_not {x : Int32} (h : x_X6_isJoin x = true) : ¬ x_X6_isName x = true ∧ ¬ x_X6_isCompare x = true ∧ ¬ x_X6_isDigit x = true := by
  rcases joi_of h with e | e <;> subst e <;> decide +kernel
/-- the states of a text that is not broken -/
def S6 (v : Int32) : Prop := v = 0 ∨ v = 1 ∨ v = 2 ∨ v = 3 ∨ v = 4 ∨ v = 5
theorem lt3 {v : Int32} (h : S6 v) : (v < 3) ↔ (v ≤ 2) := by
  rcases h with e | e | e | e | e | e <;> subst e <;> decide +kernel
theorem fit_eq {fg : Nat → Int32} {v v2 : Int32} (h : S6 v) : (x_X9_faultOf_fits fg v v2 = true ↔ ¬ x_X6_stateBehind v (fg (ix v2)) = -1) ∧ (¬ x_X6_stateBehind v (fg (ix v2)) = -1 → x_X9_faultOf_next fg v v2 = x_X6_stateBehind v (fg (ix v2)) ∧ S6 (x_X6_stateBehind v (fg (ix v2)))) := by
  have eb : x_X9_faultOf_btw fg v2 = x_X6_isJoin (fg (ix v2)) := rfl
  have ed : x_X9_in (fg (ix v2)) 48 57 = x_X6_isDigit (fg (ix v2)) := rfl
  have en : (if (fg (ix v2)) = 97 then true else (if (fg (ix v2)) = 121 then true else (if (fg (ix v2)) = 98 then true else false))) = x_X6_isName (fg (ix v2)) := rfl
  have ec : (if (fg (ix v2)) = 60 then true else (if (fg (ix v2)) = 62 then true else (if (fg (ix v2)) = 61 then true else false))) = x_X6_isCompare (fg (ix v2)) := rfl
  rw [x_X9_faultOf_fits, x_X9_faultOf_next, eb, ed, en, ec, x_X6_stateBehind]
  generalize fg (ix v2) = x
  have hdj : x_X6_isDigit x = true → ¬ x_X6_isJoin x = true := fun q => (dig_not q).2.2
  unfold S6 at h ⊢
  generalize x_X6_isName x = a
  generalize x_X6_isCompare x = b
  generalize x_X6_isDigit x = d at hdj ⊢
  generalize x_X6_isJoin x = j at hdj ⊢
  rcases h with e | e | e | e | e | e <;> subst e <;> cases a <;> cases b <;> cases d <;> cases j <;> first | exact absurd rfl (hdj rfl) | decide +kernel
theorem fault_loop {sg : Nat} {fd fg : Nat → Int32} (hs : sg ≤ 40) (ha : ∀ i, i < sg → fd i = fg i) : ∀ (n m i : Nat) (v : Int32), S6 v → i ≤ sg → 40 < i + n → sg < i + m → x_X6_faultPlace_L4 (nI sg) fd n v (nI i) = x_X9_faultOf_L4 sg fg m v (nI i) := by
  intro n
  induction n with
  | zero =>
    intro m i v h1 h2 h3 h4
    omega
  | succ n ih =>
    intro m i v h1 h2 h3 h4
    obtain ⟨m, rfl⟩ : ∃ m', m = m' + 1 := ⟨m - 1, by omega⟩
    rw [x_X6_faultPlace_L4, x_X9_faultOf_L4]
    by_cases hc : nI sg ≤ nI i
    · rw [if_pos hc, if_pos hc]
      by_cases q : v < 3
      · rw [if_pos q, if_pos ((lt3 h1).mp q)]
      · rw [if_neg q, if_neg (fun r => q ((lt3 h1).mpr r))]
    · have hi : i < sg := by
        rcases Nat.lt_or_ge i sg with q | q
        · exact q
        · exact absurd (nI_le q (by omega)) hc
      rw [if_neg hc, if_neg hc, if_neg (show ¬ (40 : Int32) ≤ nI i from nI_ge (b := 40) (by omega) (by decide))]
      have f := fit_eq (fg := fg) (v := v) (v2 := nI i) h1
      rw [show fd (ix (nI i)) = fg (ix (nI i)) by rw [ix_nI (by omega)]; exact ha i hi]
      by_cases q : x_X6_stateBehind v (fg (ix (nI i))) = -1
      · rw [if_pos q, if_neg (fun r => f.1.mp r q)]
      · rw [if_neg q, if_pos (f.1.mpr q), (f.2 q).1, nI_1]
        exact ih m (i + 1) _ (f.2 q).2 (by omega) (by omega) (by omega)
theorem fault_eq {sg : Nat} {fd fg : Nat → Int32} (hs : sg ≤ 40) (ha : ∀ i, i < sg → fd i = fg i) : x_X8_fault sg fd = x_X9_faultOf sg fg := by
  rw [x_X8_fault, x_X6_faultPlace, x_X9_faultOf]
  exact fault_loop hs ha 41 (sg + 1) 0 0 (Or.inl rfl) (by omega) (by omega) (by omega)
/-- a text without a fault is a right one -/
theorem fault_VT {sg : Nat} {f : Nat → Int32} (hs : sg ≤ 40) : ∀ (n i : Nat), i ≤ sg → 40 < i + n → x_X6_faultPlace_L4 (nI sg) f n (tau f i) (nI i) = -6 → (∀ j, i ≤ j → j < sg → ¬ tau f (j + 1) = -1) ∧ ¬ tau f sg < 3 := by
  intro n
  induction n with
  | zero =>
    intro i h1 h2
    omega
  | succ n ih =>
    intro i h1 h2 hE
    have ne6 : ∀ k : Nat, k < 2 ^ 31 → ¬ nI k = -6 := fun k hk e => by
      have := nI_pos hk
      rw [e] at this
      exact this (by decide +kernel)
    rw [x_X6_faultPlace_L4] at hE
    by_cases hc : nI sg ≤ nI i
    · have hi : i = sg := by
        have := (nI_leI (by omega) (by omega)).mp hc
        omega
      subst hi
      rw [if_pos hc] at hE
      refine ⟨fun j q1 q2 => by omega, fun q => ?_⟩
      rw [if_pos q] at hE
      exact ne6 _ (by omega) hE
    · have hi : i < sg := by
        rcases Nat.lt_or_ge i sg with q | q
        · exact q
        · exact absurd (nI_le q (by omega)) hc
      rw [if_neg hc, if_neg (show ¬ (40 : Int32) ≤ nI i from nI_ge (b := 40) (by omega) (by decide)), ix_nI (by omega)] at hE
      by_cases q : x_X6_stateBehind (tau f i) (f i) = -1
      · rw [if_pos q] at hE
        exact absurd hE (ne6 _ (by omega))
      · rw [if_neg q, nI_1] at hE
        obtain ⟨r1, r2⟩ := ih (i + 1) (by omega) (by omega) hE
        refine ⟨fun j q1 q2 => ?_, r2⟩
        rcases Nat.lt_or_ge i j with s | s
        · exact r1 j s q2
        · have e : j = i := by omega
          subst e
          exact q
theorem rule_VT {sg : Nat} {f : Nat → Int32} (hs : sg ≤ 40) (h : x_X6_faultPlace (nI sg) f = -6) : VT sg f := by
  obtain ⟨h1, h2⟩ := fault_VT hs 41 0 (by omega) (by omega) h
  exact ⟨fun j hj => h1 j (by omega) hj, fun _ => h2⟩
theorem tau_cong {f g : Nat → Int32} : ∀ (n : Nat), (∀ i, i < n → f i = g i) → tau f n = tau g n
  | 0, _ => rfl
  | n + 1, h => by rw [tau, tau, tau_cong n (fun i hi => h i (by omega)), h n (by omega)]
theorem VT_cong {rq : Nat} {f g : Nat → Int32} (h : ∀ i, i < rq → f i = g i) (hV : VT rq f) : VT rq g := by
  refine ⟨fun j hj => ?_, fun h0 => ?_⟩
  · rw [← tau_cong (f := f) (g := g) (j + 1) (fun i hi => h i (by omega))]
    exact hV.1 j hj
  · rw [← tau_cong (f := f) (g := g) rq h]
    exact hV.2 h0
theorem fault_neg {sg : Nat} {f : Nat → Int32} (hs : sg ≤ 40) : ∀ (n i : Nat) (v : Int32), i ≤ sg → 40 < i + n → (x_X6_faultPlace_L4 (nI sg) f n v (nI i) < 0 ↔ x_X6_faultPlace_L4 (nI sg) f n v (nI i) = -6) := by
  have A : ∀ k : Nat, k < 2 ^ 31 → (nI k < 0 ↔ nI k = -6) := fun k hk => ⟨fun q => absurd q (nI_pos hk), fun q => by rw [q]; decide +kernel⟩
  have B : ((-6 : Int32) < 0 ↔ (-6 : Int32) = -6) := by decide +kernel
  intro n
  induction n with
  | zero =>
    intro i v h1 h2
    omega
  | succ n ih =>
    intro i v h1 h2
    rw [x_X6_faultPlace_L4]
    by_cases hc : nI sg ≤ nI i
    · rw [if_pos hc]
      by_cases q : v < 3
      · rw [if_pos q]
        exact A _ (by omega)
      · rw [if_neg q]
        exact B
    · have hi : i < sg := by
        rcases Nat.lt_or_ge i sg with q | q
        · exact q
        · exact absurd (nI_le q (by omega)) hc
      rw [if_neg hc, if_neg (show ¬ (40 : Int32) ≤ nI i from nI_ge (b := 40) (by omega) (by decide))]
      by_cases q : x_X6_stateBehind v (f (ix (nI i))) = -1
      · rw [if_pos q]
        exact A _ (by omega)
      · rw [if_neg q, nI_1]
        exact ih (i + 1) _ (by omega) (by omega)
theorem copy_loop {sg rq : Nat} {fg : Nat → Int32} (hs : sg ≤ 40) : ∀ (n i : Nat) (fq : Nat → Int32), i ≤ sg → sg < i + n → (∀ j, j < i → fq j = fg j) → ∃ fq' : Nat → Int32, x_X9_rule_L20 sg fg rq n (nI i) fq = (1, sg, fq', 0) ∧ ∀ j, j < sg → fq' j = fg j := by
  intro n
  induction n with
  | zero =>
    intro i fq h1 h2
    omega
  | succ n ih =>
    intro i fq h1 h2 h3
    rw [x_X9_rule_L20]
    by_cases hc : nI sg ≤ nI i
    · have hi : i = sg := by
        have := (nI_leI (by omega) (by omega)).mp hc
        omega
      subst hi
      rw [if_pos hc]
      exact ⟨fq, rfl, h3⟩
    · have hi : i < sg := by
        rcases Nat.lt_or_ge i sg with q | q
        · exact q
        · exact absurd (nI_le q (by omega)) hc
      rw [if_neg hc, nI_1, ix_nI (by omega)]
      refine ih (i + 1) _ (by omega) (by omega) (fun j hj => ?_)
      by_cases e : j = i
      · subst e
        exact upd_s ..
      · rw [upd_n _ _ e]
        exact h3 j (by omega)
