/-! MATHEMATICS: keys, shares, weights, opening -/
/-- the two keys are one -/
def KR (c0 c1 c2 hh : Int32) (fs : Nat → Int32) : Prop := c0 = fs 0 ∧ c1 = fs 1 ∧ c2 = fs 2 ∧ LT 5003 c0 ∧ LT 5003 c1 ∧ LT 5003 c2 ∧ hh = x_X9_h fs
theorem KR.h {c0 c1 c2 hh : Int32} {fs : Nat → Int32} (h : KR c0 c1 c2 hh fs) : LT 10007 hh := by
  obtain ⟨h0, -, -, l0, -, -, e⟩ := h
  rw [e, x_X9_h]
  refine (ofgp ?_).2
  rw [show fs (ix 0) = fs 0 from rfl, ← h0]
  exact exp_P l0
theorem part_eq {c0 c1 c2 hh : Int32} {fs : Nat → Int32} (h : KR c0 c1 c2 hh fs) (i : Int32) : x_X0_part c0 c1 c2 i = x_X9_partOf fs i := by
  obtain ⟨rfl, rfl, rfl, -⟩ := h
  rfl
theorem holder_of {i : Int32} (h : x_X9_isHolder i = true) : ∃ j : Nat, i = nI j ∧ 1 ≤ j ∧ j ≤ 5 := in_nat 1 5 (by decide) h
theorem part_lt {c0 c1 c2 hh : Int32} {fs : Nat → Int32} (h : KR c0 c1 c2 hh fs) {j : Nat} (hj : j ≤ 5) : LT 10007 (x_X9_partOf fs (nI j)) := by
  rw [← part_eq h]
  obtain ⟨-, -, -, ⟨a, ha, rfl⟩, ⟨b, hb, rfl⟩, ⟨c, hc, rfl⟩, -⟩ := h
  have h1 : b * j ≤ 5003 * 5 := Nat.mul_le_mul (by omega) hj
  have h2 : c * j ≤ 5003 * 5 := Nat.mul_le_mul (by omega) hj
  have h3 : c * j * j ≤ 5003 * 5 * 5 := Nat.mul_le_mul h2 hj
  rw [x_X0_part, pk_mul, pk_mul, pk_mul, nI_add, nI_add, show (5003 : Int32) = nI 5003 from rfl, rem_n (by omega) (by decide) (by decide)]
  have := Nat.mod_lt (a + b * j + c * j * j) (show 0 < 5003 by decide)
  exact ⟨_, by omega, rfl⟩
theorem holder_eq {c0 c1 c2 hh : Int32} {fs : Nat → Int32} (h : KR c0 c1 c2 hh fs) (p0 p1 : Int32) : x_X8_holder c0 c1 c2 p0 p1 = x_X9_holder fs p0 p1 := by
  rw [x_X8_holder, x_X9_holder, part_eq h]
  by_cases h1 : x_X9_isHolder p0 = true
  · rw [if_pos (show x_X8_isHolder p0 = true from h1), if_pos h1]
    obtain ⟨j, rfl, -, hj⟩ := holder_of h1
    rw [within_eq, (ofgp (part_lt h hj)).1]
    by_cases h2 : p1 = 0
    · subst h2
      rw [if_pos (show x_X9_in 0 0 1 = true by decide +kernel), if_pos rfl, if_pos rfl]
    · by_cases h3 : p1 = 1
      · subst h3
        rw [if_pos (show x_X9_in 1 0 1 = true by decide +kernel), if_neg h2, if_neg h2, if_pos rfl]
      · have hn : ¬ x_X9_in p1 0 1 = true := fun q => by
          obtain ⟨k, rfl, -, hk⟩ := in_nat 0 1 (by decide) q
          rcases (show k = 0 ∨ k = 1 by omega) with e | e <;> subst e
          · exact h2 rfl
          · exact h3 rfl
        rw [if_neg hn, if_neg h2, if_neg h3]
  · rw [if_neg (show ¬ x_X8_isHolder p0 = true from h1), if_neg h1]
theorem seal_eq {c0 c1 c2 hh : Int32} {fs : Nat → Int32} (h : KR c0 c1 c2 hh fs) (p0 p1 p2 : Int32) : x_X8_seal hh p0 p1 p2 = x_X9_seal fs p0 p1 p2 := by
  rw [x_X8_seal, x_X9_seal, within_eq]
  by_cases h1 : x_X9_isPower p0 = true
  · rw [if_pos (show x_X8_isExponent p0 = true from h1), if_pos h1]
    by_cases h2 : x_X9_isPower p1 = true
    · rw [if_pos (show x_X8_isExponent p1 = true from h2), if_pos h2]
      by_cases h3 : x_X9_in p2 0 1 = true
      · rw [if_pos h3, if_pos h3]
        obtain ⟨k, rfl, -, hk⟩ := in_nat 0 1 (by decide) h3
        rcases (show k = 0 ∨ k = 1 by omega) with e | e <;> subst e
        · rw [if_pos (show nI 0 = 0 from rfl), (sealA_eq (fs := fs) (m := p0) (pow_of h2)).1]
          rfl
        · rw [if_neg (show ¬ nI 1 = 0 by decide +kernel), (sealB_eq h.2.2.2.2.2.2 h.h (pow_of h1) (pow_of h2)).1]
          rfl
      · rw [if_neg h3, if_neg h3]
    · rw [if_neg (show ¬ x_X8_isExponent p1 = true from h2), if_neg h2]
  · rw [if_neg (show ¬ x_X8_isExponent p0 = true from h1), if_neg h1]
theorem rightI_eq (a b : Int32) : x_X8_right a b = x_X9_right a b := by rw [x_X8_right, x_X9_right, right_eq]
theorem open_eq {c0 c1 c2 hh : Int32} {fs : Nat → Int32} (h : KR c0 c1 c2 hh fs) (p0 p1 : Int32) : x_X8_open c0 c1 c2 p0 p1 = x_X9_open fs p0 p1 := by
  rw [x_X8_open, x_X9_open]
  by_cases h1 : x_X9_isHolder p0 = true
  · rw [if_pos (show x_X8_isHolder p0 = true from h1), if_pos h1]
    by_cases h2 : x_X9_isNumber p1 = true
    · rw [if_pos (show x_X8_isResidue p1 = true from h2), if_pos h2]
      obtain ⟨j, rfl, -, hj⟩ := holder_of h1
      obtain ⟨a, rfl, -, ha⟩ := num_of h2
      rw [x_X0_share, part_eq h, (ofp ⟨a, ha, rfl⟩ (part_lt h hj)).1]
    · rw [if_neg (show ¬ x_X8_isResidue p1 = true from h2), if_neg h2]
  · rw [if_neg (show ¬ x_X8_isHolder p0 = true from h1), if_neg h1]
theorem and1_01 (x : Int32) : x &&& 1 = 0 ∨ x &&& 1 = 1 := by
  obtain ⟨j, hj, e⟩ := pk_andE x (m := 1) 1 (by decide +kernel)
  rcases (show j = 0 ∨ j = 1 by omega) with q | q <;> subst q
  · exact Or.inl e
  · exact Or.inr e
theorem set_eq (p : Int32) : x_X8_isSet p = x_X9_isSet p := by
  rw [x_X8_isSet, x_X9_isSet, within_eq]
  by_cases h : x_X9_in p 2 62 = true
  · rw [if_pos h, if_pos h]
    obtain ⟨j, rfl, -, hj⟩ := in_nat 2 62 (by decide) h
    rw [and1_n (by omega), show (2 : Int32) = nI 2 from rfl, rem_n (by omega) (by decide) (by decide)]
  · rw [if_neg h, if_neg h]
theorem set_of {p : Int32} (h : x_X9_isSet p = true) : ∃ k : Nat, p = nI (2 * k) ∧ 1 ≤ k ∧ k ≤ 31 := by
  rw [x_X9_isSet] at h
  by_cases h1 : x_X9_in p 2 62 = true
  · rw [if_pos h1] at h
    obtain ⟨j, rfl, q1, q2⟩ := in_nat 2 62 (by decide) h1
    rw [show (2 : Int32) = nI 2 from rfl, rem_n (by omega) (by decide) (by decide)] at h
    by_cases h2 : nI (j % 2) = 0
    · have h3 : j % 2 = 0 := (nI_eq (b := 0) (by omega) (by decide)).mp h2
      exact ⟨j / 2, by rw [show 2 * (j / 2) = j by omega], by omega, by omega⟩
    · rw [if_neg h2] at h
      cases h
  · rw [if_neg h1] at h
    cases h
def wtOK (i k : Nat) : Bool := decide (x_X0_weightIn (nI i) (nI (2 * k)) = x_X9_weightOf (nI i) (nI (2 * k))) && (decide (x_X9_weightOf (nI i) (nI (2 * k)) = nI (ix (x_X9_weightOf (nI i) (nI (2 * k))))) && decide (ix (x_X9_weightOf (nI i) (nI (2 * k))) < 5003))
set_option maxRecDepth 100000 in
theorem wt_all : (List.range 6).all (fun i => (List.range 32).all (fun k => wtOK i k)) = true := by decide +kernel
theorem wt_ok {i k : Nat} (hi : i ≤ 5) (hk : k ≤ 31) : x_X0_weightIn (nI i) (nI (2 * k)) = x_X9_weightOf (nI i) (nI (2 * k)) ∧ LT 10007 (x_X9_weightOf (nI i) (nI (2 * k))) := by
  have h := wt_all
  rw [List.all_eq_true] at h
  have h1 := h i (List.mem_range.mpr (by omega))
  rw [List.all_eq_true] at h1
  have h2 := h1 k (List.mem_range.mpr (by omega))
  simp only [wtOK, Bool.and_eq_true, decide_eq_true_eq] at h2
  exact ⟨h2.1, _, by omega, h2.2.1⟩
theorem isIn_iff (i s : Int32) : x_X8_isIn i s = true ↔ (xShr s i &&& 1) = 1 := by
  rw [x_X8_isIn]
  by_cases h : (xShr s i &&& 1) = 1
  · rw [if_pos h]
    exact ⟨fun _ => h, fun _ => rfl⟩
  · rw [if_neg h]
    exact ⟨fun q => (by cases q), fun q => absurd q h⟩
theorem weight_eq (p0 p1 : Int32) : x_X8_weight p0 p1 = x_X9_weight p0 p1 := by
  rw [x_X8_weight, x_X9_weight, set_eq]
  by_cases h1 : x_X9_isHolder p0 = true
  · rw [if_pos (show x_X8_isHolder p0 = true from h1), if_pos h1]
    rcases and1_01 (xShr p1 p0) with h2 | h2
    · rw [if_neg (show ¬ x_X8_isIn p0 p1 = true from fun q => by rw [isIn_iff, h2] at q; exact absurd q (by decide +kernel)), if_pos h2]
    · rw [if_pos ((isIn_iff ..).mpr h2), if_neg (show ¬ (xShr p1 p0 &&& 1) = 0 from fun q => by rw [h2] at q; exact absurd q (by decide +kernel))]
      by_cases h3 : x_X9_isSet p1 = true
      · rw [if_pos h3, if_pos h3]
        obtain ⟨j, rfl, -, hj⟩ := holder_of h1
        obtain ⟨k, rfl, -, hk⟩ := set_of h3
        exact (wt_ok hj hk).1
      · rw [if_neg h3, if_neg h3]
  · rw [if_neg (show ¬ x_X8_isHolder p0 = true from h1), if_neg h1]
theorem expo_loop (nd : Int32) (fs : Nat → Int32) (p0 p1 p2 p3 x : Int32) : ∀ (n : Nat) (v i : Int32), LT 10007 v → x_X2_exponentOf_L4 x n v i = x_X9_opened_L129 nd fs p0 p1 p2 p3 n x i v
  | 0, _, _, _ => rfl
  | n + 1, v, i, h => by
    have h4 := mulp h lt4
    rw [x_X2_exponentOf_L4, x_X9_opened_L129, h4.1, expo_loop nd fs p0 p1 p2 p3 x n _ (i + 1) h4.2]
/-- how many holders a set has, from i on -/
def cntS (p2 : Int32) : Nat → Int32 → Int32 → Int32
  | 0, m, _ => m
  | n + 1, m, v => if 6 ≤ v then m else (if (xShr p2 v &&& 1) = 1 then cntS p2 n (m + 1) (v + 1) else cntS p2 n m (v + 1))
theorem cnt_all : (List.range 32).all (fun k => decide (cntS (nI (2 * k)) 7 0 1 = x_J6_bitCount_0f7a4 (nI (2 * k)))) = true := by decide +kernel
theorem cnt_ok {k : Nat} (hk : k ≤ 31) : cntS (nI (2 * k)) 7 0 1 = x_J6_bitCount_0f7a4 (nI (2 * k)) := by
  have h := cnt_all
  rw [List.all_eq_true] at h
  exact of_decide_eq_true (h k (List.mem_range.mpr (by omega)))
theorem open_loop {c0 c1 c2 hh : Int32} {fs : Nat → Int32} (h : KR c0 c1 c2 hh fs) (nd p3 : Int32) {a b k : Nat} (ha : a < 10007) (hb : b < 10007) (hk : k ≤ 31) : ∀ (n i : Nat) (m v : Int32), LT 10007 v → i ≤ 6 → 6 < i + n → x_X9_opened_L43 nd fs (nI a) (nI b) (nI (2 * k)) p3 n m v (nI i) = (if nd ≤ cntS (nI (2 * k)) n m (nI i) then (if p3 = 0 then x_X0_unsealed_L6 c0 c1 c2 (nI a) (nI b) (nI (2 * k)) n v (nI i) else x_X2_exponentOf (x_X0_unsealed_L6 c0 c1 c2 (nI a) (nI b) (nI (2 * k)) n v (nI i))) else (-5)) := by
  intro n
  induction n with
  | zero =>
    intro i m v q1 q2 q3
    omega
  | succ n ih =>
    intro i m v q1 q2 q3
    rw [x_X9_opened_L43, x_X0_unsealed_L6, cntS]
    by_cases h6 : i = 6
    · subst h6
      rw [if_pos (show (6 : Int32) ≤ nI 6 by decide +kernel), if_pos (show (6 : Int32) ≤ nI 6 by decide +kernel), if_pos (show (5 : Int32) < nI 6 by decide +kernel)]
      have hd := divp ⟨b, hb, rfl⟩ q1
      rw [hd.1, x_X2_exponentOf, expo_loop nd fs (nI a) (nI b) (nI (2 * k)) p3 (x_X9_by (nI b) v) 202 1 0 lt01.2]
    · have hi : i < 6 := by omega
      rw [if_neg (show ¬ (6 : Int32) ≤ nI i from nI_ge (b := 6) hi (by decide)), if_neg (show ¬ (6 : Int32) ≤ nI i from nI_ge (b := 6) hi (by decide)), if_neg (show ¬ (5 : Int32) < nI i from nI_nlt (b := i) (a := 5) (by omega) (by decide))]
      by_cases hc : (xShr (nI (2 * k)) (nI i) &&& 1) = 1
      · rw [if_pos hc, if_pos hc, if_pos ((isIn_iff ..).mpr hc)]
        have w := wt_ok (i := i) (k := k) (by omega) hk
        have pl := part_lt h (j := i) (by omega)
        have s1 := ofp ⟨a, ha, rfl⟩ pl
        have s2 := ofp s1.2 w.2
        have s3 := mulp q1 s2.2
        rw [x_X0_share, part_eq h, s1.1, w.1, s2.1, s3.1, nI_1]
        exact ih (i + 1) _ _ s3.2 (by omega) (by omega)
      · rw [if_neg hc, if_neg hc, if_neg (fun q => hc ((isIn_iff ..).mp q)), nI_1]
        exact ih (i + 1) _ _ q1 (by omega) (by omega)
theorem opened_eq {c0 c1 c2 hh : Int32} {fs : Nat → Int32} (h : KR c0 c1 c2 hh fs) (nd p0 p1 p2 p3 : Int32) : x_X8_opened nd c0 c1 c2 p0 p1 p2 p3 = x_X9_opened nd fs p0 p1 p2 p3 := by
  rw [x_X8_opened, x_X9_opened, set_eq, within_eq]
  by_cases h1 : x_X9_isNumber p0 = true
  · rw [if_pos (show x_X8_isResidue p0 = true from h1), if_pos h1]
    by_cases h2 : x_X9_isNumber p1 = true
    · rw [if_pos (show x_X8_isResidue p1 = true from h2), if_pos h2]
      by_cases h3 : x_X9_isSet p2 = true
      · rw [if_pos h3, if_pos h3]
        obtain ⟨a, rfl, -, ha⟩ := num_of h1
        obtain ⟨b, rfl, -, hb⟩ := num_of h2
        obtain ⟨k, rfl, -, hk⟩ := set_of h3
        rw [x_X0_need, x_X0_unsealed]
        have o := open_loop h nd p3 ha hb hk 7 1 0 1 lt01.2 (by omega) (by omega)
        rw [show nI 1 = (1 : Int32) from rfl, cnt_ok hk] at o
        rw [o]
      · rw [if_neg h3, if_neg h3]
    · rw [if_neg (show ¬ x_X8_isResidue p1 = true from h2), if_neg h2]
  · rw [if_neg (show ¬ x_X8_isResidue p0 = true from h1), if_neg h1]
theorem upd_s (f : Nat → Int32) (k : Nat) (x : Int32) : upd f k x k = x := pk_us
theorem upd_n (f : Nat → Int32) {k j : Nat} (x : Int32) (h : j ≠ k) : upd f k x j = f j := pk_un h
/-- behind a new key the two keys are one -/
theorem key_KR (fs : Nat → Int32) {p0 p1 p2 p3 : Int32} (h0 : x_X9_in p0 1 3 = true) (h1 : x_X9_isPower p1 = true) (h2 : x_X9_isPower p2 = true) (h3 : x_X9_isPower p3 = true) : KR p1 (x_X0_become_k1 p0 p2) (x_X0_become_k2 p0 p3) (x_X2_ofG p1) (upd (upd (upd fs (ix 0) p1) (ix 1) (x_X9_key_k1 p0 p2)) (ix 2) (x_X9_key_k2 p0 p3)) := by
  obtain ⟨j, rfl, q1, q2⟩ := in_nat 1 3 (by decide) h0
  have z : LT 5003 0 := ⟨0, by decide, rfl⟩
  have e1 : x_X0_become_k1 (nI j) p2 = x_X9_key_k1 (nI j) p2 ∧ LT 5003 (x_X9_key_k1 (nI j) p2) := by
    rw [x_X0_become_k1, x_X9_key_k1]
    rcases (show j = 1 ∨ j = 2 ∨ j = 3 by omega) with e | e | e <;> subst e
    · rw [if_pos (by decide +kernel), if_pos (by decide +kernel)]
      exact ⟨rfl, z⟩
    · rw [if_neg (by decide +kernel), if_neg (by decide +kernel)]
      exact ⟨rfl, pow_of h2⟩
    · rw [if_neg (by decide +kernel), if_neg (by decide +kernel)]
      exact ⟨rfl, pow_of h2⟩
  have e2 : x_X0_become_k2 (nI j) p3 = x_X9_key_k2 (nI j) p3 ∧ LT 5003 (x_X9_key_k2 (nI j) p3) := by
    rw [x_X0_become_k2, x_X9_key_k2]
    rcases (show j = 1 ∨ j = 2 ∨ j = 3 by omega) with e | e | e <;> subst e
    · rw [if_pos (by decide +kernel), if_pos (by decide +kernel)]
      exact ⟨rfl, z⟩
    · rw [if_pos (by decide +kernel), if_pos (by decide +kernel)]
      exact ⟨rfl, z⟩
    · rw [if_neg (by decide +kernel), if_neg (by decide +kernel)]
      exact ⟨rfl, pow_of h3⟩
  have u0 : upd (upd (upd fs (ix 0) p1) (ix 1) (x_X9_key_k1 (nI j) p2)) (ix 2) (x_X9_key_k2 (nI j) p3) 0 = p1 := by
    rw [upd_n _ _ (by decide +kernel), upd_n _ _ (by decide +kernel)]
    exact upd_s ..
  have u1 : upd (upd (upd fs (ix 0) p1) (ix 1) (x_X9_key_k1 (nI j) p2)) (ix 2) (x_X9_key_k2 (nI j) p3) 1 = x_X9_key_k1 (nI j) p2 := by
    rw [upd_n _ _ (by decide +kernel)]
    exact upd_s ..
  have u2 : upd (upd (upd fs (ix 0) p1) (ix 1) (x_X9_key_k1 (nI j) p2)) (ix 2) (x_X9_key_k2 (nI j) p3) 2 = x_X9_key_k2 (nI j) p3 := upd_s ..
  refine ⟨u0.symm, by rw [u1]; exact e1.1, by rw [u2]; exact e2.1, pow_of h1, by rw [e1.1]; exact e1.2, by rw [e2.1]; exact e2.2, ?_⟩
  have u0' : upd (upd (upd fs (ix 0) p1) (ix 1) (x_X9_key_k1 (nI j) p2)) (ix 2) (x_X9_key_k2 (nI j) p3) (ix 0) = p1 := u0
  rw [x_X9_h, u0']
  exact (ofgp (exp_P (pow_of h1))).1
