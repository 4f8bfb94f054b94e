/-! facts for the reference's loops -/
theorem vp3_0 : vp_in 0 3 := by unfold vp_in; decide +kernel
theorem vp3_1 : vp_in 1 3 := by unfold vp_in; decide +kernel
theorem vp3_2 : vp_in 2 3 := by unfold vp_in; decide +kernel
/-- halving: n rounds are enough for v -/
def HF (n : Nat) (v : Int32) : Prop := 1 ≤ n ∧ (v ≤ 0 ∨ ∃ j : Nat, v = nI j ∧ j < 2 ^ 31 ∧ j < 2 ^ (n - 1))
theorem HF.zero {v : Int32} : ¬ HF 0 v := fun h => absurd h.1 (by omega)
theorem HF.start (v : Int32) : HF 32 v := by
  refine ⟨by omega, ?_⟩
  by_cases h : v < 0
  · left
    rw [Int32.lt_iff_toInt_lt] at h
    rw [Int32.le_iff_toInt_le]
    omega
  · obtain ⟨j, hj, rfl⟩ := nI_of h
    exact Or.inr ⟨j, rfl, hj, hj⟩
theorem HF.step {n : Nat} {v : Int32} (hI : HF (n + 1) v) (hc : ¬ v ≤ 0) : HF n (v / 2) := by
  obtain ⟨-, h | ⟨j, rfl, h1, h2⟩⟩ := hI
  · exact absurd h hc
  · have hj : 1 ≤ j := by
      rcases Nat.eq_zero_or_pos j with q | q
      · subst q
        exact absurd (show nI 0 ≤ 0 by decide +kernel) hc
      · exact q
    rw [show n + 1 - 1 = n by omega] at h2
    have hn : 1 ≤ n := by
      rcases Nat.eq_zero_or_pos n with q | q
      · subst q
        omega
      · exact q
    refine ⟨hn, Or.inr ⟨j / 2, ?_, by omega, ?_⟩⟩
    · rw [show (2 : Int32) = nI 2 from rfl, pk_div h1 (by decide) (by decide)]
    · have e : 2 ^ n = 2 * 2 ^ (n - 1) := by
        rw [← Nat.pow_succ']
        congr 1
        omega
      omega
theorem UP.gex {a n : Nat} {v k : Int32} (hI : UP a (ix k) (n + 1) v) (hc : ¬ k ≤ v) : UP a (ix k) n (v + 1) ∧ ∃ i : Nat, v = nI i ∧ a ≤ i ∧ i < ix k := by
  have h0 : ¬ k < 0 := fun q => by
    obtain ⟨i, rfl, h1, h2, h3⟩ := hI
    have h4 := ix_lt k
    have h5 := nI_toInt (show i < 2 ^ 31 by omega)
    rw [Int32.le_iff_toInt_le] at hc
    rw [Int32.lt_iff_toInt_lt, Int32.toInt_zero] at q
    omega
  exact hI.ge (ix_lt k) (nI_ix h0) hc
theorem up_neL1 {v k : Int32} {a : Nat} (h : ∃ i : Nat, v = nI i ∧ a ≤ i ∧ i < ix k) : ¬ (v + 1).toInt64 = 0 := by
  obtain ⟨i, rfl, h1, h2⟩ := h
  have h3 := ix_lt k
  rw [nI_1, nI_l (by omega), show (0 : Int64) = lN 0 from rfl, lN_eq (by omega) (by omega)]
  omega
theorem up_in2 {a K n k K2 : Nat} {v : Int32} (hI : UP a K n v) (hK : K < 2 ^ 31) (hk : k ≤ K2) (hK2 : K2 < 2 ^ 31) (hc : ¬ nI k ≤ v) : vp_in v K2 := by
  obtain ⟨i, rfl, h1, h2, h3⟩ := hI
  have hlt : i < k := by
    rcases Nat.lt_or_ge i k with q | q
    · exact q
    · exact absurd (nI_le q (by omega)) hc
  exact vp_in_nI (by omega) hK2
/-- two numbers for Euclid -/
def TM (x y : Int64) : Prop := ∃ a b : Nat, x = lN a ∧ y = lN b ∧ a < 2 ^ 62 ∧ b < 2 ^ 62 ∧ 0 < b
def TN (n : Nat) (x y : Int64) : Prop := ∃ a b : Nat, x = lN a ∧ y = lN b ∧ a < 2 ^ 62 ∧ b < 2 ^ 62 ∧ b < n ∧ 0 < a + b
theorem TM.start {x y : Int64} (h : TM x y) : TN (y.toInt.toNat + 1) x y := by
  obtain ⟨a, b, rfl, rfl, h1, h2, h3⟩ := h
  refine ⟨a, b, rfl, rfl, h1, h2, ?_, by omega⟩
  rw [pk_lT (by omega)]
  omega
theorem TN.zero {x y : Int64} : ¬ TN 0 x y := by
  rintro ⟨a, b, -, -, -, -, h, -⟩
  omega
theorem TN.step {n : Nat} {x y : Int64} (hI : TN (n + 1) x y) (hc : ¬ y = 0) : TN n y (xRemL x y) := by
  obtain ⟨a, b, rfl, rfl, h1, h2, h3, h4⟩ := hI
  have hb : 0 < b := by
    rcases Nat.eq_zero_or_pos b with q | q
    · subst q
      exact absurd rfl hc
    · exact q
  have hm := Nat.mod_lt a hb
  exact ⟨b, a % b, rfl, pk_lRem (by omega) hb (by omega), h2, by omega, by omega, by omega⟩
theorem TN.ne {n : Nat} {x y : Int64} (hI : TN n x y) (hc : y = 0) : ¬ x = 0 := by
  obtain ⟨a, b, rfl, rfl, h1, h2, h3, h4⟩ := hI
  rw [show (0 : Int64) = lN 0 from rfl, pk_lEQ (by omega) (by omega)] at hc ⊢
  omega
theorem in_vp {nr : Nat} {p : Int32} (hn : nr ≤ 30) (h : inR nr p = true) : vp_in p 30 := by
  have h1 := inR_lt hn h
  have h2 := nI_ix (inR_iff.mp h).1
  rw [h2]
  exact vp_in_nI (by omega) (by decide)
/-- the state behind j signs of a text, as the class steps it -/
def tau (f : Nat → Int32) : Nat → Int32
  | 0 => 0
  | j + 1 => x_X6_stateBehind (tau f j) (f j)
/-- a text without a fault, or none -/
def VT (rq : Nat) (f : Nat → Int32) : Prop := (∀ j, j < rq → ¬ tau f (j + 1) = -1) ∧ (0 < rq → ¬ tau f rq < 3)
theorem sb_0 {x : Int32} (h : ¬ x_X6_stateBehind 0 x = -1) : x_X6_isName x = true ∧ x_X6_stateBehind 0 x = 1 := by
  rw [x_X6_stateBehind, if_pos rfl] at h ⊢
  by_cases q : x_X6_isName x = true
  · rw [if_pos q]
    exact ⟨q, rfl⟩
  · rw [if_neg q] at h
    exact absurd rfl h
theorem sb_1 {x : Int32} (h : ¬ x_X6_stateBehind 1 x = -1) : x_X6_isCompare x = true ∧ x_X6_stateBehind 1 x = 2 := by
  rw [x_X6_stateBehind, if_neg (by decide +kernel), if_pos rfl] at h ⊢
  by_cases q : x_X6_isCompare x = true
  · rw [if_pos q]
    exact ⟨q, rfl⟩
  · rw [if_neg q] at h
    exact absurd rfl h
theorem sb_2 {x : Int32} (h : ¬ x_X6_stateBehind 2 x = -1) : x_X6_isDigit x = true ∧ x_X6_stateBehind 2 x = 3 := by
  rw [x_X6_stateBehind, if_neg (by decide +kernel), if_neg (by decide +kernel)] at h ⊢
  by_cases q : x_X6_isDigit x = true
  · rw [if_pos q, if_neg (by decide +kernel)]
    exact ⟨q, by decide +kernel⟩
  · rw [if_neg q, if_pos (by decide +kernel)] at h
    exact absurd rfl h
theorem sb_n {t x : Int32} (ht : t = 3 ∨ t = 4 ∨ t = 5) (h : ¬ x_X6_stateBehind t x = -1) (hd : ¬ x_X6_isDigit x = true) : x_X6_isJoin x = true ∧ x_X6_stateBehind t x = 0 := by
  have h0 : ¬ t = 0 := by rcases ht with h | h | h <;> rw [h] <;> decide +kernel
  have h1 : ¬ t = 1 := by rcases ht with h | h | h <;> rw [h] <;> decide +kernel
  have h3 : ¬ t < 3 := by rcases ht with h | h | h <;> rw [h] <;> decide +kernel
  rw [x_X6_stateBehind, if_neg h0, if_neg h1, if_neg hd, if_neg h3] at h ⊢
  by_cases q : x_X6_isJoin x = true
  · rw [if_pos q]
    exact ⟨q, rfl⟩
  · rw [if_neg q] at h
    exact absurd rfl h
theorem sb_d {t x : Int32} (ht : t = 3 ∨ t = 4 ∨ t = 5) (h : ¬ x_X6_stateBehind t x = -1) (hd : x_X6_isDigit x = true) : (t = 3 ∧ x_X6_stateBehind t x = 4) ∨ (t = 4 ∧ x_X6_stateBehind t x = 5) := by
  have h0 : ¬ t = 0 := by rcases ht with h | h | h <;> rw [h] <;> decide +kernel
  have h1 : ¬ t = 1 := by rcases ht with h | h | h <;> rw [h] <;> decide +kernel
  rw [x_X6_stateBehind, if_neg h0, if_neg h1, if_pos hd] at h ⊢
  rcases ht with q | q | q
  · subst q
    rw [if_neg (by decide +kernel)]
    exact Or.inl ⟨rfl, by decide +kernel⟩
  · subst q
    rw [if_neg (by decide +kernel)]
    exact Or.inr ⟨rfl, by decide +kernel⟩
  · subst q
    rw [if_pos (by decide +kernel)] at h
    exact absurd rfl h
def PS (t : Int32) : Prop := t = 2 ∨ t = 3 ∨ t = 4 ∨ t = 5
theorem ps_digit {t x : Int32} (ht : PS t) (h : ¬ x_X6_stateBehind t x = -1) (hd : x_X6_isDigit x = true) : PS (x_X6_stateBehind t x) := by
  rcases ht with q | q
  · subst q
    exact Or.inr (Or.inl (sb_2 h).2)
  · rcases sb_d q h hd with r | r
    · exact Or.inr (Or.inr (Or.inl r.2))
    · exact Or.inr (Or.inr (Or.inr r.2))
theorem ps_other {t x : Int32} (ht : PS t) (h : ¬ x_X6_stateBehind t x = -1) (hd : ¬ x_X6_isDigit x = true) : x_X6_isJoin x = true ∧ x_X6_stateBehind t x = 0 := by
  rcases ht with q | q
  · subst q
    exact absurd (sb_2 h).1 hd
  · exact sb_n q h hd
/-- the outer loop of mayVote: at the start of a test, or behind the text -/
def OV (rq : Nat) (f : Nat → Int32) (n : Nat) (v : Int32) : Prop := ∃ j : Nat, v = nI j ∧ rq ≤ 40 ∧ ((j < rq ∧ tau f j = 0) ∨ j = rq + 1) ∧ 42 < j + n
theorem OV.zero {rq : Nat} {f : Nat → Int32} {v : Int32} : ¬ OV rq f 0 v := by
  rintro ⟨j, -, h1, h2, h3⟩
  omega
theorem OV.start {rq : Nat} {f : Nat → Int32} (hq : rq ≤ 40) (h : ¬ nI rq = 0) : OV rq f 43 0 := by
  refine ⟨0, rfl, hq, Or.inl ⟨?_, rfl⟩, by omega⟩
  rcases Nat.eq_zero_or_pos rq with q | q
  · subst q
    exact absurd nI_0 h
  · exact q
theorem OV.here {rq : Nat} {f : Nat → Int32} {n : Nat} {v : Int32} (hI : OV rq f n v) (hV : VT rq f) (hc : ¬ nI rq ≤ v) : ∃ j : Nat, v = nI j ∧ rq ≤ 40 ∧ j + 2 ≤ rq ∧ tau f j = 0 ∧ tau f (j + 1) = 1 ∧ tau f (j + 2) = 2 ∧ x_X6_isName (f j) = true ∧ x_X6_isCompare (f (j + 1)) = true ∧ 42 < j + n := by
  obtain ⟨j, rfl, hq, h | h, hn⟩ := hI
  · have a1 := sb_0 (x := f j) (by rw [← h.2]; exact hV.1 j h.1)
    have t1 : tau f (j + 1) = 1 := by rw [tau, h.2]; exact a1.2
    have h1 : j + 1 < rq := by
      rcases Nat.lt_or_ge (j + 1) rq with q | q
      · exact q
      · have e : j + 1 = rq := by omega
        have h9 := hV.2 (by omega)
        rw [← e, t1] at h9
        exact absurd (by decide +kernel) h9
    have a2 := sb_1 (x := f (j + 1)) (by have h9 := hV.1 (j + 1) h1; rw [tau, t1] at h9; exact h9)
    have t2 : tau f (j + 2) = 2 := by rw [tau, t1]; exact a2.2
    exact ⟨j, rfl, hq, h1, h.2, t1, t2, a1.1, a2.1, hn⟩
  · subst h
    exact absurd (nI_le (by omega) (by omega)) hc
/-- the inner loop: among the digits -/
def IV (rq : Nat) (f : Nat → Int32) (n : Nat) (v : Int32) : Prop := ∃ i : Nat, v = nI i ∧ rq ≤ 40 ∧ i ≤ rq ∧ PS (tau f i) ∧ rq < i + n
theorem IV.zero {rq : Nat} {f : Nat → Int32} {v : Int32} : ¬ IV rq f 0 v := by
  rintro ⟨j, -, h1, h2, h3, h4⟩
  omega
theorem OV.inner {rq : Nat} {f : Nat → Int32} {n : Nat} {v : Int32} (hI : OV rq f n v) (hV : VT rq f) (hc : ¬ nI rq ≤ v) : IV rq f 41 (v + 2) := by
  obtain ⟨j, rfl, hq, h1, t0, t1, t2, -, -, hn⟩ := hI.here hV hc
  exact ⟨j + 2, by rw [show (2 : Int32) = nI 2 from rfl, nI_add], hq, h1, Or.inl t2, by omega⟩
theorem OV.in0 {rq : Nat} {f : Nat → Int32} {n : Nat} {v : Int32} (hI : OV rq f n v) (hV : VT rq f) (hc : ¬ nI rq ≤ v) : vp_in v 40 := by
  obtain ⟨j, rfl, hq, h1, -⟩ := hI.here hV hc
  exact vp_in_nI (by omega) (by decide)
theorem OV.in1 {rq : Nat} {f : Nat → Int32} {n : Nat} {v : Int32} (hI : OV rq f n v) (hV : VT rq f) (hc : ¬ nI rq ≤ v) : vp_in (v + 1) 40 := by
  obtain ⟨j, rfl, hq, h1, -⟩ := hI.here hV hc
  rw [nI_1]
  exact vp_in_nI (by omega) (by decide)
theorem IV.lt {rq : Nat} {f : Nat → Int32} {n : Nat} {v : Int32} (hI : IV rq f n v) (hc : ¬ nI rq ≤ v) : ∃ i : Nat, v = nI i ∧ rq ≤ 40 ∧ i < rq ∧ PS (tau f i) ∧ rq < i + n := by
  obtain ⟨i, rfl, hq, h1, h2, h3⟩ := hI
  rcases Nat.lt_or_ge i rq with q | q
  · exact ⟨i, rfl, hq, q, h2, h3⟩
  · exact absurd (nI_le q (by omega)) hc
theorem IV.inn {rq : Nat} {f : Nat → Int32} {n : Nat} {v : Int32} (hI : IV rq f n v) (hc : ¬ nI rq ≤ v) : vp_in v 40 := by
  obtain ⟨i, rfl, hq, h1, -⟩ := hI.lt hc
  exact vp_in_nI (by omega) (by decide)
theorem ix_nI {i : Nat} (h : i < 2 ^ 31) : ix (nI i) = i := nI_clamp h
