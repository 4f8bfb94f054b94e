/-! MATHEMATICS: powers, class and reference alike -/
def PW (P : Nat) : Nat → Nat → Nat → Nat → Nat
  | 0, _, r, _ => r
  | n + 1, e, r, s => PW P n (e / 2) (if e % 2 = 1 then r * s % P else r) (s * s % P)
theorem PW_0 (P : Nat) : ∀ (n r s : Nat), PW P n 0 r s = r
  | 0, _, _ => rfl
  | n + 1, r, s => by
    rw [PW]
    exact PW_0 P n r _
theorem PW_lt {P : Nat} (hP : 0 < P) : ∀ (n e r s : Nat), r < P → PW P n e r s < P
  | 0, _, _, _, h => h
  | n + 1, e, r, s, h => by
    rw [PW]
    apply PW_lt hP
    split
    · exact Nat.mod_lt _ hP
    · exact h
theorem sh_k : ∀ k, k < 32 → ((nI k &&& 31).toBitVec.smod 32).toNat = k := by decide +kernel
theorem xShr_n {e k : Nat} (he : e < 2 ^ 31) (hk : k < 32) : xShr (nI e) (nI k) = nI (e / 2 ^ k) := pk_shrN he _ k (sh_k k hk)
theorem and1_n {a : Nat} (h : a < 2 ^ 32) : nI a &&& 1 = nI (a % 2) := by
  have := pk_andN (m := 1) h 1 (by decide +kernel)
  exact this
theorem bit_iff {e k : Nat} (he : e < 2 ^ 31) (hk : k < 32) : (xShr (nI e) (nI k) &&& 1) = 1 ↔ e / 2 ^ k % 2 = 1 := by
  have h1 : e / 2 ^ k ≤ e := Nat.div_le_self _ _
  rw [xShr_n he hk, and1_n (by omega), show (1 : Int32) = nI 1 from rfl, nI_eq (by omega) (by omega)]
theorem rem_n {a d : Nat} (ha : a < 2 ^ 31) (h0 : 0 < d) (hd : d < 2 ^ 31) : xRem (nI a) (nI d) = nI (a % d) := pk_rem ha h0 hd
theorem remL_n {a d : Nat} (ha : a < 2 ^ 63) (h0 : 0 < d) (hd : d < 2 ^ 63) : xRemL (lN a) (lN d) = lN (a % d) := pk_lRem ha h0 hd
theorem mul_lt {a b P : Nat} (hP : P ≤ 10007) (ha : a < P) (hb : b < P) : a * b < 2 ^ 30 := by
  have h : a * b ≤ 10007 * 10007 := Nat.mul_le_mul (by omega) (by omega)
  omega
theorem cpw {P e : Nat} (p0 : Int32) (h0 : 0 < P) (hP : P ≤ 10007) (he : e < 2 ^ 31) : ∀ (n k r s : Nat), r < P → s < P → k ≤ 14 → 14 < k + n → x_X2_power_L16 p0 (nI e) (nI P) n (nI r) (nI s) (nI k) = nI (PW P (14 - k) (e / 2 ^ k) r s) := by
  intro n
  induction n with
  | zero =>
    intro k r s h1 h2 h3 h4
    omega
  | succ n ih =>
    intro k r s h1 h2 h3 h4
    rw [x_X2_power_L16]
    by_cases hk : k = 14
    · subst hk
      rw [if_pos (show (14 : Int32) ≤ nI 14 by decide +kernel)]
      rfl
    · have hk2 : k < 14 := by omega
      rw [if_neg (show ¬ (14 : Int32) ≤ nI k from nI_ge (b := 14) hk2 (by decide))]
      have e1 : 14 - k = (13 - k) + 1 := by omega
      have e2 : e / 2 ^ k / 2 = e / 2 ^ (k + 1) := by rw [Nat.div_div_eq_div_mul, Nat.pow_succ]
      have m1 := mul_lt hP h1 h2
      have m2 := mul_lt hP h2 h2
      rw [e1, PW, e2, pk_mul, pk_mul, rem_n (by omega) h0 (by omega), rem_n (by omega) h0 (by omega), nI_1, show 13 - k = 14 - (k + 1) by omega]
      by_cases hb : e / 2 ^ k % 2 = 1
      · rw [if_pos ((bit_iff he (by omega)).mpr hb), if_pos hb]
        exact ih (k + 1) _ _ (Nat.mod_lt _ h0) (Nat.mod_lt _ h0) (by omega) (by omega)
      · rw [if_neg (fun q => hb ((bit_iff he (by omega)).mp q)), if_neg hb]
        exact ih (k + 1) _ _ h1 (Nat.mod_lt _ h0) (by omega) (by omega)
theorem mpw {P : Nat} (p0 : Int64) (p1 : Int32) (h0 : 0 < P) (hP : P ≤ 10007) : ∀ (n m e r s : Nat), r < P → s < P → e < 2 ^ 31 → e < 2 ^ m → 1 ≤ n → e < 2 ^ (n - 1) → x_X9_raise_L12 p0 p1 (nI P) n (lN r) (lN s) (nI e) = lN (PW P m e r s) := by
  intro n
  induction n with
  | zero =>
    intro m e r s h1 h2 h3 h4 h5
    omega
  | succ n ih =>
    intro m e r s h1 h2 h3 h4 h5 h6
    rw [x_X9_raise_L12]
    rcases Nat.eq_zero_or_pos e with q | q
    · subst q
      rw [if_pos (show nI 0 ≤ 0 by decide +kernel), PW_0]
    · rw [if_neg (nI_nle q h3)]
      rw [show n + 1 - 1 = n by omega] at h6
      have hn : 1 ≤ n := by
        rcases Nat.eq_zero_or_pos n with r2 | r2
        · subst r2
          omega
        · exact r2
      obtain ⟨m', rfl⟩ : ∃ m', m = m' + 1 := by
        rcases Nat.eq_zero_or_pos m with r2 | r2
        · subst r2
          omega
        · exact ⟨m - 1, by omega⟩
      have pm : 2 ^ (m' + 1) = 2 * 2 ^ m' := by rw [Nat.pow_succ, Nat.mul_comm]
      have pn : 2 ^ n = 2 * 2 ^ (n - 1) := by
        rw [← Nat.pow_succ']
        congr 1
        omega
      have m1 := mul_lt hP h1 h2
      have m2 := mul_lt hP h2 h2
      rw [PW, nI_l (by omega), lN_mul, lN_mul, remL_n (by omega) h0 (by omega), remL_n (by omega) h0 (by omega), show (2 : Int32) = nI 2 from rfl, rem_n h3 (by decide) (by decide), pk_div h3 (by decide) (by decide), show (1 : Int32) = nI 1 from rfl]
      by_cases hb : e % 2 = 1
      · rw [if_pos (show nI (e % 2) = nI 1 by rw [hb]), if_pos hb]
        exact ih m' (e / 2) _ _ (Nat.mod_lt _ h0) (Nat.mod_lt _ h0) (by omega) (by omega) hn (by omega)
      · rw [if_neg (fun q2 => hb ((nI_eq (by omega) (by omega)).mp q2)), if_neg hb]
        exact ih m' (e / 2) _ _ h1 (Nat.mod_lt _ h0) (by omega) (by omega) hn (by omega)
/-- b raised to e, left over by P -/
def pwP (P b e : Nat) : Nat := PW P 14 e 1 (b % P)
abbrev pwr (b e : Nat) : Nat := pwP 10007 b e
theorem pwP_lt {P : Nat} (h : 1 < P) (b e : Nat) : pwP P b e < P := PW_lt (by omega) _ _ _ _ h
theorem pwr_lt (b e : Nat) : pwr b e < 10007 := pwP_lt (by decide) b e
theorem cpower {P b e : Nat} (h1 : 1 < P) (hP : P ≤ 10007) (hb : b < 2 ^ 31) (he : e < 2 ^ 31) : x_X2_power (nI b) (nI e) (nI P) = nI (pwP P b e) := by
  rw [x_X2_power, if_pos (show (0 : Int32) < nI P from nI_lt (a := 0) (by omega) (by omega)), rem_n hb (by omega) (by omega)]
  have h := cpw (nI b) (P := P) (e := e) (by omega) hP he 15 0 1 (b % P) h1 (Nat.mod_lt _ (by omega)) (by omega) (by omega)
  rw [Nat.pow_zero, Nat.div_one] at h
  exact h
theorem mraise {P b e : Nat} (h1 : 1 < P) (hP : P ≤ 10007) (hb : b < 2 ^ 31) (he : e < 2 ^ 14) : x_X9_raise (Int32.toInt64 (nI b)) (nI e) (nI P) = lN (pwP P b e) := by
  rw [x_X9_raise, nI_l hb, nI_l (by omega), remL_n (by omega) (by omega) (by omega)]
  exact mpw _ _ (by omega) hP 32 14 e 1 (b % P) h1 (Nat.mod_lt _ (by omega)) (by omega) he (by omega) (by omega)
theorem of_n {b e : Nat} (hb : b < 2 ^ 31) (he : e < 2 ^ 31) : x_X2_of (nI b) (nI e) = nI (pwr b e) := cpower (P := 10007) (by decide) (by decide) hb he
theorem ofG_n {e : Nat} (he : e < 2 ^ 31) : x_X2_ofG (nI e) = nI (pwr 4 e) := cpower (P := 10007) (b := 4) (by decide) (by decide) (by decide) he
theorem pow_n {b e : Nat} (hb : b < 2 ^ 31) (he : e < 2 ^ 14) : x_X9_power (nI b) (nI e) = nI (pwr b e) := by
  rw [x_X9_power]
  exact (congrArg Int64.toInt32 (mraise (P := 10007) (by decide) (by decide) hb he)).trans (lN_i _)
theorem pow4_n {e : Nat} (he : e < 2 ^ 14) : x_X9_power 4 (nI e) = nI (pwr 4 e) := pow_n (b := 4) (by decide) he
theorem times_n {a b : Nat} (ha : a < 2 ^ 31) (hb : b < 2 ^ 31) : x_X9_times (nI a) (nI b) = nI (a * b % 10007) := by
  have h : a * b ≤ 2 ^ 31 * 2 ^ 31 := Nat.mul_le_mul (by omega) (by omega)
  rw [x_X9_times, nI_l ha, nI_l hb, lN_mul, show (10007 : Int64) = lN 10007 from rfl, remL_n (by omega) (by decide) (by decide), lN_i]
theorem remP_n {a b : Nat} (h : a * b < 2 ^ 31) : xRem (nI a * nI b) 10007 = nI (a * b % 10007) := by
  rw [pk_mul, show (10007 : Int32) = nI 10007 from rfl, rem_n h (by decide) (by decide)]
/-- a by b -/
def dvd (a b : Nat) : Nat := a * pwr b 10005 % 10007
theorem dvd_lt (a b : Nat) : dvd a b < 10007 := Nat.mod_lt _ (by decide)
theorem div_n {a b : Nat} (ha : a < 10007) (hb : b < 2 ^ 31) : x_X2_divided (nI a) (nI b) = nI (dvd a b) := by
  have h := mul_lt (P := 10007) (by decide) ha (pwr_lt b 10005)
  rw [x_X2_divided, x_X2_inverse]
  have e : x_X2_power (nI b) (10007 - 2) 10007 = nI (pwr b 10005) := cpower (P := 10007) (e := 10005) (by decide) (by decide) hb (by decide)
  rw [e, remP_n (by omega)]
  rfl
theorem by_n {a b : Nat} (ha : a < 2 ^ 31) (hb : b < 2 ^ 31) : x_X9_by (nI a) (nI b) = nI (dvd a b) := by
  have h := pwr_lt b 10005
  rw [x_X9_by]
  have e : x_X9_power (nI b) 10005 = nI (pwr b 10005) := pow_n (e := 10005) hb (by decide)
  rw [e, times_n ha (by omega)]
  rfl
theorem mixC_n {m k : Nat} (hm : m < 5003) (hk : k < 10007) : x_X3_mixedWith (nI m) (nI k) = nI ((m * 31 + k) % 5003) := by
  rw [x_X3_mixedWith, show (31 : Int32) = nI 31 from rfl, pk_mul, nI_add, show (5003 : Int32) = nI 5003 from rfl, rem_n (by omega) (by decide) (by decide)]
theorem mixM_n {m k : Nat} (hm : m < 5003) (hk : k < 10007) : x_X9_mix (nI m) (nI k) = nI ((m * 31 + k) % 5003) := by
  rw [x_X9_mix, nI_l (by omega), nI_l (by omega), show (31 : Int64) = lN 31 from rfl, lN_mul, lN_add, show (5003 : Int64) = lN 5003 from rfl, remL_n (by omega) (by decide) (by decide), lN_i]
