/-! MATHEMATICS: seals and proofs, class and reference alike -/
/-- an Int32 that is a number below K -/
def LT (K : Nat) (x : Int32) : Prop := ∃ j : Nat, j < K ∧ x = nI j
theorem LT.mono {K L : Nat} {x : Int32} (h : LT K x) (hl : K ≤ L) : LT L x := by
  obtain ⟨j, h1, h2⟩ := h
  exact ⟨j, by omega, h2⟩
theorem pow_of {x : Int32} (h : x_X9_isPower x = true) : LT 5003 x := by
  obtain ⟨j, rfl, -, h1⟩ := in_nat 0 5002 (by decide) h
  exact ⟨j, by omega, rfl⟩
theorem num_of {x : Int32} (h : x_X9_isNumber x = true) : ∃ j : Nat, x = nI j ∧ 1 ≤ j ∧ j < 10007 := by
  obtain ⟨j, rfl, h1, h2⟩ := in_nat 1 10006 (by decide) h
  exact ⟨j, rfl, h1, by omega⟩
theorem ofp {b e : Int32} (hb : LT 10007 b) (he : LT 10007 e) : x_X2_of b e = x_X9_power b e ∧ LT 10007 (x_X9_power b e) := by
  obtain ⟨i, h1, rfl⟩ := hb
  obtain ⟨j, h2, rfl⟩ := he
  rw [of_n (by omega) (by omega), pow_n (by omega) (by omega)]
  exact ⟨rfl, _, pwr_lt _ _, rfl⟩
theorem lt4 : LT 10007 4 := ⟨4, by decide, rfl⟩
theorem ofgp {e : Int32} (he : LT 10007 e) : x_X2_ofG e = x_X9_power 4 e ∧ LT 10007 (x_X9_power 4 e) := ofp (b := 4) lt4 he
theorem divp {a b : Int32} (ha : LT 10007 a) (hb : LT 10007 b) : x_X2_divided a b = x_X9_by a b ∧ LT 10007 (x_X9_by a b) := by
  obtain ⟨i, h1, rfl⟩ := ha
  obtain ⟨j, h2, rfl⟩ := hb
  rw [div_n h1 (by omega), by_n (by omega) (by omega)]
  exact ⟨rfl, _, dvd_lt _ _, rfl⟩
theorem mulp {a b : Int32} (ha : LT 10007 a) (hb : LT 10007 b) : xRem (a * b) 10007 = x_X9_times a b ∧ LT 10007 (x_X9_times a b) := by
  obtain ⟨i, h1, rfl⟩ := ha
  obtain ⟨j, h2, rfl⟩ := hb
  have h := mul_lt (P := 10007) (by decide) h1 h2
  rw [remP_n (by omega), times_n (by omega) (by omega)]
  exact ⟨rfl, _, Nat.mod_lt _ (by decide), rfl⟩
theorem mixp {m k : Int32} (hm : LT 5003 m) (hk : LT 10007 k) : x_X3_mixedWith m k = x_X9_mix m k ∧ LT 5003 (x_X9_mix m k) := by
  obtain ⟨i, h1, rfl⟩ := hm
  obtain ⟨j, h2, rfl⟩ := hk
  rw [mixC_n h1 h2, mixM_n h1 h2]
  exact ⟨rfl, _, Nat.mod_lt _ (by decide), rfl⟩
theorem lt1 : LT 5003 1 := ⟨1, by decide, rfl⟩
theorem exp_P {x : Int32} (h : LT 5003 x) : LT 10007 x := h.mono (by decide)
theorem sOfp {a c z : Int32} (ha : LT 10007 a) (hc : LT 5003 c) (hz : LT 5003 z) : x_X3_sOf a c z = x_X9_sOf a c z ∧ LT 10007 (x_X9_sOf a c z) := by
  have h1 := ofgp (exp_P hz)
  have h2 := ofp ha (exp_P hc)
  have h3 := divp h1.2 h2.2
  rw [x_X3_sOf, x_X9_sOf, h1.1, h2.1, h3.1]
  exact ⟨rfl, h3.2⟩
theorem tOfp {hh : Int32} {fs : Nat → Int32} {b v c z : Int32} (hH : hh = x_X9_h fs) (hl : LT 10007 hh) (hb : LT 10007 b) (hv : LT 10007 v) (hc : LT 5003 c) (hz : LT 5003 z) : x_X3_tOf hh b v c z = x_X9_tOf fs b v c z ∧ LT 10007 (x_X9_tOf fs b v c z) := by
  have h1 := ofp hl (exp_P hz)
  have h2 := ofgp hv
  have h3 := divp hb h2.2
  have h4 := ofp h3.2 (exp_P hc)
  have h5 := divp h1.2 h4.2
  rw [x_X3_tOf, x_X9_tOf, x_X0_h, h1.1, h2.1, h3.1, h4.1, h5.1, ← hH]
  exact ⟨rfl, h5.2⟩
theorem right_eq (a b : Int32) : x_X2_isRight a b = x_X9_isRight a b := by
  rw [x_X2_isRight, x_X9_isRight]
  by_cases h1 : x_X9_isNumber a = true
  · rw [if_pos (show x_X8_isResidue a = true from h1), if_pos h1]
    by_cases h2 : x_X9_isNumber b = true
    · rw [if_pos (show x_X8_isResidue b = true from h2), if_pos h2]
      obtain ⟨i, rfl, -, q1⟩ := num_of h1
      obtain ⟨j, rfl, -, q2⟩ := num_of h2
      rw [(ofp (b := nI i) (e := 5003) ⟨i, q1, rfl⟩ ⟨5003, by decide, rfl⟩).1, (ofp (b := nI j) (e := 5003) ⟨j, q2, rfl⟩ ⟨5003, by decide, rfl⟩).1]
    · rw [if_neg (show ¬ x_X8_isResidue b = true from h2), if_neg h2]
  · rw [if_neg (show ¬ x_X8_isResidue a = true from h1), if_neg h1]
theorem right_of {a b : Int32} (h : x_X9_isRight a b = true) : LT 10007 a ∧ LT 10007 b := by
  rw [x_X9_isRight] at h
  by_cases h1 : x_X9_isNumber a = true
  · rw [if_pos h1] at h
    by_cases h2 : x_X9_isNumber b = true
    · obtain ⟨i, rfl, -, q1⟩ := num_of h1
      obtain ⟨j, rfl, -, q2⟩ := num_of h2
      exact ⟨⟨i, q1, rfl⟩, j, q2, rfl⟩
    · rw [if_neg h2] at h
      cases h
  · rw [if_neg h1] at h
    cases h
theorem lots_iff {a b c d : Int32} : x_X8_areLots a b c d = true ↔ x_X9_isPower a = true ∧ x_X9_isPower b = true ∧ x_X9_isPower c = true ∧ x_X9_isPower d = true := by
  have e : x_X8_isExponent = x_X9_isPower := rfl
  rw [x_X8_areLots, e]
  by_cases h1 : x_X9_isPower a = true
  · by_cases h2 : x_X9_isPower b = true
    · by_cases h3 : x_X9_isPower c = true
      · by_cases h4 : x_X9_isPower d = true
        · simp [h1, h2, h3, h4]
        · simp [h1, h2, h3, h4]
      · simp [h1, h2, h3]
    · simp [h1, h2]
  · simp [h1]
theorem lt01 : LT 10007 0 ∧ LT 10007 1 := ⟨⟨0, by decide, rfl⟩, 1, by decide, rfl⟩
theorem holds_eq {hh : Int32} {fs : Nat → Int32} (hH : hh = x_X9_h fs) (hl : LT 10007 hh) (a b c0 z0 c1 z1 : Int32) : x_X3_holds c0 z0 c1 z1 hh a b = x_X9_holds fs a b c0 z0 c1 z1 := by
  rw [x_X3_holds, x_X9_holds, right_eq]
  by_cases hr : x_X9_isRight a b = true
  · rw [if_pos hr, if_pos hr]
    by_cases h1 : x_X9_isPower c0 = true
    · by_cases h2 : x_X9_isPower z0 = true
      · by_cases h3 : x_X9_isPower c1 = true
        · by_cases h4 : x_X9_isPower z1 = true
          · rw [if_pos (lots_iff.mpr ⟨h1, h2, h3, h4⟩), if_pos h1, if_pos h2, if_pos h3, if_pos h4]
            obtain ⟨la, lb⟩ := right_of hr
            have q1 := mixp lt1 la
            have q2 := mixp q1.2 lb
            have s0 := sOfp la (pow_of h1) (pow_of h2)
            have t0 := tOfp (v := 0) hH hl lb lt01.1 (pow_of h1) (pow_of h2)
            have s1 := sOfp la (pow_of h3) (pow_of h4)
            have t1 := tOfp (v := 1) hH hl lb lt01.2 (pow_of h3) (pow_of h4)
            have q3 := mixp q2.2 s0.2
            have q4 := mixp q3.2 t0.2
            have q5 := mixp q4.2 s1.2
            have q6 := mixp q5.2 t1.2
            rw [s0.1, t0.1, s1.1, t1.1, q1.1, q2.1, q3.1, q4.1, q5.1, q6.1]
          · rw [if_neg (fun q => h4 (lots_iff.mp q).2.2.2), if_pos h1, if_pos h2, if_pos h3, if_neg h4]
        · rw [if_neg (fun q => h3 (lots_iff.mp q).2.2.1), if_pos h1, if_pos h2, if_neg h3]
      · rw [if_neg (fun q => h2 (lots_iff.mp q).2.1), if_pos h1, if_neg h2]
    · rw [if_neg (fun q => h1 (lots_iff.mp q).1), if_neg h1]
  · rw [if_neg hr, if_neg hr]
theorem sealB_eq {hh : Int32} {fs : Nat → Int32} {m r : Int32} (hH : hh = x_X9_h fs) (hl : LT 10007 hh) (hm : LT 5003 m) (hr : LT 5003 r) : x_X0_sealedB hh m r = x_X9_sealOf fs m r 1 ∧ LT 10007 (x_X9_sealOf fs m r 1) := by
  have h1 := ofp hl (exp_P hr)
  have h2 := ofgp (exp_P hm)
  have h3 := mulp h1.2 h2.2
  rw [x_X0_sealedB, x_X9_sealOf, if_neg (by decide +kernel), h1.1, h2.1, h3.1, ← hH]
  exact ⟨rfl, h3.2⟩
theorem sealA_eq {fs : Nat → Int32} {m r : Int32} (hr : LT 5003 r) : x_X2_ofG r = x_X9_sealOf fs m r 0 ∧ LT 10007 (x_X9_sealOf fs m r 0) := by
  have h2 := ofgp (exp_P hr)
  rw [x_X9_sealOf, if_pos rfl, h2.1]
  exact ⟨rfl, h2.2⟩
theorem sub_swap (a b c : Int32) : a - c + b = a + b - c := by
  rw [Int32.sub_eq_add_neg, Int32.sub_eq_add_neg, Int32.add_assoc, Int32.add_comm (-c) b, ← Int32.add_assoc]
theorem own_lt {m c : Int32} (hm : LT 5003 m) (hc : LT 5003 c) : LT 5003 (xRem (m + 5003 - c) 5003) := by
  obtain ⟨i, h1, rfl⟩ := hm
  obtain ⟨j, h2, rfl⟩ := hc
  rw [show (5003 : Int32) = nI 5003 from rfl, nI_add, pk_sub (by omega), rem_n (by omega) (by decide) (by decide)]
  exact ⟨_, Nat.mod_lt _ (by decide), rfl⟩
theorem lot_eq {w o r : Int32} (hw : LT 5003 w) (ho : LT 5003 o) (hr : LT 5003 r) : xRem (w + o * r) 5003 = Int64.toInt32 (xRemL (Int32.toInt64 w + Int32.toInt64 o * Int32.toInt64 r) 5003) := by
  obtain ⟨i, h1, rfl⟩ := hw
  obtain ⟨j, h2, rfl⟩ := ho
  obtain ⟨k, h3, rfl⟩ := hr
  have h : j * k ≤ 5003 * 5003 := Nat.mul_le_mul (by omega) (by omega)
  rw [nI_l (by omega), nI_l (by omega), nI_l (by omega), lN_mul, lN_add, show (5003 : Int64) = lN 5003 from rfl, remL_n (by omega) (by decide) (by decide), lN_i, pk_mul, nI_add, show (5003 : Int32) = nI 5003 from rfl, rem_n (by omega) (by decide) (by decide)]
theorem become_eq (a b c d : Int32) : x_X3_become a b c d = (a, b, c, d) := rfl
theorem make_eq {hh : Int32} {fs : Nat → Int32} (hH : hh = x_X9_h fs) (hl : LT 10007 hh) {m r w c z : Int32} (hm : m = 0 ∨ m = 1) (hr : LT 5003 r) (hw : LT 5003 w) (hc : LT 5003 c) (hz : LT 5003 z) : x_X3_make hh m r w c z = (x_X9_proved fs m r w c z 0, x_X9_proved fs m r w c z 1, x_X9_proved fs m r w c z 2, x_X9_proved fs m r w c z 3) := by
  have la := ofgp (exp_P hr)
  have lw := ofgp (exp_P hw)
  have lh := ofp hl (exp_P hw)
  have lm : LT 5003 m := by
    rcases hm with e | e <;> subst e
    · exact ⟨0, by decide, rfl⟩
    · exact ⟨1, by decide, rfl⟩
  have lb := sealB_eq hH hl lm hr
  have e0 : x_X9_sealOf fs m r 0 = x_X9_power 4 r := by rw [x_X9_sealOf, if_pos rfl]
  have s1 := sOfp la.2 hc hz
  rcases hm with e | e
  · subst e
    have t1 := tOfp (v := 1) hH hl lb.2 lt01.2 hc hz
    have q1 := mixp lt1 la.2
    have q2 := mixp q1.2 lb.2
    have q3 := mixp q2.2 lw.2
    have q4 := mixp q3.2 lh.2
    have q5 := mixp q4.2 s1.2
    have q6 := mixp q5.2 t1.2
    have o := own_lt q6.2 hc
    have lt := lot_eq hw o hr
    rw [x_X3_make, if_pos rfl]
    simp only [become_eq, x_X0_h]
    rw [show (1 : Int32) - 0 = 1 by decide +kernel, la.1, lb.1, lw.1, lh.1, s1.1, t1.1, q1.1, q2.1, q3.1, q4.1, q5.1, q6.1, sub_swap, lt]
    have P : ∀ i : Int32, x_X9_proved fs 0 r w c z i = (if (i / 2) = 0 then (if (xRem i 2) = 0 then (xRem ((x_X9_mix (x_X9_mix (x_X9_mix (x_X9_mix (x_X9_mix (x_X9_mix 1 (x_X9_power 4 r)) (x_X9_sealOf fs 0 r 1)) (x_X9_power 4 w)) (x_X9_power hh w)) (x_X9_sOf (x_X9_power 4 r) c z)) (x_X9_tOf fs (x_X9_sealOf fs 0 r 1) 1 c z) + 5003) - c) 5003) else (Int64.toInt32 (xRemL ((Int32.toInt64 w) + ((Int32.toInt64 (xRem ((x_X9_mix (x_X9_mix (x_X9_mix (x_X9_mix (x_X9_mix (x_X9_mix 1 (x_X9_power 4 r)) (x_X9_sealOf fs 0 r 1)) (x_X9_power 4 w)) (x_X9_power hh w)) (x_X9_sOf (x_X9_power 4 r) c z)) (x_X9_tOf fs (x_X9_sealOf fs 0 r 1) 1 c z) + 5003) - c) 5003)) * (Int32.toInt64 r))) 5003))) else (if (xRem i 2) = 0 then c else z)) := by
      intro i
      rw [x_X9_proved, e0, x_X9_proved_L38, if_neg (by decide +kernel), if_pos rfl, x_X9_proved_L38, if_neg (by decide +kernel), if_neg (by decide +kernel), x_X9_proved_L38, if_pos (by decide +kernel), e0, ← hH, show (0 : Int32) + 1 = 1 by decide +kernel]
    rw [P, P, P, P, if_pos (by decide +kernel), if_pos (by decide +kernel), if_pos (by decide +kernel), if_neg (by decide +kernel), if_neg (by decide +kernel), if_pos (by decide +kernel), if_neg (by decide +kernel), if_neg (by decide +kernel)]
  · subst e
    have t1 := tOfp (v := 0) hH hl lb.2 lt01.1 hc hz
    have q1 := mixp lt1 la.2
    have q2 := mixp q1.2 lb.2
    have q3 := mixp q2.2 s1.2
    have q4 := mixp q3.2 t1.2
    have q5 := mixp q4.2 lw.2
    have q6 := mixp q5.2 lh.2
    have o := own_lt q6.2 hc
    have lt := lot_eq hw o hr
    rw [x_X3_make, if_neg (by decide +kernel)]
    simp only [become_eq, x_X0_h]
    rw [show (1 : Int32) - 1 = 0 by decide +kernel, la.1, lb.1, lw.1, lh.1, s1.1, t1.1, q1.1, q2.1, q3.1, q4.1, q5.1, q6.1, sub_swap, lt]
    have P : ∀ i : Int32, x_X9_proved fs 1 r w c z i = (if (i / 2) = 1 then (if (xRem i 2) = 0 then (xRem ((x_X9_mix (x_X9_mix (x_X9_mix (x_X9_mix (x_X9_mix (x_X9_mix 1 (x_X9_power 4 r)) (x_X9_sealOf fs 1 r 1)) (x_X9_sOf (x_X9_power 4 r) c z)) (x_X9_tOf fs (x_X9_sealOf fs 1 r 1) 0 c z)) (x_X9_power 4 w)) (x_X9_power hh w) + 5003) - c) 5003) else (Int64.toInt32 (xRemL ((Int32.toInt64 w) + ((Int32.toInt64 (xRem ((x_X9_mix (x_X9_mix (x_X9_mix (x_X9_mix (x_X9_mix (x_X9_mix 1 (x_X9_power 4 r)) (x_X9_sealOf fs 1 r 1)) (x_X9_sOf (x_X9_power 4 r) c z)) (x_X9_tOf fs (x_X9_sealOf fs 1 r 1) 0 c z)) (x_X9_power 4 w)) (x_X9_power hh w) + 5003) - c) 5003)) * (Int32.toInt64 r))) 5003))) else (if (xRem i 2) = 0 then c else z)) := by
      intro i
      rw [x_X9_proved, e0, x_X9_proved_L38, if_neg (by decide +kernel), if_neg (by decide +kernel), x_X9_proved_L38, if_neg (by decide +kernel), if_pos (by decide +kernel), x_X9_proved_L38, if_pos (by decide +kernel), e0, ← hH]
    rw [P, P, P, P, if_neg (by decide +kernel), if_pos (by decide +kernel), if_neg (by decide +kernel), if_neg (by decide +kernel), if_pos (by decide +kernel), if_pos (by decide +kernel), if_pos (by decide +kernel), if_neg (by decide +kernel)]
