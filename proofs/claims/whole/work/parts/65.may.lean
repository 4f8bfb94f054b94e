/-! MATHEMATICS: who may: the class's one pass and the reference's tests -/
section MAY
variable {rq : Nat} {fw fq : Nat → Int32} {A Y B : Int32}
theorem al_name (hq : rq ≤ 40) {i : Nat} (hi : i < rq) (h : x_X6_isName (fw i) = true) (n : Nat) (any both : Bool) (a c m : Int32) : x_X6_allows_L27 (nI rq) fw A Y B (n + 1) any both a c m (nI i) = x_X6_allows_L27 (nI rq) fw A Y B n any both (if fw i = 97 then A else (if fw i = 121 then Y else B)) c 0 (nI (i + 1)) := by
  rw [x_X6_allows_L27, if_neg (nI_ge hi (by omega)), if_neg (show ¬ (40 : Int32) ≤ nI i from nI_ge (b := 40) (by omega) (by decide)), ix_nI (by omega), if_pos h, nI_1]
  by_cases h1 : fw i = 97
  · rw [if_pos h1, if_pos h1]
  · rw [if_neg h1, if_neg h1]
    by_cases h2 : fw i = 121
    · rw [if_pos h2, if_pos h2]
    · rw [if_neg h2, if_neg h2]
theorem al_cmp (hq : rq ≤ 40) {i : Nat} (hi : i < rq) (h : x_X6_isCompare (fw i) = true) (n : Nat) (any both : Bool) (a c m : Int32) : x_X6_allows_L27 (nI rq) fw A Y B (n + 1) any both a c m (nI i) = x_X6_allows_L27 (nI rq) fw A Y B n any both a (fw i) m (nI (i + 1)) := by
  rw [x_X6_allows_L27, if_neg (nI_ge hi (by omega)), if_neg (show ¬ (40 : Int32) ≤ nI i from nI_ge (b := 40) (by omega) (by decide)), ix_nI (by omega), if_neg (cmp_not h), if_pos h, nI_1]
theorem al_dig (hq : rq ≤ 40) {i : Nat} (hi : i < rq) (h : x_X6_isDigit (fw i) = true) (n : Nat) (any both : Bool) (a c m : Int32) : x_X6_allows_L27 (nI rq) fw A Y B (n + 1) any both a c m (nI i) = x_X6_allows_L27 (nI rq) fw A Y B n any both a c (10 * m + fw i - 48) (nI (i + 1)) := by
  rw [x_X6_allows_L27, if_neg (nI_ge hi (by omega)), if_neg (show ¬ (40 : Int32) ≤ nI i from nI_ge (b := 40) (by omega) (by decide)), ix_nI (by omega), if_neg (dig_not h).1, if_neg (dig_not h).2.1, if_pos h, nI_1, Int32.mul_comm m 10]
theorem al_join (hq : rq ≤ 40) {i : Nat} (hi : i < rq) (h : x_X6_isJoin (fw i) = true) (n : Nat) (any both : Bool) (a c m : Int32) : x_X6_allows_L27 (nI rq) fw A Y B (n + 1) any both a c m (nI i) = (if fw i = 124 then x_X6_allows_L27 (nI rq) fw A Y B n (any || (both && x_X6_passes a c m)) true a c m (nI (i + 1)) else x_X6_allows_L27 (nI rq) fw A Y B n any (both && x_X6_passes a c m) a c m (nI (i + 1))) := by
  rw [x_X6_allows_L27, if_neg (nI_ge hi (by omega)), if_neg (show ¬ (40 : Int32) ≤ nI i from nI_ge (b := 40) (by omega) (by decide)), ix_nI (by omega), if_neg (joi_not h).1, if_neg (joi_not h).2.1, if_neg (joi_not h).2.2, nI_1]
  generalize x_X6_passes a c m = ps
  by_cases h1 : fw i = 124
  · cases any <;> cases both <;> cases ps <;> simp [h1]
  · cases any <;> cases both <;> cases ps <;> simp [h1]
theorem al_end (n : Nat) (any both : Bool) (a c m : Int32) : x_X6_allows_L27 (nI rq) fw A Y B (n + 1) any both a c m (nI rq) = (any || (both && x_X6_passes a c m)) := by
  rw [x_X6_allows_L27, if_pos (Int32.le_refl _)]
  generalize x_X6_passes a c m = ps
  cases any <;> cases both <;> cases ps <;> rfl
theorem al_num (hf : ∀ i, i < rq → fw i = fq i) (hV : VT rq fq) : ∀ (m n k : Nat) (nm : Int32), IV rq fq m (nI k) → k < 2 ^ 31 → 40 < k + n → ∃ k' : Nat, (x_X9_mayVote_num rq fq m nm (nI k)).2 = nI k' ∧ k ≤ k' ∧ k' ≤ rq ∧ (k' < rq → x_X6_isJoin (fq k') = true ∧ tau fq (k' + 1) = 0) ∧ ∀ (any both : Bool) (a c : Int32), x_X6_allows_L27 (nI rq) fw A Y B n any both a c nm (nI k) = x_X6_allows_L27 (nI rq) fw A Y B (n - (k' - k)) any both a c (x_X9_mayVote_num rq fq m nm (nI k)).1 (nI k') := by
  intro m
  induction m with
  | zero => exact fun _ _ _ h => absurd h IV.zero
  | succ m ih =>
    intro n k nm hI h0 hn
    rw [x_X9_mayVote_num]
    by_cases hc : nI rq ≤ nI k
    · rw [if_pos hc]
      obtain ⟨i, e, hq, h1, h2, h3⟩ := hI
      have e : k = i := (nI_eq h0 (by omega)).mp e
      have e2 : rq ≤ k := (nI_leI (by omega) h0).mp hc
      exact ⟨k, rfl, Nat.le_refl _, by omega, fun q => by omega, fun _ _ _ _ => by rw [Nat.sub_self, Nat.sub_zero]⟩
    · rw [if_neg hc]
      obtain ⟨i, e, hq, h1, h2, h3⟩ := hI.lt hc
      have e : k = i := (nI_eq h0 (by omega)).mp e
      subst e
      by_cases hd : x_X9_in (fq (ix (nI k))) 48 57 = true
      · rw [if_pos hd]
        have hs := hI.step hV hc hd
        rw [ix_nI h0, dig_eq] at hd
        rw [nI_1] at hs ⊢
        rw [ix_nI h0]
        obtain ⟨n, rfl⟩ : ∃ n', n = n' + 1 := ⟨n - 1, by omega⟩
        obtain ⟨k', e1, e2, e3, e4, e5⟩ := ih n (k + 1) (10 * nm + fq k - 48) hs (by omega) (by omega)
        refine ⟨k', e1, by omega, e3, e4, fun any both a c => ?_⟩
        rw [al_dig hq h1 (by rw [hf k h1]; exact hd), hf k h1, e5, show n + 1 - (k' - k) = n - (k' - (k + 1)) by omega]
      · rw [if_neg hd]
        rw [ix_nI h0, dig_eq] at hd
        exact ⟨k, rfl, Nat.le_refl _, by omega, fun q => ps_other h2 (hV.1 k q) hd, fun _ _ _ _ => by rw [Nat.sub_self, Nat.sub_zero]⟩
theorem all_and (fh : Nat → Int32) (p v : Int32) (all : Bool) : x_X9_mayVote_all rq fq fh p all v = (all && x_X6_passes (fh (ix ((3 * p) + (x_X9_mayVote_what fq v)))) (fq (ix (v + 1))) (x_X9_mayVote_num rq fq 41 0 (v + 2)).1) := by
  rw [x_X9_mayVote_all, x_X6_passes]
  cases all
  · rfl
  · rfl
theorem any_or (fh : Nat → Int32) (p v : Int32) (any all : Bool) : x_X9_mayVote_any rq fq fh p any all v = (any || x_X9_mayVote_all rq fq fh p all v) := by
  rw [x_X9_mayVote_any]
  generalize x_X9_mayVote_all rq fq fh p all v = b
  cases any <;> cases b <;> rfl
theorem may_loop (hq : rq ≤ 40) (hf : ∀ i, i < rq → fw i = fq i) (hV : VT rq fq) (fh : Nat → Int32) (p : Int32) (hw : ∀ v : Int32, fh (ix ((3 * p) + (x_X9_mayVote_what fq v))) = (if fq (ix v) = 97 then A else (if fq (ix v) = 121 then Y else B))) : ∀ (d i n1 n2 : Nat) (any both : Bool) (a c m : Int32), rq - i ≤ d → i < rq → tau fq i = 0 → 40 < i + n1 → 42 < i + n2 → x_X6_allows_L27 (nI rq) fw A Y B n1 any both a c m (nI i) = x_X9_mayVote_L16 rq fq fh p n2 any both (nI i) := by
  intro d
  induction d with
  | zero =>
    intro i n1 n2 any both a c m h1 h2
    omega
  | succ d ih =>
    intro i n1 n2 any both a c m hd hi ht h1 h2
    have hO : OV rq fq n2 (nI i) := ⟨i, rfl, hq, Or.inl ⟨hi, ht⟩, h2⟩
    have hc : ¬ nI rq ≤ nI i := nI_ge hi (by omega)
    have hin := hO.inner hV hc
    obtain ⟨j, ej, -, hj2, -, t1, t2, nm, cm, -⟩ := hO.here hV hc
    have ej : i = j := (nI_eq (by omega) (by omega)).mp ej
    subst ej
    obtain ⟨n1, rfl⟩ : ∃ n', n1 = n' + 1 + 1 := ⟨n1 - 2, by omega⟩
    obtain ⟨n2, rfl⟩ : ∃ n', n2 = n' + 1 := ⟨n2 - 1, by omega⟩
    have e2 : nI i + 2 = nI (i + 2) := by rw [show (2 : Int32) = nI 2 from rfl, nI_add]
    rw [e2] at hin
    rw [al_name hq hi (by rw [hf i hi]; exact nm), al_cmp hq (by omega) (by rw [hf (i + 1) (by omega)]; exact cm), hf i hi, hf (i + 1) (by omega)]
    obtain ⟨k', f1, f2, f3, f4, f5⟩ := al_num (A := A) (Y := Y) (B := B) hf hV 41 n1 (i + 2) 0 hin (by omega) (by omega)
    rw [show i + 1 + 1 = i + 2 by omega, f5]
    have w := hw (nI i)
    rw [ix_nI (by omega)] at w
    have aa := fun all => all_and (rq := rq) (fq := fq) fh p (nI i) all
    rw [w, nI_1, ix_nI (show i + 1 < 2 ^ 31 by omega), e2] at aa
    rw [x_X9_mayVote_L16, if_neg hc, any_or, aa, e2, f1]
    generalize (x_X9_mayVote_num rq fq 41 0 (nI (i + 2))).1 = V
    rcases Nat.lt_or_ge k' rq with hk | hk
    · obtain ⟨jn, t0⟩ := f4 hk
      have hlt : k' + 1 < rq := by
        rcases Nat.lt_or_ge (k' + 1) rq with q | q
        · exact q
        · have h9 := hV.2 (by omega)
          rw [show rq = k' + 1 by omega, t0] at h9
          exact absurd (by decide +kernel) h9
      rw [if_neg (show ¬ nI k' = nI rq from fun e => by have := (nI_eq (by omega) (by omega)).mp e; omega), ix_nI (by omega), nI_1]
      obtain ⟨n3, e3⟩ : ∃ n3, n1 - (k' - (i + 2)) = n3 + 1 := ⟨n1 - (k' - (i + 2)) - 1, by omega⟩
      rw [e3, al_join hq hk (by rw [hf k' hk]; exact jn), hf k' hk]
      by_cases h124 : fq k' = 124
      · rw [if_pos h124, if_pos h124]
        exact ih (k' + 1) n3 n2 _ _ _ _ _ (by omega) hlt t0 (by omega) (by omega)
      · rw [if_neg h124, if_neg h124]
        exact ih (k' + 1) n3 n2 _ _ _ _ _ (by omega) hlt t0 (by omega) (by omega)
    · have e : k' = rq := by omega
      subst e
      obtain ⟨n3, e3⟩ : ∃ n3, n1 - (k' - (i + 2)) = n3 + 1 := ⟨n1 - (k' - (i + 2)) - 1, by omega⟩
      obtain ⟨n2, rfl⟩ : ∃ n', n2 = n' + 1 := ⟨n2 - 1, by omega⟩
      rw [if_pos rfl, e3, al_end, nI_1, x_X9_mayVote_L16, if_pos (nI_le (by omega) (by omega))]
end MAY
theorem trait_n {fr : Nat → Int32} {v k : Nat} (hv : v ≤ 11) (hk : k ≤ 2) : x_X4_trait fr (nI v) (nI k) = fr (3 * v + k) := by
  rw [x_X4_trait, show (3 : Int32) = nI 3 from rfl, pk_mul, nI_add, if_neg (nI_pos (by omega)), if_neg (show ¬ (36 : Int32) ≤ nI (v * 3 + k) from nI_ge (b := 36) (by omega) (by decide)), ix_nI (by omega), Nat.mul_comm v 3]
theorem may_eq {rq : Nat} {fw fq fr fh : Nat → Int32} (hq : rq ≤ 40) (hf : ∀ i, i < rq → fw i = fq i) (hV : VT rq fq) (hr : ∀ i, i < 36 → fr i = fh i) {p : Int32} (hp : x_X9_isVoter p = true) : x_X4_allows fr (nI rq) fw p = x_X9_mayVote rq fq fh p := by
  obtain ⟨v, rfl, hv⟩ := voter_of hp
  rw [x_X4_allows, x_X6_allows, x_X9_mayVote]
  by_cases h0 : nI rq = 0
  · rw [if_pos h0, if_pos h0]
  · rw [if_neg h0, if_neg h0]
    have hq0 : 0 < rq := by
      rcases Nat.eq_zero_or_pos rq with q | q
      · subst q
        exact absurd nI_0 h0
      · exact q
    have e0 : x_X4_trait fr (nI v) 0 = fh (3 * v) := (trait_n (k := 0) hv (by omega)).trans (hr _ (by omega))
    have e1 : x_X4_trait fr (nI v) 1 = fh (3 * v + 1) := (trait_n (k := 1) hv (by omega)).trans (hr _ (by omega))
    have e2 : x_X4_trait fr (nI v) 2 = fh (3 * v + 2) := (trait_n (k := 2) hv (by omega)).trans (hr _ (by omega))
    rw [e0, e1, e2]
    have hw : ∀ w : Int32, fh (ix ((3 * nI v) + (x_X9_mayVote_what fq w))) = (if fq (ix w) = 97 then fh (3 * v) else (if fq (ix w) = 121 then fh (3 * v + 1) else fh (3 * v + 2))) := by
      intro w
      have m3 : (3 : Int32) * nI v = nI (3 * v) := by rw [show (3 : Int32) = nI 3 from rfl, pk_mul]
      rw [x_X9_mayVote_what, m3]
      by_cases a1 : fq (ix w) = 97
      · rw [if_pos a1, if_pos a1, show (0 : Int32) = nI 0 from rfl, nI_add, ix_nI (by omega)]
        rfl
      · rw [if_neg a1, if_neg a1]
        by_cases a2 : fq (ix w) = 121
        · rw [if_pos a2, if_pos a2, show (1 : Int32) = nI 1 from rfl, nI_add, ix_nI (by omega)]
        · rw [if_neg a2, if_neg a2, show (2 : Int32) = nI 2 from rfl, nI_add, ix_nI (by omega)]
    exact may_loop hq hf hV fh (nI v) hw rq 0 41 43 false true 0 0 0 (by omega) hq0 rfl (by omega) (by omega)
