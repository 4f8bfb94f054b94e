/-! MATHEMATICS: the wall -/
def RR (fs fV fA fB fO fP fF : Nat → Int32) (nr : Nat) (rd : Nat → R6) : Prop := ∀ i, i < nr → (rd i).1 = fV i ∧ (rd i).2.1 = fA i ∧ (rd i).2.2.1 = fB i ∧ (rd i).2.2.2.1 = fO i ∧ (rd i).2.2.2.2.1 = x_X9_holds fs (fA i) (fB i) (fF (4 * i)) (fF (4 * i + 1)) (fF (4 * i + 2)) (fF (4 * i + 3)) ∧ fP i = bI (rd i).2.2.2.2.2 ∧ x_X9_isVoter (fV i) = true ∧ LT 1000001 (fA i) ∧ LT 1000001 (fB i) ∧ LT 1000 (fO i)
theorem ww_n {a b : Nat} (ha : a < 9973) (hb : b < 1000001) : x_X5_wordWith (nI a) (nI b) = nI ((a * 131 + b) % 9973) := by
  rw [x_X5_wordWith, show (131 : Int32) = nI 131 from rfl, pk_mul, nI_add, show (9973 : Int32) = nI 9973 from rfl, rem_n (by omega) (by decide) (by decide)]
theorem wl_n {a b : Nat} (ha : a < 9973) (hb : b < 1000001) : xRemL (lN a * 131 + Int32.toInt64 (nI b)) 9973 = lN ((a * 131 + b) % 9973) := by
  rw [nI_l (by omega), show (131 : Int64) = lN 131 from rfl, lN_mul, lN_add, show (9973 : Int64) = lN 9973 from rfl, remL_n (by omega) (by decide) (by decide)]
theorem word_n {a b c d : Nat} (ha : a < 1000001) (hb : b < 1000001) (hc : c < 1000001) (hd : d < 1000001) : x_X5_word (nI a) (nI b) (nI c) (nI d) = Int64.toInt32 (xRemL (((xRemL (((xRemL (((xRemL ((7 * 131) + (Int32.toInt64 (nI a))) 9973) * 131) + (Int32.toInt64 (nI b))) 9973) * 131) + (Int32.toInt64 (nI c))) 9973) * 131) + (Int32.toInt64 (nI d))) 9973) := by
  have m : ∀ x, x % 9973 < 9973 := fun x => Nat.mod_lt _ (by decide)
  rw [show (7 : Int64) = lN 7 from rfl, wl_n (by decide) ha, wl_n (m _) hb, wl_n (m _) hc, wl_n (m _) hd, lN_i, x_X5_word, show (7 : Int32) = nI 7 from rfl, ww_n (by decide) ha, ww_n (m _) hb, ww_n (m _) hc, ww_n (m _) hd]
theorem vot_lt {x : Int32} (h : x_X9_isVoter x = true) : LT 1000001 x := by
  obtain ⟨j, rfl, hj⟩ := voter_of h
  exact ⟨j, by omega, rfl⟩
section WALL
variable {fs fV fA fB fO fP fF : Nat → Int32} {nr : Nat} {rd : Nat → R6}
theorem inR_n (hn : nr ≤ 30) {i : Nat} (hi : i < nr) : inR nr (nI i) = true := inR_iff.mpr ⟨nI_pos (by omega), nI_ge hi (by omega)⟩
theorem row_word (hR : RR fs fV fA fB fO fP fF nr rd) (hn : nr ≤ 30) {i : Nat} (hi : i < nr) : x_X5_word (rd i).1 (rd i).2.1 (rd i).2.2.1 (rd i).2.2.2.1 = x_X9_wordOf fV fA fB fO (nI i) := by
  obtain ⟨h1, h2, h3, h4, -, -, h7, ⟨b, hb, eb⟩, ⟨c, hc, ec⟩, ⟨d, hd, ed⟩⟩ := hR i hi
  obtain ⟨a, ha, ea⟩ := vot_lt h7
  rw [h1, h2, h3, h4, x_X9_wordOf, ix_nI (by omega), ea, eb, ec, ed]
  exact word_n ha hb hc (by omega)
theorem word_eq (hR : RR fs fV fA fB fO fP fF nr rd) (hn : nr ≤ 30) {i : Nat} (hi : i < nr) : x_X7_wordOf nr rd (nI i) = x_X9_wordOf fV fA fB fO (nI i) := by
  rw [x_X7_wordOf, if_pos (inR_n hn hi), ix_nI (by omega)]
  exact row_word hR hn hi
theorem find_loop (hR : RR fs fV fA fB fO fP fF nr rd) (hn : nr ≤ 30) (p0 p1 : Int32) : ∀ (n i : Nat), i ≤ 30 → x_X7_firstWithWord_L2 nr rd p0 p1 n (nI i) = x_X9_find_L15 nr fV fA fB fO p0 p1 n (nI i)
  | 0, _, _ => rfl
  | n + 1, i, h => by
    rw [x_X7_firstWithWord_L2, x_X9_find_L15]
    by_cases hc : nI nr ≤ nI i
    · rw [if_pos hc, if_pos hc]
    · have hi : i < nr := by
        rcases Nat.lt_or_ge i nr with q | q
        · exact q
        · exact absurd (nI_le q (by omega)) hc
      rw [if_neg hc, if_neg hc, word_eq hR hn hi, nI_1, find_loop hR hn p0 p1 n (i + 1) (by omega)]
theorem find_eq (hR : RR fs fV fA fB fO fP fF nr rd) (hn : nr ≤ 30) (p0 p1 : Int32) : x_X8_find nr rd p0 p1 = x_X9_find nr fV fA fB fO p0 p1 := by
  rw [x_X8_find, x_X9_find, within_eq]
  by_cases h : x_X9_in p1 0 30 = true
  · rw [if_pos h, if_pos h, x_X7_firstWithWord]
    obtain ⟨j, rfl, -, hj⟩ := in_nat 0 30 (by decide) h
    exact find_loop hR hn p0 (nI j) 31 j hj
  · rw [if_neg h, if_neg h]
theorem part_loop (hR : RR fs fV fA fB fO fP fF nr rd) (hn : nr ≤ 30) {cn : Nat} {cp fC : Nat → Int32} (hc : cn ≤ 30) (hcp : ∀ i, i < cn → cp i = fC i) : ∀ (n i : Nat), i ≤ 30 → x_X7_firstUnlike_L2 nr rd (nI cn) cp n (nI i) = x_X9_parted_L2 nr fV fA fB fO cn fC n (nI i)
  | 0, _, _ => rfl
  | n + 1, i, h => by
    rw [x_X7_firstUnlike_L2, x_X9_parted_L2]
    by_cases h1 : nI nr ≤ nI i
    · rw [if_pos h1, if_pos h1]
    · have hi : i < nr := by
        rcases Nat.lt_or_ge i nr with q | q
        · exact q
        · exact absurd (nI_le q (by omega)) h1
      rw [if_neg h1, if_neg h1]
      by_cases h2 : nI cn ≤ nI i
      · rw [if_pos h2, if_pos h2]
      · have hi2 : i < cn := by
          rcases Nat.lt_or_ge i cn with q | q
          · exact q
          · exact absurd (nI_le q (by omega)) h2
        rw [if_neg h2, if_neg h2, if_neg (show ¬ (30 : Int32) ≤ nI i from nI_ge (b := 30) (by omega) (by decide)), word_eq hR hn hi, nI_1, ix_nI (by omega), hcp i hi2, part_loop hR hn hc hcp n (i + 1) (by omega)]
        by_cases h3 : fC i = x_X9_wordOf fV fA fB fO (nI i)
        · rw [if_pos h3.symm, if_pos h3]
        · rw [if_neg (fun q => h3 q.symm), if_neg h3]
theorem parted_eq (hR : RR fs fV fA fB fO fP fF nr rd) (hn : nr ≤ 30) {cn : Nat} {cp fC : Nat → Int32} (hc : cn ≤ 30) (hcp : ∀ i, i < cn → cp i = fC i) : x_X8_parted nr rd cn cp = x_X9_parted nr fV fA fB fO cn fC := by
  rw [x_X8_parted, x_X9_parted, x_X7_firstUnlike]
  exact part_loop hR hn hc hcp (nr + 1) 0 (by omega)
theorem head_loop (hR : RR fs fV fA fB fO fP fF nr rd) (hn : nr ≤ 30) {p : Nat} (hp : p < nr) : ∀ (n m k : Nat) (v : Int64), k ≤ p + 1 → nr < k + n → p + 1 < k + m → x_X7_headBehind_L5 nr rd (nI p) n v (nI k) = x_X9_headOf_L5 fV fA fB fO (nI p) m v (nI k) := by
  intro n
  induction n with
  | zero =>
    intro m k v h1 h2 h3
    omega
  | succ n ih =>
    intro m k v h1 h2 h3
    obtain ⟨m, rfl⟩ : ∃ m', m = m' + 1 := ⟨m - 1, by omega⟩
    rw [x_X7_headBehind_L5, x_X9_headOf_L5]
    by_cases hc : nI p < nI k
    · rw [if_pos hc, if_pos hc]
    · have hk : k ≤ p := by
        rcases Nat.lt_or_ge p k with q | q
        · exact absurd (nI_lt q (by omega)) hc
        · exact q
      rw [if_neg hc, if_neg hc, if_neg (nI_ge (show k < nr by omega) (by omega)), word_eq hR hn (show k < nr by omega), nI_1]
      exact ih m (k + 1) _ (by omega) (by omega) (by omega)
theorem head_eq (hR : RR fs fV fA fB fO fP fF nr rd) (hn : nr ≤ 30) {p : Nat} (hp : p < nr) : x_X7_headBehind nr rd (nI p) = x_X9_headOf fV fA fB fO (nI p) := by
  rw [x_X7_headBehind, x_X9_headOf, ix_nI (by omega)]
  exact head_loop hR hn hp (nr + 1) (p + 2) 0 1 (by omega) (by omega) (by omega)
variable {rq : Nat} {fq fh fr fw : Nat → Int32} {cl : Int32}
theorem ix4 {i k : Nat} (hi : i < 30) (hk : k < 4) : ix (4 * nI i + nI k) = 4 * i + k := by
  rw [show (4 : Int32) = nI 4 from rfl, pk_mul, nI_add, ix_nI (by omega)]
theorem flaw_eq (hn : nr ≤ 30) {i : Nat} (hi : i < nr) (hR : RR fs fV fA fB fO fP fF nr rd) : x_X9_flawOf fs rq fq fh cl fV fA fB fO fF (nI i) = (if (rd i).2.2.2.1 ≤ cl then (if (rd i).2.2.2.2.1 = true then (if x_X9_mayVote rq fq fh (rd i).1 = true then 0 else 3) else 2) else 1) := by
  obtain ⟨h1, h2, h3, h4, h5, -⟩ := hR i hi
  rw [x_X9_flawOf, ix_nI (by omega), h1, h4, h5]
  have e0 : ix (4 * nI i) = 4 * i := by rw [show (4 : Int32) = nI 4 from rfl, pk_mul, ix_nI (by omega)]
  have e1 : ix (4 * nI i + 1) = 4 * i + 1 := ix4 (k := 1) (by omega) (by omega)
  have e2 : ix (4 * nI i + 2) = 4 * i + 2 := ix4 (k := 2) (by omega) (by omega)
  have e3 : ix (4 * nI i + 3) = 4 * i + 3 := ix4 (k := 3) (by omega) (by omega)
  rw [e0, e1, e2, e3]
theorem st_ne (p v : Int32) {f : Int32} (hf : f = 1 ∨ f = 2 ∨ f = 3) (n : Nat) : x_X9_stateOf_L13 fs rq fq fh cl nr fV fA fB fO fF p (n + 1) f false v = f := by
  have h0 : ¬ f ≤ 0 := by rcases hf with e | e | e <;> subst e <;> decide +kernel
  have h1 : ¬ f = 0 := by rcases hf with e | e | e <;> subst e <;> decide +kernel
  rw [x_X9_stateOf_L13, if_neg h0, if_neg h1, ite_self]
theorem st_true (p v : Int32) (n : Nat) : x_X9_stateOf_L13 fs rq fq fh cl nr fV fA fB fO fF p (n + 1) 0 true v = 4 := by
  rw [x_X9_stateOf_L13]
  simp
theorem later_eq (hn : nr ≤ 30) (hR : RR fs fV fA fB fO fP fF nr rd) {i : Nat} (hi : i < nr) (hm : x_X9_mayVote rq fq fh (fV i) = true) (p1 : Int32) : ∀ (n k : Nat), k ≤ nr → nr < k + n → x_X9_stateOf_L13 fs rq fq fh cl nr fV fA fB fO fF (nI i) n 0 false (nI k) = (if x_X7_hasLaterOne_L4 nr rd cl (fV i) p1 n (nI k) = true then 4 else 0) := by
  intro n
  induction n with
  | zero =>
    intro k h1 h2
    omega
  | succ n ih =>
    intro k h1 h2
    rw [x_X9_stateOf_L13, x_X7_hasLaterOne_L4]
    by_cases hc : nI nr ≤ nI k
    · rw [if_pos hc, if_pos hc, if_pos (show (0 : Int32) ≤ 0 by decide +kernel), if_neg (show ¬ false = true by decide)]
    · have hk : k < nr := by
        rcases Nat.lt_or_ge k nr with q | q
        · exact q
        · exact absurd (nI_le q (by omega)) hc
      obtain ⟨n, rfl⟩ : ∃ n', n = n' + 1 := ⟨n - 1, by omega⟩
      rw [if_neg hc, if_neg hc, if_pos rfl, if_neg (show ¬ false = true by decide), if_pos (inR_n hn hk), flaw_eq hn hk hR, ix_nI (by omega), ix_nI (by omega), nI_1]
      have e := (hR k hk).1
      rw [e, st_true]
      by_cases h3 : fV k = fV i
      · rw [if_pos h3, if_pos h3, h3, if_pos hm]
        by_cases h4 : (rd k).2.2.2.1 ≤ cl
        · rw [if_pos h4, if_neg (show ¬ cl < (rd k).2.2.2.1 from fun q => nle_of_lt q h4)]
          by_cases h5 : (rd k).2.2.2.2.1 = true
          · rw [if_pos h5, if_pos rfl, if_pos h5, if_pos rfl]
          · rw [if_neg h5, if_neg (by decide +kernel), if_neg h5]
            exact ih (k + 1) (by omega) (by omega)
        · rw [if_neg h4, if_neg (by decide +kernel), if_pos (lt_of_nle h4)]
          exact ih (k + 1) (by omega) (by omega)
      · rw [if_neg h3, if_neg h3]
        exact ih (k + 1) (by omega) (by omega)
theorem kind_eq (hn : nr ≤ 30) (hR : RR fs fV fA fB fO fP fF nr rd) (hq : rq ≤ 40) (hf : ∀ i, i < rq → fw i = fq i) (hV : VT rq fq) (hr : ∀ i, i < 36 → fr i = fh i) {i : Nat} (hi : i < nr) : x_X7_kindOf nr rd cl fr (nI rq) fw (nI i) = x_X9_stateOf fs rq fq fh cl nr fV fA fB fO fF (nI i) := by
  obtain ⟨h1, -, -, -, -, -, h7, -⟩ := hR i hi
  rw [x_X7_kindOf, if_pos (inR_n hn hi), x_X9_stateOf, flaw_eq hn hi hR, ix_nI (by omega), h1, may_eq hq hf hV hr h7]
  by_cases a1 : (rd i).2.2.2.1 ≤ cl
  · rw [if_pos a1, if_pos a1]
    by_cases a2 : (rd i).2.2.2.2.1 = true
    · rw [if_pos a2, if_pos a2]
      by_cases a3 : x_X9_mayVote rq fq fh (fV i) = true
      · rw [if_pos a3, if_pos a3, nI_1, x_X7_hasLaterOne, nI_1, later_eq hn hR hi a3 (nI i) (nr + 1) (i + 1) (by omega) (by omega)]
      · rw [if_neg a3, if_neg a3, st_ne _ _ (Or.inr (Or.inr rfl))]
    · rw [if_neg a2, if_neg a2, st_ne _ _ (Or.inr (Or.inl rfl))]
  · rw [if_neg a1, if_neg a1, st_ne _ _ (Or.inl rfl)]
theorem many_loop (hn : nr ≤ 30) (hR : RR fs fV fA fB fO fP fF nr rd) (hq : rq ≤ 40) (hf : ∀ i, i < rq → fw i = fq i) (hV : VT rq fq) (hr : ∀ i, i < 36 → fr i = fh i) (p : Int32) : ∀ (n i : Nat) (v : Int32), i ≤ nr → nr < i + n → x_X7_howManyAre_L4 nr rd cl fr (nI rq) fw p n v (nI i) = x_X9_rowsThatAre_L4 fs rq fq fh cl nr fV fA fB fO fF p n v (nI i) := by
  intro n
  induction n with
  | zero =>
    intro i v h1 h2
    omega
  | succ n ih =>
    intro i v h1 h2
    rw [x_X7_howManyAre_L4, x_X9_rowsThatAre_L4]
    by_cases hc : nI nr ≤ nI i
    · rw [if_pos hc, if_pos hc]
    · have hi : i < nr := by
        rcases Nat.lt_or_ge i nr with q | q
        · exact q
        · exact absurd (nI_le q (by omega)) hc
      rw [if_neg hc, if_neg hc, kind_eq hn hR hq hf hV hr hi, nI_1, Int32.add_zero, ih (i + 1) _ (by omega) (by omega), ih (i + 1) _ (by omega) (by omega)]
theorem many_eq (hn : nr ≤ 30) (hR : RR fs fV fA fB fO fP fF nr rd) (hq : rq ≤ 40) (hf : ∀ i, i < rq → fw i = fq i) (hV : VT rq fq) (hr : ∀ i, i < 36 → fr i = fh i) (p : Int32) : x_X7_howManyAre nr rd cl fr (nI rq) fw p = x_X9_rowsThatAre fs rq fq fh cl nr fV fA fB fO fF p := many_loop hn hR hq hf hV hr p (nr + 1) 0 0 (by omega) (by omega)
/-- a row that counts is right -/
theorem count_right (hn : nr ≤ 30) (hR : RR fs fV fA fB fO fP fF nr rd) {i : Nat} (hi : i < nr) (nt : Int32) (ft : Nat → Int32) (h : x_X7_kindOf nr rd cl fr nt ft (nI i) = 0) : LT 10007 (fA i) ∧ LT 10007 (fB i) := by
  obtain ⟨-, -, -, -, h5, -⟩ := hR i hi
  rw [x_X7_kindOf, if_pos (inR_n hn hi), ix_nI (by omega)] at h
  by_cases a1 : (rd i).2.2.2.1 ≤ cl
  · rw [if_pos a1] at h
    by_cases a2 : (rd i).2.2.2.2.1 = true
    · rw [h5, x_X9_holds] at a2
      by_cases a3 : x_X9_isRight (fA i) (fB i) = true
      · exact right_of a3
      · rw [if_neg a3] at a2
        cases a2
    · rw [if_neg a2] at h
      exact absurd h (by decide +kernel)
  · rw [if_neg a1] at h
    exact absurd h (by decide +kernel)
theorem tally_loop (hn : nr ≤ 30) (hR : RR fs fV fA fB fO fP fF nr rd) (hq : rq ≤ 40) (hf : ∀ i, i < rq → fw i = fq i) (hV : VT rq fq) (hr : ∀ i, i < 36 → fr i = fh i) : ∀ (n i : Nat) (a b k : Int32), LT 10007 a → LT 10007 b → i ≤ nr → nr < i + n → x_X9_tally_L22 fs rq fq fh cl nr fV fA fB fO fF 0 n a b k (nI i) = x_X7_product_L4 nr rd cl fr (nI rq) fw 0 n a (nI i) ∧ x_X9_tally_L22 fs rq fq fh cl nr fV fA fB fO fF 1 n a b k (nI i) = x_X7_product_L4 nr rd cl fr (nI rq) fw 1 n b (nI i) ∧ x_X9_tally_L22 fs rq fq fh cl nr fV fA fB fO fF 2 n a b k (nI i) = x_X7_howManyAre_L4 nr rd cl fr (nI rq) fw 0 n k (nI i) := by
  intro n
  induction n with
  | zero =>
    intro i a b k _ _ h1 h2
    omega
  | succ n ih =>
    intro i a b k la lb h1 h2
    rw [x_X9_tally_L22, x_X9_tally_L22, x_X9_tally_L22, x_X7_product_L4, x_X7_product_L4, x_X7_howManyAre_L4]
    by_cases hc : nI nr ≤ nI i
    · simp only [if_pos hc]
      exact ⟨rfl, rfl, rfl⟩
    · have hi : i < nr := by
        rcases Nat.lt_or_ge i nr with q | q
        · exact q
        · exact absurd (nI_le q (by omega)) hc
      simp only [if_neg hc, if_pos (inR_n hn hi), ← kind_eq (cl := cl) (fr := fr) (fw := fw) hn hR hq hf hV hr hi, nI_1, ix_nI (show i < 2 ^ 31 by omega)]
      by_cases hz : x_X7_kindOf nr rd cl fr (nI rq) fw (nI i) = 0
      · obtain ⟨ra, rb⟩ := count_right hn hR hi _ _ hz
        have ma := mulp la ra
        have mb := mulp lb rb
        obtain ⟨-, e2, e3, -⟩ := hR i hi
        simp only [if_pos hz, if_neg (show ¬ (1 : Int32) = 0 by decide +kernel), e2, e3, ma.1, mb.1, if_true]
        exact ih (i + 1) _ _ _ ma.2 mb.2 (by omega) (by omega)
      · simp only [if_neg hz]
        exact ih (i + 1) _ _ _ la lb (by omega) (by omega)
theorem tally_eq (hn : nr ≤ 30) (hR : RR fs fV fA fB fO fP fF nr rd) (hq : rq ≤ 40) (hf : ∀ i, i < rq → fw i = fq i) (hV : VT rq fq) (hr : ∀ i, i < 36 → fr i = fh i) (p : Int32) : x_X8_tally nr rd cl fr rq fw p = x_X9_tally fs rq fq fh cl nr fV fA fB fO fF p := by
  have L := tally_loop (cl := cl) hn hR hq hf hV hr (nr + 1) 0 1 1 0 lt01.2 lt01.2 (by omega) (by omega)
  rw [x_X8_tally, x_X9_tally]
  by_cases h : x_X9_in p 0 2 = true
  · rw [if_pos h]
    obtain ⟨j, rfl, -, hj⟩ := in_nat 0 2 (by decide) h
    rcases (show j = 0 ∨ j = 1 ∨ j = 2 by omega) with e | e | e <;> subst e
    · rw [if_pos (show nI 0 = 0 from rfl)]
      exact L.1.symm
    · rw [if_neg (show ¬ nI 1 = 0 by decide +kernel), if_pos (show nI 1 = 1 from rfl)]
      exact L.2.1.symm
    · rw [if_neg (show ¬ nI 2 = 0 by decide +kernel), if_neg (show ¬ nI 2 = 1 by decide +kernel), if_pos (show nI 2 = 2 from rfl)]
      exact L.2.2.symm
  · rw [if_neg h, if_neg (fun q => h (by rw [q]; decide +kernel)), if_neg (fun q => h (by rw [q]; decide +kernel)), if_neg (fun q => h (by rw [q]; decide +kernel))]
theorem isRow_eq (hn : nr ≤ 30) (p : Int32) : x_X9_isRow nr p = inR nr p := by
  by_cases h : x_X9_isRow nr p = true
  · rw [h, isRow_in hn h]
  · have h2 : ¬ inR nr p = true := fun q => h (by
      have hl := inR_lt hn q
      have e := nI_ix (inR_iff.mp q).1
      obtain ⟨k, rfl⟩ : ∃ k, nr = k + 1 := ⟨nr - 1, by omega⟩
      rw [x_X9_isRow, nI_pred, e]
      exact nat_in (L := 0) (by omega) (by omega) (by omega))
    cases a : x_X9_isRow nr p
    · cases b : inR nr p
      · rfl
      · exact absurd b h2
    · exact absurd a h
theorem ofRow_eq (hn : nr ≤ 30) (hR : RR fs fV fA fB fO fP fF nr rd) (hq : rq ≤ 40) (hf : ∀ i, i < rq → fw i = fq i) (hV : VT rq fq) (hr : ∀ i, i < 36 → fr i = fh i) (p0 p1 : Int32) : x_X8_ofRow nr rd cl fr rq fw p0 p1 = x_X9_ofRow fs rq fq fh cl nr fV fA fB fO fF p0 p1 := by
  rw [x_X8_ofRow, x_X9_ofRow, isRow_eq hn]
  by_cases h : inR nr p0 = true
  · rw [if_pos h, if_pos h]
    have hl := inR_lt hn h
    have e := nI_ix (inR_iff.mp h).1
    generalize ix p0 = i at hl e
    subst e
    obtain ⟨h1, h2, h3, h4, -⟩ := hR i hl
    rw [row_word hR hn hl, h1, h2, h3, h4, kind_eq hn hR hq hf hV hr hl, head_eq hR hn hl]
  · rw [if_neg h, if_neg h]
end WALL
