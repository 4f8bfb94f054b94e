/-! MATHEMATICS: what a writing call does, class and reference alike -/
section OPS
variable {fs fV fA fB fO fP fF : Nat → Int32} {nr : Nat} {rd : Nat → R6}
theorem op_key {nd c0 c1 c2 hh : Int32} (h : KR c0 c1 c2 hh fs) (hn : nr ≤ 30) (hR : RR fs fV fA fB fO fP fF nr rd) (p0 p1 p2 p3 : Int32) : (x_X8_key nd c0 c1 c2 hh nr p0 p1 p2 p3).1 = (x_X9_key nd fs nr p0 p1 p2 p3).1 ∧ (x_X8_key nd c0 c1 c2 hh nr p0 p1 p2 p3).2.1 = (x_X9_key nd fs nr p0 p1 p2 p3).2.1 ∧ KR (x_X8_key nd c0 c1 c2 hh nr p0 p1 p2 p3).2.2.1 (x_X8_key nd c0 c1 c2 hh nr p0 p1 p2 p3).2.2.2.1 (x_X8_key nd c0 c1 c2 hh nr p0 p1 p2 p3).2.2.2.2.1 (x_X8_key nd c0 c1 c2 hh nr p0 p1 p2 p3).2.2.2.2.2 (x_X9_key nd fs nr p0 p1 p2 p3).2.2 ∧ RR (x_X9_key nd fs nr p0 p1 p2 p3).2.2 fV fA fB fO fP fF nr rd := by
  rw [x_X8_key, x_X9_key, within_eq]
  by_cases h0 : x_X9_in p0 1 3 = true
  · rw [if_pos h0, if_pos h0]
    by_cases h1 : x_X9_isPower p1 = true
    · rw [if_pos (show x_X8_isExponent p1 = true from h1), if_pos h1]
      by_cases h2 : x_X9_isPower p2 = true
      · rw [if_pos (show x_X8_isExponent p2 = true from h2), if_pos h2]
        by_cases h3 : x_X9_isPower p3 = true
        · rw [if_pos (show x_X8_isExponent p3 = true from h3), if_pos h3]
          by_cases h4 : nI nr ≤ 0
          · rw [if_pos (show x_X7_size nr ≤ 0 from h4), if_pos h4]
            have k := key_KR fs h0 h1 h2 h3
            refine ⟨k.2.2.2.2.2.2, rfl, k, fun i hi => ?_⟩
            rcases Nat.eq_zero_or_pos nr with e | e
            · omega
            · exact absurd h4 (nI_nle e (by omega))
          · rw [if_neg (show ¬ x_X7_size nr ≤ 0 from h4), if_neg h4]
            exact ⟨rfl, rfl, h, hR⟩
        · rw [if_neg (show ¬ x_X8_isExponent p3 = true from h3), if_neg h3]
          exact ⟨rfl, rfl, h, hR⟩
      · rw [if_neg (show ¬ x_X8_isExponent p2 = true from h2), if_neg h2]
        exact ⟨rfl, rfl, h, hR⟩
    · rw [if_neg (show ¬ x_X8_isExponent p1 = true from h1), if_neg h1]
      exact ⟨rfl, rfl, h, hR⟩
  · rw [if_neg h0, if_neg h0]
    exact ⟨rfl, rfl, h, hR⟩
theorem op_voter {fr fh : Nat → Int32} (h : ∀ i, i < 36 → fr i = fh i) (p0 p1 p2 : Int32) : (x_X8_voter fr p0 p1 p2).1 = (x_X9_voter fh p0 p1 p2).1 ∧ ∀ i, i < 36 → (x_X8_voter fr p0 p1 p2).2 i = (x_X9_voter fh p0 p1 p2).2 i := by
  rw [x_X8_voter, x_X9_voter, within_eq, within_eq, show x_X8_voter_lim p1 = x_X9_voter_lim p1 from rfl]
  by_cases h0 : x_X9_isVoter p0 = true
  · rw [if_pos (show x_X8_isVoter p0 = true from h0), if_pos h0]
    by_cases h1 : x_X9_in p1 0 2 = true
    · rw [if_pos h1, if_pos h1]
      by_cases h2 : x_X9_in p2 0 (x_X9_voter_lim p1) = true
      · rw [if_pos h2, if_pos h2]
        obtain ⟨v, rfl, hv⟩ := voter_of h0
        obtain ⟨k, rfl, -, hk⟩ := in_nat 0 2 (by decide) h1
        have e : (3 : Int32) * nI v + nI k = nI (3 * v + k) := by rw [show (3 : Int32) = nI 3 from rfl, pk_mul, nI_add]
        have e2 : nI v * 3 + nI k = nI (3 * v + k) := by rw [Int32.mul_comm, e]
        rw [x_X4_change, e, e2, if_neg (nI_pos (by omega)), if_neg (show ¬ (36 : Int32) ≤ nI (3 * v + k) from nI_ge (b := 36) (by omega) (by decide)), trait_n hv hk, ix_nI (by omega)]
        refine ⟨h _ (by omega), fun i hi => ?_⟩
        show upd fr (3 * v + k) p2 i = upd fh (3 * v + k) p2 i
        by_cases q : i = 3 * v + k
        · subst q
          rw [upd_s, upd_s]
        · rw [upd_n _ _ q, upd_n _ _ q, h i hi]
      · rw [if_neg h2, if_neg h2]
        exact ⟨rfl, h⟩
    · rw [if_neg h1, if_neg h1]
      exact ⟨rfl, h⟩
  · rw [if_neg (show ¬ x_X8_isVoter p0 = true from h0), if_neg h0]
    exact ⟨rfl, h⟩
theorem upd_agree {f g : Nat → Int32} {n : Nat} (h : ∀ i, i < n → f i = g i) (x : Int32) : ∀ i, i < n + 1 → upd f n x i = upd g n x i := by
  intro i hi
  by_cases q : i = n
  · subst q
    rw [upd_s, upd_s]
  · rw [upd_n _ _ q, upd_n _ _ q, h i (by omega)]
theorem op_say {sg : Nat} {fd fg : Nat → Int32} (hs : sg ≤ 40) (h : ∀ i, i < sg → fd i = fg i) (p : Int32) : (x_X8_say sg fd p).1 = (x_X9_say sg fg p).1 ∧ (x_X8_say sg fd p).2.1 = (x_X9_say sg fg p).2.1 ∧ (x_X9_say sg fg p).2.1 ≤ 40 ∧ ∀ i, i < (x_X9_say sg fg p).2.1 → (x_X8_say sg fd p).2.2 i = (x_X9_say sg fg p).2.2 i := by
  rw [x_X8_say, x_X9_say, within_eq]
  by_cases h0 : x_X9_in p 33 126 = true
  · rw [if_pos h0, if_pos h0]
    have a1 : x_X6_add sg fd p = (if nI sg < 40 then (true, (sg + 1), (upd fd (ix (nI sg)) p)) else (false, sg, fd)) := by rw [x_X6_add, if_neg (nI_pos (by omega))]
    rw [a1]
    by_cases h1 : sg < 40
    · rw [if_pos (show nI sg < 40 from nI_lt (b := 40) h1 (by decide)), if_neg (show ¬ nI sg = 40 from fun q => by have := (nI_eq (b := 40) (by omega) (by decide)).mp q; omega), if_pos rfl, ix_nI (by omega)]
      exact ⟨rfl, rfl, by show sg + 1 ≤ 40; omega, upd_agree h p⟩
    · have e : sg = 40 := by omega
      subst e
      rw [if_neg (show ¬ nI 40 < 40 by decide +kernel), if_pos (show nI 40 = 40 from rfl), if_neg (show ¬ ((false, 40, fd) : Bool × Nat × (Nat → Int32)).1 = true from Bool.false_ne_true)]
      exact ⟨rfl, rfl, by show 40 ≤ 40; omega, h⟩
  · rw [if_neg h0, if_neg h0]
    exact ⟨rfl, rfl, hs, h⟩
theorem op_copy {cn : Nat} {cp fC : Nat → Int32} (hs : cn ≤ 30) (h : ∀ i, i < cn → cp i = fC i) (p : Int32) : (x_X8_copy cn cp p).1 = (x_X9_copy cn fC p).1 ∧ (x_X8_copy cn cp p).2.1 = (x_X9_copy cn fC p).2.1 ∧ (x_X9_copy cn fC p).2.1 ≤ 30 ∧ ∀ i, i < (x_X9_copy cn fC p).2.1 → (x_X8_copy cn cp p).2.2 i = (x_X9_copy cn fC p).2.2 i := by
  rw [x_X8_copy, x_X9_copy, within_eq]
  by_cases h0 : x_X9_in p 0 9972 = true
  · rw [if_pos h0, if_pos h0]
    have a1 : x_X7_addCopied cn cp p = (if nI cn < 30 then (true, (cn + 1), (upd cp (ix (nI cn)) p)) else (false, cn, cp)) := by rw [x_X7_addCopied, if_neg (nI_pos (by omega))]
    rw [a1]
    by_cases h1 : cn < 30
    · rw [if_pos (show nI cn < 30 from nI_lt (b := 30) h1 (by decide)), if_neg (show ¬ nI cn = 30 from fun q => by have := (nI_eq (b := 30) (by omega) (by decide)).mp q; omega), if_pos rfl, ix_nI (by omega)]
      exact ⟨rfl, rfl, by show cn + 1 ≤ 30; omega, upd_agree h p⟩
    · have e : cn = 30 := by omega
      subst e
      rw [if_neg (show ¬ nI 30 < 30 by decide +kernel), if_pos (show nI 30 = 30 from rfl), if_neg (show ¬ ((false, 30, cp) : Bool × Nat × (Nat → Int32)).1 = true from Bool.false_ne_true)]
      exact ⟨rfl, rfl, by show 30 ≤ 30; omega, h⟩
  · rw [if_neg h0, if_neg h0]
    exact ⟨rfl, rfl, hs, h⟩
theorem op_close (cl p : Int32) : (x_X8_close cl p).1 = (x_X9_close cl p).1 ∧ (x_X8_close cl p).2 = (x_X9_close cl p).2 := by
  rw [x_X8_close, x_X9_close, within_eq, show x_X9_isHour p = x_X9_in p 0 999 from rfl]
  by_cases h0 : x_X9_in p 0 999 = true
  · rw [if_pos h0, if_pos h0]
    exact ⟨rfl, rfl⟩
  · rw [if_neg h0, if_neg h0]
    exact ⟨rfl, rfl⟩
theorem op_rule {sg rq : Nat} {fd fg fw fq : Nat → Int32} (hs : sg ≤ 40) (h : ∀ i, i < sg → fd i = fg i) (hq : rq ≤ 40) (hw : ∀ i, i < rq → fw i = fq i) (hV : VT rq fq) (dr sd tw sw : Nat) : (x_X8_rule dr sd sg fd tw sw rq fw).1 = (x_X9_rule sg fg rq fq).1 ∧ (x_X8_rule dr sd sg fd tw sw rq fw).2.2.2.1 = (x_X9_rule sg fg rq fq).2.2.2 ∧ (x_X8_rule dr sd sg fd tw sw rq fw).2.2.2.2.2.2.2.1 = (x_X9_rule sg fg rq fq).2.1 ∧ ((x_X9_rule sg fg rq fq).2.2.2 ≤ 40 ∧ ∀ i, i < (x_X9_rule sg fg rq fq).2.2.2 → (x_X8_rule dr sd sg fd tw sw rq fw).2.2.2.2.1 i = fg i) ∧ ((x_X9_rule sg fg rq fq).2.1 ≤ 40 ∧ (∀ i, i < (x_X9_rule sg fg rq fq).2.1 → (x_X8_rule dr sd sg fd tw sw rq fw).2.2.2.2.2.2.2.2 i = (x_X9_rule sg fg rq fq).2.2.1 i) ∧ VT (x_X9_rule sg fg rq fq).2.1 (x_X9_rule sg fg rq fq).2.2.1) := by
  have e : x_X9_faultOf sg fg = x_X6_faultPlace (nI sg) fd := (fault_eq hs h).symm
  have ng : (x_X6_faultPlace (nI sg) fd < 0 ↔ x_X6_faultPlace (nI sg) fd = -6) := fault_neg hs 41 0 0 (by omega) (by omega)
  rw [x_X8_rule, x_X9_rule, e]
  by_cases hf : x_X6_faultPlace (nI sg) fd = -6
  · rw [if_pos hf, if_pos (ng.mpr hf)]
    obtain ⟨fq', e1, e2⟩ := copy_loop (rq := rq) (fg := fg) hs (sg + 1) 0 fq (by omega) (by omega) (fun j hj => by omega)
    have e1 : x_X9_rule_L20 sg fg rq (sg + 1) 0 fq = (1, sg, fq', 0) := e1
    rw [e1]
    refine ⟨rfl, rfl, rfl, ⟨by show 0 ≤ 40; omega, fun i hi => absurd hi (by show ¬ i < 0; omega)⟩, hs, fun i hi => ?_, ?_⟩
    · show fd i = fq' i
      rw [h i hi, e2 i hi]
    · exact VT_cong (fun i hi => (h i hi).trans (e2 i hi).symm) (rule_VT hs hf)
  · rw [if_neg hf, if_neg (fun q => hf (ng.mp q))]
    exact ⟨rfl, rfl, rfl, ⟨hs, h⟩, hq, hw, hV⟩
theorem told_of {x : Int32} (h : x_X9_isTold x = true) : LT 1000001 x := by
  obtain ⟨j, rfl, -, hj⟩ := in_nat 0 1000000 (by decide) h
  exact ⟨j, by omega, rfl⟩
theorem hour_of {x : Int32} (h : x_X9_isHour x = true) : LT 1000 x := by
  obtain ⟨j, rfl, -, hj⟩ := in_nat 0 999 (by decide) h
  exact ⟨j, by omega, rfl⟩
/-- four numbers of a proof, in their places -/
def up4 (f : Nat → Int32) (b : Nat) (x0 x1 x2 x3 : Int32) : Nat → Int32 := upd (upd (upd (upd f b x0) (b + 1) x1) (b + 2) x2) (b + 3) x3
theorem up4_0 (f : Nat → Int32) (b : Nat) (x0 x1 x2 x3 : Int32) : up4 f b x0 x1 x2 x3 b = x0 := by
  rw [up4, upd_n _ _ (by omega), upd_n _ _ (by omega), upd_n _ _ (by omega), upd_s]
theorem up4_1 (f : Nat → Int32) (b : Nat) (x0 x1 x2 x3 : Int32) : up4 f b x0 x1 x2 x3 (b + 1) = x1 := by
  rw [up4, upd_n _ _ (by omega), upd_n _ _ (by omega), upd_s]
theorem up4_2 (f : Nat → Int32) (b : Nat) (x0 x1 x2 x3 : Int32) : up4 f b x0 x1 x2 x3 (b + 2) = x2 := by
  rw [up4, upd_n _ _ (by omega), upd_s]
theorem up4_3 (f : Nat → Int32) (b : Nat) (x0 x1 x2 x3 : Int32) : up4 f b x0 x1 x2 x3 (b + 3) = x3 := by
  rw [up4, upd_s]
theorem up4_n (f : Nat → Int32) {b j : Nat} (x0 x1 x2 x3 : Int32) (h : j < b ∨ b + 4 ≤ j) : up4 f b x0 x1 x2 x3 j = f j := by
  rw [up4, upd_n _ _ (by omega), upd_n _ _ (by omega), upd_n _ _ (by omega), upd_n _ _ (by omega)]
theorem RR_push (hR : RR fs fV fA fB fO fP fF nr rd) {v a b o : Int32} {S P : Bool} {F : Nat → Int32} (hF : ∀ j, j < 4 * nr → F j = fF j) (hS : S = x_X9_holds fs a b (F (4 * nr)) (F (4 * nr + 1)) (F (4 * nr + 2)) (F (4 * nr + 3))) (hv : x_X9_isVoter v = true) (ha : LT 1000001 a) (hb : LT 1000001 b) (ho : LT 1000 o) : RR fs (upd fV nr v) (upd fA nr a) (upd fB nr b) (upd fO nr o) (upd fP nr (bI P)) F (nr + 1) (va_up rd nr (v, a, b, o, S, P)) := by
  intro i hi
  by_cases q : i = nr
  · subst q
    rw [upd_s, upd_s, upd_s, upd_s, upd_s, show va_up rd i (v, a, b, o, S, P) i = (v, a, b, o, S, P) by simp [va_up]]
    exact ⟨rfl, rfl, rfl, rfl, hS, rfl, hv, ha, hb, ho⟩
  · rw [upd_n _ _ q, upd_n _ _ q, upd_n _ _ q, upd_n _ _ q, upd_n _ _ q, show va_up rd nr (v, a, b, o, S, P) i = rd i by simp [va_up, q], hF _ (by omega), hF _ (by omega), hF _ (by omega), hF _ (by omega)]
    exact hR i (by omega)
theorem addRow_eq (nr : Nat) (p0 p1 p2 p3 : Int32) (p4 : Bool) : x_X9_addRow fV fA fB fO fP fF nr p0 p1 p2 p3 p4 = (nI (nr + 1) - 1, upd fV (ix (nI nr)) p0, upd fA (ix (nI nr)) p1, upd fB (ix (nI nr)) p2, upd fO (ix (nI nr)) p3, upd fP (ix (nI nr)) (bI p4), upd (upd (upd (upd fF (ix (4 * nI nr + 0)) 0) (ix (4 * nI nr + (0 + 1))) 0) (ix (4 * nI nr + (0 + 1 + 1))) 0) (ix (4 * nI nr + (0 + 1 + 1 + 1))) 0, nr + 1) := rfl
theorem addRow_n (hn : nr < 30) (p0 p1 p2 p3 : Int32) (p4 : Bool) : x_X9_addRow fV fA fB fO fP fF nr p0 p1 p2 p3 p4 = (nI nr, upd fV nr p0, upd fA nr p1, upd fB nr p2, upd fO nr p3, upd fP nr (bI p4), up4 fF (4 * nr) 0 0 0 0, nr + 1) := by
  have e0 : ix (4 * nI nr + 0) = 4 * nr := ix4 (k := 0) hn (by omega)
  have e1 : ix (4 * nI nr + (0 + 1)) = 4 * nr + 1 := ix4 (k := 1) hn (by omega)
  have e2 : ix (4 * nI nr + (0 + 1 + 1)) = 4 * nr + 2 := ix4 (k := 2) hn (by omega)
  have e3 : ix (4 * nI nr + (0 + 1 + 1 + 1)) = 4 * nr + 3 := ix4 (k := 3) hn (by omega)
  rw [addRow_eq, e0, e1, e2, e3, ix_nI (by omega), nI_pred]
  rfl
theorem full_eq (hn : nr ≤ 30) : (x_X7_isFull nr = true ↔ nI nr = 30) := by
  rw [x_X7_isFull]
  by_cases h : nr < 30
  · rw [if_pos (show nI nr < 30 from nI_lt (b := 30) h (by decide))]
    exact ⟨fun q => (by cases q), fun q => (by have := (nI_eq (a := nr) (b := 30) (by omega) (by decide)).mp q; omega)⟩
  · have e : nr = 30 := by omega
    subst e
    rw [if_neg (show ¬ nI 30 < 30 by decide +kernel)]
    exact ⟨fun _ => rfl, fun _ => rfl⟩
theorem op_row {c0 c1 c2 hh : Int32} (h : KR c0 c1 c2 hh fs) (hn : nr ≤ 30) (hR : RR fs fV fA fB fO fP fF nr rd) (p0 p1 p2 p3 : Int32) : (x_X8_row hh nr rd p0 p1 p2 p3).1 = (x_X9_row fV fA fB fO fP fF nr p0 p1 p2 p3).1 ∧ (x_X8_row hh nr rd p0 p1 p2 p3).2.1 = (x_X9_row fV fA fB fO fP fF nr p0 p1 p2 p3).2.2.2.2.2.2.2 ∧ (x_X9_row fV fA fB fO fP fF nr p0 p1 p2 p3).2.2.2.2.2.2.2 ≤ 30 ∧ RR fs (x_X9_row fV fA fB fO fP fF nr p0 p1 p2 p3).2.1 (x_X9_row fV fA fB fO fP fF nr p0 p1 p2 p3).2.2.1 (x_X9_row fV fA fB fO fP fF nr p0 p1 p2 p3).2.2.2.1 (x_X9_row fV fA fB fO fP fF nr p0 p1 p2 p3).2.2.2.2.1 (x_X9_row fV fA fB fO fP fF nr p0 p1 p2 p3).2.2.2.2.2.1 (x_X9_row fV fA fB fO fP fF nr p0 p1 p2 p3).2.2.2.2.2.2.1 (x_X9_row fV fA fB fO fP fF nr p0 p1 p2 p3).2.2.2.2.2.2.2 (x_X8_row hh nr rd p0 p1 p2 p3).2.2 := by
  rw [x_X8_row, x_X9_row, within_eq, show x_X8_isRowNumber = x_X9_isTold from rfl, show x_X8_isVoter = x_X9_isVoter from rfl, show x_X9_in p3 0 999 = x_X9_isHour p3 from rfl]
  by_cases h0 : x_X9_isVoter p0 = true
  · rw [if_pos h0, if_pos h0]
    by_cases h1 : x_X9_isTold p1 = true
    · rw [if_pos h1, if_pos h1]
      by_cases h2 : x_X9_isTold p2 = true
      · rw [if_pos h2, if_pos h2]
        by_cases h3 : x_X9_isHour p3 = true
        · rw [if_pos h3, if_pos h3]
          by_cases h4 : nI nr = 30
          · rw [if_pos ((full_eq hn).mpr h4), if_pos h4]
            exact ⟨rfl, rfl, hn, hR⟩
          · have hlt : nr < 30 := free_lt hn rfl h4
            rw [if_neg (fun q => h4 ((full_eq hn).mp q)), if_neg h4, addRow_n hlt]
            refine ⟨nI_pred nr, rfl, by show nr + 1 ≤ 30; omega, RR_push hR (fun j hj => up4_n _ _ _ _ _ (Or.inl hj)) ?_ h0 (told_of h1) (told_of h2) (hour_of h3)⟩
            show _ = x_X9_holds fs p1 p2 (up4 fF (4 * nr) 0 0 0 0 (4 * nr)) (up4 fF (4 * nr) 0 0 0 0 (4 * nr + 1)) (up4 fF (4 * nr) 0 0 0 0 (4 * nr + 2)) (up4 fF (4 * nr) 0 0 0 0 (4 * nr + 3))
            rw [up4_0, up4_1, up4_2, up4_3]
            exact holds_eq h.2.2.2.2.2.2 h.h p1 p2 0 0 0 0
        · rw [if_neg h3, if_neg h3]
          exact ⟨rfl, rfl, hn, hR⟩
      · rw [if_neg h2, if_neg h2]
        exact ⟨rfl, rfl, hn, hR⟩
    · rw [if_neg h1, if_neg h1]
      exact ⟨rfl, rfl, hn, hR⟩
  · rw [if_neg h0, if_neg h0]
    exact ⟨rfl, rfl, hn, hR⟩
theorem op_attach {c0 c1 c2 hh : Int32} (h : KR c0 c1 c2 hh fs) (hn : nr ≤ 30) (hR : RR fs fV fA fB fO fP fF nr rd) (p0 p1 p2 p3 p4 : Int32) : (x_X8_attach hh nr rd p0 p1 p2 p3 p4).1 = (x_X9_attach nr fP fF p0 p1 p2 p3 p4).1 ∧ RR fs fV fA fB fO (x_X9_attach nr fP fF p0 p1 p2 p3 p4).2.1 (x_X9_attach nr fP fF p0 p1 p2 p3 p4).2.2 nr (x_X8_attach hh nr rd p0 p1 p2 p3 p4).2 := by
  rw [x_X8_attach, x_X9_attach, isRow_eq hn, show x_X8_isRowNumber = x_X9_isTold from rfl]
  by_cases h0 : inR nr p0 = true
  · rw [if_pos h0, if_pos h0]
    by_cases h1 : x_X9_isTold p1 = true
    · rw [if_pos h1, if_pos h1]
      by_cases h2 : x_X9_isTold p2 = true
      · rw [if_pos h2, if_pos h2]
        by_cases h3 : x_X9_isTold p3 = true
        · rw [if_pos h3, if_pos h3]
          by_cases h4 : x_X9_isTold p4 = true
          · rw [if_pos h4, if_pos h4]
            have hl := inR_lt hn h0
            have e := nI_ix (inR_iff.mp h0).1
            have e0 : ix (4 * p0) = 4 * ix p0 := by
              conv => lhs; rw [e, show (4 : Int32) = nI 4 from rfl, pk_mul]
              exact ix_nI (by omega)
            have e1 : ix (4 * p0 + 1) = 4 * ix p0 + 1 := by
              conv => lhs; rw [e]
              exact ix4 (k := 1) (by omega) (by omega)
            have e2 : ix (4 * p0 + 2) = 4 * ix p0 + 2 := by
              conv => lhs; rw [e]
              exact ix4 (k := 2) (by omega) (by omega)
            have e3 : ix (4 * p0 + 3) = 4 * ix p0 + 3 := by
              conv => lhs; rw [e]
              exact ix4 (k := 3) (by omega) (by omega)
            rw [e0, e1, e2, e3]
            generalize ix p0 = i at hl
            obtain ⟨r1, r2, r3, r4, r5, r6, r7, r8, r9, r10⟩ := hR i hl
            by_cases h5 : (rd i).2.2.2.2.2 = true
            · rw [if_pos h5, if_neg (by rw [r6, h5]; decide +kernel)]
              exact ⟨rfl, hR⟩
            · rw [if_neg h5, if_pos (by rw [r6, bI_0]; exact h5)]
              refine ⟨rfl, fun j hj => ?_⟩
              by_cases q : j = i
              · subst q
                simp only [va_up, if_true]
                have F := up4_0 fF (4 * j) p1 p2 p3 p4
                have F1 := up4_1 fF (4 * j) p1 p2 p3 p4
                have F2 := up4_2 fF (4 * j) p1 p2 p3 p4
                have F3 := up4_3 fF (4 * j) p1 p2 p3 p4
                rw [up4] at F F1 F2 F3
                rw [F, F1, F2, F3, upd_s, r2, r3]
                exact ⟨r1, rfl, rfl, r4, holds_eq h.2.2.2.2.2.2 h.h (fA j) (fB j) p1 p2 p3 p4, rfl, r7, r8, r9, r10⟩
              · simp only [va_up, if_neg q]
                have F := fun k (hk : k < 4 * i ∨ 4 * i + 4 ≤ k) => up4_n fF p1 p2 p3 p4 hk
                rw [up4] at F
                rw [F _ (by omega), F _ (by omega), F _ (by omega), F _ (by omega), upd_n _ _ q]
                exact hR j hj
          · rw [if_neg h4, if_neg h4]
            exact ⟨rfl, hR⟩
        · rw [if_neg h3, if_neg h3]
          exact ⟨rfl, hR⟩
      · rw [if_neg h2, if_neg h2]
        exact ⟨rfl, hR⟩
    · rw [if_neg h1, if_neg h1]
      exact ⟨rfl, hR⟩
  · rw [if_neg h0, if_neg h0]
    exact ⟨rfl, hR⟩
theorem cast_loop (hn : nr < 30) (p0 p1 p2 p3 p4 p5 p6 : Int32) (F : Nat → Int32) : x_X9_cast_L100 fs fV fA fB fO fP nr p0 p1 p2 p3 p4 p5 p6 5 (nI nr) 0 F = (nI nr, upd fV nr p0, upd fA nr (x_X9_sealOf fs p1 p3 0), upd fB nr (x_X9_sealOf fs p1 p3 1), upd fO nr p2, upd fP nr (bI true), up4 F (4 * nr) (x_X9_proved fs p1 p3 p4 p5 p6 0) (x_X9_proved fs p1 p3 p4 p5 p6 1) (x_X9_proved fs p1 p3 p4 p5 p6 2) (x_X9_proved fs p1 p3 p4 p5 p6 3), nr + 1) := by
  have e0 : ix (4 * nI nr + 0) = 4 * nr := ix4 (k := 0) hn (by omega)
  have e1 : ix (4 * nI nr + 1) = 4 * nr + 1 := ix4 (k := 1) hn (by omega)
  have e2 : ix (4 * nI nr + 2) = 4 * nr + 2 := ix4 (k := 2) hn (by omega)
  have e3 : ix (4 * nI nr + 3) = 4 * nr + 3 := ix4 (k := 3) hn (by omega)
  rw [x_X9_cast_L100, if_neg (show ¬ (4 : Int32) ≤ 0 by decide +kernel), show (0 : Int32) + 1 = 1 by decide +kernel, x_X9_cast_L100, if_neg (show ¬ (4 : Int32) ≤ 1 by decide +kernel), show (1 : Int32) + 1 = 2 by decide +kernel, x_X9_cast_L100, if_neg (show ¬ (4 : Int32) ≤ 2 by decide +kernel), show (2 : Int32) + 1 = 3 by decide +kernel, x_X9_cast_L100, if_neg (show ¬ (4 : Int32) ≤ 3 by decide +kernel), show (3 : Int32) + 1 = 4 by decide +kernel, x_X9_cast_L100, if_pos (show (4 : Int32) ≤ 4 by decide +kernel), e0, e1, e2, e3, addRow_n hn]
  rfl
theorem up4_up4 (f : Nat → Int32) (b : Nat) (x0 x1 x2 x3 y0 y1 y2 y3 : Int32) {j : Nat} (h : j < b) : up4 (up4 f b x0 x1 x2 x3) b y0 y1 y2 y3 j = f j := by
  rw [up4_n _ _ _ _ _ (Or.inl h), up4_n _ _ _ _ _ (Or.inl h)]
theorem op_cast {c0 c1 c2 hh : Int32} (h : KR c0 c1 c2 hh fs) (hn : nr ≤ 30) (hR : RR fs fV fA fB fO fP fF nr rd) (p0 p1 p2 p3 p4 p5 p6 : Int32) : (x_X8_cast hh nr rd p0 p1 p2 p3 p4 p5 p6).1 = (x_X9_cast fs fV fA fB fO fP fF nr p0 p1 p2 p3 p4 p5 p6).1 ∧ (x_X8_cast hh nr rd p0 p1 p2 p3 p4 p5 p6).2.1 = (x_X9_cast fs fV fA fB fO fP fF nr p0 p1 p2 p3 p4 p5 p6).2.2.2.2.2.2.2 ∧ (x_X9_cast fs fV fA fB fO fP fF nr p0 p1 p2 p3 p4 p5 p6).2.2.2.2.2.2.2 ≤ 30 ∧ RR fs (x_X9_cast fs fV fA fB fO fP fF nr p0 p1 p2 p3 p4 p5 p6).2.1 (x_X9_cast fs fV fA fB fO fP fF nr p0 p1 p2 p3 p4 p5 p6).2.2.1 (x_X9_cast fs fV fA fB fO fP fF nr p0 p1 p2 p3 p4 p5 p6).2.2.2.1 (x_X9_cast fs fV fA fB fO fP fF nr p0 p1 p2 p3 p4 p5 p6).2.2.2.2.1 (x_X9_cast fs fV fA fB fO fP fF nr p0 p1 p2 p3 p4 p5 p6).2.2.2.2.2.1 (x_X9_cast fs fV fA fB fO fP fF nr p0 p1 p2 p3 p4 p5 p6).2.2.2.2.2.2.1 (x_X9_cast fs fV fA fB fO fP fF nr p0 p1 p2 p3 p4 p5 p6).2.2.2.2.2.2.2 (x_X8_cast hh nr rd p0 p1 p2 p3 p4 p5 p6).2.2 := by
  rw [x_X8_cast, x_X9_cast, within_eq, within_eq, show x_X8_isVoter = x_X9_isVoter from rfl, show x_X9_in p2 0 999 = x_X9_isHour p2 from rfl]
  by_cases h0 : x_X9_isVoter p0 = true
  · rw [if_pos h0, if_pos h0]
    by_cases h1 : x_X9_in p1 0 1 = true
    · rw [if_pos h1, if_pos h1]
      by_cases h2 : x_X9_isHour p2 = true
      · rw [if_pos h2, if_pos h2]
        by_cases h3 : x_X9_isPower p3 = true
        · by_cases h4 : x_X9_isPower p4 = true
          · by_cases h5 : x_X9_isPower p5 = true
            · by_cases h6 : x_X9_isPower p6 = true
              · rw [if_pos (lots_iff.mpr ⟨h3, h4, h5, h6⟩), if_pos h3, if_pos h4, if_pos h5, if_pos h6]
                by_cases hf : nI nr = 30
                · rw [if_pos ((full_eq hn).mpr hf), if_pos hf]
                  exact ⟨rfl, rfl, hn, hR⟩
                · have hlt : nr < 30 := free_lt hn rfl hf
                  rw [if_neg (fun q => hf ((full_eq hn).mp q)), if_neg hf, addRow_n hlt]
                  have hm : p1 = 0 ∨ p1 = 1 := by
                    obtain ⟨k, rfl, -, hk⟩ := in_nat 0 1 (by decide) h1
                    rcases (show k = 0 ∨ k = 1 by omega) with e | e <;> subst e
                    · exact Or.inl rfl
                    · exact Or.inr rfl
                  have lm : LT 5003 p1 := by
                    rcases hm with e | e <;> subst e
                    · exact ⟨0, by decide, rfl⟩
                    · exact ⟨1, by decide, rfl⟩
                  have sa := sealA_eq (fs := fs) (m := p1) (pow_of h3)
                  have sb := sealB_eq h.2.2.2.2.2.2 h.h lm (pow_of h3)
                  have mk := make_eq h.2.2.2.2.2.2 h.h hm (pow_of h3) (pow_of h4) (pow_of h5) (pow_of h6)
                  have cl := cast_loop (fs := fs) (fV := fV) (fA := fA) (fB := fB) (fO := fO) (fP := fP) hlt p0 p1 p2 p3 p4 p5 p6 (up4 fF (4 * nr) 0 0 0 0)
                  rw [sa.1, sb.1, mk, cl]
                  refine ⟨nI_pred nr, rfl, by show nr + 1 ≤ 30; omega, RR_push (P := true) hR (F := up4 (up4 fF (4 * nr) 0 0 0 0) (4 * nr) (x_X9_proved fs p1 p3 p4 p5 p6 0) (x_X9_proved fs p1 p3 p4 p5 p6 1) (x_X9_proved fs p1 p3 p4 p5 p6 2) (x_X9_proved fs p1 p3 p4 p5 p6 3)) (fun j hj => up4_up4 _ _ _ _ _ _ _ _ _ _ hj) ?_ h0 (sa.2.mono (by decide)) (sb.2.mono (by decide)) (hour_of h2)⟩
                  rw [up4_0, up4_1, up4_2, up4_3]
                  exact holds_eq h.2.2.2.2.2.2 h.h _ _ _ _ _ _
              · rw [if_neg (fun q => h6 (lots_iff.mp q).2.2.2), if_pos h3, if_pos h4, if_pos h5, if_neg h6]
                exact ⟨rfl, rfl, hn, hR⟩
            · rw [if_neg (fun q => h5 (lots_iff.mp q).2.2.1), if_pos h3, if_pos h4, if_neg h5]
              exact ⟨rfl, rfl, hn, hR⟩
          · rw [if_neg (fun q => h4 (lots_iff.mp q).2.1), if_pos h3, if_neg h4]
            exact ⟨rfl, rfl, hn, hR⟩
        · rw [if_neg (fun q => h3 (lots_iff.mp q).1), if_neg h3]
          exact ⟨rfl, rfl, hn, hR⟩
      · rw [if_neg h2, if_neg h2]
        exact ⟨rfl, rfl, hn, hR⟩
    · rw [if_neg h1, if_neg h1]
      exact ⟨rfl, rfl, hn, hR⟩
  · rw [if_neg h0, if_neg h0]
    exact ⟨rfl, rfl, hn, hR⟩
/-- prove: the number that is asked for -/
theorem prove_eq {c0 c1 c2 hh : Int32} (h : KR c0 c1 c2 hh fs) (p0 p1 p2 p3 p4 p5 : Int32) : x_X8_prove hh p0 p1 p2 p3 p4 p5 = x_X9_prove fs p0 p1 p2 p3 p4 p5 := by
  rw [x_X8_prove, x_X9_prove, within_eq, within_eq]
  by_cases h1 : x_X9_in p0 0 1 = true
  · rw [if_pos h1, if_pos h1]
    by_cases h3 : x_X9_isPower p1 = true
    · by_cases h4 : x_X9_isPower p2 = true
      · by_cases h5 : x_X9_isPower p3 = true
        · by_cases h6 : x_X9_isPower p4 = true
          · rw [if_pos (lots_iff.mpr ⟨h3, h4, h5, h6⟩), if_pos h3, if_pos h4, if_pos h5, if_pos h6]
            by_cases h7 : x_X9_in p5 0 3 = true
            · rw [if_pos h7, if_pos h7]
              have hm : p0 = 0 ∨ p0 = 1 := by
                obtain ⟨k, rfl, -, hk⟩ := in_nat 0 1 (by decide) h1
                rcases (show k = 0 ∨ k = 1 by omega) with e | e <;> subst e
                · exact Or.inl rfl
                · exact Or.inr rfl
              rw [make_eq h.2.2.2.2.2.2 h.h hm (pow_of h3) (pow_of h4) (pow_of h5) (pow_of h6), x_X3_number]
              obtain ⟨k, rfl, -, hk⟩ := in_nat 0 3 (by decide) h7
              rcases (show k = 0 ∨ k = 1 ∨ k = 2 ∨ k = 3 by omega) with e | e | e | e <;> subst e
              · rw [if_pos (show nI 0 = 0 from rfl)]
                rfl
              · rw [if_neg (show ¬ nI 1 = 0 by decide +kernel), if_pos (show nI 1 = 1 from rfl)]
                rfl
              · rw [if_neg (show ¬ nI 2 = 0 by decide +kernel), if_neg (show ¬ nI 2 = 1 by decide +kernel), if_pos (show nI 2 = 2 from rfl)]
                rfl
              · rw [if_neg (show ¬ nI 3 = 0 by decide +kernel), if_neg (show ¬ nI 3 = 1 by decide +kernel), if_neg (show ¬ nI 3 = 2 by decide +kernel)]
                rfl
            · rw [if_neg h7, if_neg h7]
          · rw [if_neg (fun q => h6 (lots_iff.mp q).2.2.2), if_pos h3, if_pos h4, if_pos h5, if_neg h6]
        · rw [if_neg (fun q => h5 (lots_iff.mp q).2.2.1), if_pos h3, if_pos h4, if_neg h5]
      · rw [if_neg (fun q => h4 (lots_iff.mp q).2.1), if_pos h3, if_neg h4]
    · rw [if_neg (fun q => h3 (lots_iff.mp q).1), if_neg h3]
  · rw [if_neg h1, if_neg h1]
theorem check_eq {c0 c1 c2 hh : Int32} (h : KR c0 c1 c2 hh fs) (p0 p1 p2 p3 p4 p5 : Int32) : x_X8_check hh p0 p1 p2 p3 p4 p5 = x_X9_check fs p0 p1 p2 p3 p4 p5 := by
  rw [x_X8_check, x_X9_check, become_eq, holds_eq h.2.2.2.2.2.2 h.h]
theorem mayI_eq {rq : Nat} {fw fq fr fh : Nat → Int32} (hq : rq ≤ 40) (hf : ∀ i, i < rq → fw i = fq i) (hV : VT rq fq) (hr : ∀ i, i < 36 → fr i = fh i) (p : Int32) : x_X8_may fr rq fw p = x_X9_may rq fq fh p := by
  rw [x_X8_may, x_X9_may]
  by_cases h : x_X9_isVoter p = true
  · rw [if_pos (show x_X8_isVoter p = true from h), if_pos h, may_eq hq hf hV hr h]
  · rw [if_neg (show ¬ x_X8_isVoter p = true from h), if_neg h]
theorem count_eq {c0 c1 c2 hh : Int32} {rq : Nat} {fw fq fr fh : Nat → Int32} {cl : Int32} (h : KR c0 c1 c2 hh fs) (hn : nr ≤ 30) (hR : RR fs fV fA fB fO fP fF nr rd) (hq : rq ≤ 40) (hf : ∀ i, i < rq → fw i = fq i) (hV : VT rq fq) (hr : ∀ i, i < 36 → fr i = fh i) (nd : Int32) (sg cn : Nat) (p : Int32) : x_X8_count nd hh sg cn nr rd cl fr rq fw p = x_X9_count fs rq fq fh cl nr fV fA fB fO fF sg nd cn p := by
  rw [x_X8_count, x_X9_count, within_eq, many_eq hn hR hq hf hV hr, x_X0_h, h.2.2.2.2.2.2]
  rfl
end OPS
