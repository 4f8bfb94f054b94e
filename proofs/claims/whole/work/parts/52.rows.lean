/-! a row more, a row changed: the wall's world -/
theorem rwL_len (nr : Nat) (ra : Nat → Nat) (rd : Nat → R6) : (rwL nr ra rd).length = nr := by simp [rwL]
theorem rwL_push (nr : Nat) (ra : Nat → Nat) (rd : Nat → R6) (q : Nat) (r : R6) : rwL nr ra rd ++ [(q, .inr (3, rwF r))] = rwL (nr + 1) (va_up ra nr q) (va_up rd nr r) := by
  unfold rwL
  rw [List.range_succ, List.map_append]
  congr 1
  · apply List.map_congr_left
    intro i hi
    have h : i < nr := List.mem_range.mp hi
    simp [va_up, Nat.ne_of_lt h]
  · simp [va_up]
theorem rows_up {nr : Nat} (ra : Nat → Nat) (q : Nat) (h : nr < 2 ^ 31) : va_up (rwA nr ra) (ix (nI nr)) (some q) = rwA (nr + 1) (va_up ra nr q) := by
  rw [ix_nI h]
  funext j
  unfold va_up rwA
  by_cases e : j = nr
  · subst e
    simp
  · by_cases e2 : j < nr
    · rw [if_neg e, if_pos e2, if_pos (by omega)]
      simp [e]
    · rw [if_neg e, if_neg e2, if_neg (by omega)]
theorem last_at {X : va_W} {nr : Nat} {ra : Nat → Nat} {rd : Nat → R6} {q : Nat × va_E} : ((X ++ rwL nr ra rd) ++ [q])[X.length + nr]? = some q := by
  rw [List.getElem?_append_right (by rw [List.length_append, rwL_len]; exact Nat.le_refl _), List.length_append, rwL_len, Nat.sub_self]
  rfl
theorem rw_put {X : va_W} {nr : Nat} {ra : Nat → Nat} {rd : Nat → R6} {i : Nat} (hL : X.length = 12) (r : R6) (h : i < nr) : (X ++ rwL nr ra rd).set (12 + i) (ra i, .inr (3, rwF r)) = X ++ rwL nr ra (va_up rd i r) := by
  rw [← hL, pre_set]
  congr 1
  apply List.ext_getElem?
  intro j
  by_cases e : i = j
  · subst e
    rw [List.getElem?_set_self (by rw [rwL_len]; exact h), rwL_at h]
    simp [va_up]
  · rw [List.getElem?_set_ne e]
    by_cases hj : j < nr
    · rw [rwL_at hj, rwL_at hj]
      simp [va_up, Ne.symm e]
    · rw [List.getElem?_eq_none (by rw [rwL_len]; omega), List.getElem?_eq_none (by rw [rwL_len]; omega)]
theorem full_lt {nr : Nat} (hn : nr ≤ 30) (h : ¬ x_X7_isFull nr = true) : nr < 30 := by
  rcases Nat.lt_or_ge nr 30 with q | q
  · exact q
  · exfalso
    apply h
    have e : nr = 30 := by omega
    subst e
    decide +kernel
abbrev cWa (cI cR : ClassId) (x kk pr w wr wc ro wt : Nat) (need c0 c1 c2 hh pc0 pz0 pc1 pz1 : Int32) (dr sd ds : Nat) (fd : Nat → Int32) (tw sw wn : Nat) (fw fr : Nat → Int32) (nr : Nat) (ra : Nat → Nat) (rd : Nat → R6) (cc : Nat) (ch : Int32) (cp : Nat → Int32) (sz : Nat) (fR : Nat → Option Nat) (q : Nat) (r : R6) : va_W :=
  ([(x, .inr (6, [.ref kk, .ref pr, .ref ro, .ref w])), (kk, .inr (0, [.int need, .int c0, .int c1, .int c2, .int hh])), (pr, .inr (1, [.int pc0, .int pz0, .int pc1, .int pz1])), (dr, .inr (4, [.ref sd, .int (nI ds)])), (sd, .inl (cI, 40, .inl fd)), (w, .inr (5, [.ref wr, .ref wc, .int (nI sz), .int (nI cc), .int ch])), (wr, .inl (cR, 30, .inr (.inr (.inr (.inr fR))))), (wc, .inl (cI, 30, .inl cp)), (ro, .inr (2, [.ref wt, .ref tw, .ref dr])), (wt, .inl (cI, 36, .inl fr)), (tw, .inr (4, [.ref sw, .int (nI wn)])), (sw, .inl (cI, 40, .inl fw))] ++ rwL nr ra rd) ++ [(q, .inr (3, rwF r))]
