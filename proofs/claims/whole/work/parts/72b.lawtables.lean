/-! where the law starts -/
def inW (w : va_W) (q : Nat) : Prop := ∃ (k : Nat) (z : Nat × va_E), w[k]? = some z ∧ z.1 = q
theorem apL {w1 w2 : va_W} {k : Nat} {q : Nat × va_E} (h : w1[k]? = some q) : (w1 ++ w2)[k]? = some q := by
  rw [List.getElem?_append_left (List.getElem?_eq_some_iff.mp h).1]
  exact h
theorem split_D {A : Nat → Prop} {w1 w2 : va_W} (h : va_D A (w1 ++ w2)) : va_D (fun q => A q ∧ ¬ inW w2 q) w1 ∧ va_D (inW w2) w2 := by
  refine ⟨⟨fun i j p q hi hj e => h.1 i j p q (apL hi) (apL hj) e, fun k q hk => ⟨h.2 k q (apL hk), fun hw => ?_⟩⟩, ⟨fun i j p q hi hj e => Nat.add_left_cancel (h.1 _ _ p q (pre_at i hi) (pre_at j hj) e), fun k q hk => ⟨k, q, hk, rfl⟩⟩⟩
  obtain ⟨j, z, hz, e⟩ := hw
  have h1 := h.1 k (w1.length + j) q z (apL hk) (pre_at j hz) e.symm
  have h2 := (List.getElem?_eq_some_iff.mp hk).1
  omega
theorem rwA0 (ra : Nat → Nat) : rwA 0 ra = fun _ => none := funext (fun i => if_neg (Nat.not_lt_zero i))
theorem inits_eq : ∀ i, i < 36 → x_X4_init i = x_X9_init i := by decide +kernel
theorem REL0 : REL 1 0 0 4 (upd (fun _ => 0) (ix 0) 1) 0 (fun _ => 0) (fun _ => 0) 0 (fun _ => 0) (fun _ => 0) x_X4_init x_X9_init 0 (fun _ => (0, 0, 0, 0, false, false)) (fun _ => 0) (fun _ => 0) (fun _ => 0) (fun _ => 0) (fun _ => 0) (fun _ => 0) 0 (fun _ => 0) (fun _ => 0) :=
  ⟨⟨by decide +kernel, by decide +kernel, by decide +kernel, ⟨1, by decide, by decide +kernel⟩, ⟨0, by decide, by decide +kernel⟩, ⟨0, by decide, by decide +kernel⟩, by decide +kernel⟩, ⟨Nat.zero_le _, fun i hi => absurd hi (Nat.not_lt_zero i)⟩, ⟨Nat.zero_le _, fun i hi => absurd hi (Nat.not_lt_zero i), fun j hj => absurd hj (Nat.not_lt_zero j), fun h => absurd h (Nat.lt_irrefl 0)⟩, inits_eq, ⟨Nat.zero_le _, fun i hi => absurd hi (Nat.not_lt_zero i)⟩, ⟨Nat.zero_le _, fun i hi => absurd hi (Nat.not_lt_zero i)⟩⟩
set_option maxHeartbeats 4000000 in
set_option maxRecDepth 100000 in
theorem AM0 {s : State} {b : Nat} (hts0 : ∀ w ∈ lw_tbl, w.before #[Value.ref b] s = true) : ∃ (D : va_G) (cI cZ cR : ClassId), AM D cI cZ cR s ∧ va_AO RX5 s := by
  obtain ⟨k0, i0, h0⟩ := u_known (C := RX0) (T := TX0) (N := 5) (n := 5) hts0 inX0 (hts0 (.instantiable RX0 5) (by decide +kernel))
  obtain ⟨k3, i3, h3⟩ := u_known (C := RX3) (T := TX3) (N := 4) (n := 4) hts0 inX3 (hts0 (.instantiable RX3 4) (by decide +kernel))
  obtain ⟨k4, i4, h4⟩ := u_known (C := RX4) (T := TX4) (N := 3) (n := 3) hts0 inX4 (hts0 (.instantiable RX4 3) (by decide +kernel))
  obtain ⟨k5, i5, h5⟩ := u_known (C := RX5) (T := TX5) (N := 6) (n := 6) hts0 inX5 (hts0 (.instantiable RX5 6) (by decide +kernel))
  obtain ⟨k6, i6, h6⟩ := u_known (C := RX6) (T := TX6) (N := 2) (n := 2) hts0 inX6 (hts0 (.instantiable RX6 2) (by decide +kernel))
  obtain ⟨k7, i7, h7⟩ := u_known (C := RX7) (T := TX7) (N := 5) (n := 5) hts0 inX7 (hts0 (.instantiable RX7 5) (by decide +kernel))
  obtain ⟨k8, i8, h8⟩ := u_known (C := RX8) (T := TX8) (N := 4) (n := 4) hts0 inX8 (hts0 (.instantiable RX8 4) (by decide +kernel))
  obtain ⟨k9, i9, h9⟩ := u_known (C := RX9) (T := TX9) (N := 18) (n := 18) hts0 inX9 (hts0 (.instantiable RX9 18) (by decide +kernel))
  obtain ⟨cI, kI, compI, fI, gI, eI⟩ := Cond.arrayClass_spec (hts0 (.arrayClass .int) (by decide +kernel))
  obtain ⟨cZ, kZ, compZ, fZ, gZ, eZ⟩ := Cond.arrayClass_spec (hts0 (.arrayClass .boolean) (by decide +kernel))
  have hO : va_AO RX5 s := va_AO.of (hts0 (.arrayOver (.object RX5)) (by decide +kernel))
  obtain ⟨compR, cR, kR, fR, -, gR, eR, nR⟩ := Cond.arrayOver_spec (hts0 (.arrayOver (.object RX5)) (by decide +kernel))
  refine ⟨(fun k => match k with | 0 => k0 | 1 => k3 | 2 => k4 | 3 => k5 | 4 => k6 | 5 => k7 | 6 => k8 | _ => k9, fun k => match k with | 0 => i0 | 1 => i3 | 2 => i4 | 3 => i5 | 4 => i6 | 5 => i7 | 6 => i8 | _ => i9), cI, cZ, cR, ⟨⟨fun k q hq => ?_, fun k q hq => ?_⟩, va_Nw.of rfl (hts0 (.methodLinkNest RX8 18 yX3_init "WallCount") (by decide +kernel)), va_Nw.of rfl (hts0 (.methodLinkNest RX2 19 yX8_isResidue "WallCount") (by decide +kernel)), va_Nw.of rfl (hts0 (.methodLinkNest RX0 40 yX8_isIn "WallCount") (by decide +kernel)), va_Nw.of rfl (hts0 (.methodLinkNest RX3 30 yX8_areLots "WallCount") (by decide +kernel))⟩, hO⟩
  · match k, hq with
    | 0, hq => cases hq; exact h0
    | 1, hq => cases hq; exact h3
    | 2, hq => cases hq; exact h4
    | 3, hq => cases hq; exact h5
    | 4, hq => cases hq; exact h6
    | 5, hq => cases hq; exact h7
    | 6, hq => cases hq; exact h8
    | 7, hq => cases hq; exact h9
    | k + 8, hq => simp at hq
  · match k, hq with
    | 0, hq => cases hq; exact ⟨fun n z => ⟨fun k h => (by cases h), kI, gI, compI, eI⟩, fI⟩
    | 1, hq => cases hq; exact ⟨fun n z => ⟨fun k h => (by cases h), kZ, gZ, compZ, eZ⟩, fZ⟩
    | 2, hq => cases hq; exact ⟨fun n z => ⟨fun k h => (by cases h), kR, gR, compR, eR⟩, kR, compR, gR, eR, fR, nR⟩
    | k + 3, hq => simp at hq
