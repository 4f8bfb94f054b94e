/-! rows of the wall, counters against bounds -/
theorem ix_le {x : Int32} {k : Nat} (hk : k < 2 ^ 31) (h : x ≤ nI k) : ix x ≤ k := by
  by_cases h0 : x < 0
  · have h1 := Int32.lt_iff_toInt_lt.mp h0
    rw [Int32.toInt_zero] at h1
    have h2 : ix x = x.toInt.toNat := rfl
    omega
  · obtain ⟨j, hj, rfl⟩ := nI_of h0
    rw [ix, nI_clamp hj]
    exact (nI_leI hj hk).mp h
theorem UP.startx {a K : Nat} {x : Int32} (h0 : ¬ x < 0) (h1 : a ≤ ix x) (h2 : ix x ≤ K) : UP a K (K + 1) x := ⟨ix x, nI_ix h0, h1, h2, by omega⟩
/-- the test was: leave if k ≤ v, k no more than the counter's bound -/
theorem UP.lt {a K n k : Nat} {v : Int32} (hI : UP a K (n + 1) v) (hk : k ≤ K) (hK : K < 2 ^ 31) (hc : ¬ nI k ≤ v) : UP a K n (v + 1) := by
  obtain ⟨i, rfl, h1, h2, h3⟩ := hI
  have hlt : i < k := by
    rcases Nat.lt_or_ge i k with q | q
    · exact q
    · exact absurd (nI_le q (by omega)) hc
  exact ⟨i + 1, nI_1 i, by omega, by omega, by omega⟩
theorem up_in {a K n K2 : Nat} {v k : Int32} (hI : UP a K n v) (hK : K < 2 ^ 31) (hk : k = nI K2) (hK2 : K2 < 2 ^ 31) (hc : ¬ k ≤ v) : vp_in v K2 := by
  obtain ⟨i, rfl, h1, h2, h3⟩ := hI
  have hlt : i < K2 := by
    rcases Nat.lt_or_ge i K2 with q | q
    · exact q
    · exact absurd (by rw [hk]; exact nI_le q (by omega)) hc
  exact vp_in_nI hlt (by omega)
theorem in_of2 {K : Nat} {x k : Int32} (h0 : ¬ x < 0) (hk : k = nI K) (hK : K < 2 ^ 31) (h1 : ¬ k ≤ x) : vp_in x K := by
  obtain ⟨j, hj, rfl⟩ := nI_of h0
  have hlt : j < K := by
    rcases Nat.lt_or_ge j K with q | q
    · exact q
    · exact absurd (by rw [hk]; exact nI_le q (by omega)) h1
  exact vp_in_nI hlt hK
theorem up_neL {v : Int32} {a K : Nat} (h : ∃ i : Nat, v = nI i ∧ a ≤ i ∧ i ≤ K) (ha : 1 ≤ a) (hK : K < 2 ^ 31) : ¬ v.toInt64 = 0 := by
  obtain ⟨i, rfl, h1, h2⟩ := h
  rw [nI_l (by omega), show (0 : Int64) = lN 0 from rfl, lN_eq (by omega) (by omega)]
  omega
theorem pos_neL {x : Int32} (h : 0 < x) : ¬ x.toInt64 = 0 := by
  have h0 : ¬ x < 0 := fun q => by
    rw [Int32.lt_iff_toInt_lt] at h q
    omega
  obtain ⟨j, hj, rfl⟩ := nI_of h0
  have hp : ¬ j = 0 := fun q => by
    subst q
    exact absurd h (by decide +kernel)
  rw [nI_l hj, show (0 : Int64) = lN 0 from rfl, lN_eq hj (by omega)]
  exact hp
abbrev R6 : Type := Int32 × Int32 × Int32 × Int32 × Bool × Bool
def rwF (r : R6) : List Value := [.int r.1, .int r.2.1, .int r.2.2.1, .int r.2.2.2.1, .int (bI r.2.2.2.2.1), .int (bI r.2.2.2.2.2)]
def rwL (nr : Nat) (ra : Nat → Nat) (rd : Nat → R6) : va_W := (List.range nr).map (fun i => (ra i, .inr (3, rwF (rd i))))
def rwA (nr : Nat) (ra : Nat → Nat) : Nat → Option Nat := fun i => if i < nr then some (ra i) else none
theorem rwL_at {nr : Nat} {ra : Nat → Nat} {rd : Nat → R6} {i : Nat} (h : i < nr) : (rwL nr ra rd)[i]? = some (ra i, .inr (3, rwF (rd i))) := by
  simp [rwL, h]
theorem rw_at {X : va_W} {nr : Nat} {ra : Nat → Nat} {rd : Nat → R6} {i : Nat} (h : i < nr) : (X ++ rwL nr ra rd)[X.length + i]? = some (ra i, .inr (3, rwF (rd i))) := by
  rw [List.getElem?_append_right (Nat.le_add_right _ _), Nat.add_sub_cancel_left]
  exact rwL_at h
theorem va_one {D : va_G} {cl : List vw_C} {ws : va_W} {H : Heap} {k : Nat} {q : Nat × va_E} (hP : va_P D cl ws H) (h : ws[k]? = some q) : va_P D cl [q] H := by
  intro j r hj
  match j, hj with
  | 0, hj =>
    cases hj
    exact hP k q h
  | j + 1, hj => simp at hj
def inR (nr : Nat) (p : Int32) : Bool := decide (¬ p < 0 ∧ ¬ nI nr ≤ p)
theorem inR_iff {nr : Nat} {p : Int32} : inR nr p = true ↔ ¬ p < 0 ∧ ¬ nI nr ≤ p := by simp [inR]
theorem inR_lt {nr : Nat} {p : Int32} (hn : nr ≤ 30) (h : inR nr p = true) : ix p < nr := by
  obtain ⟨h0, h1⟩ := inR_iff.mp h
  obtain ⟨j, hj, rfl⟩ := nI_of h0
  rw [ix, nI_clamp hj]
  rcases Nat.lt_or_ge j nr with q | q
  · exact q
  · exact absurd (nI_le q (by omega)) h1
theorem up_next {nr : Nat} {p : Int32} (hn : nr ≤ 30) (h : inR nr p = true) : UP 0 nr (nr + 1) (p + 1) := by
  have h1 := inR_lt hn h
  have h2 := nI_ix (inR_iff.mp h).1
  refine ⟨ix p + 1, ?_, by omega, by omega, by omega⟩
  rw [← nI_1, ← h2]
section WB2
variable {p : Program} {l : Launch} {e : Env} {R : Room} {s : State} {m : MethodId} {args : Array Value} {below : List Frame} {meth : Method} {c : Code} {cc : ByteArray} {pc : Nat} {ls : Array Slot}
theorem w_qret {v r : Option Nat} {C : String} (hexec : p.tables.exec = Jvm.exec) (hb : c.code = cc) (hr : meth.sig.returnType = some (.object C)) (hlocks : meth.locks = false) (hE : v = r) (hdg : decode cc pc = .ok (.areturn, 1)) : W p l e R s m args below meth c s.heap [] 0 0 (MQ below (po_Q (some (va_rf r)) s.heap) args s 0 0 nF) (F0 m pc ls [va_rf v]) := by
  subst hE
  exact W.aret hexec hb hr (Or.inl ⟨C, rfl⟩) (by cases v with | none => exact Or.inl rfl | some a => exact Or.inr ⟨a, rfl⟩) (fun t ht _ => ⟨rfl, ht⟩) (fun q h => by cases h) hdg hlocks
theorem w_aret {a : Nat} {C : String} (hexec : p.tables.exec = Jvm.exec) (hb : c.code = cc) (hr : meth.sig.returnType = some (.object C)) (hlocks : meth.locks = false) (hdg : decode cc pc = .ok (.areturn, 1)) : W p l e R s m args below meth c s.heap [] 0 0 (MQ below (po_Q (some (.ref a)) s.heap) args s 0 0 nF) (F0 m pc ls [.ref a]) :=
  W.aret hexec hb hr (Or.inl ⟨C, rfl⟩) (Or.inr ⟨a, rfl⟩) (fun t ht _ => ⟨rfl, ht⟩) (fun q h => by cases h) hdg hlocks
end WB2
