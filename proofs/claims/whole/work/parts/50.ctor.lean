/-! worlds that grow: cells behind a prefix; methods that make cells -/
theorem pre_at {W9 cs : va_W} {q : Nat × va_E} (k : Nat) (h : cs[k]? = some q) : (W9 ++ cs)[W9.length + k]? = some q := by
  rw [List.getElem?_append_right (Nat.le_add_right _ _), Nat.add_sub_cancel_left]
  exact h
theorem pre_set {W9 cs : va_W} {q : Nat × va_E} {k : Nat} : (W9 ++ cs).set (W9.length + k) q = W9 ++ cs.set k q := by
  rw [List.set_append_right _ _ (Nat.le_add_right _ _), Nat.add_sub_cancel_left]
theorem paO {D : va_G} {cl : List vw_C} {W9 a b : va_W} {H : Heap} (h : va_P D cl (W9 ++ (a ++ b)) H) : va_P D cl ((W9 ++ a) ++ b) H := by
  rw [List.append_assoc]
  exact h
theorem paI {D : va_G} {cl : List vw_C} {W9 a b : va_W} {H : Heap} (h : va_P D cl ((W9 ++ a) ++ b) H) : va_P D cl (W9 ++ (a ++ b)) H := by
  rw [← List.append_assoc]
  exact h
theorem daO {A : Nat → Prop} {W9 a b : va_W} (h : va_D A (W9 ++ (a ++ b))) : va_D A ((W9 ++ a) ++ b) := by
  rw [List.append_assoc]
  exact h
theorem daI {A : Nat → Prop} {W9 a b : va_W} (h : va_D A ((W9 ++ a) ++ b)) : va_D A (W9 ++ (a ++ b)) := by
  rw [← List.append_assoc]
  exact h
theorem arr_I {D : va_G} {cl : List vw_C} {cI cZ cR cA : ClassId} {s : State} (h : va_K D cl (TY cI cZ cR ++ [(cA, .int)]) s) : cA = cI := by
  have h1 := (h.2 0 (cI, .int) rfl).2
  have h2 := (h.2 3 (cA, .int) rfl).2
  exact Option.some.inj (h2.symm.trans h1)
theorem arr_Z {D : va_G} {cl : List vw_C} {cI cZ cR cA : ClassId} {s : State} (h : va_K D cl (TY cI cZ cR ++ [(cA, .boolean)]) s) : cA = cZ := by
  have h1 := (h.2 1 (cZ, .boolean) rfl).2
  have h2 := (h.2 3 (cA, .boolean) rfl).2
  exact Option.some.inj (h2.symm.trans h1)
theorem arr_R {D : va_G} {cl : List vw_C} {cI cZ cR cA : ClassId} {s : State} (h : va_K D cl (TY cI cZ cR ++ [(cA, .object RX5)]) s) : cA = cR := by
  obtain ⟨_, _, _, _, _, h1⟩ := (h.2 2 (cR, .object RX5) rfl).2
  obtain ⟨_, _, _, _, _, h2⟩ := (h.2 3 (cA, .object RX5) rfl).2
  exact Option.some.inj (h2.symm.trans h1)
/-- the start of a method that makes cells -/
def al_P (D : va_G) (cI cZ cR : ClassId) (av : List Value) (ws : va_W) (A : Nat → Prop) (H0 : Heap) : Array Value → State → Prop := va_Pc av (fun U => U.heap = H0 ∧ AM D cI cZ cR U ∧ va_P D vwCl ws H0 ∧ va_D A ws ∧ (∀ q : Nat, H0.size ≤ q → A q) ∧ va_AO RX5 U)
theorem al_blind {D : va_G} {cI cZ cR : ClassId} {av : List Value} {ws : va_W} {A : Nat → Prop} {H0 : Heap} : FrameBlind (al_P D cI cZ cR av ws A H0) := fun _ U g mk q => ⟨q.1, q.2.1, q.2.2.1.calling, q.2.2.2.1, q.2.2.2.2.1, q.2.2.2.2.2.1, va_AO.moved (u := U) (U := U.calling g mk _) (Vm.Alike.refl U.vm) q.2.2.2.2.2.2⟩
theorem al_pre {D : va_G} {cI cZ cR : ClassId} {As : List Value} {ws : va_W} {A : Nat → Prop} {s : State} {H : Heap} (h : AM D cI cZ cR s) (ho : va_AO RX5 s) (hP : va_P D vwCl ws H) (hD : va_D A ws) (hA : ∀ q : Nat, H.size ≤ q → A q) : PreS s H (al_P D cI cZ cR As ws A H) As := ⟨al_blind, fun _ hU hW => ⟨rfl, hU, h.warm hW, hP, hD, hA, ho.moved hW.alike⟩⟩
theorem al_preV {D : va_G} {cI cZ cR : ClassId} {As : List Value} {ws : va_W} {A : Nat → Prop} {s : State} {H : Heap} {C : String} {b : Addr} (h : AM D cI cZ cR s) (ho : va_AO RX5 s) (hP : va_P D vwCl ws H) (hD : va_D A ws) (hA : ∀ q : Nat, H.size ≤ q → A q) (hr : ∃ cell : Cell, H[b]? = some cell ∧ cell.vm.isStatics = false ∧ s.vm.findClass C = some cell.cls) : PreV s H C b (al_P D cI cZ cR (.ref b :: As) ws A H) As := ⟨al_blind, hr, fun _ hU hW => ⟨rfl, hU, h.warm hW, hP, hD, hA, ho.moved hW.alike⟩⟩
theorem hA_up {A : Nat → Prop} {H0 H : Heap} {locs : List Loc} (hA : ∀ q : Nat, H0.size ≤ q → A q) (hS : va_S A H0 H locs) : ∀ q : Nat, H.size ≤ q → A q := fun q h => hA q (Nat.le_trans hS.1 h)
