/-! what all contracts are said in: booleans, rests, the tables, read-only and writing contracts -/
def bI : Bool → Int32
  | true => 1
  | false => 0
theorem bI_nar (b : Bool) : narrow .boolean (.int (bI b)) = .int (bI b) := by cases b <;> decide +kernel
theorem bI_fit (b : Bool) : fits .boolean (.int (bI b)) = true := by cases b <;> decide +kernel
theorem bI_0 (b : Bool) : bI b = 0 ↔ ¬ b = true := by cases b <;> decide +kernel
theorem bI_inj {a b : Bool} (h : bI a = bI b) : a = b := by
  cases a <;> cases b <;> first | rfl | (revert h; decide +kernel)
theorem bI_vp (b : Bool) : vp_nar .boolean (bI b) = bI b := by cases b <;> decide +kernel
theorem itT {c : Prop} {h : Decidable c} {α : Sort _} {t e r : α} (hE : @ite α c h t e = r) (hc : c) : t = r := (if_pos hc).symm.trans hE
theorem itF {c : Prop} {h : Decidable c} {α : Sort _} {t e r : α} (hE : @ite α c h t e = r) (hc : ¬ c) : e = r := (if_neg hc).symm.trans hE
def xRem (x y : Int32) : Int32 := x - x / y * y
def xRemL (x y : Int64) : Int64 := x - x / y * y
def xShr (x y : Int32) : Int32 := x >>> (y &&& 31)
def xUsr (x y : Int32) : Int32 := (x.toUInt32 >>> (y.toUInt32 &&& Int32.toUInt32 31)).toInt32
abbrev ix (i : Int32) : Nat := i.toNatClampNeg
/-- the links of private members across the nest -/
def NW (U : State) : Prop := va_Nw (.methodLinkNest RX8 18 yX3_init "WallCount") U ∧ va_Nw (.methodLinkNest RX2 19 yX8_isResidue "WallCount") U ∧ va_Nw (.methodLinkNest RX0 40 yX8_isIn "WallCount") U ∧ va_Nw (.methodLinkNest RX3 30 yX8_areLots "WallCount") U
theorem NW.warm {s U : State} (hW : s.WarmedH U.vm) (h : NW s) : NW U := ⟨h.1.warmM hW, h.2.1.warmM hW, h.2.2.1.warmM hW, h.2.2.2.warmM hW⟩
theorem NW.same {u U : State} (hv : u.vm = U.vm) (h : NW u) : NW U := ⟨h.1.same rfl hv, h.2.1.same rfl hv, h.2.2.1.same rfl hv, h.2.2.2.same rfl hv⟩
abbrev TY (cI cZ cR : ClassId) : List (ClassId × FieldType) := [(cI, .int), (cZ, .boolean), (cR, .object RX5)]
/-- the tables, as every method of ours finds them -/
def AM (D : va_G) (cI cZ cR : ClassId) (U : State) : Prop := va_K D vwCl (TY cI cZ cR) U ∧ NW U
theorem AM.warm {D : va_G} {cI cZ cR : ClassId} {s U : State} (hW : s.WarmedH U.vm) (h : AM D cI cZ cR s) : AM D cI cZ cR U := ⟨va_K.moved hW.alike h.1, h.2.warm hW⟩
theorem AM.calling {D : va_G} {cI cZ cR : ClassId} {U : State} {g : JFrame} {mk : MethodId} {a : Array Value} (h : AM D cI cZ cR U) : AM D cI cZ cR (U.calling g mk a) := ⟨va_K.moved (u := U) (U := U.calling g mk a) (Vm.Alike.refl U.vm) h.1, h.2.same (u := U) rfl⟩
abbrev nF : Addr → Prop := fun _ => False
/-- read-only: the start -/
def po_P (D : va_G) (cI cZ cR : ClassId) (av : List Value) (ws : va_W) (H0 : Heap) : Array Value → State → Prop := va_Pc av (fun U => U.heap = H0 ∧ AM D cI cZ cR U ∧ va_P D vwCl ws H0)
/-- read-only: the end -/
def po_Q (v : Option Value) (H0 : Heap) : Array Value → State → Outcome → State → Prop := fun _ _ oc t => oc = .returned v ∧ t.heap = H0
theorem po_blind {D : va_G} {cI cZ cR : ClassId} {av : List Value} {ws : va_W} {H0 : Heap} : FrameBlind (po_P D cI cZ cR av ws H0) := fun _ _ _ _ q => ⟨q.1, q.2.1, q.2.2.1.calling, q.2.2.2⟩
theorem po_pre {D : va_G} {cI cZ cR : ClassId} {As : List Value} {ws : va_W} {s : State} {H : Heap} (h : AM D cI cZ cR s) (hP : va_P D vwCl ws H) : PreS s H (po_P D cI cZ cR As ws H) As := ⟨po_blind, fun _ hU hW => ⟨rfl, hU, h.warm hW, hP⟩⟩
theorem po_preV {D : va_G} {cI cZ cR : ClassId} {As : List Value} {ws : va_W} {s : State} {H : Heap} {C : String} {b : Addr} (h : AM D cI cZ cR s) (hP : va_P D vwCl ws H) (hr : ∃ cell : Cell, H[b]? = some cell ∧ cell.vm.isStatics = false ∧ s.vm.findClass C = some cell.cls) : PreV s H C b (po_P D cI cZ cR (.ref b :: As) ws H) As := ⟨po_blind, hr, fun _ hU hW => ⟨rfl, hU, h.warm hW, hP⟩⟩
theorem va_P.nil {D : va_G} {cl : List vw_C} {H : Heap} : va_P D cl [] H := fun k q h => by simp at h
theorem va_P.tail {D : va_G} {cl : List vw_C} {x : Nat × va_E} {ws : va_W} {H : Heap} (h : va_P D cl (x :: ws) H) : va_P D cl ws H := fun k q hk => h (k + 1) q hk
/-- writing, in a world of its own: start and end -/
def wr_P (D : va_G) (cI cZ cR : ClassId) (av : List Value) (ws : va_W) (A : Nat → Prop) (H0 : Heap) : Array Value → State → Prop := va_Pc av (fun U => U.heap = H0 ∧ AM D cI cZ cR U ∧ va_P D vwCl ws H0 ∧ va_D A ws)
def wr_Q {S : Type} (D : va_G) (post : Option Value → S → Prop) (ws : S → va_W) (A : Nat → Prop) : Array Value → State → Outcome → State → Prop := fun _ st oc t => (∃ (v : Option Value) (u : S), oc = .returned v ∧ post v u ∧ va_P D vwCl (ws u) t.heap ∧ va_D A (ws u)) ∧ va_F A st t
theorem wr_blind {D : va_G} {cI cZ cR : ClassId} {av : List Value} {ws : va_W} {A : Nat → Prop} {H0 : Heap} : FrameBlind (wr_P D cI cZ cR av ws A H0) := fun _ _ _ _ q => ⟨q.1, q.2.1, q.2.2.1.calling, q.2.2.2⟩
theorem wr_pre {D : va_G} {cI cZ cR : ClassId} {As : List Value} {ws : va_W} {A : Nat → Prop} {s : State} {H : Heap} (h : AM D cI cZ cR s) (hP : va_P D vwCl ws H) (hD : va_D A ws) : PreS s H (wr_P D cI cZ cR As ws A H) As := ⟨wr_blind, fun _ hU hW => ⟨rfl, hU, h.warm hW, hP, hD⟩⟩
theorem wr_preV {D : va_G} {cI cZ cR : ClassId} {As : List Value} {ws : va_W} {A : Nat → Prop} {s : State} {H : Heap} {C : String} {b : Addr} (h : AM D cI cZ cR s) (hP : va_P D vwCl ws H) (hD : va_D A ws) (hr : ∃ cell : Cell, H[b]? = some cell ∧ cell.vm.isStatics = false ∧ s.vm.findClass C = some cell.cls) : PreV s H C b (wr_P D cI cZ cR (.ref b :: As) ws A H) As := ⟨wr_blind, hr, fun _ hU hW => ⟨rfl, hU, h.warm hW, hP, hD⟩⟩
section WB
variable {p : Program} {l : Launch} {e : Env} {R : Room} {s : State} {m : MethodId} {args : Array Value} {below : List Frame} {meth : Method} {c : Code} {H : Heap} {locs : List Loc} {cells slots : Nat} {Q : State → Prop} {cc : ByteArray} {pc : Nat} {ls : Array Slot} {rest st0 : List Value} {a : Array Value}
theorem w_irem (hexec : p.tables.exec = Jvm.exec) (hb : c.code = cc) {x y : Int32} (hdg : decode cc pc = .ok (.irem, 1)) (hne : ¬ y = 0) (k : W p l e R s m args below meth c H locs cells slots Q (F0 m (pc + 1) ls (.int (xRem x y) :: rest))) : W p l e R s m args below meth c H locs cells slots Q (F0 m pc ls (.int y :: .int x :: rest)) := lv_irem hexec hb hdg hne k
theorem w_lrem (hexec : p.tables.exec = Jvm.exec) (hb : c.code = cc) {x y : Int64} (hdg : decode cc pc = .ok (.lrem, 1)) (hne : ¬ y = 0) (k : W p l e R s m args below meth c H locs cells slots Q (F0 m (pc + 1) ls (.long (xRemL x y) :: rest))) : W p l e R s m args below meth c H locs cells slots Q (F0 m pc ls (.long y :: .long x :: rest)) := lv_lrem hexec hb hdg hne k
theorem w_ishr (hexec : p.tables.exec = Jvm.exec) (hb : c.code = cc) {x y : Int32} (hdg : decode cc pc = .ok (.ishr, 1)) (k : W p l e R s m args below meth c H locs cells slots Q (F0 m (pc + 1) ls (.int (xShr x y) :: rest))) : W p l e R s m args below meth c H locs cells slots Q (F0 m pc ls (.int y :: .int x :: rest)) := lv_ishr hexec hb hdg k
theorem w_iushr (hexec : p.tables.exec = Jvm.exec) (hb : c.code = cc) {x y : Int32} (hdg : decode cc pc = .ok (.iushr, 1)) (k : W p l e R s m args below meth c H locs cells slots Q (F0 m (pc + 1) ls (.int (xUsr x y) :: rest))) : W p l e R s m args below meth c H locs cells slots Q (F0 m pc ls (.int y :: .int x :: rest)) := lv_iushr hexec hb hdg rfl k
theorem w_if_eqb (hexec : p.tables.exec = Jvm.exec) (hb : c.code = cc) {b : Bool} {off : Int} {tgt : Nat} (hdg : decode cc pc = .ok (.ifCond .eq off, 3)) (ht : (pc : Int) + off = (tgt : Int)) (kt : ¬ b = true → W p l e R s m args below meth c H locs cells slots Q (F0 m tgt ls rest)) (kf : b = true → W p l e R s m args below meth c H locs cells slots Q (F0 m (pc + 3) ls rest)) : W p l e R s m args below meth c H locs cells slots Q (F0 m pc ls (.int (bI b) :: rest)) := lv_if_eq hexec hb hdg ht (fun h => kt ((bI_0 b).mp h)) (fun h => kf (Classical.byContradiction fun q => h ((bI_0 b).mpr q)))
theorem w_if_neb (hexec : p.tables.exec = Jvm.exec) (hb : c.code = cc) {b : Bool} {off : Int} {tgt : Nat} (hdg : decode cc pc = .ok (.ifCond .ne off, 3)) (ht : (pc : Int) + off = (tgt : Int)) (kt : b = true → W p l e R s m args below meth c H locs cells slots Q (F0 m tgt ls rest)) (kf : ¬ b = true → W p l e R s m args below meth c H locs cells slots Q (F0 m (pc + 3) ls rest)) : W p l e R s m args below meth c H locs cells slots Q (F0 m pc ls (.int (bI b) :: rest)) := lv_if_ne hexec hb hdg ht (fun h => kt (Classical.byContradiction fun q => h ((bI_0 b).mpr q))) (fun h => kf ((bI_0 b).mp h))
theorem w_lcmp_eq (hexec : p.tables.exec = Jvm.exec) (hb : c.code = cc) {x y : Int64} {off : Int} {tgt : Nat} (h1 : decode cc pc = .ok (.lcmp, 1)) (hdg : decode cc (pc + 1) = .ok (.ifCond .eq off, 3)) (ht : ((pc + 1 : Nat) : Int) + off = (tgt : Int)) (kt : x = y → W p l e R s m args below meth c H locs cells slots Q (F0 m tgt ls rest)) (kf : ¬ x = y → W p l e R s m args below meth c H locs cells slots Q (F0 m (pc + 1 + 3) ls rest)) : W p l e R s m args below meth c H locs cells slots Q (F0 m pc ls (.long y :: .long x :: rest)) := W.lcmp hexec hb h1 (lv_if_eq hexec hb hdg ht (fun h => kt ((lg_cmp_eq x y).mp h)) (fun h => kf (fun q => h ((lg_cmp_eq x y).mpr q))))
theorem w_lcmp_ne (hexec : p.tables.exec = Jvm.exec) (hb : c.code = cc) {x y : Int64} {off : Int} {tgt : Nat} (h1 : decode cc pc = .ok (.lcmp, 1)) (hdg : decode cc (pc + 1) = .ok (.ifCond .ne off, 3)) (ht : ((pc + 1 : Nat) : Int) + off = (tgt : Int)) (kt : ¬ x = y → W p l e R s m args below meth c H locs cells slots Q (F0 m tgt ls rest)) (kf : x = y → W p l e R s m args below meth c H locs cells slots Q (F0 m (pc + 1 + 3) ls rest)) : W p l e R s m args below meth c H locs cells slots Q (F0 m pc ls (.long y :: .long x :: rest)) := W.lcmp hexec hb h1 (lv_if_ne hexec hb hdg ht (fun h => kt (fun q => h ((lg_cmp_eq x y).mpr q))) (fun h => kf ((lg_cmp_eq x y).mp h)))
theorem w_lcmp_le (hexec : p.tables.exec = Jvm.exec) (hb : c.code = cc) {x y : Int64} {off : Int} {tgt : Nat} (h1 : decode cc pc = .ok (.lcmp, 1)) (hdg : decode cc (pc + 1) = .ok (.ifCond .le off, 3)) (ht : ((pc + 1 : Nat) : Int) + off = (tgt : Int)) (kt : x ≤ y → W p l e R s m args below meth c H locs cells slots Q (F0 m tgt ls rest)) (kf : ¬ x ≤ y → W p l e R s m args below meth c H locs cells slots Q (F0 m (pc + 1 + 3) ls rest)) : W p l e R s m args below meth c H locs cells slots Q (F0 m pc ls (.long y :: .long x :: rest)) := W.lcmp hexec hb h1 (lv_if_le hexec hb hdg ht (fun h => kt ((lg_cmp_le x y).mp h)) (fun h => kf (fun q => h ((lg_cmp_le x y).mpr q))))
theorem w_lcmp_gt (hexec : p.tables.exec = Jvm.exec) (hb : c.code = cc) {x y : Int64} {off : Int} {tgt : Nat} (h1 : decode cc pc = .ok (.lcmp, 1)) (hdg : decode cc (pc + 1) = .ok (.ifCond .gt off, 3)) (ht : ((pc + 1 : Nat) : Int) + off = (tgt : Int)) (kt : y < x → W p l e R s m args below meth c H locs cells slots Q (F0 m tgt ls rest)) (kf : ¬ y < x → W p l e R s m args below meth c H locs cells slots Q (F0 m (pc + 1 + 3) ls rest)) : W p l e R s m args below meth c H locs cells slots Q (F0 m pc ls (.long y :: .long x :: rest)) := W.lcmp hexec hb h1 (lv_if_gt hexec hb hdg ht (fun h => kt ((lg_cmp_gt x y).mp h)) (fun h => kf (fun q => h ((lg_cmp_gt x y).mpr q))))
theorem w_iret {v r : Int32} (hexec : p.tables.exec = Jvm.exec) (hb : c.code = cc) (hr : meth.sig.returnType = some .int) (hlocks : meth.locks = false) (hE : v = r) (hdg : decode cc pc = .ok (.ireturn, 1)) : W p l e R s m args below meth c s.heap [] 0 0 (MQ below (po_Q (some (.int r)) s.heap) args s 0 0 nF) (F0 m pc ls [.int v]) := by
  subst hE
  exact W.iret hexec hb hr (fun t ht _ => ⟨rfl, ht⟩) (fun q h => by cases h) hdg hlocks
theorem w_zret {v r : Bool} (hexec : p.tables.exec = Jvm.exec) (hb : c.code = cc) (hr : meth.sig.returnType = some .boolean) (hlocks : meth.locks = false) (hE : v = r) (hdg : decode cc pc = .ok (.ireturn, 1)) : W p l e R s m args below meth c s.heap [] 0 0 (MQ below (po_Q (some (.int (bI r))) s.heap) args s 0 0 nF) (F0 m pc ls [.int (bI v)]) := by
  subst hE
  exact W.zret hexec hb hr (bI_nar v) (fun t ht _ => ⟨rfl, ht⟩) (fun q h => by cases h) hdg hlocks
theorem w_lret {v r : Int64} (hexec : p.tables.exec = Jvm.exec) (hb : c.code = cc) (hr : meth.sig.returnType = some .long) (hlocks : meth.locks = false) (hE : v = r) (hdg : decode cc pc = .ok (.lreturn, 1)) : W p l e R s m args below meth c s.heap [] 0 0 (MQ below (po_Q (some (.long r)) s.heap) args s 0 0 nF) (F0 m pc ls [.long v]) := by
  subst hE
  exact W.lret hexec hb hr (fun t ht _ => ⟨rfl, ht⟩) (fun q h => by cases h) hdg hlocks
/-- behind a read-only call -/
theorem ro_call {v : Value} (hr : va_Run p l e R s m args below meth c H locs cells slots 0 0 (F0 m pc ls st0) rest (po_Q (some v) H a) nF) (k : W p l e R s m args below meth c H locs cells slots Q (F0 m (pc + 3) ls (v :: rest))) : W p l e R s m args below meth c H locs cells slots Q (F0 m pc ls st0) := by
  intro T hT X
  obtain ⟨v', st₀, t, T', L, h0, X', hL, e1, e2, ⟨hq1, hq2⟩, st⟩ := hr T hT X
  have hn : L = [] := by
    cases L with
    | nil => rfl
    | cons q L => exact (hL q List.mem_cons_self).elim
  subst hn
  rw [List.append_nil] at X'
  cases hq1
  obtain ⟨t2, a1, b1⟩ := k T' (e1.trans hq2) X'
  exact ⟨t2, st t2 a1, b1⟩
/-- behind a writing call in the same world -/
theorem wr_call {S : Type} {D : va_G} {post : Option Value → S → Prop} {ws : S → va_W} {A : Nat → Prop} {mc ms : Nat} {H0 : Heap} (hr : va_Run p l e R s m args below meth c H locs cells slots mc ms (F0 m pc ls st0) rest (wr_Q D post ws A a) A) (hS : va_S A H0 H locs)
    (k : ∀ (v : Option Value) (u : S) (H1 : Heap) (locs1 : List Loc), post v u → va_P D vwCl (ws u) H1 → va_D A (ws u) → H.size ≤ H1.size → va_S A H0 H1 locs1 → W p l e R s m args below meth c H1 locs1 (cells + mc) (slots + ms) Q (F0 m (pc + 3) ls (v.toList ++ rest))) : W p l e R s m args below meth c H locs cells slots Q (F0 m pc ls st0) := by
  intro T hT X
  obtain ⟨v', st₀, t, T', L, h0, X', hL, e1, e2, ⟨⟨v, u, hq1, hq2, hq3, hq4⟩, hF1, hF2⟩, st⟩ := hr T hT X
  cases hq1
  rw [h0] at hF1 hF2
  obtain ⟨t2, a1, b1⟩ := k v' u t.heap (locs ++ L) hq2 hq3 hq4 hF1 ⟨Nat.le_trans hS.1 hF1, fun q h1 h2 => (hF2 q (Nat.lt_of_lt_of_le h1 hS.1) h2).trans (hS.2.1 q h1 h2), t_lL hS.2.2 hL⟩ T' e1 X'
  exact ⟨t2, st t2 a1, b1⟩
end WB
