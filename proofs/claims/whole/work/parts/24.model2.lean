theorem hd_X9_may : yX9_may.cls ≠ "java/lang/invoke/MethodHandle" ∧ yX9_may.cls ≠ "java/lang/invoke/VarHandle" ∧ (parseMethodDescriptor yX9_may.desc).map (fun d => d.parameters.length) = some 1 := by decide +kernel
def x_X9_may (rq : Nat) (fq : Nat → Int32) (fh : Nat → Int32) (p0 : Int32) : Int32 := (if (x_X9_isVoter p0) = true then (if (x_X9_mayVote rq fq fh p0) = true then 1 else 0) else (-1))
def rm_X9_may : Room := { frames := 2, cells := 0, slots := 0, locals := 50 }
theorem in_X9_may_X9 : ∀ w ∈ wsX90, w ∈ wsX9_may := fun _ h => List.mem_cons_of_mem _ (List.mem_append_right _ h)
set_option maxHeartbeats 4000000 in
set_option maxRecDepth 100000 in
theorem c_X9_may (l : Launch) (D : va_G) (cI cZ cR : ClassId) (H0 : Heap) (o aS aH aG aR aV aA aB aO aP aF aC : Nat) (nd : Int32) (fs : Nat → Int32) (fh : Nat → Int32) (sg : Nat) (fg : Nat → Int32) (rq : Nat) (fq : Nat → Int32) (cl : Int32) (nr : Nat) (fV : Nat → Int32) (fA : Nat → Int32) (fB : Nat → Int32) (fO : Nat → Int32) (fP : Nat → Int32) (fF : Nat → Int32) (cn : Nat) (fC : Nat → Int32) (mx : Int32) (p0 : Int32) (hσ : VT rq fq) (hq : rq ≤ 40) : Met l yX9_may wsX9_may rm_X9_may (po_P D cI cZ cR [.ref o, .int p0] [(o, .inr (7, [.int nd, .ref aS, .ref aH, .int (nI sg), .ref aG, .int (nI rq), .ref aR, .int cl, .int (nI nr), .ref aV, .ref aA, .ref aB, .ref aO, .ref aP, .ref aF, .int (nI cn), .ref aC, .int mx])), (aS, .inl (cI, 3, .inl fs)), (aH, .inl (cI, 36, .inl fh)), (aG, .inl (cI, 40, .inl fg)), (aR, .inl (cI, 40, .inl fq)), (aV, .inl (cI, 30, .inl fV)), (aA, .inl (cI, 30, .inl fA)), (aB, .inl (cI, 30, .inl fB)), (aO, .inl (cI, 30, .inl fO)), (aP, .inl (cZ, 30, .inl fP)), (aF, .inl (cI, 120, .inl fF)), (aC, .inl (cI, 30, .inl fC))] H0) (po_Q (some (.int (x_X9_may rq fq fh p0))) H0) 0 0 nF := by
  refine Met.ofW (cc := cX9_may) (maxL := 2) (ret := (some .int)) (by decide +kernel) rfl ?_
  intro p e s m args below meth c s₁ B hml hv
  obtain ⟨rfl, rfl, hAM, hP⟩ := hv
  have hx := B.exec
  have hb := B.bytes
  have hr := B.returns
  have hts := atoms_spec (ws := wsX9_may) B.pre
  have hown : s.vm.findClass RX9 = some m.cls := findClass_of_methodNamed B.named
  have hlocks := B.notSynchronized
  have hK := hAM.1
  generalize hE : (x_X9_may rq fq fh p0) = Rv
  rw [x_X9_may] at hE
  have hl := lv_entry ([.ref o, .int p0]) (n := 2) (Nat.le_of_ble_eq_true rfl)
  rw [lg_entry_eq]
  generalize (lg_sl ([.ref o, .int p0]) ++ List.replicate (2 - (lg_sl ([.ref o, .int p0])).length) Slot.unset).toArray = ls at hl ⊢
  have hl : lv_has ls 2 [(0, .ref o), (1, .int p0)] := hl
  refine lv_iload_n hx hb dX9_may_0 rfl (lv_at hl 1 rfl) ?_
  refine ro_call (va_runS (As := [.int p0]) (rest := []) ⟨hx, hb, hml, hown, hts⟩ (c_X9_isVoter l D cI cZ cR _ p0) (va_cwS 1 hts gX9_may_X9_isVoter rfl rfl rfl hd_X9_isVoter ⟨(Nat.le_of_ble_eq_true rfl), (Nat.le_of_ble_eq_true rfl)⟩) (po_pre hAM va_P.nil) rfl rfl hl.1 rfl (lv_room (Nat.le_of_ble_eq_true rfl)) dX9_may_1 ⟨(Nat.le_of_ble_eq_true rfl), (Nat.le_of_ble_eq_true rfl)⟩) ?_
  refine w_if_neb (tgt := 11) hx hb dX9_may_4 (by decide) (fun c_4 => ?_) (fun c_4 => ?_)
  · have hE := itT hE c_4
    refine lv_aload_n hx hb dX9_may_11 rfl (lv_at hl 0 rfl) ?_
    refine lv_iload_n hx hb dX9_may_12 rfl (lv_at hl 1 rfl) ?_
    refine ro_call (va_runV (As := [.int p0]) (rest := []) ⟨hx, hb, hml, hown, hts⟩ (c_X9_mayVote l D cI cZ cR _ o aS aH aG aR aV aA aB aO aP aF aC nd fs fh sg fg rq fq cl nr fV fA fB fO fP fF cn fC mx p0 hσ hq c_4) (cwV 1 hts gX9_may_X9_mayVote rfl rfl rfl ⟨rfl, hd_X9_mayVote⟩ ⟨(Nat.le_of_ble_eq_true rfl), (Nat.le_of_ble_eq_true rfl)⟩) (po_preV hAM (hP.sub [0, 1, 2, 3, 4, 5, 6, 7, 8, 9, 10, 11] rfl) (va_recv hK hP (ci := 7) (q0 := 0) rfl rfl)) rfl rfl hl.1 rfl (lv_room (Nat.le_of_ble_eq_true rfl)) dX9_may_13 ⟨(Nat.le_of_ble_eq_true rfl), (Nat.le_of_ble_eq_true rfl)⟩) ?_
    refine w_if_eqb (tgt := 23) hx hb dX9_may_16 (by decide) (fun c_16 => ?_) (fun c_16 => ?_)
    · have hE := itF hE c_16
      refine lv_iconst (v := 0) hx hb dX9_may_23 (by decide) ?_
      exact w_iret hx hb hr hlocks hE dX9_may_24
    · have hE := itT hE c_16
      refine lv_iconst (v := 1) hx hb dX9_may_19 (by decide) ?_
      refine lv_goto (tgt := 24) hx hb dX9_may_20 (by decide) ?_
      exact w_iret hx hb hr hlocks hE dX9_may_24
  · have hE := itF hE c_4
    refine lv_iconst (v := (-1)) hx hb dX9_may_7 (by decide) ?_
    refine lv_goto (tgt := 24) hx hb dX9_may_8 (by decide) ?_
    exact w_iret hx hb hr hlocks hE dX9_may_24

theorem hd_X9_isRow : yX9_isRow.cls ≠ "java/lang/invoke/MethodHandle" ∧ yX9_isRow.cls ≠ "java/lang/invoke/VarHandle" ∧ (parseMethodDescriptor yX9_isRow.desc).map (fun d => d.parameters.length) = some 1 := by decide +kernel
def x_X9_isRow (nr : Nat) (p0 : Int32) : Bool := (x_X9_in p0 0 ((nI nr) - 1))
def rm_X9_isRow : Room := { frames := 1, cells := 0, slots := 0, locals := 22 }
theorem in_X9_isRow_X9 : ∀ w ∈ wsX90, w ∈ wsX9_isRow := fun _ h => List.mem_cons_of_mem _ (List.mem_append_right _ h)
set_option maxHeartbeats 4000000 in
set_option maxRecDepth 100000 in
theorem c_X9_isRow (l : Launch) (D : va_G) (cI cZ cR : ClassId) (H0 : Heap) (o aS aH aG aR aV aA aB aO aP aF aC : Nat) (nd : Int32) (fs : Nat → Int32) (fh : Nat → Int32) (sg : Nat) (fg : Nat → Int32) (rq : Nat) (fq : Nat → Int32) (cl : Int32) (nr : Nat) (fV : Nat → Int32) (fA : Nat → Int32) (fB : Nat → Int32) (fO : Nat → Int32) (fP : Nat → Int32) (fF : Nat → Int32) (cn : Nat) (fC : Nat → Int32) (mx : Int32) (p0 : Int32) : Met l yX9_isRow wsX9_isRow rm_X9_isRow (po_P D cI cZ cR [.ref o, .int p0] [(o, .inr (7, [.int nd, .ref aS, .ref aH, .int (nI sg), .ref aG, .int (nI rq), .ref aR, .int cl, .int (nI nr), .ref aV, .ref aA, .ref aB, .ref aO, .ref aP, .ref aF, .int (nI cn), .ref aC, .int mx])), (aS, .inl (cI, 3, .inl fs)), (aH, .inl (cI, 36, .inl fh)), (aG, .inl (cI, 40, .inl fg)), (aR, .inl (cI, 40, .inl fq)), (aV, .inl (cI, 30, .inl fV)), (aA, .inl (cI, 30, .inl fA)), (aB, .inl (cI, 30, .inl fB)), (aO, .inl (cI, 30, .inl fO)), (aP, .inl (cZ, 30, .inl fP)), (aF, .inl (cI, 120, .inl fF)), (aC, .inl (cI, 30, .inl fC))] H0) (po_Q (some (.int (bI (x_X9_isRow nr p0)))) H0) 0 0 nF := by
  refine Met.ofW (cc := cX9_isRow) (maxL := 2) (ret := (some .boolean)) (by decide +kernel) rfl ?_
  intro p e s m args below meth c s₁ B hml hv
  obtain ⟨rfl, rfl, hAM, hP⟩ := hv
  have hx := B.exec
  have hb := B.bytes
  have hr := B.returns
  have hts := atoms_spec (ws := wsX9_isRow) B.pre
  have hown : s.vm.findClass RX9 = some m.cls := findClass_of_methodNamed B.named
  have hlocks := B.notSynchronized
  have hK := hAM.1
  generalize hE : (x_X9_isRow nr p0) = Rv
  rw [x_X9_isRow] at hE
  have hl := lv_entry ([.ref o, .int p0]) (n := 2) (Nat.le_of_ble_eq_true rfl)
  rw [lg_entry_eq]
  generalize (lg_sl ([.ref o, .int p0]) ++ List.replicate (2 - (lg_sl ([.ref o, .int p0])).length) Slot.unset).toArray = ls at hl ⊢
  have hl : lv_has ls 2 [(0, .ref o), (1, .int p0)] := hl
  refine lv_iload_n hx hb dX9_isRow_0 rfl (lv_at hl 1 rfl) ?_
  refine lv_iconst (v := 0) hx hb dX9_isRow_1 (by decide) ?_
  refine lv_aload_n hx hb dX9_isRow_2 rfl (lv_at hl 0 rfl) ?_
  refine va_get (D := D) (ci := 7) (v := .int (nI nr)) (C := RX9) (T := TX9) (N := 18) hx hb hts in_X9_isRow_X9 hown hK hP 0 rfl rfl 8 (by decide) (hts (.fieldLink RX9 72 "WallCountModel" "rows" "I") (List.mem_of_getElem? (i := 1) rfl)) (fun _ h9 => h9) rfl dX9_isRow_3 ?_
  refine lv_iconst (v := 1) hx hb dX9_isRow_6 (by decide) ?_
  refine lv_isub hx hb dX9_isRow_7 ?_
  refine ro_call (va_runS (As := [.int p0, .int 0, .int ((nI nr) - 1)]) (rest := []) ⟨hx, hb, hml, hown, hts⟩ (c_X9_in l D cI cZ cR _ p0 0 ((nI nr) - 1)) (va_cwS 3 hts gX9_isRow_X9_in rfl rfl rfl hd_X9_in ⟨(Nat.le_of_ble_eq_true rfl), (Nat.le_of_ble_eq_true rfl)⟩) (po_pre hAM va_P.nil) rfl rfl hl.1 rfl (lv_room (Nat.le_of_ble_eq_true rfl)) dX9_isRow_8 ⟨(Nat.le_of_ble_eq_true rfl), (Nat.le_of_ble_eq_true rfl)⟩) ?_
  exact w_zret (v := (x_X9_in p0 0 ((nI nr) - 1))) hx hb hr hlocks hE dX9_isRow_11

theorem hd_X9_wordOf : yX9_wordOf.cls ≠ "java/lang/invoke/MethodHandle" ∧ yX9_wordOf.cls ≠ "java/lang/invoke/VarHandle" ∧ (parseMethodDescriptor yX9_wordOf.desc).map (fun d => d.parameters.length) = some 1 := by decide +kernel
def x_X9_wordOf (fV : Nat → Int32) (fA : Nat → Int32) (fB : Nat → Int32) (fO : Nat → Int32) (p0 : Int32) : Int32 := (Int64.toInt32 (xRemL (((xRemL (((xRemL (((xRemL ((7 * 131) + (Int32.toInt64 (fV (ix p0)))) 9973) * 131) + (Int32.toInt64 (fA (ix p0)))) 9973) * 131) + (Int32.toInt64 (fB (ix p0)))) 9973) * 131) + (Int32.toInt64 (fO (ix p0)))) 9973))
def rm_X9_wordOf : Room := { frames := 0, cells := 0, slots := 0, locals := 0 }
theorem in_X9_wordOf_X9 : ∀ w ∈ wsX90, w ∈ wsX9_wordOf := fun _ h => List.mem_cons_of_mem _ (List.mem_append_right _ h)
set_option maxHeartbeats 4000000 in
set_option maxRecDepth 100000 in
theorem c_X9_wordOf (l : Launch) (D : va_G) (cI cZ cR : ClassId) (H0 : Heap) (o aS aH aG aR aV aA aB aO aP aF aC : Nat) (nd : Int32) (fs : Nat → Int32) (fh : Nat → Int32) (sg : Nat) (fg : Nat → Int32) (rq : Nat) (fq : Nat → Int32) (cl : Int32) (nr : Nat) (fV : Nat → Int32) (fA : Nat → Int32) (fB : Nat → Int32) (fO : Nat → Int32) (fP : Nat → Int32) (fF : Nat → Int32) (cn : Nat) (fC : Nat → Int32) (mx : Int32) (p0 : Int32) (hn30 : nr ≤ 30) (hin : inR nr p0 = true) : Met l yX9_wordOf wsX9_wordOf rm_X9_wordOf (po_P D cI cZ cR [.ref o, .int p0] [(o, .inr (7, [.int nd, .ref aS, .ref aH, .int (nI sg), .ref aG, .int (nI rq), .ref aR, .int cl, .int (nI nr), .ref aV, .ref aA, .ref aB, .ref aO, .ref aP, .ref aF, .int (nI cn), .ref aC, .int mx])), (aS, .inl (cI, 3, .inl fs)), (aH, .inl (cI, 36, .inl fh)), (aG, .inl (cI, 40, .inl fg)), (aR, .inl (cI, 40, .inl fq)), (aV, .inl (cI, 30, .inl fV)), (aA, .inl (cI, 30, .inl fA)), (aB, .inl (cI, 30, .inl fB)), (aO, .inl (cI, 30, .inl fO)), (aP, .inl (cZ, 30, .inl fP)), (aF, .inl (cI, 120, .inl fF)), (aC, .inl (cI, 30, .inl fC))] H0) (po_Q (some (.int (x_X9_wordOf fV fA fB fO p0))) H0) 0 0 nF := by
  refine Met.ofW (cc := cX9_wordOf) (maxL := 4) (ret := (some .int)) (by decide +kernel) rfl ?_
  intro p e s m args below meth c s₁ B hml hv
  obtain ⟨rfl, rfl, hAM, hP⟩ := hv
  have hx := B.exec
  have hb := B.bytes
  have hr := B.returns
  have hts := atoms_spec (ws := wsX9_wordOf) B.pre
  have hown : s.vm.findClass RX9 = some m.cls := findClass_of_methodNamed B.named
  have hlocks := B.notSynchronized
  have hK := hAM.1
  generalize hE : (x_X9_wordOf fV fA fB fO p0) = Rv
  rw [x_X9_wordOf] at hE
  have hl := lv_entry ([.ref o, .int p0]) (n := 4) (Nat.le_of_ble_eq_true rfl)
  rw [lg_entry_eq]
  generalize (lg_sl ([.ref o, .int p0]) ++ List.replicate (4 - (lg_sl ([.ref o, .int p0])).length) Slot.unset).toArray = ls at hl ⊢
  have hl : lv_has ls 4 [(0, .ref o), (1, .int p0)] := hl
  refine lv_ldc2 hx hb hown (hts (.constantLong RX9 164 (7)) (List.mem_of_getElem? (i := 1) rfl)) dX9_wordOf_0 ?_
  refine lv_lstore_n (lv' := [(2, .long 7), (0, .ref o), (1, .int p0)]) hx hb dX9_wordOf_3 rfl hl (by decide) rfl (fun ls hl => ?_)
  refine lv_lload_n hx hb dX9_wordOf_4 rfl (lv_at hl 0 rfl) ?_
  refine lv_ldc2 hx hb hown (hts (.constantLong RX9 166 (131)) (List.mem_of_getElem? (i := 2) rfl)) dX9_wordOf_5 ?_
  refine lv_lmul hx hb dX9_wordOf_8 ?_
  refine lv_aload_n hx hb dX9_wordOf_9 rfl (lv_at hl 1 rfl) ?_
  refine va_get (D := D) (ci := 7) (v := .ref aV) (C := RX9) (T := TX9) (N := 18) hx hb hts in_X9_wordOf_X9 hown hK hP 0 rfl rfl 9 (by decide) (hts (.fieldLink RX9 29 "WallCountModel" "rowVoter" "[I") (List.mem_of_getElem? (i := 3) rfl)) (fun _ h9 => h9) rfl dX9_wordOf_10 ?_
  refine lv_iload_n hx hb dX9_wordOf_13 rfl (lv_at hl 2 rfl) ?_
  refine va_iald hx hb hK hP 5 0 rfl rfl (in_vp hn30 hin) dX9_wordOf_14 ?_
  refine lv_i2l hx hb dX9_wordOf_15 rfl ?_
  refine lv_ladd hx hb dX9_wordOf_16 ?_
  refine lv_ldc2 hx hb hown (hts (.constantLong RX9 168 (9973)) (List.mem_of_getElem? (i := 4) rfl)) dX9_wordOf_17 ?_
  refine w_lrem hx hb dX9_wordOf_20 (by decide +kernel) ?_
  refine lv_lstore_n (lv' := [(2, .long (xRemL ((7 * 131) + (Int32.toInt64 (fV (ix p0)))) 9973)), (0, .ref o), (1, .int p0)]) hx hb dX9_wordOf_21 rfl hl (by decide) rfl (fun ls hl => ?_)
  refine lv_lload_n hx hb dX9_wordOf_22 rfl (lv_at hl 0 rfl) ?_
  refine lv_ldc2 hx hb hown (hts (.constantLong RX9 166 (131)) (List.mem_of_getElem? (i := 2) rfl)) dX9_wordOf_23 ?_
  refine lv_lmul hx hb dX9_wordOf_26 ?_
  refine lv_aload_n hx hb dX9_wordOf_27 rfl (lv_at hl 1 rfl) ?_
  refine va_get (D := D) (ci := 7) (v := .ref aA) (C := RX9) (T := TX9) (N := 18) hx hb hts in_X9_wordOf_X9 hown hK hP 0 rfl rfl 10 (by decide) (hts (.fieldLink RX9 32 "WallCountModel" "rowA" "[I") (List.mem_of_getElem? (i := 5) rfl)) (fun _ h9 => h9) rfl dX9_wordOf_28 ?_
  refine lv_iload_n hx hb dX9_wordOf_31 rfl (lv_at hl 2 rfl) ?_
  refine va_iald hx hb hK hP 6 0 rfl rfl (in_vp hn30 hin) dX9_wordOf_32 ?_
  refine lv_i2l hx hb dX9_wordOf_33 rfl ?_
  refine lv_ladd hx hb dX9_wordOf_34 ?_
  refine lv_ldc2 hx hb hown (hts (.constantLong RX9 168 (9973)) (List.mem_of_getElem? (i := 4) rfl)) dX9_wordOf_35 ?_
  refine w_lrem hx hb dX9_wordOf_38 (by decide +kernel) ?_
  refine lv_lstore_n (lv' := [(2, .long (xRemL (((xRemL ((7 * 131) + (Int32.toInt64 (fV (ix p0)))) 9973) * 131) + (Int32.toInt64 (fA (ix p0)))) 9973)), (0, .ref o), (1, .int p0)]) hx hb dX9_wordOf_39 rfl hl (by decide) rfl (fun ls hl => ?_)
  refine lv_lload_n hx hb dX9_wordOf_40 rfl (lv_at hl 0 rfl) ?_
  refine lv_ldc2 hx hb hown (hts (.constantLong RX9 166 (131)) (List.mem_of_getElem? (i := 2) rfl)) dX9_wordOf_41 ?_
  refine lv_lmul hx hb dX9_wordOf_44 ?_
  refine lv_aload_n hx hb dX9_wordOf_45 rfl (lv_at hl 1 rfl) ?_
  refine va_get (D := D) (ci := 7) (v := .ref aB) (C := RX9) (T := TX9) (N := 18) hx hb hts in_X9_wordOf_X9 hown hK hP 0 rfl rfl 11 (by decide) (hts (.fieldLink RX9 35 "WallCountModel" "rowB" "[I") (List.mem_of_getElem? (i := 6) rfl)) (fun _ h9 => h9) rfl dX9_wordOf_46 ?_
  refine lv_iload_n hx hb dX9_wordOf_49 rfl (lv_at hl 2 rfl) ?_
  refine va_iald hx hb hK hP 7 0 rfl rfl (in_vp hn30 hin) dX9_wordOf_50 ?_
  refine lv_i2l hx hb dX9_wordOf_51 rfl ?_
  refine lv_ladd hx hb dX9_wordOf_52 ?_
  refine lv_ldc2 hx hb hown (hts (.constantLong RX9 168 (9973)) (List.mem_of_getElem? (i := 4) rfl)) dX9_wordOf_53 ?_
  refine w_lrem hx hb dX9_wordOf_56 (by decide +kernel) ?_
  refine lv_lstore_n (lv' := [(2, .long (xRemL (((xRemL (((xRemL ((7 * 131) + (Int32.toInt64 (fV (ix p0)))) 9973) * 131) + (Int32.toInt64 (fA (ix p0)))) 9973) * 131) + (Int32.toInt64 (fB (ix p0)))) 9973)), (0, .ref o), (1, .int p0)]) hx hb dX9_wordOf_57 rfl hl (by decide) rfl (fun ls hl => ?_)
  refine lv_lload_n hx hb dX9_wordOf_58 rfl (lv_at hl 0 rfl) ?_
  refine lv_ldc2 hx hb hown (hts (.constantLong RX9 166 (131)) (List.mem_of_getElem? (i := 2) rfl)) dX9_wordOf_59 ?_
  refine lv_lmul hx hb dX9_wordOf_62 ?_
  refine lv_aload_n hx hb dX9_wordOf_63 rfl (lv_at hl 1 rfl) ?_
  refine va_get (D := D) (ci := 7) (v := .ref aO) (C := RX9) (T := TX9) (N := 18) hx hb hts in_X9_wordOf_X9 hown hK hP 0 rfl rfl 12 (by decide) (hts (.fieldLink RX9 38 "WallCountModel" "rowHour" "[I") (List.mem_of_getElem? (i := 7) rfl)) (fun _ h9 => h9) rfl dX9_wordOf_64 ?_
  refine lv_iload_n hx hb dX9_wordOf_67 rfl (lv_at hl 2 rfl) ?_
  refine va_iald hx hb hK hP 8 0 rfl rfl (in_vp hn30 hin) dX9_wordOf_68 ?_
  refine lv_i2l hx hb dX9_wordOf_69 rfl ?_
  refine lv_ladd hx hb dX9_wordOf_70 ?_
  refine lv_ldc2 hx hb hown (hts (.constantLong RX9 168 (9973)) (List.mem_of_getElem? (i := 4) rfl)) dX9_wordOf_71 ?_
  refine w_lrem hx hb dX9_wordOf_74 (by decide +kernel) ?_
  refine lv_lstore_n (lv' := [(2, .long (xRemL (((xRemL (((xRemL (((xRemL ((7 * 131) + (Int32.toInt64 (fV (ix p0)))) 9973) * 131) + (Int32.toInt64 (fA (ix p0)))) 9973) * 131) + (Int32.toInt64 (fB (ix p0)))) 9973) * 131) + (Int32.toInt64 (fO (ix p0)))) 9973)), (0, .ref o), (1, .int p0)]) hx hb dX9_wordOf_75 rfl hl (by decide) rfl (fun ls hl => ?_)
  refine lv_lload_n hx hb dX9_wordOf_76 rfl (lv_at hl 0 rfl) ?_
  refine lv_l2i hx hb dX9_wordOf_77 rfl ?_
  exact w_iret hx hb hr hlocks hE dX9_wordOf_78

theorem hd_X9_headOf : yX9_headOf.cls ≠ "java/lang/invoke/MethodHandle" ∧ yX9_headOf.cls ≠ "java/lang/invoke/VarHandle" ∧ (parseMethodDescriptor yX9_headOf.desc).map (fun d => d.parameters.length) = some 1 := by decide +kernel
def x_X9_headOf_L5 (fV : Nat → Int32) (fA : Nat → Int32) (fB : Nat → Int32) (fO : Nat → Int32) (p0 : Int32) : Nat → Int64 → Int32 → Int32
  | 0, _, _ => 0
  | n + 1, v2, v4 => (if p0 < v4 then (Int64.toInt32 v2) else (x_X9_headOf_L5 fV fA fB fO p0 n (xRemL ((v2 * 10007) + (Int32.toInt64 (x_X9_wordOf fV fA fB fO v4))) 999983) (v4 + 1)))
def x_X9_headOf (fV : Nat → Int32) (fA : Nat → Int32) (fB : Nat → Int32) (fO : Nat → Int32) (p0 : Int32) : Int32 := (x_X9_headOf_L5 fV fA fB fO p0 (ix p0 + 2) 1 0)
def rm_X9_headOf : Room := { frames := 1, cells := 0, slots := 0, locals := 23 }
theorem in_X9_headOf_X9 : ∀ w ∈ wsX90, w ∈ wsX9_headOf := fun _ h => List.mem_cons_of_mem _ (List.mem_append_right _ h)
set_option maxHeartbeats 4000000 in
set_option maxRecDepth 100000 in
theorem c_X9_headOf (l : Launch) (D : va_G) (cI cZ cR : ClassId) (H0 : Heap) (o aS aH aG aR aV aA aB aO aP aF aC : Nat) (nd : Int32) (fs : Nat → Int32) (fh : Nat → Int32) (sg : Nat) (fg : Nat → Int32) (rq : Nat) (fq : Nat → Int32) (cl : Int32) (nr : Nat) (fV : Nat → Int32) (fA : Nat → Int32) (fB : Nat → Int32) (fO : Nat → Int32) (fP : Nat → Int32) (fF : Nat → Int32) (cn : Nat) (fC : Nat → Int32) (mx : Int32) (p0 : Int32) (hn30 : nr ≤ 30) (hin : inR nr p0 = true) : Met l yX9_headOf wsX9_headOf rm_X9_headOf (po_P D cI cZ cR [.ref o, .int p0] [(o, .inr (7, [.int nd, .ref aS, .ref aH, .int (nI sg), .ref aG, .int (nI rq), .ref aR, .int cl, .int (nI nr), .ref aV, .ref aA, .ref aB, .ref aO, .ref aP, .ref aF, .int (nI cn), .ref aC, .int mx])), (aS, .inl (cI, 3, .inl fs)), (aH, .inl (cI, 36, .inl fh)), (aG, .inl (cI, 40, .inl fg)), (aR, .inl (cI, 40, .inl fq)), (aV, .inl (cI, 30, .inl fV)), (aA, .inl (cI, 30, .inl fA)), (aB, .inl (cI, 30, .inl fB)), (aO, .inl (cI, 30, .inl fO)), (aP, .inl (cZ, 30, .inl fP)), (aF, .inl (cI, 120, .inl fF)), (aC, .inl (cI, 30, .inl fC))] H0) (po_Q (some (.int (x_X9_headOf fV fA fB fO p0))) H0) 0 0 nF := by
  refine Met.ofW (cc := cX9_headOf) (maxL := 5) (ret := (some .int)) (by decide +kernel) rfl ?_
  intro p e s m args below meth c s₁ B hml hv
  obtain ⟨rfl, rfl, hAM, hP⟩ := hv
  have hx := B.exec
  have hb := B.bytes
  have hr := B.returns
  have hts := atoms_spec (ws := wsX9_headOf) B.pre
  have hown : s.vm.findClass RX9 = some m.cls := findClass_of_methodNamed B.named
  have hlocks := B.notSynchronized
  have hK := hAM.1
  generalize hE : (x_X9_headOf fV fA fB fO p0) = Rv
  rw [x_X9_headOf] at hE
  have hl := lv_entry ([.ref o, .int p0]) (n := 5) (Nat.le_of_ble_eq_true rfl)
  rw [lg_entry_eq]
  generalize (lg_sl ([.ref o, .int p0]) ++ List.replicate (5 - (lg_sl ([.ref o, .int p0])).length) Slot.unset).toArray = ls at hl ⊢
  have hl : lv_has ls 5 [(0, .ref o), (1, .int p0)] := hl
  refine lv_lconst (v := 1) hx hb dX9_headOf_0 (by decide +kernel) ?_
  refine lv_lstore_n (lv' := [(2, .long 1), (0, .ref o), (1, .int p0)]) hx hb dX9_headOf_1 rfl hl (by decide) rfl (fun ls hl => ?_)
  refine lv_iconst (v := 0) hx hb dX9_headOf_2 (by decide) ?_
  refine lv_istore (lv' := [(4, .int 0), (2, .long 1), (0, .ref o), (1, .int p0)]) hx hb dX9_headOf_3 hl (by decide) rfl (fun ls hl => ?_)
  suffices loop : ∀ (n : Nat) (v2 : Int64) (v4 : Int32), (UP 0 (ix p0 + 1) n v4) → x_X9_headOf_L5 fV fA fB fO p0 n v2 v4 = Rv → ∀ ls : Array Slot, lv_has ls 5 [(4, .int v4), (2, .long v2), (0, .ref o), (1, .int p0)] → W p l e (headSpec wsX9_headOf rm_X9_headOf).room s m ([.ref o, .int p0] : List Value).toArray below meth c s.heap [] 0 0 (MQ below (po_Q (some (.int Rv)) s.heap) ([.ref o, .int p0] : List Value).toArray s 0 0 nF) (F0 m 5 ls []) from
    loop (ix p0 + 2) 1 0 (UP.start 0 (by omega) (by omega)) hE ls (lv_sub hl [0, 1, 2, 3] rfl)
  clear hE hl ls
  intro n
  induction n with
  | zero =>
    intro v2 v4 hI _ _ _
    exact absurd hI (UP.zero)
  | succ n ih =>
    intro v2 v4 hI hE ls hl
    rw [x_X9_headOf_L5] at hE
    refine lv_iload hx hb dX9_headOf_5 (lv_at hl 0 rfl) ?_
    refine lv_iload_n hx hb dX9_headOf_7 rfl (lv_at hl 3 rfl) ?_
    refine lv_icmp_gt (tgt := 35) hx hb dX9_headOf_8 (by decide) (fun c_8 => ?_) (fun c_8 => ?_)
    · have hE := itT hE c_8
      refine lv_lload_n hx hb dX9_headOf_35 rfl (lv_at hl 1 rfl) ?_
      refine lv_l2i hx hb dX9_headOf_36 rfl ?_
      exact w_iret hx hb hr hlocks hE dX9_headOf_37
    · have hE := itF hE c_8
      refine lv_lload_n hx hb dX9_headOf_11 rfl (lv_at hl 1 rfl) ?_
      refine lv_ldc2 hx hb hown (hts (.constantLong RX9 55 (10007)) (List.mem_of_getElem? (i := 1) rfl)) dX9_headOf_12 ?_
      refine lv_lmul hx hb dX9_headOf_15 ?_
      refine lv_aload_n hx hb dX9_headOf_16 rfl (lv_at hl 2 rfl) ?_
      refine lv_iload hx hb dX9_headOf_17 (lv_at hl 0 rfl) ?_
      refine ro_call (va_runV (As := [.int v4]) (rest := [.long (v2 * 10007)]) ⟨hx, hb, hml, hown, hts⟩ (c_X9_wordOf l D cI cZ cR _ o aS aH aG aR aV aA aB aO aP aF aC nd fs fh sg fg rq fq cl nr fV fA fB fO fP fF cn fC mx v4 hn30 (head_in hn30 hin hI c_8).2) (cwV 1 hts gX9_headOf_X9_wordOf rfl rfl rfl ⟨rfl, hd_X9_wordOf⟩ ⟨(Nat.le_of_ble_eq_true rfl), (Nat.le_of_ble_eq_true rfl)⟩) (po_preV hAM (hP.sub [0, 1, 2, 3, 4, 5, 6, 7, 8, 9, 10, 11] rfl) (va_recv hK hP (ci := 7) (q0 := 0) rfl rfl)) rfl rfl hl.1 rfl (lv_room (Nat.le_of_ble_eq_true rfl)) dX9_headOf_19 ⟨(Nat.le_of_ble_eq_true rfl), (Nat.le_of_ble_eq_true rfl)⟩) ?_
      refine lv_i2l hx hb dX9_headOf_22 rfl ?_
      refine lv_ladd hx hb dX9_headOf_23 ?_
      refine lv_ldc2 hx hb hown (hts (.constantLong RX9 173 (999983)) (List.mem_of_getElem? (i := 2) rfl)) dX9_headOf_24 ?_
      refine w_lrem hx hb dX9_headOf_27 (by decide +kernel) ?_
      refine lv_lstore_n (lv' := [(2, .long (xRemL ((v2 * 10007) + (Int32.toInt64 (x_X9_wordOf fV fA fB fO v4))) 999983)), (4, .int v4), (0, .ref o), (1, .int p0)]) hx hb dX9_headOf_28 rfl hl (by decide) rfl (fun ls hl => ?_)
      refine lv_iinc (v := (v4 + 1)) (lv' := [(4, .int (v4 + 1)), (2, .long (xRemL ((v2 * 10007) + (Int32.toInt64 (x_X9_wordOf fV fA fB fO v4))) 999983)), (0, .ref o), (1, .int p0)]) hx hb dX9_headOf_29 hl (k := 1) rfl rfl (by decide) rfl (fun ls hl => ?_)
      refine lv_goto (tgt := 5) hx hb dX9_headOf_32 (by decide) ?_
      exact ih (xRemL ((v2 * 10007) + (Int32.toInt64 (x_X9_wordOf fV fA fB fO v4))) 999983) (v4 + 1) ((head_in hn30 hin hI c_8).1) hE ls (lv_sub hl [0, 1, 2, 3] rfl)

theorem hd_X9_find : yX9_find.cls ≠ "java/lang/invoke/MethodHandle" ∧ yX9_find.cls ≠ "java/lang/invoke/VarHandle" ∧ (parseMethodDescriptor yX9_find.desc).map (fun d => d.parameters.length) = some 2 := by decide +kernel
def x_X9_find_L15 (nr : Nat) (fV : Nat → Int32) (fA : Nat → Int32) (fB : Nat → Int32) (fO : Nat → Int32) (p0 : Int32) (p1 : Int32) : Nat → Int32 → Int32
  | 0, _ => 0
  | n + 1, v3 => (if (nI nr) ≤ v3 then (-6) else (if (x_X9_wordOf fV fA fB fO v3) = p0 then v3 else (x_X9_find_L15 nr fV fA fB fO p0 p1 n (v3 + 1))))
def x_X9_find (nr : Nat) (fV : Nat → Int32) (fA : Nat → Int32) (fB : Nat → Int32) (fO : Nat → Int32) (p0 : Int32) (p1 : Int32) : Int32 := (if (x_X9_in p1 0 30) = true then (x_X9_find_L15 nr fV fA fB fO p0 p1 (31) p1) else (-2))
def rm_X9_find : Room := { frames := 1, cells := 0, slots := 0, locals := 23 }
theorem in_X9_find_X9 : ∀ w ∈ wsX90, w ∈ wsX9_find := fun _ h => List.mem_cons_of_mem _ (List.mem_append_right _ h)
set_option maxHeartbeats 4000000 in
set_option maxRecDepth 100000 in
theorem c_X9_find (l : Launch) (D : va_G) (cI cZ cR : ClassId) (H0 : Heap) (o aS aH aG aR aV aA aB aO aP aF aC : Nat) (nd : Int32) (fs : Nat → Int32) (fh : Nat → Int32) (sg : Nat) (fg : Nat → Int32) (rq : Nat) (fq : Nat → Int32) (cl : Int32) (nr : Nat) (fV : Nat → Int32) (fA : Nat → Int32) (fB : Nat → Int32) (fO : Nat → Int32) (fP : Nat → Int32) (fF : Nat → Int32) (cn : Nat) (fC : Nat → Int32) (mx : Int32) (p0 : Int32) (p1 : Int32) (hn30 : nr ≤ 30) : Met l yX9_find wsX9_find rm_X9_find (po_P D cI cZ cR [.ref o, .int p0, .int p1] [(o, .inr (7, [.int nd, .ref aS, .ref aH, .int (nI sg), .ref aG, .int (nI rq), .ref aR, .int cl, .int (nI nr), .ref aV, .ref aA, .ref aB, .ref aO, .ref aP, .ref aF, .int (nI cn), .ref aC, .int mx])), (aS, .inl (cI, 3, .inl fs)), (aH, .inl (cI, 36, .inl fh)), (aG, .inl (cI, 40, .inl fg)), (aR, .inl (cI, 40, .inl fq)), (aV, .inl (cI, 30, .inl fV)), (aA, .inl (cI, 30, .inl fA)), (aB, .inl (cI, 30, .inl fB)), (aO, .inl (cI, 30, .inl fO)), (aP, .inl (cZ, 30, .inl fP)), (aF, .inl (cI, 120, .inl fF)), (aC, .inl (cI, 30, .inl fC))] H0) (po_Q (some (.int (x_X9_find nr fV fA fB fO p0 p1))) H0) 0 0 nF := by
  refine Met.ofW (cc := cX9_find) (maxL := 4) (ret := (some .int)) (by decide +kernel) rfl ?_
  intro p e s m args below meth c s₁ B hml hv
  obtain ⟨rfl, rfl, hAM, hP⟩ := hv
  have hx := B.exec
  have hb := B.bytes
  have hr := B.returns
  have hts := atoms_spec (ws := wsX9_find) B.pre
  have hown : s.vm.findClass RX9 = some m.cls := findClass_of_methodNamed B.named
  have hlocks := B.notSynchronized
  have hK := hAM.1
  generalize hE : (x_X9_find nr fV fA fB fO p0 p1) = Rv
  rw [x_X9_find] at hE
  have hl := lv_entry ([.ref o, .int p0, .int p1]) (n := 4) (Nat.le_of_ble_eq_true rfl)
  rw [lg_entry_eq]
  generalize (lg_sl ([.ref o, .int p0, .int p1]) ++ List.replicate (4 - (lg_sl ([.ref o, .int p0, .int p1])).length) Slot.unset).toArray = ls at hl ⊢
  have hl : lv_has ls 4 [(0, .ref o), (1, .int p0), (2, .int p1)] := hl
  refine lv_iload_n hx hb dX9_find_0 rfl (lv_at hl 2 rfl) ?_
  refine lv_iconst (v := 0) hx hb dX9_find_1 (by decide) ?_
  refine lv_bipush (v := 30) hx hb dX9_find_2 (by decide +kernel) ?_
  refine ro_call (va_runS (As := [.int p1, .int 0, .int 30]) (rest := []) ⟨hx, hb, hml, hown, hts⟩ (c_X9_in l D cI cZ cR _ p1 0 30) (va_cwS 3 hts gX9_find_X9_in rfl rfl rfl hd_X9_in ⟨(Nat.le_of_ble_eq_true rfl), (Nat.le_of_ble_eq_true rfl)⟩) (po_pre hAM va_P.nil) rfl rfl hl.1 rfl (lv_room (Nat.le_of_ble_eq_true rfl)) dX9_find_4 ⟨(Nat.le_of_ble_eq_true rfl), (Nat.le_of_ble_eq_true rfl)⟩) ?_
  refine w_if_neb (tgt := 13) hx hb dX9_find_7 (by decide) (fun c_7 => ?_) (fun c_7 => ?_)
  · have hE := itT hE c_7
    refine lv_iload_n hx hb dX9_find_13 rfl (lv_at hl 2 rfl) ?_
    refine lv_istore_n (lv' := [(3, .int p1), (0, .ref o), (1, .int p0), (2, .int p1)]) hx hb dX9_find_14 rfl hl (by decide) rfl (fun ls hl => ?_)
    suffices loop : ∀ (n : Nat) (v3 : Int32), (UP 0 30 n v3) → x_X9_find_L15 nr fV fA fB fO p0 p1 n v3 = Rv → ∀ ls : Array Slot, lv_has ls 4 [(3, .int v3), (0, .ref o), (1, .int p0), (2, .int p1)] → W p l e (headSpec wsX9_find rm_X9_find).room s m ([.ref o, .int p0, .int p1] : List Value).toArray below meth c s.heap [] 0 0 (MQ below (po_Q (some (.int Rv)) s.heap) ([.ref o, .int p0, .int p1] : List Value).toArray s 0 0 nF) (F0 m 15 ls []) from
      loop (31) p1 (by obtain ⟨j9, e9, -, h9⟩ := in_nat 0 30 (by decide) c_7; rw [e9]; exact UP.start j9 (by omega) h9) hE ls (lv_sub hl [0, 1, 2, 3] rfl)
    clear hE hl ls
    intro n
    induction n with
    | zero =>
      intro v3 hI _ _ _
      exact absurd hI (UP.zero)
    | succ n ih =>
      intro v3 hI hE ls hl
      rw [x_X9_find_L15] at hE
      refine lv_iload_n hx hb dX9_find_15 rfl (lv_at hl 0 rfl) ?_
      refine lv_aload_n hx hb dX9_find_16 rfl (lv_at hl 1 rfl) ?_
      refine va_get (D := D) (ci := 7) (v := .int (nI nr)) (C := RX9) (T := TX9) (N := 18) hx hb hts in_X9_find_X9 hown hK hP 0 rfl rfl 8 (by decide) (hts (.fieldLink RX9 72 "WallCountModel" "rows" "I") (List.mem_of_getElem? (i := 1) rfl)) (fun _ h9 => h9) rfl dX9_find_17 ?_
      refine lv_icmp_ge (tgt := 40) hx hb dX9_find_20 (by decide) (fun c_20 => ?_) (fun c_20 => ?_)
      · have hE := itT hE c_20
        refine lv_bipush (v := (-6)) hx hb dX9_find_40 (by decide +kernel) ?_
        exact w_iret hx hb hr hlocks hE dX9_find_42
      · have hE := itF hE c_20
        refine lv_aload_n hx hb dX9_find_23 rfl (lv_at hl 1 rfl) ?_
        refine lv_iload_n hx hb dX9_find_24 rfl (lv_at hl 0 rfl) ?_
        refine ro_call (va_runV (As := [.int v3]) (rest := []) ⟨hx, hb, hml, hown, hts⟩ (c_X9_wordOf l D cI cZ cR _ o aS aH aG aR aV aA aB aO aP aF aC nd fs fh sg fg rq fq cl nr fV fA fB fO fP fF cn fC mx v3 hn30 (up_inR hI (by decide) c_20)) (cwV 1 hts gX9_find_X9_wordOf rfl rfl rfl ⟨rfl, hd_X9_wordOf⟩ ⟨(Nat.le_of_ble_eq_true rfl), (Nat.le_of_ble_eq_true rfl)⟩) (po_preV hAM (hP.sub [0, 1, 2, 3, 4, 5, 6, 7, 8, 9, 10, 11] rfl) (va_recv hK hP (ci := 7) (q0 := 0) rfl rfl)) rfl rfl hl.1 rfl (lv_room (Nat.le_of_ble_eq_true rfl)) dX9_find_25 ⟨(Nat.le_of_ble_eq_true rfl), (Nat.le_of_ble_eq_true rfl)⟩) ?_
        refine lv_iload_n hx hb dX9_find_28 rfl (lv_at hl 2 rfl) ?_
        refine lv_icmp_ne (tgt := 34) hx hb dX9_find_29 (by decide) (fun c_29 => ?_) (fun c_29 => ?_)
        · have hE := itF hE c_29
          refine lv_iinc (v := (v3 + 1)) (lv' := [(3, .int (v3 + 1)), (0, .ref o), (1, .int p0), (2, .int p1)]) hx hb dX9_find_34 hl (k := 0) rfl rfl (by decide) rfl (fun ls hl => ?_)
          refine lv_goto (tgt := 15) hx hb dX9_find_37 (by decide) ?_
          exact ih (v3 + 1) (hI.lt hn30 (by decide) c_20) hE ls (lv_sub hl [0, 1, 2, 3] rfl)
        · have hE := itT hE c_29
          refine lv_iload_n hx hb dX9_find_32 rfl (lv_at hl 0 rfl) ?_
          exact w_iret hx hb hr hlocks hE dX9_find_33
  · have hE := itF hE c_7
    refine lv_bipush (v := (-2)) hx hb dX9_find_10 (by decide +kernel) ?_
    exact w_iret hx hb hr hlocks hE dX9_find_12

theorem hd_X9_parted : yX9_parted.cls ≠ "java/lang/invoke/MethodHandle" ∧ yX9_parted.cls ≠ "java/lang/invoke/VarHandle" ∧ (parseMethodDescriptor yX9_parted.desc).map (fun d => d.parameters.length) = some 0 := by decide +kernel
def x_X9_parted_L2 (nr : Nat) (fV : Nat → Int32) (fA : Nat → Int32) (fB : Nat → Int32) (fO : Nat → Int32) (cn : Nat) (fC : Nat → Int32) : Nat → Int32 → Int32
  | 0, _ => 0
  | n + 1, v1 => (if (nI nr) ≤ v1 then (-6) else (if (nI cn) ≤ v1 then (-6) else (if (fC (ix v1)) = (x_X9_wordOf fV fA fB fO v1) then (x_X9_parted_L2 nr fV fA fB fO cn fC n (v1 + 1)) else v1)))
def x_X9_parted (nr : Nat) (fV : Nat → Int32) (fA : Nat → Int32) (fB : Nat → Int32) (fO : Nat → Int32) (cn : Nat) (fC : Nat → Int32) : Int32 := (x_X9_parted_L2 nr fV fA fB fO cn fC (nr + 1) 0)
def rm_X9_parted : Room := { frames := 1, cells := 0, slots := 0, locals := 23 }
theorem in_X9_parted_X9 : ∀ w ∈ wsX90, w ∈ wsX9_parted := fun _ h => List.mem_cons_of_mem _ (List.mem_append_right _ h)
set_option maxHeartbeats 4000000 in
set_option maxRecDepth 100000 in
theorem c_X9_parted (l : Launch) (D : va_G) (cI cZ cR : ClassId) (H0 : Heap) (o aS aH aG aR aV aA aB aO aP aF aC : Nat) (nd : Int32) (fs : Nat → Int32) (fh : Nat → Int32) (sg : Nat) (fg : Nat → Int32) (rq : Nat) (fq : Nat → Int32) (cl : Int32) (nr : Nat) (fV : Nat → Int32) (fA : Nat → Int32) (fB : Nat → Int32) (fO : Nat → Int32) (fP : Nat → Int32) (fF : Nat → Int32) (cn : Nat) (fC : Nat → Int32) (mx : Int32) (hn30 : nr ≤ 30) : Met l yX9_parted wsX9_parted rm_X9_parted (po_P D cI cZ cR [.ref o] [(o, .inr (7, [.int nd, .ref aS, .ref aH, .int (nI sg), .ref aG, .int (nI rq), .ref aR, .int cl, .int (nI nr), .ref aV, .ref aA, .ref aB, .ref aO, .ref aP, .ref aF, .int (nI cn), .ref aC, .int mx])), (aS, .inl (cI, 3, .inl fs)), (aH, .inl (cI, 36, .inl fh)), (aG, .inl (cI, 40, .inl fg)), (aR, .inl (cI, 40, .inl fq)), (aV, .inl (cI, 30, .inl fV)), (aA, .inl (cI, 30, .inl fA)), (aB, .inl (cI, 30, .inl fB)), (aO, .inl (cI, 30, .inl fO)), (aP, .inl (cZ, 30, .inl fP)), (aF, .inl (cI, 120, .inl fF)), (aC, .inl (cI, 30, .inl fC))] H0) (po_Q (some (.int (x_X9_parted nr fV fA fB fO cn fC))) H0) 0 0 nF := by
  refine Met.ofW (cc := cX9_parted) (maxL := 2) (ret := (some .int)) (by decide +kernel) rfl ?_
  intro p e s m args below meth c s₁ B hml hv
  obtain ⟨rfl, rfl, hAM, hP⟩ := hv
  have hx := B.exec
  have hb := B.bytes
  have hr := B.returns
  have hts := atoms_spec (ws := wsX9_parted) B.pre
  have hown : s.vm.findClass RX9 = some m.cls := findClass_of_methodNamed B.named
  have hlocks := B.notSynchronized
  have hK := hAM.1
  generalize hE : (x_X9_parted nr fV fA fB fO cn fC) = Rv
  rw [x_X9_parted] at hE
  have hl := lv_entry ([.ref o]) (n := 2) (Nat.le_of_ble_eq_true rfl)
  rw [lg_entry_eq]
  generalize (lg_sl ([.ref o]) ++ List.replicate (2 - (lg_sl ([.ref o])).length) Slot.unset).toArray = ls at hl ⊢
  have hl : lv_has ls 2 [(0, .ref o)] := hl
  refine lv_iconst (v := 0) hx hb dX9_parted_0 (by decide) ?_
  refine lv_istore_n (lv' := [(1, .int 0), (0, .ref o)]) hx hb dX9_parted_1 rfl hl (by decide) rfl (fun ls hl => ?_)
  suffices loop : ∀ (n : Nat) (v1 : Int32), (UP 0 nr n v1) → x_X9_parted_L2 nr fV fA fB fO cn fC n v1 = Rv → ∀ ls : Array Slot, lv_has ls 2 [(1, .int v1), (0, .ref o)] → W p l e (headSpec wsX9_parted rm_X9_parted).room s m ([.ref o] : List Value).toArray below meth c s.heap [] 0 0 (MQ below (po_Q (some (.int Rv)) s.heap) ([.ref o] : List Value).toArray s 0 0 nF) (F0 m 2 ls []) from
    loop (nr + 1) 0 (UP.start 0 (by omega) (by omega)) hE ls (lv_sub hl [0, 1] rfl)
  clear hE hl ls
  intro n
  induction n with
  | zero =>
    intro v1 hI _ _ _
    exact absurd hI (UP.zero)
  | succ n ih =>
    intro v1 hI hE ls hl
    rw [x_X9_parted_L2] at hE
    refine lv_iload_n hx hb dX9_parted_2 rfl (lv_at hl 0 rfl) ?_
    refine lv_aload_n hx hb dX9_parted_3 rfl (lv_at hl 1 rfl) ?_
    refine va_get (D := D) (ci := 7) (v := .int (nI nr)) (C := RX9) (T := TX9) (N := 18) hx hb hts in_X9_parted_X9 hown hK hP 0 rfl rfl 8 (by decide) (hts (.fieldLink RX9 72 "WallCountModel" "rows" "I") (List.mem_of_getElem? (i := 1) rfl)) (fun _ h9 => h9) rfl dX9_parted_4 ?_
    refine lv_icmp_ge (tgt := 40) hx hb dX9_parted_7 (by decide) (fun c_7 => ?_) (fun c_7 => ?_)
    · have hE := itT hE c_7
      refine lv_bipush (v := (-6)) hx hb dX9_parted_40 (by decide +kernel) ?_
      exact w_iret hx hb hr hlocks hE dX9_parted_42
    · have hE := itF hE c_7
      refine lv_iload_n hx hb dX9_parted_10 rfl (lv_at hl 0 rfl) ?_
      refine lv_aload_n hx hb dX9_parted_11 rfl (lv_at hl 1 rfl) ?_
      refine va_get (D := D) (ci := 7) (v := .int (nI cn)) (C := RX9) (T := TX9) (N := 18) hx hb hts in_X9_parted_X9 hown hK hP 0 rfl rfl 15 (by decide) (hts (.fieldLink RX9 181 "WallCountModel" "copies" "I") (List.mem_of_getElem? (i := 2) rfl)) (fun _ h9 => h9) rfl dX9_parted_12 ?_
      refine lv_icmp_ge (tgt := 40) hx hb dX9_parted_15 (by decide) (fun c_15 => ?_) (fun c_15 => ?_)
      · have hE := itT hE c_15
        refine lv_bipush (v := (-6)) hx hb dX9_parted_40 (by decide +kernel) ?_
        exact w_iret hx hb hr hlocks hE dX9_parted_42
      · have hE := itF hE c_15
        refine lv_aload_n hx hb dX9_parted_18 rfl (lv_at hl 1 rfl) ?_
        refine va_get (D := D) (ci := 7) (v := .ref aC) (C := RX9) (T := TX9) (N := 18) hx hb hts in_X9_parted_X9 hown hK hP 0 rfl rfl 16 (by decide) (hts (.fieldLink RX9 48 "WallCountModel" "copied" "[I") (List.mem_of_getElem? (i := 3) rfl)) (fun _ h9 => h9) rfl dX9_parted_19 ?_
        refine lv_iload_n hx hb dX9_parted_22 rfl (lv_at hl 0 rfl) ?_
        refine va_iald hx hb hK hP 11 0 rfl rfl (up_in2 hI (by omega) hn30 (by decide) c_7) dX9_parted_23 ?_
        refine lv_aload_n hx hb dX9_parted_24 rfl (lv_at hl 1 rfl) ?_
        refine lv_iload_n hx hb dX9_parted_25 rfl (lv_at hl 0 rfl) ?_
        refine ro_call (va_runV (As := [.int v1]) (rest := [.int (fC (ix v1))]) ⟨hx, hb, hml, hown, hts⟩ (c_X9_wordOf l D cI cZ cR _ o aS aH aG aR aV aA aB aO aP aF aC nd fs fh sg fg rq fq cl nr fV fA fB fO fP fF cn fC mx v1 hn30 (up_inR hI (by omega) c_7)) (cwV 1 hts gX9_parted_X9_wordOf rfl rfl rfl ⟨rfl, hd_X9_wordOf⟩ ⟨(Nat.le_of_ble_eq_true rfl), (Nat.le_of_ble_eq_true rfl)⟩) (po_preV hAM (hP.sub [0, 1, 2, 3, 4, 5, 6, 7, 8, 9, 10, 11] rfl) (va_recv hK hP (ci := 7) (q0 := 0) rfl rfl)) rfl rfl hl.1 rfl (lv_room (Nat.le_of_ble_eq_true rfl)) dX9_parted_26 ⟨(Nat.le_of_ble_eq_true rfl), (Nat.le_of_ble_eq_true rfl)⟩) ?_
        refine lv_icmp_eq (tgt := 34) hx hb dX9_parted_29 (by decide) (fun c_29 => ?_) (fun c_29 => ?_)
        · have hE := itT hE c_29
          refine lv_iinc (v := (v1 + 1)) (lv' := [(1, .int (v1 + 1)), (0, .ref o)]) hx hb dX9_parted_34 hl (k := 0) rfl rfl (by decide) rfl (fun ls hl => ?_)
          refine lv_goto (tgt := 2) hx hb dX9_parted_37 (by decide) ?_
          exact ih (v1 + 1) ((hI.ge (by omega) rfl c_7).1) hE ls (lv_sub hl [0, 1] rfl)
        · have hE := itF hE c_29
          refine lv_iload_n hx hb dX9_parted_32 rfl (lv_at hl 0 rfl) ?_
          exact w_iret hx hb hr hlocks hE dX9_parted_33

theorem hd_X9_lies : yX9_lies.cls ≠ "java/lang/invoke/MethodHandle" ∧ yX9_lies.cls ≠ "java/lang/invoke/VarHandle" ∧ (parseMethodDescriptor yX9_lies.desc).map (fun d => d.parameters.length) = some 4 := by decide +kernel
def x_X9_lies (p0 : Int32) (p1 : Int32) (p2 : Int32) (p3 : Int32) : Int64 := (if (x_X9_isBooth p0 p1) = true then (if (x_X9_in p2 0 p0) = true then (if (x_X9_in p3 0 1) = true then (x_X9_term (x_X9_choose (p0 - p1) p2) (x_X9_choose p0 p2) p3) else (-1000000000000000002)) else (-1000000000000000002)) else (-1000000000000000002))
def rm_X9_lies : Room := { frames := 2, cells := 0, slots := 0, locals := 43 }
set_option maxHeartbeats 4000000 in
set_option maxRecDepth 100000 in
theorem c_X9_lies (l : Launch) (D : va_G) (cI cZ cR : ClassId) (H0 : Heap) (o aS aH aG aR aV aA aB aO aP aF aC : Nat) (nd : Int32) (fs : Nat → Int32) (fh : Nat → Int32) (sg : Nat) (fg : Nat → Int32) (rq : Nat) (fq : Nat → Int32) (cl : Int32) (nr : Nat) (fV : Nat → Int32) (fA : Nat → Int32) (fB : Nat → Int32) (fO : Nat → Int32) (fP : Nat → Int32) (fF : Nat → Int32) (cn : Nat) (fC : Nat → Int32) (mx : Int32) (p0 : Int32) (p1 : Int32) (p2 : Int32) (p3 : Int32) : Met l yX9_lies wsX9_lies rm_X9_lies (po_P D cI cZ cR [.ref o, .int p0, .int p1, .int p2, .int p3] [(o, .inr (7, [.int nd, .ref aS, .ref aH, .int (nI sg), .ref aG, .int (nI rq), .ref aR, .int cl, .int (nI nr), .ref aV, .ref aA, .ref aB, .ref aO, .ref aP, .ref aF, .int (nI cn), .ref aC, .int mx])), (aS, .inl (cI, 3, .inl fs)), (aH, .inl (cI, 36, .inl fh)), (aG, .inl (cI, 40, .inl fg)), (aR, .inl (cI, 40, .inl fq)), (aV, .inl (cI, 30, .inl fV)), (aA, .inl (cI, 30, .inl fA)), (aB, .inl (cI, 30, .inl fB)), (aO, .inl (cI, 30, .inl fO)), (aP, .inl (cZ, 30, .inl fP)), (aF, .inl (cI, 120, .inl fF)), (aC, .inl (cI, 30, .inl fC))] H0) (po_Q (some (.long (x_X9_lies p0 p1 p2 p3))) H0) 0 0 nF := by
  refine Met.ofW (cc := cX9_lies) (maxL := 5) (ret := (some .long)) (by decide +kernel) rfl ?_
  intro p e s m args below meth c s₁ B hml hv
  obtain ⟨rfl, rfl, hAM, hP⟩ := hv
  have hx := B.exec
  have hb := B.bytes
  have hr := B.returns
  have hts := atoms_spec (ws := wsX9_lies) B.pre
  have hown : s.vm.findClass RX9 = some m.cls := findClass_of_methodNamed B.named
  have hlocks := B.notSynchronized
  have hK := hAM.1
  generalize hE : (x_X9_lies p0 p1 p2 p3) = Rv
  rw [x_X9_lies] at hE
  have hl := lv_entry ([.ref o, .int p0, .int p1, .int p2, .int p3]) (n := 5) (Nat.le_of_ble_eq_true rfl)
  rw [lg_entry_eq]
  generalize (lg_sl ([.ref o, .int p0, .int p1, .int p2, .int p3]) ++ List.replicate (5 - (lg_sl ([.ref o, .int p0, .int p1, .int p2, .int p3])).length) Slot.unset).toArray = ls at hl ⊢
  have hl : lv_has ls 5 [(0, .ref o), (1, .int p0), (2, .int p1), (3, .int p2), (4, .int p3)] := hl
  refine lv_iload_n hx hb dX9_lies_0 rfl (lv_at hl 1 rfl) ?_
  refine lv_iload_n hx hb dX9_lies_1 rfl (lv_at hl 2 rfl) ?_
  refine ro_call (va_runS (As := [.int p0, .int p1]) (rest := []) ⟨hx, hb, hml, hown, hts⟩ (c_X9_isBooth l D cI cZ cR _ p0 p1) (va_cwS 2 hts gX9_lies_X9_isBooth rfl rfl rfl hd_X9_isBooth ⟨(Nat.le_of_ble_eq_true rfl), (Nat.le_of_ble_eq_true rfl)⟩) (po_pre hAM va_P.nil) rfl rfl hl.1 rfl (lv_room (Nat.le_of_ble_eq_true rfl)) dX9_lies_2 ⟨(Nat.le_of_ble_eq_true rfl), (Nat.le_of_ble_eq_true rfl)⟩) ?_
  refine w_if_eqb (tgt := 27) hx hb dX9_lies_5 (by decide) (fun c_5 => ?_) (fun c_5 => ?_)
  · have hE := itF hE c_5
    refine lv_ldc2 hx hb hown (hts (.constantLong RX9 187 (-1000000000000000002)) (List.mem_of_getElem? (i := 1) rfl)) dX9_lies_27 ?_
    exact w_lret hx hb hr hlocks hE dX9_lies_30
  · have hE := itT hE c_5
    refine lv_iload_n hx hb dX9_lies_8 rfl (lv_at hl 3 rfl) ?_
    refine lv_iconst (v := 0) hx hb dX9_lies_9 (by decide) ?_
    refine lv_iload_n hx hb dX9_lies_10 rfl (lv_at hl 1 rfl) ?_
    refine ro_call (va_runS (As := [.int p2, .int 0, .int p0]) (rest := []) ⟨hx, hb, hml, hown, hts⟩ (c_X9_in l D cI cZ cR _ p2 0 p0) (va_cwS 3 hts gX9_lies_X9_in rfl rfl rfl hd_X9_in ⟨(Nat.le_of_ble_eq_true rfl), (Nat.le_of_ble_eq_true rfl)⟩) (po_pre hAM va_P.nil) rfl rfl hl.1 rfl (lv_room (Nat.le_of_ble_eq_true rfl)) dX9_lies_11 ⟨(Nat.le_of_ble_eq_true rfl), (Nat.le_of_ble_eq_true rfl)⟩) ?_
    refine w_if_eqb (tgt := 27) hx hb dX9_lies_14 (by decide) (fun c_14 => ?_) (fun c_14 => ?_)
    · have hE := itF hE c_14
      refine lv_ldc2 hx hb hown (hts (.constantLong RX9 187 (-1000000000000000002)) (List.mem_of_getElem? (i := 1) rfl)) dX9_lies_27 ?_
      exact w_lret hx hb hr hlocks hE dX9_lies_30
    · have hE := itT hE c_14
      refine lv_iload hx hb dX9_lies_17 (lv_at hl 4 rfl) ?_
      refine lv_iconst (v := 0) hx hb dX9_lies_19 (by decide) ?_
      refine lv_iconst (v := 1) hx hb dX9_lies_20 (by decide) ?_
      refine ro_call (va_runS (As := [.int p3, .int 0, .int 1]) (rest := []) ⟨hx, hb, hml, hown, hts⟩ (c_X9_in l D cI cZ cR _ p3 0 1) (va_cwS 3 hts gX9_lies_X9_in rfl rfl rfl hd_X9_in ⟨(Nat.le_of_ble_eq_true rfl), (Nat.le_of_ble_eq_true rfl)⟩) (po_pre hAM va_P.nil) rfl rfl hl.1 rfl (lv_room (Nat.le_of_ble_eq_true rfl)) dX9_lies_21 ⟨(Nat.le_of_ble_eq_true rfl), (Nat.le_of_ble_eq_true rfl)⟩) ?_
      refine w_if_neb (tgt := 31) hx hb dX9_lies_24 (by decide) (fun c_24 => ?_) (fun c_24 => ?_)
      · have hE := itT hE c_24
        refine lv_iload_n hx hb dX9_lies_31 rfl (lv_at hl 1 rfl) ?_
        refine lv_iload_n hx hb dX9_lies_32 rfl (lv_at hl 2 rfl) ?_
        refine lv_isub hx hb dX9_lies_33 ?_
        refine lv_iload_n hx hb dX9_lies_34 rfl (lv_at hl 3 rfl) ?_
        refine ro_call (va_runS (As := [.int (p0 - p1), .int p2]) (rest := []) ⟨hx, hb, hml, hown, hts⟩ (c_X9_choose l D cI cZ cR _ (p0 - p1) p2) (va_cwS 2 hts gX9_lies_X9_choose rfl rfl rfl hd_X9_choose ⟨(Nat.le_of_ble_eq_true rfl), (Nat.le_of_ble_eq_true rfl)⟩) (po_pre hAM va_P.nil) rfl rfl hl.1 rfl (lv_room (Nat.le_of_ble_eq_true rfl)) dX9_lies_35 ⟨(Nat.le_of_ble_eq_true rfl), (Nat.le_of_ble_eq_true rfl)⟩) ?_
        refine lv_iload_n hx hb dX9_lies_38 rfl (lv_at hl 1 rfl) ?_
        refine lv_iload_n hx hb dX9_lies_39 rfl (lv_at hl 3 rfl) ?_
        refine ro_call (va_runS (As := [.int p0, .int p2]) (rest := [.long (x_X9_choose (p0 - p1) p2)]) ⟨hx, hb, hml, hown, hts⟩ (c_X9_choose l D cI cZ cR _ p0 p2) (va_cwS 2 hts gX9_lies_X9_choose rfl rfl rfl hd_X9_choose ⟨(Nat.le_of_ble_eq_true rfl), (Nat.le_of_ble_eq_true rfl)⟩) (po_pre hAM va_P.nil) rfl rfl hl.1 rfl (lv_room (Nat.le_of_ble_eq_true rfl)) dX9_lies_40 ⟨(Nat.le_of_ble_eq_true rfl), (Nat.le_of_ble_eq_true rfl)⟩) ?_
        refine lv_iload hx hb dX9_lies_43 (lv_at hl 4 rfl) ?_
        refine ro_call (va_runS (As := [.long (x_X9_choose (p0 - p1) p2), .long (x_X9_choose p0 p2), .int p3]) (rest := []) ⟨hx, hb, hml, hown, hts⟩ (c_X9_term l D cI cZ cR _ (x_X9_choose (p0 - p1) p2) (x_X9_choose p0 p2) p3 (lies_TM c_5 c_14)) (va_cwS 3 hts gX9_lies_X9_term rfl rfl rfl hd_X9_term ⟨(Nat.le_of_ble_eq_true rfl), (Nat.le_of_ble_eq_true rfl)⟩) (po_pre hAM va_P.nil) rfl rfl hl.1 rfl (lv_room (Nat.le_of_ble_eq_true rfl)) dX9_lies_45 ⟨(Nat.le_of_ble_eq_true rfl), (Nat.le_of_ble_eq_true rfl)⟩) ?_
        exact w_lret hx hb hr hlocks hE dX9_lies_48
      · have hE := itF hE c_24
        refine lv_ldc2 hx hb hown (hts (.constantLong RX9 187 (-1000000000000000002)) (List.mem_of_getElem? (i := 1) rfl)) dX9_lies_27 ?_
        exact w_lret hx hb hr hlocks hE dX9_lies_30

theorem hd_X9_ask : yX9_ask.cls ≠ "java/lang/invoke/MethodHandle" ∧ yX9_ask.cls ≠ "java/lang/invoke/VarHandle" ∧ (parseMethodDescriptor yX9_ask.desc).map (fun d => d.parameters.length) = some 3 := by decide +kernel
def x_X9_ask_L24 (p0 : Int32) (p1 : Int32) (p2 : Int32) : Nat → Int32 → Int32
  | 0, _ => 0
  | n + 1, v4 => (if p0 < v4 then (-6) else (if ((Int32.toInt64 p2) * (x_X9_choose p0 v4)) < ((x_X9_choose (p0 - p1) v4) * 100) then (x_X9_ask_L24 p0 p1 p2 n (v4 + 1)) else v4))
def x_X9_ask (p0 : Int32) (p1 : Int32) (p2 : Int32) : Int32 := (if (x_X9_isBooth p0 p1) = true then (if (x_X9_in p2 0 100) = true then (x_X9_ask_L24 p0 p1 p2 (ix p0 + 2) 0) else (-2)) else (-2))
def rm_X9_ask : Room := { frames := 2, cells := 0, slots := 0, locals := 43 }
set_option maxHeartbeats 4000000 in
set_option maxRecDepth 100000 in
theorem c_X9_ask (l : Launch) (D : va_G) (cI cZ cR : ClassId) (H0 : Heap) (o aS aH aG aR aV aA aB aO aP aF aC : Nat) (nd : Int32) (fs : Nat → Int32) (fh : Nat → Int32) (sg : Nat) (fg : Nat → Int32) (rq : Nat) (fq : Nat → Int32) (cl : Int32) (nr : Nat) (fV : Nat → Int32) (fA : Nat → Int32) (fB : Nat → Int32) (fO : Nat → Int32) (fP : Nat → Int32) (fF : Nat → Int32) (cn : Nat) (fC : Nat → Int32) (mx : Int32) (p0 : Int32) (p1 : Int32) (p2 : Int32) : Met l yX9_ask wsX9_ask rm_X9_ask (po_P D cI cZ cR [.ref o, .int p0, .int p1, .int p2] [(o, .inr (7, [.int nd, .ref aS, .ref aH, .int (nI sg), .ref aG, .int (nI rq), .ref aR, .int cl, .int (nI nr), .ref aV, .ref aA, .ref aB, .ref aO, .ref aP, .ref aF, .int (nI cn), .ref aC, .int mx])), (aS, .inl (cI, 3, .inl fs)), (aH, .inl (cI, 36, .inl fh)), (aG, .inl (cI, 40, .inl fg)), (aR, .inl (cI, 40, .inl fq)), (aV, .inl (cI, 30, .inl fV)), (aA, .inl (cI, 30, .inl fA)), (aB, .inl (cI, 30, .inl fB)), (aO, .inl (cI, 30, .inl fO)), (aP, .inl (cZ, 30, .inl fP)), (aF, .inl (cI, 120, .inl fF)), (aC, .inl (cI, 30, .inl fC))] H0) (po_Q (some (.int (x_X9_ask p0 p1 p2))) H0) 0 0 nF := by
  refine Met.ofW (cc := cX9_ask) (maxL := 5) (ret := (some .int)) (by decide +kernel) rfl ?_
  intro p e s m args below meth c s₁ B hml hv
  obtain ⟨rfl, rfl, hAM, hP⟩ := hv
  have hx := B.exec
  have hb := B.bytes
  have hr := B.returns
  have hts := atoms_spec (ws := wsX9_ask) B.pre
  have hown : s.vm.findClass RX9 = some m.cls := findClass_of_methodNamed B.named
  have hlocks := B.notSynchronized
  have hK := hAM.1
  generalize hE : (x_X9_ask p0 p1 p2) = Rv
  rw [x_X9_ask] at hE
  have hl := lv_entry ([.ref o, .int p0, .int p1, .int p2]) (n := 5) (Nat.le_of_ble_eq_true rfl)
  rw [lg_entry_eq]
  generalize (lg_sl ([.ref o, .int p0, .int p1, .int p2]) ++ List.replicate (5 - (lg_sl ([.ref o, .int p0, .int p1, .int p2])).length) Slot.unset).toArray = ls at hl ⊢
  have hl : lv_has ls 5 [(0, .ref o), (1, .int p0), (2, .int p1), (3, .int p2)] := hl
  refine lv_iload_n hx hb dX9_ask_0 rfl (lv_at hl 1 rfl) ?_
  refine lv_iload_n hx hb dX9_ask_1 rfl (lv_at hl 2 rfl) ?_
  refine ro_call (va_runS (As := [.int p0, .int p1]) (rest := []) ⟨hx, hb, hml, hown, hts⟩ (c_X9_isBooth l D cI cZ cR _ p0 p1) (va_cwS 2 hts gX9_ask_X9_isBooth rfl rfl rfl hd_X9_isBooth ⟨(Nat.le_of_ble_eq_true rfl), (Nat.le_of_ble_eq_true rfl)⟩) (po_pre hAM va_P.nil) rfl rfl hl.1 rfl (lv_room (Nat.le_of_ble_eq_true rfl)) dX9_ask_2 ⟨(Nat.le_of_ble_eq_true rfl), (Nat.le_of_ble_eq_true rfl)⟩) ?_
  refine w_if_eqb (tgt := 18) hx hb dX9_ask_5 (by decide) (fun c_5 => ?_) (fun c_5 => ?_)
  · have hE := itF hE c_5
    refine lv_bipush (v := (-2)) hx hb dX9_ask_18 (by decide +kernel) ?_
    exact w_iret hx hb hr hlocks hE dX9_ask_20
  · have hE := itT hE c_5
    refine lv_iload_n hx hb dX9_ask_8 rfl (lv_at hl 3 rfl) ?_
    refine lv_iconst (v := 0) hx hb dX9_ask_9 (by decide) ?_
    refine lv_bipush (v := 100) hx hb dX9_ask_10 (by decide +kernel) ?_
    refine ro_call (va_runS (As := [.int p2, .int 0, .int 100]) (rest := []) ⟨hx, hb, hml, hown, hts⟩ (c_X9_in l D cI cZ cR _ p2 0 100) (va_cwS 3 hts gX9_ask_X9_in rfl rfl rfl hd_X9_in ⟨(Nat.le_of_ble_eq_true rfl), (Nat.le_of_ble_eq_true rfl)⟩) (po_pre hAM va_P.nil) rfl rfl hl.1 rfl (lv_room (Nat.le_of_ble_eq_true rfl)) dX9_ask_12 ⟨(Nat.le_of_ble_eq_true rfl), (Nat.le_of_ble_eq_true rfl)⟩) ?_
    refine w_if_neb (tgt := 21) hx hb dX9_ask_15 (by decide) (fun c_15 => ?_) (fun c_15 => ?_)
    · have hE := itT hE c_15
      refine lv_iconst (v := 0) hx hb dX9_ask_21 (by decide) ?_
      refine lv_istore (lv' := [(4, .int 0), (0, .ref o), (1, .int p0), (2, .int p1), (3, .int p2)]) hx hb dX9_ask_22 hl (by decide) rfl (fun ls hl => ?_)
      suffices loop : ∀ (n : Nat) (v4 : Int32), (UP 0 (ix p0 + 1) n v4) → x_X9_ask_L24 p0 p1 p2 n v4 = Rv → ∀ ls : Array Slot, lv_has ls 5 [(4, .int v4), (0, .ref o), (1, .int p0), (2, .int p1), (3, .int p2)] → W p l e (headSpec wsX9_ask rm_X9_ask).room s m ([.ref o, .int p0, .int p1, .int p2] : List Value).toArray below meth c s.heap [] 0 0 (MQ below (po_Q (some (.int Rv)) s.heap) ([.ref o, .int p0, .int p1, .int p2] : List Value).toArray s 0 0 nF) (F0 m 24 ls []) from
        loop (ix p0 + 2) 0 (UP.start 0 (by omega) (by omega)) hE ls (lv_sub hl [0, 1, 2, 3, 4] rfl)
      obtain ⟨a9, b9, e9, -, h91, h92, -⟩ := booth_of c_5
      have hk1 : ix p0 + 1 < 2 ^ 31 := by rw [e9, ix_nI (by omega)]; omega
      have hk2 : p0 = nI (ix p0) := by rw [e9, ix_nI (by omega)]
      clear e9
      clear hE hl ls
      intro n
      induction n with
      | zero =>
        intro v4 hI _ _ _
        exact absurd hI (UP.zero)
      | succ n ih =>
        intro v4 hI hE ls hl
        rw [x_X9_ask_L24] at hE
        refine lv_iload hx hb dX9_ask_24 (lv_at hl 0 rfl) ?_
        refine lv_iload_n hx hb dX9_ask_26 rfl (lv_at hl 2 rfl) ?_
        refine lv_icmp_gt (tgt := 64) hx hb dX9_ask_27 (by decide) (fun c_27 => ?_) (fun c_27 => ?_)
        · have hE := itT hE c_27
          refine lv_bipush (v := (-6)) hx hb dX9_ask_64 (by decide +kernel) ?_
          exact w_iret hx hb hr hlocks hE dX9_ask_66
        · have hE := itF hE c_27
          refine lv_iload_n hx hb dX9_ask_30 rfl (lv_at hl 2 rfl) ?_
          refine lv_iload_n hx hb dX9_ask_31 rfl (lv_at hl 3 rfl) ?_
          refine lv_isub hx hb dX9_ask_32 ?_
          refine lv_iload hx hb dX9_ask_33 (lv_at hl 0 rfl) ?_
          refine ro_call (va_runS (As := [.int (p0 - p1), .int v4]) (rest := []) ⟨hx, hb, hml, hown, hts⟩ (c_X9_choose l D cI cZ cR _ (p0 - p1) v4) (va_cwS 2 hts gX9_ask_X9_choose rfl rfl rfl hd_X9_choose ⟨(Nat.le_of_ble_eq_true rfl), (Nat.le_of_ble_eq_true rfl)⟩) (po_pre hAM va_P.nil) rfl rfl hl.1 rfl (lv_room (Nat.le_of_ble_eq_true rfl)) dX9_ask_35 ⟨(Nat.le_of_ble_eq_true rfl), (Nat.le_of_ble_eq_true rfl)⟩) ?_
          refine lv_ldc2 hx hb hown (hts (.constantLong RX9 197 (100)) (List.mem_of_getElem? (i := 1) rfl)) dX9_ask_38 ?_
          refine lv_lmul hx hb dX9_ask_41 ?_
          refine lv_iload_n hx hb dX9_ask_42 rfl (lv_at hl 4 rfl) ?_
          refine lv_i2l hx hb dX9_ask_43 rfl ?_
          refine lv_iload_n hx hb dX9_ask_44 rfl (lv_at hl 2 rfl) ?_
          refine lv_iload hx hb dX9_ask_45 (lv_at hl 0 rfl) ?_
          refine ro_call (va_runS (As := [.int p0, .int v4]) (rest := [.long (Int32.toInt64 p2), .long ((x_X9_choose (p0 - p1) v4) * 100)]) ⟨hx, hb, hml, hown, hts⟩ (c_X9_choose l D cI cZ cR _ p0 v4) (va_cwS 2 hts gX9_ask_X9_choose rfl rfl rfl hd_X9_choose ⟨(Nat.le_of_ble_eq_true rfl), (Nat.le_of_ble_eq_true rfl)⟩) (po_pre hAM va_P.nil) rfl rfl hl.1 rfl (lv_room (Nat.le_of_ble_eq_true rfl)) dX9_ask_47 ⟨(Nat.le_of_ble_eq_true rfl), (Nat.le_of_ble_eq_true rfl)⟩) ?_
          refine lv_lmul hx hb dX9_ask_50 ?_
          refine w_lcmp_gt (tgt := 58) hx hb dX9_ask_51 dX9_ask_52 (by decide) (fun c_51 => ?_) (fun c_51 => ?_)
          · have hE := itT hE c_51
            refine lv_iinc (v := (v4 + 1)) (lv' := [(4, .int (v4 + 1)), (0, .ref o), (1, .int p0), (2, .int p1), (3, .int p2)]) hx hb dX9_ask_58 hl (k := 0) rfl rfl (by decide) rfl (fun ls hl => ?_)
            refine lv_goto (tgt := 24) hx hb dX9_ask_61 (by decide) ?_
            exact ih (v4 + 1) ((hI.gt hk1 hk2 c_27).1) hE ls (lv_sub hl [0, 1, 2, 3, 4] rfl)
          · have hE := itF hE c_51
            refine lv_iload hx hb dX9_ask_55 (lv_at hl 0 rfl) ?_
            exact w_iret hx hb hr hlocks hE dX9_ask_57
    · have hE := itF hE c_15
      refine lv_bipush (v := (-2)) hx hb dX9_ask_18 (by decide +kernel) ?_
      exact w_iret hx hb hr hlocks hE dX9_ask_20

theorem hd_X9_slips : yX9_slips.cls ≠ "java/lang/invoke/MethodHandle" ∧ yX9_slips.cls ≠ "java/lang/invoke/VarHandle" ∧ (parseMethodDescriptor yX9_slips.desc).map (fun d => d.parameters.length) = some 4 := by decide +kernel
def x_X9_slips_L50 (p0 : Int32) (p1 : Int32) (p2 : Int32) (p3 : Int32) : Nat → Int64 → Int32 → Int64
  | 0, _, _ => 0
  | n + 1, v6, v8 => (if p1 < v8 then (x_X9_term v6 (x_X9_choose p0 p1) p3) else (x_X9_slips_L50 p0 p1 p2 p3 n (v6 + ((x_X9_choose (p0 - (p0 / 2)) v8) * (x_X9_choose (p0 / 2) (p1 - v8)))) (v8 + 1)))
def x_X9_slips (p0 : Int32) (p1 : Int32) (p2 : Int32) (p3 : Int32) : Int64 := (if (x_X9_isAll p0) = true then (if (x_X9_in p1 0 p0) = true then (if (x_X9_in p2 0 p1) = true then (if (x_X9_in p3 0 1) = true then (x_X9_slips_L50 p0 p1 p2 p3 (ix p1 + 2) 0 p2) else (-1000000000000000002)) else (-1000000000000000002)) else (-1000000000000000002)) else (-1000000000000000002))
def rm_X9_slips : Room := { frames := 2, cells := 0, slots := 0, locals := 42 }
set_option maxHeartbeats 4000000 in
set_option maxRecDepth 100000 in
theorem c_X9_slips (l : Launch) (D : va_G) (cI cZ cR : ClassId) (H0 : Heap) (o aS aH aG aR aV aA aB aO aP aF aC : Nat) (nd : Int32) (fs : Nat → Int32) (fh : Nat → Int32) (sg : Nat) (fg : Nat → Int32) (rq : Nat) (fq : Nat → Int32) (cl : Int32) (nr : Nat) (fV : Nat → Int32) (fA : Nat → Int32) (fB : Nat → Int32) (fO : Nat → Int32) (fP : Nat → Int32) (fF : Nat → Int32) (cn : Nat) (fC : Nat → Int32) (mx : Int32) (p0 : Int32) (p1 : Int32) (p2 : Int32) (p3 : Int32) : Met l yX9_slips wsX9_slips rm_X9_slips (po_P D cI cZ cR [.ref o, .int p0, .int p1, .int p2, .int p3] [(o, .inr (7, [.int nd, .ref aS, .ref aH, .int (nI sg), .ref aG, .int (nI rq), .ref aR, .int cl, .int (nI nr), .ref aV, .ref aA, .ref aB, .ref aO, .ref aP, .ref aF, .int (nI cn), .ref aC, .int mx])), (aS, .inl (cI, 3, .inl fs)), (aH, .inl (cI, 36, .inl fh)), (aG, .inl (cI, 40, .inl fg)), (aR, .inl (cI, 40, .inl fq)), (aV, .inl (cI, 30, .inl fV)), (aA, .inl (cI, 30, .inl fA)), (aB, .inl (cI, 30, .inl fB)), (aO, .inl (cI, 30, .inl fO)), (aP, .inl (cZ, 30, .inl fP)), (aF, .inl (cI, 120, .inl fF)), (aC, .inl (cI, 30, .inl fC))] H0) (po_Q (some (.long (x_X9_slips p0 p1 p2 p3))) H0) 0 0 nF := by
  refine Met.ofW (cc := cX9_slips) (maxL := 9) (ret := (some .long)) (by decide +kernel) rfl ?_
  intro p e s m args below meth c s₁ B hml hv
  obtain ⟨rfl, rfl, hAM, hP⟩ := hv
  have hx := B.exec
  have hb := B.bytes
  have hr := B.returns
  have hts := atoms_spec (ws := wsX9_slips) B.pre
  have hown : s.vm.findClass RX9 = some m.cls := findClass_of_methodNamed B.named
  have hlocks := B.notSynchronized
  have hK := hAM.1
  generalize hE : (x_X9_slips p0 p1 p2 p3) = Rv
  rw [x_X9_slips] at hE
  have hl := lv_entry ([.ref o, .int p0, .int p1, .int p2, .int p3]) (n := 9) (Nat.le_of_ble_eq_true rfl)
  rw [lg_entry_eq]
  generalize (lg_sl ([.ref o, .int p0, .int p1, .int p2, .int p3]) ++ List.replicate (9 - (lg_sl ([.ref o, .int p0, .int p1, .int p2, .int p3])).length) Slot.unset).toArray = ls at hl ⊢
  have hl : lv_has ls 9 [(0, .ref o), (1, .int p0), (2, .int p1), (3, .int p2), (4, .int p3)] := hl
  refine lv_iload_n hx hb dX9_slips_0 rfl (lv_at hl 1 rfl) ?_
  refine ro_call (va_runS (As := [.int p0]) (rest := []) ⟨hx, hb, hml, hown, hts⟩ (c_X9_isAll l D cI cZ cR _ p0) (va_cwS 1 hts gX9_slips_X9_isAll rfl rfl rfl hd_X9_isAll ⟨(Nat.le_of_ble_eq_true rfl), (Nat.le_of_ble_eq_true rfl)⟩) (po_pre hAM va_P.nil) rfl rfl hl.1 rfl (lv_room (Nat.le_of_ble_eq_true rfl)) dX9_slips_1 ⟨(Nat.le_of_ble_eq_true rfl), (Nat.le_of_ble_eq_true rfl)⟩) ?_
  refine w_if_eqb (tgt := 35) hx hb dX9_slips_4 (by decide) (fun c_4 => ?_) (fun c_4 => ?_)
  · have hE := itF hE c_4
    refine lv_ldc2 hx hb hown (hts (.constantLong RX9 187 (-1000000000000000002)) (List.mem_of_getElem? (i := 1) rfl)) dX9_slips_35 ?_
    exact w_lret hx hb hr hlocks hE dX9_slips_38
  · have hE := itT hE c_4
    refine lv_iload_n hx hb dX9_slips_7 rfl (lv_at hl 2 rfl) ?_
    refine lv_iconst (v := 0) hx hb dX9_slips_8 (by decide) ?_
    refine lv_iload_n hx hb dX9_slips_9 rfl (lv_at hl 1 rfl) ?_
    refine ro_call (va_runS (As := [.int p1, .int 0, .int p0]) (rest := []) ⟨hx, hb, hml, hown, hts⟩ (c_X9_in l D cI cZ cR _ p1 0 p0) (va_cwS 3 hts gX9_slips_X9_in rfl rfl rfl hd_X9_in ⟨(Nat.le_of_ble_eq_true rfl), (Nat.le_of_ble_eq_true rfl)⟩) (po_pre hAM va_P.nil) rfl rfl hl.1 rfl (lv_room (Nat.le_of_ble_eq_true rfl)) dX9_slips_10 ⟨(Nat.le_of_ble_eq_true rfl), (Nat.le_of_ble_eq_true rfl)⟩) ?_
    refine w_if_eqb (tgt := 35) hx hb dX9_slips_13 (by decide) (fun c_13 => ?_) (fun c_13 => ?_)
    · have hE := itF hE c_13
      refine lv_ldc2 hx hb hown (hts (.constantLong RX9 187 (-1000000000000000002)) (List.mem_of_getElem? (i := 1) rfl)) dX9_slips_35 ?_
      exact w_lret hx hb hr hlocks hE dX9_slips_38
    · have hE := itT hE c_13
      refine lv_iload_n hx hb dX9_slips_16 rfl (lv_at hl 3 rfl) ?_
      refine lv_iconst (v := 0) hx hb dX9_slips_17 (by decide) ?_
      refine lv_iload_n hx hb dX9_slips_18 rfl (lv_at hl 2 rfl) ?_
      refine ro_call (va_runS (As := [.int p2, .int 0, .int p1]) (rest := []) ⟨hx, hb, hml, hown, hts⟩ (c_X9_in l D cI cZ cR _ p2 0 p1) (va_cwS 3 hts gX9_slips_X9_in rfl rfl rfl hd_X9_in ⟨(Nat.le_of_ble_eq_true rfl), (Nat.le_of_ble_eq_true rfl)⟩) (po_pre hAM va_P.nil) rfl rfl hl.1 rfl (lv_room (Nat.le_of_ble_eq_true rfl)) dX9_slips_19 ⟨(Nat.le_of_ble_eq_true rfl), (Nat.le_of_ble_eq_true rfl)⟩) ?_
      refine w_if_eqb (tgt := 35) hx hb dX9_slips_22 (by decide) (fun c_22 => ?_) (fun c_22 => ?_)
      · have hE := itF hE c_22
        refine lv_ldc2 hx hb hown (hts (.constantLong RX9 187 (-1000000000000000002)) (List.mem_of_getElem? (i := 1) rfl)) dX9_slips_35 ?_
        exact w_lret hx hb hr hlocks hE dX9_slips_38
      · have hE := itT hE c_22
        refine lv_iload hx hb dX9_slips_25 (lv_at hl 4 rfl) ?_
        refine lv_iconst (v := 0) hx hb dX9_slips_27 (by decide) ?_
        refine lv_iconst (v := 1) hx hb dX9_slips_28 (by decide) ?_
        refine ro_call (va_runS (As := [.int p3, .int 0, .int 1]) (rest := []) ⟨hx, hb, hml, hown, hts⟩ (c_X9_in l D cI cZ cR _ p3 0 1) (va_cwS 3 hts gX9_slips_X9_in rfl rfl rfl hd_X9_in ⟨(Nat.le_of_ble_eq_true rfl), (Nat.le_of_ble_eq_true rfl)⟩) (po_pre hAM va_P.nil) rfl rfl hl.1 rfl (lv_room (Nat.le_of_ble_eq_true rfl)) dX9_slips_29 ⟨(Nat.le_of_ble_eq_true rfl), (Nat.le_of_ble_eq_true rfl)⟩) ?_
        refine w_if_neb (tgt := 39) hx hb dX9_slips_32 (by decide) (fun c_32 => ?_) (fun c_32 => ?_)
        · have hE := itT hE c_32
          refine lv_iload_n hx hb dX9_slips_39 rfl (lv_at hl 1 rfl) ?_
          refine lv_iconst (v := 2) hx hb dX9_slips_40 (by decide) ?_
          refine lv_idiv hx hb dX9_slips_41 (by decide +kernel) ?_
          refine lv_istore (lv' := [(5, .int (p0 / 2)), (0, .ref o), (1, .int p0), (2, .int p1), (3, .int p2), (4, .int p3)]) hx hb dX9_slips_42 hl (by decide) rfl (fun ls hl => ?_)
          refine lv_lconst (v := 0) hx hb dX9_slips_44 (by decide +kernel) ?_
          refine lv_lstore (lv' := [(6, .long 0), (5, .int (p0 / 2)), (0, .ref o), (1, .int p0), (2, .int p1), (3, .int p2), (4, .int p3)]) hx hb dX9_slips_45 hl (by decide) rfl (fun ls hl => ?_)
          refine lv_iload_n hx hb dX9_slips_47 rfl (lv_at hl 5 rfl) ?_
          refine lv_istore (lv' := [(8, .int p2), (6, .long 0), (5, .int (p0 / 2)), (0, .ref o), (1, .int p0), (2, .int p1), (3, .int p2), (4, .int p3)]) hx hb dX9_slips_48 hl (by decide) rfl (fun ls hl => ?_)
          suffices loop : ∀ (n : Nat) (v6 : Int64) (v8 : Int32), (SL (ix p1) n v6 v8) → x_X9_slips_L50 p0 p1 p2 p3 n v6 v8 = Rv → ∀ ls : Array Slot, lv_has ls 9 [(0, .ref o), (1, .int p0), (2, .int p1), (3, .int p2), (4, .int p3), (5, .int (p0 / 2)), (6, .long v6), (8, .int v8)] → W p l e (headSpec wsX9_slips rm_X9_slips).room s m ([.ref o, .int p0, .int p1, .int p2, .int p3] : List Value).toArray below meth c s.heap [] 0 0 (MQ below (po_Q (some (.long Rv)) s.heap) ([.ref o, .int p0, .int p1, .int p2, .int p3] : List Value).toArray s 0 0 nF) (F0 m 50 ls []) from
            loop (ix p1 + 2) 0 p2 (SL.start c_4 c_13 c_22) hE ls (lv_sub hl [3, 4, 5, 6, 7, 2, 1, 0] rfl)
          clear hE hl ls
          intro n
          induction n with
          | zero =>
            intro v6 v8 hI _ _ _
            exact absurd hI (SL.zero)
          | succ n ih =>
            intro v6 v8 hI hE ls hl
            rw [x_X9_slips_L50] at hE
            refine lv_iload hx hb dX9_slips_50 (lv_at hl 7 rfl) ?_
            refine lv_iload_n hx hb dX9_slips_52 rfl (lv_at hl 2 rfl) ?_
            refine lv_icmp_gt (tgt := 86) hx hb dX9_slips_53 (by decide) (fun c_53 => ?_) (fun c_53 => ?_)
            · have hE := itT hE c_53
              refine lv_lload hx hb dX9_slips_86 (lv_at hl 6 rfl) ?_
              refine lv_iload_n hx hb dX9_slips_88 rfl (lv_at hl 1 rfl) ?_
              refine lv_iload_n hx hb dX9_slips_89 rfl (lv_at hl 2 rfl) ?_
              refine ro_call (va_runS (As := [.int p0, .int p1]) (rest := [.long v6]) ⟨hx, hb, hml, hown, hts⟩ (c_X9_choose l D cI cZ cR _ p0 p1) (va_cwS 2 hts gX9_slips_X9_choose rfl rfl rfl hd_X9_choose ⟨(Nat.le_of_ble_eq_true rfl), (Nat.le_of_ble_eq_true rfl)⟩) (po_pre hAM va_P.nil) rfl rfl hl.1 rfl (lv_room (Nat.le_of_ble_eq_true rfl)) dX9_slips_90 ⟨(Nat.le_of_ble_eq_true rfl), (Nat.le_of_ble_eq_true rfl)⟩) ?_
              refine lv_iload hx hb dX9_slips_93 (lv_at hl 4 rfl) ?_
              refine ro_call (va_runS (As := [.long v6, .long (x_X9_choose p0 p1), .int p3]) (rest := []) ⟨hx, hb, hml, hown, hts⟩ (c_X9_term l D cI cZ cR _ v6 (x_X9_choose p0 p1) p3 (hI.tm c_4 c_13 c_22)) (va_cwS 3 hts gX9_slips_X9_term rfl rfl rfl hd_X9_term ⟨(Nat.le_of_ble_eq_true rfl), (Nat.le_of_ble_eq_true rfl)⟩) (po_pre hAM va_P.nil) rfl rfl hl.1 rfl (lv_room (Nat.le_of_ble_eq_true rfl)) dX9_slips_95 ⟨(Nat.le_of_ble_eq_true rfl), (Nat.le_of_ble_eq_true rfl)⟩) ?_
              exact w_lret hx hb hr hlocks hE dX9_slips_98
            · have hE := itF hE c_53
              refine lv_lload hx hb dX9_slips_56 (lv_at hl 6 rfl) ?_
              refine lv_iload_n hx hb dX9_slips_58 rfl (lv_at hl 1 rfl) ?_
              refine lv_iload hx hb dX9_slips_59 (lv_at hl 5 rfl) ?_
              refine lv_isub hx hb dX9_slips_61 ?_
              refine lv_iload hx hb dX9_slips_62 (lv_at hl 7 rfl) ?_
              refine ro_call (va_runS (As := [.int (p0 - (p0 / 2)), .int v8]) (rest := [.long v6]) ⟨hx, hb, hml, hown, hts⟩ (c_X9_choose l D cI cZ cR _ (p0 - (p0 / 2)) v8) (va_cwS 2 hts gX9_slips_X9_choose rfl rfl rfl hd_X9_choose ⟨(Nat.le_of_ble_eq_true rfl), (Nat.le_of_ble_eq_true rfl)⟩) (po_pre hAM va_P.nil) rfl rfl hl.1 rfl (lv_room (Nat.le_of_ble_eq_true rfl)) dX9_slips_64 ⟨(Nat.le_of_ble_eq_true rfl), (Nat.le_of_ble_eq_true rfl)⟩) ?_
              refine lv_iload hx hb dX9_slips_67 (lv_at hl 5 rfl) ?_
              refine lv_iload_n hx hb dX9_slips_69 rfl (lv_at hl 2 rfl) ?_
              refine lv_iload hx hb dX9_slips_70 (lv_at hl 7 rfl) ?_
              refine lv_isub hx hb dX9_slips_72 ?_
              refine ro_call (va_runS (As := [.int (p0 / 2), .int (p1 - v8)]) (rest := [.long (x_X9_choose (p0 - (p0 / 2)) v8), .long v6]) ⟨hx, hb, hml, hown, hts⟩ (c_X9_choose l D cI cZ cR _ (p0 / 2) (p1 - v8)) (va_cwS 2 hts gX9_slips_X9_choose rfl rfl rfl hd_X9_choose ⟨(Nat.le_of_ble_eq_true rfl), (Nat.le_of_ble_eq_true rfl)⟩) (po_pre hAM va_P.nil) rfl rfl hl.1 rfl (lv_room (Nat.le_of_ble_eq_true rfl)) dX9_slips_73 ⟨(Nat.le_of_ble_eq_true rfl), (Nat.le_of_ble_eq_true rfl)⟩) ?_
              refine lv_lmul hx hb dX9_slips_76 ?_
              refine lv_ladd hx hb dX9_slips_77 ?_
              refine lv_lstore (lv' := [(6, .long (v6 + ((x_X9_choose (p0 - (p0 / 2)) v8) * (x_X9_choose (p0 / 2) (p1 - v8))))), (0, .ref o), (1, .int p0), (2, .int p1), (3, .int p2), (4, .int p3), (5, .int (p0 / 2)), (8, .int v8)]) hx hb dX9_slips_78 hl (by decide) rfl (fun ls hl => ?_)
              refine lv_iinc (v := (v8 + 1)) (lv' := [(8, .int (v8 + 1)), (6, .long (v6 + ((x_X9_choose (p0 - (p0 / 2)) v8) * (x_X9_choose (p0 / 2) (p1 - v8))))), (0, .ref o), (1, .int p0), (2, .int p1), (3, .int p2), (4, .int p3), (5, .int (p0 / 2))]) hx hb dX9_slips_80 hl (k := 7) rfl rfl (by decide) rfl (fun ls hl => ?_)
              refine lv_goto (tgt := 50) hx hb dX9_slips_83 (by decide) ?_
              exact ih (v6 + ((x_X9_choose (p0 - (p0 / 2)) v8) * (x_X9_choose (p0 / 2) (p1 - v8)))) (v8 + 1) (hI.step c_4 c_13 c_22 c_53) hE ls (lv_sub hl [2, 3, 4, 5, 6, 7, 1, 0] rfl)
        · have hE := itF hE c_32
          refine lv_ldc2 hx hb hown (hts (.constantLong RX9 187 (-1000000000000000002)) (List.mem_of_getElem? (i := 1) rfl)) dX9_slips_35 ?_
          exact w_lret hx hb hr hlocks hE dX9_slips_38

theorem hd_X9_drawn : yX9_drawn.cls ≠ "java/lang/invoke/MethodHandle" ∧ yX9_drawn.cls ≠ "java/lang/invoke/VarHandle" ∧ (parseMethodDescriptor yX9_drawn.desc).map (fun d => d.parameters.length) = some 3 := by decide +kernel
def x_X9_drawn_L37 (p0 : Int32) (p1 : Int32) (p2 : Int32) : Nat → Int64 → Int32 → Int32
  | 0, _, _ => 0
  | n + 1, v4, v6 => (if p2 ≤ v6 then (Int64.toInt32 (xRemL v4 (Int32.toInt64 p1))) else (x_X9_drawn_L37 p0 p1 p2 n (xRemL (v4 * 16807) 2147483647) (v6 + 1)))
def x_X9_drawn (p0 : Int32) (p1 : Int32) (p2 : Int32) : Int32 := (if (x_X9_in p0 1 1000000) = true then (if (x_X9_isAll p1) = true then (if (x_X9_in p2 1 40) = true then (x_X9_drawn_L37 p0 p1 p2 (ix p2 + 1) (Int32.toInt64 p0) 0) else (-2)) else (-2)) else (-2))
def rm_X9_drawn : Room := { frames := 2, cells := 0, slots := 0, locals := 42 }
set_option maxHeartbeats 4000000 in
set_option maxRecDepth 100000 in
theorem c_X9_drawn (l : Launch) (D : va_G) (cI cZ cR : ClassId) (H0 : Heap) (o aS aH aG aR aV aA aB aO aP aF aC : Nat) (nd : Int32) (fs : Nat → Int32) (fh : Nat → Int32) (sg : Nat) (fg : Nat → Int32) (rq : Nat) (fq : Nat → Int32) (cl : Int32) (nr : Nat) (fV : Nat → Int32) (fA : Nat → Int32) (fB : Nat → Int32) (fO : Nat → Int32) (fP : Nat → Int32) (fF : Nat → Int32) (cn : Nat) (fC : Nat → Int32) (mx : Int32) (p0 : Int32) (p1 : Int32) (p2 : Int32) : Met l yX9_drawn wsX9_drawn rm_X9_drawn (po_P D cI cZ cR [.ref o, .int p0, .int p1, .int p2] [(o, .inr (7, [.int nd, .ref aS, .ref aH, .int (nI sg), .ref aG, .int (nI rq), .ref aR, .int cl, .int (nI nr), .ref aV, .ref aA, .ref aB, .ref aO, .ref aP, .ref aF, .int (nI cn), .ref aC, .int mx])), (aS, .inl (cI, 3, .inl fs)), (aH, .inl (cI, 36, .inl fh)), (aG, .inl (cI, 40, .inl fg)), (aR, .inl (cI, 40, .inl fq)), (aV, .inl (cI, 30, .inl fV)), (aA, .inl (cI, 30, .inl fA)), (aB, .inl (cI, 30, .inl fB)), (aO, .inl (cI, 30, .inl fO)), (aP, .inl (cZ, 30, .inl fP)), (aF, .inl (cI, 120, .inl fF)), (aC, .inl (cI, 30, .inl fC))] H0) (po_Q (some (.int (x_X9_drawn p0 p1 p2))) H0) 0 0 nF := by
  refine Met.ofW (cc := cX9_drawn) (maxL := 7) (ret := (some .int)) (by decide +kernel) rfl ?_
  intro p e s m args below meth c s₁ B hml hv
  obtain ⟨rfl, rfl, hAM, hP⟩ := hv
  have hx := B.exec
  have hb := B.bytes
  have hr := B.returns
  have hts := atoms_spec (ws := wsX9_drawn) B.pre
  have hown : s.vm.findClass RX9 = some m.cls := findClass_of_methodNamed B.named
  have hlocks := B.notSynchronized
  have hK := hAM.1
  generalize hE : (x_X9_drawn p0 p1 p2) = Rv
  rw [x_X9_drawn] at hE
  have hl := lv_entry ([.ref o, .int p0, .int p1, .int p2]) (n := 7) (Nat.le_of_ble_eq_true rfl)
  rw [lg_entry_eq]
  generalize (lg_sl ([.ref o, .int p0, .int p1, .int p2]) ++ List.replicate (7 - (lg_sl ([.ref o, .int p0, .int p1, .int p2])).length) Slot.unset).toArray = ls at hl ⊢
  have hl : lv_has ls 7 [(0, .ref o), (1, .int p0), (2, .int p1), (3, .int p2)] := hl
  refine lv_iload_n hx hb dX9_drawn_0 rfl (lv_at hl 1 rfl) ?_
  refine lv_iconst (v := 1) hx hb dX9_drawn_1 (by decide) ?_
  refine lv_ldc hx hb hown (hts (.constant RX9 147 (1000000)) (List.mem_of_getElem? (i := 1) rfl)) dX9_drawn_2 ?_
  refine ro_call (va_runS (As := [.int p0, .int 1, .int 1000000]) (rest := []) ⟨hx, hb, hml, hown, hts⟩ (c_X9_in l D cI cZ cR _ p0 1 1000000) (va_cwS 3 hts gX9_drawn_X9_in rfl rfl rfl hd_X9_in ⟨(Nat.le_of_ble_eq_true rfl), (Nat.le_of_ble_eq_true rfl)⟩) (po_pre hAM va_P.nil) rfl rfl hl.1 rfl (lv_room (Nat.le_of_ble_eq_true rfl)) dX9_drawn_4 ⟨(Nat.le_of_ble_eq_true rfl), (Nat.le_of_ble_eq_true rfl)⟩) ?_
  refine w_if_eqb (tgt := 27) hx hb dX9_drawn_7 (by decide) (fun c_7 => ?_) (fun c_7 => ?_)
  · have hE := itF hE c_7
    refine lv_bipush (v := (-2)) hx hb dX9_drawn_27 (by decide +kernel) ?_
    exact w_iret hx hb hr hlocks hE dX9_drawn_29
  · have hE := itT hE c_7
    refine lv_iload_n hx hb dX9_drawn_10 rfl (lv_at hl 2 rfl) ?_
    refine ro_call (va_runS (As := [.int p1]) (rest := []) ⟨hx, hb, hml, hown, hts⟩ (c_X9_isAll l D cI cZ cR _ p1) (va_cwS 1 hts gX9_drawn_X9_isAll rfl rfl rfl hd_X9_isAll ⟨(Nat.le_of_ble_eq_true rfl), (Nat.le_of_ble_eq_true rfl)⟩) (po_pre hAM va_P.nil) rfl rfl hl.1 rfl (lv_room (Nat.le_of_ble_eq_true rfl)) dX9_drawn_11 ⟨(Nat.le_of_ble_eq_true rfl), (Nat.le_of_ble_eq_true rfl)⟩) ?_
    refine w_if_eqb (tgt := 27) hx hb dX9_drawn_14 (by decide) (fun c_14 => ?_) (fun c_14 => ?_)
    · have hE := itF hE c_14
      refine lv_bipush (v := (-2)) hx hb dX9_drawn_27 (by decide +kernel) ?_
      exact w_iret hx hb hr hlocks hE dX9_drawn_29
    · have hE := itT hE c_14
      refine lv_iload_n hx hb dX9_drawn_17 rfl (lv_at hl 3 rfl) ?_
      refine lv_iconst (v := 1) hx hb dX9_drawn_18 (by decide) ?_
      refine lv_bipush (v := 40) hx hb dX9_drawn_19 (by decide +kernel) ?_
      refine ro_call (va_runS (As := [.int p2, .int 1, .int 40]) (rest := []) ⟨hx, hb, hml, hown, hts⟩ (c_X9_in l D cI cZ cR _ p2 1 40) (va_cwS 3 hts gX9_drawn_X9_in rfl rfl rfl hd_X9_in ⟨(Nat.le_of_ble_eq_true rfl), (Nat.le_of_ble_eq_true rfl)⟩) (po_pre hAM va_P.nil) rfl rfl hl.1 rfl (lv_room (Nat.le_of_ble_eq_true rfl)) dX9_drawn_21 ⟨(Nat.le_of_ble_eq_true rfl), (Nat.le_of_ble_eq_true rfl)⟩) ?_
      refine w_if_neb (tgt := 30) hx hb dX9_drawn_24 (by decide) (fun c_24 => ?_) (fun c_24 => ?_)
      · have hE := itT hE c_24
        refine lv_iload_n hx hb dX9_drawn_30 rfl (lv_at hl 1 rfl) ?_
        refine lv_i2l hx hb dX9_drawn_31 rfl ?_
        refine lv_lstore (lv' := [(4, .long (Int32.toInt64 p0)), (0, .ref o), (1, .int p0), (2, .int p1), (3, .int p2)]) hx hb dX9_drawn_32 hl (by decide) rfl (fun ls hl => ?_)
        refine lv_iconst (v := 0) hx hb dX9_drawn_34 (by decide) ?_
        refine lv_istore (lv' := [(6, .int 0), (4, .long (Int32.toInt64 p0)), (0, .ref o), (1, .int p0), (2, .int p1), (3, .int p2)]) hx hb dX9_drawn_35 hl (by decide) rfl (fun ls hl => ?_)
        suffices loop : ∀ (n : Nat) (v4 : Int64) (v6 : Int32), (UP 0 (ix p2) n v6) → x_X9_drawn_L37 p0 p1 p2 n v4 v6 = Rv → ∀ ls : Array Slot, lv_has ls 7 [(6, .int v6), (4, .long v4), (0, .ref o), (1, .int p0), (2, .int p1), (3, .int p2)] → W p l e (headSpec wsX9_drawn rm_X9_drawn).room s m ([.ref o, .int p0, .int p1, .int p2] : List Value).toArray below meth c s.heap [] 0 0 (MQ below (po_Q (some (.int Rv)) s.heap) ([.ref o, .int p0, .int p1, .int p2] : List Value).toArray s 0 0 nF) (F0 m 37 ls []) from
          loop (ix p2 + 1) (Int32.toInt64 p0) 0 (UP.start 0 (by omega) (by omega)) hE ls (lv_sub hl [0, 1, 2, 3, 4, 5] rfl)
        clear hE hl ls
        intro n
        induction n with
        | zero =>
          intro v4 v6 hI _ _ _
          exact absurd hI (UP.zero)
        | succ n ih =>
          intro v4 v6 hI hE ls hl
          rw [x_X9_drawn_L37] at hE
          refine lv_iload hx hb dX9_drawn_37 (lv_at hl 0 rfl) ?_
          refine lv_iload_n hx hb dX9_drawn_39 rfl (lv_at hl 5 rfl) ?_
          refine lv_icmp_ge (tgt := 61) hx hb dX9_drawn_40 (by decide) (fun c_40 => ?_) (fun c_40 => ?_)
          · have hE := itT hE c_40
            refine lv_lload hx hb dX9_drawn_61 (lv_at hl 1 rfl) ?_
            refine lv_iload_n hx hb dX9_drawn_63 rfl (lv_at hl 4 rfl) ?_
            refine lv_i2l hx hb dX9_drawn_64 rfl ?_
            refine w_lrem hx hb dX9_drawn_65 (by obtain ⟨a9, e9, h91, h92⟩ := all_of c_14; rw [e9]; exact up_neL ⟨a9, rfl, h91, Nat.le_refl _⟩ (by omega) (by omega)) ?_
            refine lv_l2i hx hb dX9_drawn_66 rfl ?_
            exact w_iret hx hb hr hlocks hE dX9_drawn_67
          · have hE := itF hE c_40
            refine lv_lload hx hb dX9_drawn_43 (lv_at hl 1 rfl) ?_
            refine lv_ldc2 hx hb hown (hts (.constantLong RX9 202 (16807)) (List.mem_of_getElem? (i := 2) rfl)) dX9_drawn_45 ?_
            refine lv_lmul hx hb dX9_drawn_48 ?_
            refine lv_ldc2 hx hb hown (hts (.constantLong RX9 204 (2147483647)) (List.mem_of_getElem? (i := 3) rfl)) dX9_drawn_49 ?_
            refine w_lrem hx hb dX9_drawn_52 (by decide +kernel) ?_
            refine lv_lstore (lv' := [(4, .long (xRemL (v4 * 16807) 2147483647)), (6, .int v6), (0, .ref o), (1, .int p0), (2, .int p1), (3, .int p2)]) hx hb dX9_drawn_53 hl (by decide) rfl (fun ls hl => ?_)
            refine lv_iinc (v := (v6 + 1)) (lv' := [(6, .int (v6 + 1)), (4, .long (xRemL (v4 * 16807) 2147483647)), (0, .ref o), (1, .int p0), (2, .int p1), (3, .int p2)]) hx hb dX9_drawn_55 hl (k := 1) rfl rfl (by decide) rfl (fun ls hl => ?_)
            refine lv_goto (tgt := 37) hx hb dX9_drawn_58 (by decide) ?_
            exact ih (xRemL (v4 * 16807) 2147483647) (v6 + 1) ((hI.gex c_40).1) hE ls (lv_sub hl [0, 1, 2, 3, 4, 5] rfl)
      · have hE := itF hE c_24
        refine lv_bipush (v := (-2)) hx hb dX9_drawn_27 (by decide +kernel) ?_
        exact w_iret hx hb hr hlocks hE dX9_drawn_29

theorem hd_X9_sure : yX9_sure.cls ≠ "java/lang/invoke/MethodHandle" ∧ yX9_sure.cls ≠ "java/lang/invoke/VarHandle" ∧ (parseMethodDescriptor yX9_sure.desc).map (fun d => d.parameters.length) = some 2 := by decide +kernel
def x_X9_sure_L22 (p0 : Int32) (p1 : Int32) : Nat → Int32 → Int32
  | 0, _ => 0
  | n + 1, v3 => (if p0 < v3 then (-6) else (if ((Int32.toInt64 p1) * (x_X9_choose p0 v3)) < ((x_X9_choose (p0 - (p0 / 2)) v3) * 100) then (x_X9_sure_L22 p0 p1 n (v3 + 1)) else v3))
def x_X9_sure (p0 : Int32) (p1 : Int32) : Int32 := (if (x_X9_isAll p0) = true then (if (x_X9_in p1 0 100) = true then (x_X9_sure_L22 p0 p1 (ix p0 + 2) 1) else (-2)) else (-2))
def rm_X9_sure : Room := { frames := 2, cells := 0, slots := 0, locals := 42 }
set_option maxHeartbeats 4000000 in
set_option maxRecDepth 100000 in
theorem c_X9_sure (l : Launch) (D : va_G) (cI cZ cR : ClassId) (H0 : Heap) (o aS aH aG aR aV aA aB aO aP aF aC : Nat) (nd : Int32) (fs : Nat → Int32) (fh : Nat → Int32) (sg : Nat) (fg : Nat → Int32) (rq : Nat) (fq : Nat → Int32) (cl : Int32) (nr : Nat) (fV : Nat → Int32) (fA : Nat → Int32) (fB : Nat → Int32) (fO : Nat → Int32) (fP : Nat → Int32) (fF : Nat → Int32) (cn : Nat) (fC : Nat → Int32) (mx : Int32) (p0 : Int32) (p1 : Int32) : Met l yX9_sure wsX9_sure rm_X9_sure (po_P D cI cZ cR [.ref o, .int p0, .int p1] [(o, .inr (7, [.int nd, .ref aS, .ref aH, .int (nI sg), .ref aG, .int (nI rq), .ref aR, .int cl, .int (nI nr), .ref aV, .ref aA, .ref aB, .ref aO, .ref aP, .ref aF, .int (nI cn), .ref aC, .int mx])), (aS, .inl (cI, 3, .inl fs)), (aH, .inl (cI, 36, .inl fh)), (aG, .inl (cI, 40, .inl fg)), (aR, .inl (cI, 40, .inl fq)), (aV, .inl (cI, 30, .inl fV)), (aA, .inl (cI, 30, .inl fA)), (aB, .inl (cI, 30, .inl fB)), (aO, .inl (cI, 30, .inl fO)), (aP, .inl (cZ, 30, .inl fP)), (aF, .inl (cI, 120, .inl fF)), (aC, .inl (cI, 30, .inl fC))] H0) (po_Q (some (.int (x_X9_sure p0 p1))) H0) 0 0 nF := by
  refine Met.ofW (cc := cX9_sure) (maxL := 4) (ret := (some .int)) (by decide +kernel) rfl ?_
  intro p e s m args below meth c s₁ B hml hv
  obtain ⟨rfl, rfl, hAM, hP⟩ := hv
  have hx := B.exec
  have hb := B.bytes
  have hr := B.returns
  have hts := atoms_spec (ws := wsX9_sure) B.pre
  have hown : s.vm.findClass RX9 = some m.cls := findClass_of_methodNamed B.named
  have hlocks := B.notSynchronized
  have hK := hAM.1
  generalize hE : (x_X9_sure p0 p1) = Rv
  rw [x_X9_sure] at hE
  have hl := lv_entry ([.ref o, .int p0, .int p1]) (n := 4) (Nat.le_of_ble_eq_true rfl)
  rw [lg_entry_eq]
  generalize (lg_sl ([.ref o, .int p0, .int p1]) ++ List.replicate (4 - (lg_sl ([.ref o, .int p0, .int p1])).length) Slot.unset).toArray = ls at hl ⊢
  have hl : lv_has ls 4 [(0, .ref o), (1, .int p0), (2, .int p1)] := hl
  refine lv_iload_n hx hb dX9_sure_0 rfl (lv_at hl 1 rfl) ?_
  refine ro_call (va_runS (As := [.int p0]) (rest := []) ⟨hx, hb, hml, hown, hts⟩ (c_X9_isAll l D cI cZ cR _ p0) (va_cwS 1 hts gX9_sure_X9_isAll rfl rfl rfl hd_X9_isAll ⟨(Nat.le_of_ble_eq_true rfl), (Nat.le_of_ble_eq_true rfl)⟩) (po_pre hAM va_P.nil) rfl rfl hl.1 rfl (lv_room (Nat.le_of_ble_eq_true rfl)) dX9_sure_1 ⟨(Nat.le_of_ble_eq_true rfl), (Nat.le_of_ble_eq_true rfl)⟩) ?_
  refine w_if_eqb (tgt := 17) hx hb dX9_sure_4 (by decide) (fun c_4 => ?_) (fun c_4 => ?_)
  · have hE := itF hE c_4
    refine lv_bipush (v := (-2)) hx hb dX9_sure_17 (by decide +kernel) ?_
    exact w_iret hx hb hr hlocks hE dX9_sure_19
  · have hE := itT hE c_4
    refine lv_iload_n hx hb dX9_sure_7 rfl (lv_at hl 2 rfl) ?_
    refine lv_iconst (v := 0) hx hb dX9_sure_8 (by decide) ?_
    refine lv_bipush (v := 100) hx hb dX9_sure_9 (by decide +kernel) ?_
    refine ro_call (va_runS (As := [.int p1, .int 0, .int 100]) (rest := []) ⟨hx, hb, hml, hown, hts⟩ (c_X9_in l D cI cZ cR _ p1 0 100) (va_cwS 3 hts gX9_sure_X9_in rfl rfl rfl hd_X9_in ⟨(Nat.le_of_ble_eq_true rfl), (Nat.le_of_ble_eq_true rfl)⟩) (po_pre hAM va_P.nil) rfl rfl hl.1 rfl (lv_room (Nat.le_of_ble_eq_true rfl)) dX9_sure_11 ⟨(Nat.le_of_ble_eq_true rfl), (Nat.le_of_ble_eq_true rfl)⟩) ?_
    refine w_if_neb (tgt := 20) hx hb dX9_sure_14 (by decide) (fun c_14 => ?_) (fun c_14 => ?_)
    · have hE := itT hE c_14
      refine lv_iconst (v := 1) hx hb dX9_sure_20 (by decide) ?_
      refine lv_istore_n (lv' := [(3, .int 1), (0, .ref o), (1, .int p0), (2, .int p1)]) hx hb dX9_sure_21 rfl hl (by decide) rfl (fun ls hl => ?_)
      suffices loop : ∀ (n : Nat) (v3 : Int32), (UP 1 (ix p0 + 1) n v3) → x_X9_sure_L22 p0 p1 n v3 = Rv → ∀ ls : Array Slot, lv_has ls 4 [(3, .int v3), (0, .ref o), (1, .int p0), (2, .int p1)] → W p l e (headSpec wsX9_sure rm_X9_sure).room s m ([.ref o, .int p0, .int p1] : List Value).toArray below meth c s.heap [] 0 0 (MQ below (po_Q (some (.int Rv)) s.heap) ([.ref o, .int p0, .int p1] : List Value).toArray s 0 0 nF) (F0 m 22 ls []) from
        loop (ix p0 + 2) 1 (UP.start 1 (by omega) (by omega)) hE ls (lv_sub hl [0, 1, 2, 3] rfl)
      obtain ⟨a9, e9, h91, h92⟩ := all_of c_4
      have hk1 : ix p0 + 1 < 2 ^ 31 := by rw [e9, ix_nI (by omega)]; omega
      have hk2 : p0 = nI (ix p0) := by rw [e9, ix_nI (by omega)]
      clear e9
      clear hE hl ls
      intro n
      induction n with
      | zero =>
        intro v3 hI _ _ _
        exact absurd hI (UP.zero)
      | succ n ih =>
        intro v3 hI hE ls hl
        rw [x_X9_sure_L22] at hE
        refine lv_iload_n hx hb dX9_sure_22 rfl (lv_at hl 0 rfl) ?_
        refine lv_iload_n hx hb dX9_sure_23 rfl (lv_at hl 2 rfl) ?_
        refine lv_icmp_gt (tgt := 60) hx hb dX9_sure_24 (by decide) (fun c_24 => ?_) (fun c_24 => ?_)
        · have hE := itT hE c_24
          refine lv_bipush (v := (-6)) hx hb dX9_sure_60 (by decide +kernel) ?_
          exact w_iret hx hb hr hlocks hE dX9_sure_62
        · have hE := itF hE c_24
          refine lv_iload_n hx hb dX9_sure_27 rfl (lv_at hl 2 rfl) ?_
          refine lv_iload_n hx hb dX9_sure_28 rfl (lv_at hl 2 rfl) ?_
          refine lv_iconst (v := 2) hx hb dX9_sure_29 (by decide) ?_
          refine lv_idiv hx hb dX9_sure_30 (by decide +kernel) ?_
          refine lv_isub hx hb dX9_sure_31 ?_
          refine lv_iload_n hx hb dX9_sure_32 rfl (lv_at hl 0 rfl) ?_
          refine ro_call (va_runS (As := [.int (p0 - (p0 / 2)), .int v3]) (rest := []) ⟨hx, hb, hml, hown, hts⟩ (c_X9_choose l D cI cZ cR _ (p0 - (p0 / 2)) v3) (va_cwS 2 hts gX9_sure_X9_choose rfl rfl rfl hd_X9_choose ⟨(Nat.le_of_ble_eq_true rfl), (Nat.le_of_ble_eq_true rfl)⟩) (po_pre hAM va_P.nil) rfl rfl hl.1 rfl (lv_room (Nat.le_of_ble_eq_true rfl)) dX9_sure_33 ⟨(Nat.le_of_ble_eq_true rfl), (Nat.le_of_ble_eq_true rfl)⟩) ?_
          refine lv_ldc2 hx hb hown (hts (.constantLong RX9 197 (100)) (List.mem_of_getElem? (i := 1) rfl)) dX9_sure_36 ?_
          refine lv_lmul hx hb dX9_sure_39 ?_
          refine lv_iload_n hx hb dX9_sure_40 rfl (lv_at hl 3 rfl) ?_
          refine lv_i2l hx hb dX9_sure_41 rfl ?_
          refine lv_iload_n hx hb dX9_sure_42 rfl (lv_at hl 2 rfl) ?_
          refine lv_iload_n hx hb dX9_sure_43 rfl (lv_at hl 0 rfl) ?_
          refine ro_call (va_runS (As := [.int p0, .int v3]) (rest := [.long (Int32.toInt64 p1), .long ((x_X9_choose (p0 - (p0 / 2)) v3) * 100)]) ⟨hx, hb, hml, hown, hts⟩ (c_X9_choose l D cI cZ cR _ p0 v3) (va_cwS 2 hts gX9_sure_X9_choose rfl rfl rfl hd_X9_choose ⟨(Nat.le_of_ble_eq_true rfl), (Nat.le_of_ble_eq_true rfl)⟩) (po_pre hAM va_P.nil) rfl rfl hl.1 rfl (lv_room (Nat.le_of_ble_eq_true rfl)) dX9_sure_44 ⟨(Nat.le_of_ble_eq_true rfl), (Nat.le_of_ble_eq_true rfl)⟩) ?_
          refine lv_lmul hx hb dX9_sure_47 ?_
          refine w_lcmp_gt (tgt := 54) hx hb dX9_sure_48 dX9_sure_49 (by decide) (fun c_48 => ?_) (fun c_48 => ?_)
          · have hE := itT hE c_48
            refine lv_iinc (v := (v3 + 1)) (lv' := [(3, .int (v3 + 1)), (0, .ref o), (1, .int p0), (2, .int p1)]) hx hb dX9_sure_54 hl (k := 0) rfl rfl (by decide) rfl (fun ls hl => ?_)
            refine lv_goto (tgt := 22) hx hb dX9_sure_57 (by decide) ?_
            exact ih (v3 + 1) ((hI.gt hk1 hk2 c_24).1) hE ls (lv_sub hl [0, 1, 2, 3] rfl)
          · have hE := itF hE c_48
            refine lv_iload_n hx hb dX9_sure_52 rfl (lv_at hl 0 rfl) ?_
            exact w_iret hx hb hr hlocks hE dX9_sure_53
    · have hE := itF hE c_14
      refine lv_bipush (v := (-2)) hx hb dX9_sure_17 (by decide +kernel) ?_
      exact w_iret hx hb hr hlocks hE dX9_sure_19

theorem hd_X9_told : yX9_told.cls ≠ "java/lang/invoke/MethodHandle" ∧ yX9_told.cls ≠ "java/lang/invoke/VarHandle" ∧ (parseMethodDescriptor yX9_told.desc).map (fun d => d.parameters.length) = some 8 := by decide +kernel
def x_X9_told (p0 : Int32) (p1 : Int32) (p2 : Int32) (p3 : Int32) (p4 : Int32) (p5 : Int32) (p6 : Int32) (p7 : Int32) : Int64 := (if (x_X9_areSums p0 p1 p2 p3 p4 p5) = true then (if (x_X9_in p6 0 2) = true then (if (x_X9_in p7 0 1) = true then (if (((((p0 + p1) + p2) - p3) - p4) - p5) = 0 then (-1000000000000000003) else (if p6 = 0 then (x_X9_term (Int32.toInt64 (p0 - p3)) (Int32.toInt64 (((((p0 + p1) + p2) - p3) - p4) - p5)) p7) else (if p6 = 1 then (x_X9_term (Int32.toInt64 (p1 - p4)) (Int32.toInt64 (((((p0 + p1) + p2) - p3) - p4) - p5)) p7) else (x_X9_term (Int32.toInt64 (p2 - p5)) (Int32.toInt64 (((((p0 + p1) + p2) - p3) - p4) - p5)) p7)))) else (-1000000000000000002)) else (-1000000000000000002)) else (-1000000000000000002))
def rm_X9_told : Room := { frames := 2, cells := 0, slots := 0, locals := 48 }
set_option maxHeartbeats 4000000 in
set_option maxRecDepth 100000 in
theorem c_X9_told (l : Launch) (D : va_G) (cI cZ cR : ClassId) (H0 : Heap) (o aS aH aG aR aV aA aB aO aP aF aC : Nat) (nd : Int32) (fs : Nat → Int32) (fh : Nat → Int32) (sg : Nat) (fg : Nat → Int32) (rq : Nat) (fq : Nat → Int32) (cl : Int32) (nr : Nat) (fV : Nat → Int32) (fA : Nat → Int32) (fB : Nat → Int32) (fO : Nat → Int32) (fP : Nat → Int32) (fF : Nat → Int32) (cn : Nat) (fC : Nat → Int32) (mx : Int32) (p0 : Int32) (p1 : Int32) (p2 : Int32) (p3 : Int32) (p4 : Int32) (p5 : Int32) (p6 : Int32) (p7 : Int32) : Met l yX9_told wsX9_told rm_X9_told (po_P D cI cZ cR [.ref o, .int p0, .int p1, .int p2, .int p3, .int p4, .int p5, .int p6, .int p7] [(o, .inr (7, [.int nd, .ref aS, .ref aH, .int (nI sg), .ref aG, .int (nI rq), .ref aR, .int cl, .int (nI nr), .ref aV, .ref aA, .ref aB, .ref aO, .ref aP, .ref aF, .int (nI cn), .ref aC, .int mx])), (aS, .inl (cI, 3, .inl fs)), (aH, .inl (cI, 36, .inl fh)), (aG, .inl (cI, 40, .inl fg)), (aR, .inl (cI, 40, .inl fq)), (aV, .inl (cI, 30, .inl fV)), (aA, .inl (cI, 30, .inl fA)), (aB, .inl (cI, 30, .inl fB)), (aO, .inl (cI, 30, .inl fO)), (aP, .inl (cZ, 30, .inl fP)), (aF, .inl (cI, 120, .inl fF)), (aC, .inl (cI, 30, .inl fC))] H0) (po_Q (some (.long (x_X9_told p0 p1 p2 p3 p4 p5 p6 p7))) H0) 0 0 nF := by
  refine Met.ofW (cc := cX9_told) (maxL := 10) (ret := (some .long)) (by decide +kernel) rfl ?_
  intro p e s m args below meth c s₁ B hml hv
  obtain ⟨rfl, rfl, hAM, hP⟩ := hv
  have hx := B.exec
  have hb := B.bytes
  have hr := B.returns
  have hts := atoms_spec (ws := wsX9_told) B.pre
  have hown : s.vm.findClass RX9 = some m.cls := findClass_of_methodNamed B.named
  have hlocks := B.notSynchronized
  have hK := hAM.1
  generalize hE : (x_X9_told p0 p1 p2 p3 p4 p5 p6 p7) = Rv
  rw [x_X9_told] at hE
  have hl := lv_entry ([.ref o, .int p0, .int p1, .int p2, .int p3, .int p4, .int p5, .int p6, .int p7]) (n := 10) (Nat.le_of_ble_eq_true rfl)
  rw [lg_entry_eq]
  generalize (lg_sl ([.ref o, .int p0, .int p1, .int p2, .int p3, .int p4, .int p5, .int p6, .int p7]) ++ List.replicate (10 - (lg_sl ([.ref o, .int p0, .int p1, .int p2, .int p3, .int p4, .int p5, .int p6, .int p7])).length) Slot.unset).toArray = ls at hl ⊢
  have hl : lv_has ls 10 [(0, .ref o), (1, .int p0), (2, .int p1), (3, .int p2), (4, .int p3), (5, .int p4), (6, .int p5), (7, .int p6), (8, .int p7)] := hl
  refine lv_iload_n hx hb dX9_told_0 rfl (lv_at hl 1 rfl) ?_
  refine lv_iload_n hx hb dX9_told_1 rfl (lv_at hl 2 rfl) ?_
  refine lv_iload_n hx hb dX9_told_2 rfl (lv_at hl 3 rfl) ?_
  refine lv_iload hx hb dX9_told_3 (lv_at hl 4 rfl) ?_
  refine lv_iload hx hb dX9_told_5 (lv_at hl 5 rfl) ?_
  refine lv_iload hx hb dX9_told_7 (lv_at hl 6 rfl) ?_
  refine ro_call (va_runS (As := [.int p0, .int p1, .int p2, .int p3, .int p4, .int p5]) (rest := []) ⟨hx, hb, hml, hown, hts⟩ (c_X9_areSums l D cI cZ cR _ p0 p1 p2 p3 p4 p5) (va_cwS 6 hts gX9_told_X9_areSums rfl rfl rfl hd_X9_areSums ⟨(Nat.le_of_ble_eq_true rfl), (Nat.le_of_ble_eq_true rfl)⟩) (po_pre hAM va_P.nil) rfl rfl hl.1 rfl (lv_room (Nat.le_of_ble_eq_true rfl)) dX9_told_9 ⟨(Nat.le_of_ble_eq_true rfl), (Nat.le_of_ble_eq_true rfl)⟩) ?_
  refine w_if_eqb (tgt := 35) hx hb dX9_told_12 (by decide) (fun c_12 => ?_) (fun c_12 => ?_)
  · have hE := itF hE c_12
    refine lv_ldc2 hx hb hown (hts (.constantLong RX9 187 (-1000000000000000002)) (List.mem_of_getElem? (i := 1) rfl)) dX9_told_35 ?_
    exact w_lret hx hb hr hlocks hE dX9_told_38
  · have hE := itT hE c_12
    refine lv_iload hx hb dX9_told_15 (lv_at hl 7 rfl) ?_
    refine lv_iconst (v := 0) hx hb dX9_told_17 (by decide) ?_
    refine lv_iconst (v := 2) hx hb dX9_told_18 (by decide) ?_
    refine ro_call (va_runS (As := [.int p6, .int 0, .int 2]) (rest := []) ⟨hx, hb, hml, hown, hts⟩ (c_X9_in l D cI cZ cR _ p6 0 2) (va_cwS 3 hts gX9_told_X9_in rfl rfl rfl hd_X9_in ⟨(Nat.le_of_ble_eq_true rfl), (Nat.le_of_ble_eq_true rfl)⟩) (po_pre hAM va_P.nil) rfl rfl hl.1 rfl (lv_room (Nat.le_of_ble_eq_true rfl)) dX9_told_19 ⟨(Nat.le_of_ble_eq_true rfl), (Nat.le_of_ble_eq_true rfl)⟩) ?_
    refine w_if_eqb (tgt := 35) hx hb dX9_told_22 (by decide) (fun c_22 => ?_) (fun c_22 => ?_)
    · have hE := itF hE c_22
      refine lv_ldc2 hx hb hown (hts (.constantLong RX9 187 (-1000000000000000002)) (List.mem_of_getElem? (i := 1) rfl)) dX9_told_35 ?_
      exact w_lret hx hb hr hlocks hE dX9_told_38
    · have hE := itT hE c_22
      refine lv_iload hx hb dX9_told_25 (lv_at hl 8 rfl) ?_
      refine lv_iconst (v := 0) hx hb dX9_told_27 (by decide) ?_
      refine lv_iconst (v := 1) hx hb dX9_told_28 (by decide) ?_
      refine ro_call (va_runS (As := [.int p7, .int 0, .int 1]) (rest := []) ⟨hx, hb, hml, hown, hts⟩ (c_X9_in l D cI cZ cR _ p7 0 1) (va_cwS 3 hts gX9_told_X9_in rfl rfl rfl hd_X9_in ⟨(Nat.le_of_ble_eq_true rfl), (Nat.le_of_ble_eq_true rfl)⟩) (po_pre hAM va_P.nil) rfl rfl hl.1 rfl (lv_room (Nat.le_of_ble_eq_true rfl)) dX9_told_29 ⟨(Nat.le_of_ble_eq_true rfl), (Nat.le_of_ble_eq_true rfl)⟩) ?_
      refine w_if_neb (tgt := 39) hx hb dX9_told_32 (by decide) (fun c_32 => ?_) (fun c_32 => ?_)
      · have hE := itT hE c_32
        refine lv_iload_n hx hb dX9_told_39 rfl (lv_at hl 1 rfl) ?_
        refine lv_iload_n hx hb dX9_told_40 rfl (lv_at hl 2 rfl) ?_
        refine lv_iadd hx hb dX9_told_41 ?_
        refine lv_iload_n hx hb dX9_told_42 rfl (lv_at hl 3 rfl) ?_
        refine lv_iadd hx hb dX9_told_43 ?_
        refine lv_iload hx hb dX9_told_44 (lv_at hl 4 rfl) ?_
        refine lv_isub hx hb dX9_told_46 ?_
        refine lv_iload hx hb dX9_told_47 (lv_at hl 5 rfl) ?_
        refine lv_isub hx hb dX9_told_49 ?_
        refine lv_iload hx hb dX9_told_50 (lv_at hl 6 rfl) ?_
        refine lv_isub hx hb dX9_told_52 ?_
        refine lv_istore (lv' := [(9, .int (((((p0 + p1) + p2) - p3) - p4) - p5)), (0, .ref o), (1, .int p0), (2, .int p1), (3, .int p2), (4, .int p3), (5, .int p4), (6, .int p5), (7, .int p6), (8, .int p7)]) hx hb dX9_told_53 hl (by decide) rfl (fun ls hl => ?_)
        refine lv_iload hx hb dX9_told_55 (lv_at hl 0 rfl) ?_
        refine lv_if_ne (tgt := 64) hx hb dX9_told_57 (by decide) (fun c_57 => ?_) (fun c_57 => ?_)
        · have hE := itF hE c_57
          refine lv_iload hx hb dX9_told_64 (lv_at hl 8 rfl) ?_
          refine lv_if_ne (tgt := 77) hx hb dX9_told_66 (by decide) (fun c_66 => ?_) (fun c_66 => ?_)
          · have hE := itF hE c_66
            refine lv_iload hx hb dX9_told_77 (lv_at hl 8 rfl) ?_
            refine lv_iconst (v := 1) hx hb dX9_told_79 (by decide) ?_
            refine lv_icmp_ne (tgt := 91) hx hb dX9_told_80 (by decide) (fun c_80 => ?_) (fun c_80 => ?_)
            · have hE := itF hE c_80
              refine lv_iload_n hx hb dX9_told_91 rfl (lv_at hl 4 rfl) ?_
              refine lv_iload hx hb dX9_told_92 (lv_at hl 7 rfl) ?_
              refine lv_isub hx hb dX9_told_94 ?_
              refine lv_i2l hx hb dX9_told_95 rfl ?_
              refine lv_iload hx hb dX9_told_96 (lv_at hl 0 rfl) ?_
              refine lv_i2l hx hb dX9_told_98 rfl ?_
              refine lv_iload hx hb dX9_told_99 (lv_at hl 9 rfl) ?_
              refine ro_call (va_runS (As := [.long (Int32.toInt64 (p2 - p5)), .long (Int32.toInt64 (((((p0 + p1) + p2) - p3) - p4) - p5)), .int p7]) (rest := []) ⟨hx, hb, hml, hown, hts⟩ (c_X9_term l D cI cZ cR _ (Int32.toInt64 (p2 - p5)) (Int32.toInt64 (((((p0 + p1) + p2) - p3) - p4) - p5)) p7 (told_TM c_12 c_57).2.2) (va_cwS 3 hts gX9_told_X9_term rfl rfl rfl hd_X9_term ⟨(Nat.le_of_ble_eq_true rfl), (Nat.le_of_ble_eq_true rfl)⟩) (po_pre hAM va_P.nil) rfl rfl hl.1 rfl (lv_room (Nat.le_of_ble_eq_true rfl)) dX9_told_101 ⟨(Nat.le_of_ble_eq_true rfl), (Nat.le_of_ble_eq_true rfl)⟩) ?_
              exact w_lret hx hb hr hlocks hE dX9_told_104
            · have hE := itT hE c_80
              refine lv_iload_n hx hb dX9_told_83 rfl (lv_at hl 3 rfl) ?_
              refine lv_iload hx hb dX9_told_84 (lv_at hl 6 rfl) ?_
              refine lv_isub hx hb dX9_told_86 ?_
              refine lv_i2l hx hb dX9_told_87 rfl ?_
              refine lv_goto (tgt := 96) hx hb dX9_told_88 (by decide) ?_
              refine lv_iload hx hb dX9_told_96 (lv_at hl 0 rfl) ?_
              refine lv_i2l hx hb dX9_told_98 rfl ?_
              refine lv_iload hx hb dX9_told_99 (lv_at hl 9 rfl) ?_
              refine ro_call (va_runS (As := [.long (Int32.toInt64 (p1 - p4)), .long (Int32.toInt64 (((((p0 + p1) + p2) - p3) - p4) - p5)), .int p7]) (rest := []) ⟨hx, hb, hml, hown, hts⟩ (c_X9_term l D cI cZ cR _ (Int32.toInt64 (p1 - p4)) (Int32.toInt64 (((((p0 + p1) + p2) - p3) - p4) - p5)) p7 (told_TM c_12 c_57).2.1) (va_cwS 3 hts gX9_told_X9_term rfl rfl rfl hd_X9_term ⟨(Nat.le_of_ble_eq_true rfl), (Nat.le_of_ble_eq_true rfl)⟩) (po_pre hAM va_P.nil) rfl rfl hl.1 rfl (lv_room (Nat.le_of_ble_eq_true rfl)) dX9_told_101 ⟨(Nat.le_of_ble_eq_true rfl), (Nat.le_of_ble_eq_true rfl)⟩) ?_
              exact w_lret hx hb hr hlocks hE dX9_told_104
          · have hE := itT hE c_66
            refine lv_iload_n hx hb dX9_told_69 rfl (lv_at hl 2 rfl) ?_
            refine lv_iload hx hb dX9_told_70 (lv_at hl 5 rfl) ?_
            refine lv_isub hx hb dX9_told_72 ?_
            refine lv_i2l hx hb dX9_told_73 rfl ?_
            refine lv_goto (tgt := 96) hx hb dX9_told_74 (by decide) ?_
            refine lv_iload hx hb dX9_told_96 (lv_at hl 0 rfl) ?_
            refine lv_i2l hx hb dX9_told_98 rfl ?_
            refine lv_iload hx hb dX9_told_99 (lv_at hl 9 rfl) ?_
            refine ro_call (va_runS (As := [.long (Int32.toInt64 (p0 - p3)), .long (Int32.toInt64 (((((p0 + p1) + p2) - p3) - p4) - p5)), .int p7]) (rest := []) ⟨hx, hb, hml, hown, hts⟩ (c_X9_term l D cI cZ cR _ (Int32.toInt64 (p0 - p3)) (Int32.toInt64 (((((p0 + p1) + p2) - p3) - p4) - p5)) p7 (told_TM c_12 c_57).1) (va_cwS 3 hts gX9_told_X9_term rfl rfl rfl hd_X9_term ⟨(Nat.le_of_ble_eq_true rfl), (Nat.le_of_ble_eq_true rfl)⟩) (po_pre hAM va_P.nil) rfl rfl hl.1 rfl (lv_room (Nat.le_of_ble_eq_true rfl)) dX9_told_101 ⟨(Nat.le_of_ble_eq_true rfl), (Nat.le_of_ble_eq_true rfl)⟩) ?_
            exact w_lret hx hb hr hlocks hE dX9_told_104
        · have hE := itT hE c_57
          refine lv_ldc2 hx hb hown (hts (.constantLong RX9 209 (-1000000000000000003)) (List.mem_of_getElem? (i := 2) rfl)) dX9_told_60 ?_
          exact w_lret hx hb hr hlocks hE dX9_told_63
      · have hE := itF hE c_32
        refine lv_ldc2 hx hb hown (hts (.constantLong RX9 187 (-1000000000000000002)) (List.mem_of_getElem? (i := 1) rfl)) dX9_told_35 ?_
        exact w_lret hx hb hr hlocks hE dX9_told_38

theorem hd_X9_forced : yX9_forced.cls ≠ "java/lang/invoke/MethodHandle" ∧ yX9_forced.cls ≠ "java/lang/invoke/VarHandle" ∧ (parseMethodDescriptor yX9_forced.desc).map (fun d => d.parameters.length) = some 6 := by decide +kernel
def x_X9_forced (p0 : Int32) (p1 : Int32) (p2 : Int32) (p3 : Int32) (p4 : Int32) (p5 : Int32) : Int32 := (if (x_X9_areSums p0 p1 p2 p3 p4 p5) = true then (if (p0 - p3) ≤ (p1 - p4) then (if (p2 - p5) ≤ (p1 - p4) then ((((((p0 + p1) + p2) - p3) - p4) - p5) - (p1 - p4)) else ((((((p0 + p1) + p2) - p3) - p4) - p5) - (p2 - p5))) else (if (p2 - p5) ≤ (p0 - p3) then ((((((p0 + p1) + p2) - p3) - p4) - p5) - (p0 - p3)) else ((((((p0 + p1) + p2) - p3) - p4) - p5) - (p2 - p5)))) else (-2))
def rm_X9_forced : Room := { frames := 2, cells := 0, slots := 0, locals := 48 }
set_option maxHeartbeats 4000000 in
set_option maxRecDepth 100000 in
theorem c_X9_forced (l : Launch) (D : va_G) (cI cZ cR : ClassId) (H0 : Heap) (o aS aH aG aR aV aA aB aO aP aF aC : Nat) (nd : Int32) (fs : Nat → Int32) (fh : Nat → Int32) (sg : Nat) (fg : Nat → Int32) (rq : Nat) (fq : Nat → Int32) (cl : Int32) (nr : Nat) (fV : Nat → Int32) (fA : Nat → Int32) (fB : Nat → Int32) (fO : Nat → Int32) (fP : Nat → Int32) (fF : Nat → Int32) (cn : Nat) (fC : Nat → Int32) (mx : Int32) (p0 : Int32) (p1 : Int32) (p2 : Int32) (p3 : Int32) (p4 : Int32) (p5 : Int32) : Met l yX9_forced wsX9_forced rm_X9_forced (po_P D cI cZ cR [.ref o, .int p0, .int p1, .int p2, .int p3, .int p4, .int p5] [(o, .inr (7, [.int nd, .ref aS, .ref aH, .int (nI sg), .ref aG, .int (nI rq), .ref aR, .int cl, .int (nI nr), .ref aV, .ref aA, .ref aB, .ref aO, .ref aP, .ref aF, .int (nI cn), .ref aC, .int mx])), (aS, .inl (cI, 3, .inl fs)), (aH, .inl (cI, 36, .inl fh)), (aG, .inl (cI, 40, .inl fg)), (aR, .inl (cI, 40, .inl fq)), (aV, .inl (cI, 30, .inl fV)), (aA, .inl (cI, 30, .inl fA)), (aB, .inl (cI, 30, .inl fB)), (aO, .inl (cI, 30, .inl fO)), (aP, .inl (cZ, 30, .inl fP)), (aF, .inl (cI, 120, .inl fF)), (aC, .inl (cI, 30, .inl fC))] H0) (po_Q (some (.int (x_X9_forced p0 p1 p2 p3 p4 p5))) H0) 0 0 nF := by
  refine Met.ofW (cc := cX9_forced) (maxL := 8) (ret := (some .int)) (by decide +kernel) rfl ?_
  intro p e s m args below meth c s₁ B hml hv
  obtain ⟨rfl, rfl, hAM, hP⟩ := hv
  have hx := B.exec
  have hb := B.bytes
  have hr := B.returns
  have hts := atoms_spec (ws := wsX9_forced) B.pre
  have hown : s.vm.findClass RX9 = some m.cls := findClass_of_methodNamed B.named
  have hlocks := B.notSynchronized
  have hK := hAM.1
  generalize hE : (x_X9_forced p0 p1 p2 p3 p4 p5) = Rv
  rw [x_X9_forced] at hE
  have hl := lv_entry ([.ref o, .int p0, .int p1, .int p2, .int p3, .int p4, .int p5]) (n := 8) (Nat.le_of_ble_eq_true rfl)
  rw [lg_entry_eq]
  generalize (lg_sl ([.ref o, .int p0, .int p1, .int p2, .int p3, .int p4, .int p5]) ++ List.replicate (8 - (lg_sl ([.ref o, .int p0, .int p1, .int p2, .int p3, .int p4, .int p5])).length) Slot.unset).toArray = ls at hl ⊢
  have hl : lv_has ls 8 [(0, .ref o), (1, .int p0), (2, .int p1), (3, .int p2), (4, .int p3), (5, .int p4), (6, .int p5)] := hl
  refine lv_iload_n hx hb dX9_forced_0 rfl (lv_at hl 1 rfl) ?_
  refine lv_iload_n hx hb dX9_forced_1 rfl (lv_at hl 2 rfl) ?_
  refine lv_iload_n hx hb dX9_forced_2 rfl (lv_at hl 3 rfl) ?_
  refine lv_iload hx hb dX9_forced_3 (lv_at hl 4 rfl) ?_
  refine lv_iload hx hb dX9_forced_5 (lv_at hl 5 rfl) ?_
  refine lv_iload hx hb dX9_forced_7 (lv_at hl 6 rfl) ?_
  refine ro_call (va_runS (As := [.int p0, .int p1, .int p2, .int p3, .int p4, .int p5]) (rest := []) ⟨hx, hb, hml, hown, hts⟩ (c_X9_areSums l D cI cZ cR _ p0 p1 p2 p3 p4 p5) (va_cwS 6 hts gX9_forced_X9_areSums rfl rfl rfl hd_X9_areSums ⟨(Nat.le_of_ble_eq_true rfl), (Nat.le_of_ble_eq_true rfl)⟩) (po_pre hAM va_P.nil) rfl rfl hl.1 rfl (lv_room (Nat.le_of_ble_eq_true rfl)) dX9_forced_9 ⟨(Nat.le_of_ble_eq_true rfl), (Nat.le_of_ble_eq_true rfl)⟩) ?_
  refine w_if_neb (tgt := 18) hx hb dX9_forced_12 (by decide) (fun c_12 => ?_) (fun c_12 => ?_)
  · have hE := itT hE c_12
    refine lv_iload_n hx hb dX9_forced_18 rfl (lv_at hl 1 rfl) ?_
    refine lv_iload hx hb dX9_forced_19 (lv_at hl 4 rfl) ?_
    refine lv_isub hx hb dX9_forced_21 ?_
    refine lv_iload_n hx hb dX9_forced_22 rfl (lv_at hl 2 rfl) ?_
    refine lv_iload hx hb dX9_forced_23 (lv_at hl 5 rfl) ?_
    refine lv_isub hx hb dX9_forced_25 ?_
    refine lv_icmp_le (tgt := 36) hx hb dX9_forced_26 (by decide) (fun c_26 => ?_) (fun c_26 => ?_)
    · have hE := itT hE c_26
      refine lv_iload_n hx hb dX9_forced_36 rfl (lv_at hl 2 rfl) ?_
      refine lv_iload hx hb dX9_forced_37 (lv_at hl 5 rfl) ?_
      refine lv_isub hx hb dX9_forced_39 ?_
      refine lv_istore (lv' := [(7, .int (p1 - p4)), (0, .ref o), (1, .int p0), (2, .int p1), (3, .int p2), (4, .int p3), (5, .int p4), (6, .int p5)]) hx hb dX9_forced_40 hl (by decide) rfl (fun ls hl => ?_)
      refine lv_iload_n hx hb dX9_forced_42 rfl (lv_at hl 4 rfl) ?_
      refine lv_iload hx hb dX9_forced_43 (lv_at hl 7 rfl) ?_
      refine lv_isub hx hb dX9_forced_45 ?_
      refine lv_iload hx hb dX9_forced_46 (lv_at hl 0 rfl) ?_
      refine lv_icmp_le (tgt := 58) hx hb dX9_forced_48 (by decide) (fun c_48 => ?_) (fun c_48 => ?_)
      · have hE := itT hE c_48
        refine lv_iload hx hb dX9_forced_58 (lv_at hl 0 rfl) ?_
        refine lv_istore (lv' := [(7, .int (p1 - p4)), (0, .ref o), (1, .int p0), (2, .int p1), (3, .int p2), (4, .int p3), (5, .int p4), (6, .int p5)]) hx hb dX9_forced_60 hl (by decide) rfl (fun ls hl => ?_)
        refine lv_iload_n hx hb dX9_forced_62 rfl (lv_at hl 2 rfl) ?_
        refine lv_iload_n hx hb dX9_forced_63 rfl (lv_at hl 3 rfl) ?_
        refine lv_iadd hx hb dX9_forced_64 ?_
        refine lv_iload_n hx hb dX9_forced_65 rfl (lv_at hl 4 rfl) ?_
        refine lv_iadd hx hb dX9_forced_66 ?_
        refine lv_iload hx hb dX9_forced_67 (lv_at hl 5 rfl) ?_
        refine lv_isub hx hb dX9_forced_69 ?_
        refine lv_iload hx hb dX9_forced_70 (lv_at hl 6 rfl) ?_
        refine lv_isub hx hb dX9_forced_72 ?_
        refine lv_iload hx hb dX9_forced_73 (lv_at hl 7 rfl) ?_
        refine lv_isub hx hb dX9_forced_75 ?_
        refine lv_iload hx hb dX9_forced_76 (lv_at hl 0 rfl) ?_
        refine lv_isub hx hb dX9_forced_78 ?_
        exact w_iret hx hb hr hlocks hE dX9_forced_79
      · have hE := itF hE c_48
        refine lv_iload_n hx hb dX9_forced_51 rfl (lv_at hl 4 rfl) ?_
        refine lv_iload hx hb dX9_forced_52 (lv_at hl 7 rfl) ?_
        refine lv_isub hx hb dX9_forced_54 ?_
        refine lv_goto (tgt := 60) hx hb dX9_forced_55 (by decide) ?_
        refine lv_istore (lv' := [(7, .int (p2 - p5)), (0, .ref o), (1, .int p0), (2, .int p1), (3, .int p2), (4, .int p3), (5, .int p4), (6, .int p5)]) hx hb dX9_forced_60 hl (by decide) rfl (fun ls hl => ?_)
        refine lv_iload_n hx hb dX9_forced_62 rfl (lv_at hl 2 rfl) ?_
        refine lv_iload_n hx hb dX9_forced_63 rfl (lv_at hl 3 rfl) ?_
        refine lv_iadd hx hb dX9_forced_64 ?_
        refine lv_iload_n hx hb dX9_forced_65 rfl (lv_at hl 4 rfl) ?_
        refine lv_iadd hx hb dX9_forced_66 ?_
        refine lv_iload hx hb dX9_forced_67 (lv_at hl 5 rfl) ?_
        refine lv_isub hx hb dX9_forced_69 ?_
        refine lv_iload hx hb dX9_forced_70 (lv_at hl 6 rfl) ?_
        refine lv_isub hx hb dX9_forced_72 ?_
        refine lv_iload hx hb dX9_forced_73 (lv_at hl 7 rfl) ?_
        refine lv_isub hx hb dX9_forced_75 ?_
        refine lv_iload hx hb dX9_forced_76 (lv_at hl 0 rfl) ?_
        refine lv_isub hx hb dX9_forced_78 ?_
        exact w_iret hx hb hr hlocks hE dX9_forced_79
    · have hE := itF hE c_26
      refine lv_iload_n hx hb dX9_forced_29 rfl (lv_at hl 1 rfl) ?_
      refine lv_iload hx hb dX9_forced_30 (lv_at hl 4 rfl) ?_
      refine lv_isub hx hb dX9_forced_32 ?_
      refine lv_goto (tgt := 40) hx hb dX9_forced_33 (by decide) ?_
      refine lv_istore (lv' := [(7, .int (p0 - p3)), (0, .ref o), (1, .int p0), (2, .int p1), (3, .int p2), (4, .int p3), (5, .int p4), (6, .int p5)]) hx hb dX9_forced_40 hl (by decide) rfl (fun ls hl => ?_)
      refine lv_iload_n hx hb dX9_forced_42 rfl (lv_at hl 4 rfl) ?_
      refine lv_iload hx hb dX9_forced_43 (lv_at hl 7 rfl) ?_
      refine lv_isub hx hb dX9_forced_45 ?_
      refine lv_iload hx hb dX9_forced_46 (lv_at hl 0 rfl) ?_
      refine lv_icmp_le (tgt := 58) hx hb dX9_forced_48 (by decide) (fun c_48 => ?_) (fun c_48 => ?_)
      · have hE := itT hE c_48
        refine lv_iload hx hb dX9_forced_58 (lv_at hl 0 rfl) ?_
        refine lv_istore (lv' := [(7, .int (p0 - p3)), (0, .ref o), (1, .int p0), (2, .int p1), (3, .int p2), (4, .int p3), (5, .int p4), (6, .int p5)]) hx hb dX9_forced_60 hl (by decide) rfl (fun ls hl => ?_)
        refine lv_iload_n hx hb dX9_forced_62 rfl (lv_at hl 2 rfl) ?_
        refine lv_iload_n hx hb dX9_forced_63 rfl (lv_at hl 3 rfl) ?_
        refine lv_iadd hx hb dX9_forced_64 ?_
        refine lv_iload_n hx hb dX9_forced_65 rfl (lv_at hl 4 rfl) ?_
        refine lv_iadd hx hb dX9_forced_66 ?_
        refine lv_iload hx hb dX9_forced_67 (lv_at hl 5 rfl) ?_
        refine lv_isub hx hb dX9_forced_69 ?_
        refine lv_iload hx hb dX9_forced_70 (lv_at hl 6 rfl) ?_
        refine lv_isub hx hb dX9_forced_72 ?_
        refine lv_iload hx hb dX9_forced_73 (lv_at hl 7 rfl) ?_
        refine lv_isub hx hb dX9_forced_75 ?_
        refine lv_iload hx hb dX9_forced_76 (lv_at hl 0 rfl) ?_
        refine lv_isub hx hb dX9_forced_78 ?_
        exact w_iret hx hb hr hlocks hE dX9_forced_79
      · have hE := itF hE c_48
        refine lv_iload_n hx hb dX9_forced_51 rfl (lv_at hl 4 rfl) ?_
        refine lv_iload hx hb dX9_forced_52 (lv_at hl 7 rfl) ?_
        refine lv_isub hx hb dX9_forced_54 ?_
        refine lv_goto (tgt := 60) hx hb dX9_forced_55 (by decide) ?_
        refine lv_istore (lv' := [(7, .int (p2 - p5)), (0, .ref o), (1, .int p0), (2, .int p1), (3, .int p2), (4, .int p3), (5, .int p4), (6, .int p5)]) hx hb dX9_forced_60 hl (by decide) rfl (fun ls hl => ?_)
        refine lv_iload_n hx hb dX9_forced_62 rfl (lv_at hl 2 rfl) ?_
        refine lv_iload_n hx hb dX9_forced_63 rfl (lv_at hl 3 rfl) ?_
        refine lv_iadd hx hb dX9_forced_64 ?_
        refine lv_iload_n hx hb dX9_forced_65 rfl (lv_at hl 4 rfl) ?_
        refine lv_iadd hx hb dX9_forced_66 ?_
        refine lv_iload hx hb dX9_forced_67 (lv_at hl 5 rfl) ?_
        refine lv_isub hx hb dX9_forced_69 ?_
        refine lv_iload hx hb dX9_forced_70 (lv_at hl 6 rfl) ?_
        refine lv_isub hx hb dX9_forced_72 ?_
        refine lv_iload hx hb dX9_forced_73 (lv_at hl 7 rfl) ?_
        refine lv_isub hx hb dX9_forced_75 ?_
        refine lv_iload hx hb dX9_forced_76 (lv_at hl 0 rfl) ?_
        refine lv_isub hx hb dX9_forced_78 ?_
        exact w_iret hx hb hr hlocks hE dX9_forced_79
  · have hE := itF hE c_12
    refine lv_bipush (v := (-2)) hx hb dX9_forced_15 (by decide +kernel) ?_
    exact w_iret hx hb hr hlocks hE dX9_forced_17
