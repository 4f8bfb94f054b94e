theorem ix_mono {x y : Int32} (h0 : ¬ x < 0) (h : x ≤ y) : ix x ≤ ix y := by
  have h1 : ¬ y < 0 := fun q => by
    rw [Int32.lt_iff_toInt_lt] at h0 q
    rw [Int32.le_iff_toInt_le] at h
    omega
  have e := nI_ix h0
  have e1 := nI_ix h1
  rw [e, e1] at h
  exact (nI_leI (ix_lt x) (ix_lt y)).mp h
theorem up_leK {v : Int32} {a K : Nat} (h : ∃ i : Nat, v = nI i ∧ a ≤ i ∧ i ≤ K) (hK : K ≤ 1000) : v ≤ nI 1000 := by
  obtain ⟨i, rfl, h1, h2⟩ := h
  exact nI_le (by omega) (by decide)
theorem up_subK {x v : Int32} {a K : Nat} (h0 : ¬ x < 0) (hx : x ≤ nI 1000) (h : ∃ i : Nat, v = nI i ∧ a ≤ i ∧ i ≤ K) (hK : K ≤ 1000) : x - v ≤ nI 1000 := by
  obtain ⟨i, rfl, h1, h2⟩ := h
  have e := nI_ix h0
  have hb := ix_le (by decide) hx
  rw [e, Int32.le_iff_toInt_le, pk_sub_toInt (by omega) (by omega), nI_toInt (by decide)]
  omega
theorem hd_X2_of : yX2_of.cls ≠ "java/lang/invoke/MethodHandle" ∧ yX2_of.cls ≠ "java/lang/invoke/VarHandle" ∧ (parseMethodDescriptor yX2_of.desc).map (fun d => d.parameters.length) = some 2 := by decide +kernel
def x_X2_of (p0 : Int32) (p1 : Int32) : Int32 := (x_X2_power p0 p1 10007)
def rm_X2_of : Room := { frames := 1, cells := 0, slots := 0, locals := 25 }
set_option maxHeartbeats 4000000 in
set_option maxRecDepth 100000 in
theorem c_X2_of (l : Launch) (D : va_G) (cI cZ cR : ClassId) (H0 : Heap) (p0 : Int32) (p1 : Int32) : Met l yX2_of wsX2_of rm_X2_of (po_P D cI cZ cR [.int p0, .int p1] [] H0) (po_Q (some (.int (x_X2_of p0 p1))) H0) 0 0 nF := by
  refine Met.ofW (cc := cX2_of) (maxL := 2) (ret := (some .int)) (by decide +kernel) rfl ?_
  intro p e s m args below meth c s₁ B hml hv
  obtain ⟨rfl, rfl, hAM, hP⟩ := hv
  have hx := B.exec
  have hb := B.bytes
  have hr := B.returns
  have hts := atoms_spec (ws := wsX2_of) B.pre
  have hown : s.vm.findClass RX2 = some m.cls := findClass_of_methodNamed B.named
  have hlocks := B.notSynchronized
  have hK := hAM.1
  generalize hE : (x_X2_of p0 p1) = Rv
  rw [x_X2_of] at hE
  have hl := lv_entry ([.int p0, .int p1]) (n := 2) (Nat.le_of_ble_eq_true rfl)
  rw [lg_entry_eq]
  generalize (lg_sl ([.int p0, .int p1]) ++ List.replicate (2 - (lg_sl ([.int p0, .int p1])).length) Slot.unset).toArray = ls at hl ⊢
  have hl : lv_has ls 2 [(0, .int p0), (1, .int p1)] := hl
  refine lv_iload_n hx hb dX2_of_0 rfl (lv_at hl 0 rfl) ?_
  refine lv_iload_n hx hb dX2_of_1 rfl (lv_at hl 1 rfl) ?_
  refine lv_sipush (v := 10007) hx hb dX2_of_2 (by decide +kernel) ?_
  refine ro_call (va_runS (As := [.int p0, .int p1, .int 10007]) (rest := []) ⟨hx, hb, hml, hown, hts⟩ (c_X2_power l D cI cZ cR _ p0 p1 10007) (va_cwS 3 hts gX2_of_X2_power rfl rfl rfl hd_X2_power ⟨(Nat.le_of_ble_eq_true rfl), (Nat.le_of_ble_eq_true rfl)⟩) (po_pre hAM va_P.nil) rfl rfl hl.1 rfl (lv_room (Nat.le_of_ble_eq_true rfl)) dX2_of_5 ⟨(Nat.le_of_ble_eq_true rfl), (Nat.le_of_ble_eq_true rfl)⟩) ?_
  exact w_iret hx hb hr hlocks hE dX2_of_8

theorem hd_X2_ofG : yX2_ofG.cls ≠ "java/lang/invoke/MethodHandle" ∧ yX2_ofG.cls ≠ "java/lang/invoke/VarHandle" ∧ (parseMethodDescriptor yX2_ofG.desc).map (fun d => d.parameters.length) = some 1 := by decide +kernel
def x_X2_ofG (p0 : Int32) : Int32 := (x_X2_power 4 p0 10007)
def rm_X2_ofG : Room := { frames := 1, cells := 0, slots := 0, locals := 25 }
set_option maxHeartbeats 4000000 in
set_option maxRecDepth 100000 in
theorem c_X2_ofG (l : Launch) (D : va_G) (cI cZ cR : ClassId) (H0 : Heap) (p0 : Int32) : Met l yX2_ofG wsX2_ofG rm_X2_ofG (po_P D cI cZ cR [.int p0] [] H0) (po_Q (some (.int (x_X2_ofG p0))) H0) 0 0 nF := by
  refine Met.ofW (cc := cX2_ofG) (maxL := 1) (ret := (some .int)) (by decide +kernel) rfl ?_
  intro p e s m args below meth c s₁ B hml hv
  obtain ⟨rfl, rfl, hAM, hP⟩ := hv
  have hx := B.exec
  have hb := B.bytes
  have hr := B.returns
  have hts := atoms_spec (ws := wsX2_ofG) B.pre
  have hown : s.vm.findClass RX2 = some m.cls := findClass_of_methodNamed B.named
  have hlocks := B.notSynchronized
  have hK := hAM.1
  generalize hE : (x_X2_ofG p0) = Rv
  rw [x_X2_ofG] at hE
  have hl := lv_entry ([.int p0]) (n := 1) (Nat.le_of_ble_eq_true rfl)
  rw [lg_entry_eq]
  generalize (lg_sl ([.int p0]) ++ List.replicate (1 - (lg_sl ([.int p0])).length) Slot.unset).toArray = ls at hl ⊢
  have hl : lv_has ls 1 [(0, .int p0)] := hl
  refine lv_iconst (v := 4) hx hb dX2_ofG_0 (by decide) ?_
  refine lv_iload_n hx hb dX2_ofG_1 rfl (lv_at hl 0 rfl) ?_
  refine lv_sipush (v := 10007) hx hb dX2_ofG_2 (by decide +kernel) ?_
  refine ro_call (va_runS (As := [.int 4, .int p0, .int 10007]) (rest := []) ⟨hx, hb, hml, hown, hts⟩ (c_X2_power l D cI cZ cR _ 4 p0 10007) (va_cwS 3 hts gX2_ofG_X2_power rfl rfl rfl hd_X2_power ⟨(Nat.le_of_ble_eq_true rfl), (Nat.le_of_ble_eq_true rfl)⟩) (po_pre hAM va_P.nil) rfl rfl hl.1 rfl (lv_room (Nat.le_of_ble_eq_true rfl)) dX2_ofG_5 ⟨(Nat.le_of_ble_eq_true rfl), (Nat.le_of_ble_eq_true rfl)⟩) ?_
  exact w_iret hx hb hr hlocks hE dX2_ofG_8

theorem hd_X2_inverse : yX2_inverse.cls ≠ "java/lang/invoke/MethodHandle" ∧ yX2_inverse.cls ≠ "java/lang/invoke/VarHandle" ∧ (parseMethodDescriptor yX2_inverse.desc).map (fun d => d.parameters.length) = some 2 := by decide +kernel
def x_X2_inverse (p0 : Int32) (p1 : Int32) : Int32 := (x_X2_power p0 (p1 - 2) p1)
def rm_X2_inverse : Room := { frames := 1, cells := 0, slots := 0, locals := 25 }
set_option maxHeartbeats 4000000 in
set_option maxRecDepth 100000 in
theorem c_X2_inverse (l : Launch) (D : va_G) (cI cZ cR : ClassId) (H0 : Heap) (p0 : Int32) (p1 : Int32) : Met l yX2_inverse wsX2_inverse rm_X2_inverse (po_P D cI cZ cR [.int p0, .int p1] [] H0) (po_Q (some (.int (x_X2_inverse p0 p1))) H0) 0 0 nF := by
  refine Met.ofW (cc := cX2_inverse) (maxL := 2) (ret := (some .int)) (by decide +kernel) rfl ?_
  intro p e s m args below meth c s₁ B hml hv
  obtain ⟨rfl, rfl, hAM, hP⟩ := hv
  have hx := B.exec
  have hb := B.bytes
  have hr := B.returns
  have hts := atoms_spec (ws := wsX2_inverse) B.pre
  have hown : s.vm.findClass RX2 = some m.cls := findClass_of_methodNamed B.named
  have hlocks := B.notSynchronized
  have hK := hAM.1
  generalize hE : (x_X2_inverse p0 p1) = Rv
  rw [x_X2_inverse] at hE
  have hl := lv_entry ([.int p0, .int p1]) (n := 2) (Nat.le_of_ble_eq_true rfl)
  rw [lg_entry_eq]
  generalize (lg_sl ([.int p0, .int p1]) ++ List.replicate (2 - (lg_sl ([.int p0, .int p1])).length) Slot.unset).toArray = ls at hl ⊢
  have hl : lv_has ls 2 [(0, .int p0), (1, .int p1)] := hl
  refine lv_iload_n hx hb dX2_inverse_0 rfl (lv_at hl 0 rfl) ?_
  refine lv_iload_n hx hb dX2_inverse_1 rfl (lv_at hl 1 rfl) ?_
  refine lv_iconst (v := 2) hx hb dX2_inverse_2 (by decide) ?_
  refine lv_isub hx hb dX2_inverse_3 ?_
  refine lv_iload_n hx hb dX2_inverse_4 rfl (lv_at hl 1 rfl) ?_
  refine ro_call (va_runS (As := [.int p0, .int (p1 - 2), .int p1]) (rest := []) ⟨hx, hb, hml, hown, hts⟩ (c_X2_power l D cI cZ cR _ p0 (p1 - 2) p1) (va_cwS 3 hts gX2_inverse_X2_power rfl rfl rfl hd_X2_power ⟨(Nat.le_of_ble_eq_true rfl), (Nat.le_of_ble_eq_true rfl)⟩) (po_pre hAM va_P.nil) rfl rfl hl.1 rfl (lv_room (Nat.le_of_ble_eq_true rfl)) dX2_inverse_5 ⟨(Nat.le_of_ble_eq_true rfl), (Nat.le_of_ble_eq_true rfl)⟩) ?_
  exact w_iret hx hb hr hlocks hE dX2_inverse_8

theorem hd_X2_divided : yX2_divided.cls ≠ "java/lang/invoke/MethodHandle" ∧ yX2_divided.cls ≠ "java/lang/invoke/VarHandle" ∧ (parseMethodDescriptor yX2_divided.desc).map (fun d => d.parameters.length) = some 2 := by decide +kernel
def x_X2_divided (p0 : Int32) (p1 : Int32) : Int32 := (xRem (p0 * (x_X2_inverse p1 10007)) 10007)
def rm_X2_divided : Room := { frames := 2, cells := 0, slots := 0, locals := 46 }
set_option maxHeartbeats 4000000 in
set_option maxRecDepth 100000 in
theorem c_X2_divided (l : Launch) (D : va_G) (cI cZ cR : ClassId) (H0 : Heap) (p0 : Int32) (p1 : Int32) : Met l yX2_divided wsX2_divided rm_X2_divided (po_P D cI cZ cR [.int p0, .int p1] [] H0) (po_Q (some (.int (x_X2_divided p0 p1))) H0) 0 0 nF := by
  refine Met.ofW (cc := cX2_divided) (maxL := 2) (ret := (some .int)) (by decide +kernel) rfl ?_
  intro p e s m args below meth c s₁ B hml hv
  obtain ⟨rfl, rfl, hAM, hP⟩ := hv
  have hx := B.exec
  have hb := B.bytes
  have hr := B.returns
  have hts := atoms_spec (ws := wsX2_divided) B.pre
  have hown : s.vm.findClass RX2 = some m.cls := findClass_of_methodNamed B.named
  have hlocks := B.notSynchronized
  have hK := hAM.1
  generalize hE : (x_X2_divided p0 p1) = Rv
  rw [x_X2_divided] at hE
  have hl := lv_entry ([.int p0, .int p1]) (n := 2) (Nat.le_of_ble_eq_true rfl)
  rw [lg_entry_eq]
  generalize (lg_sl ([.int p0, .int p1]) ++ List.replicate (2 - (lg_sl ([.int p0, .int p1])).length) Slot.unset).toArray = ls at hl ⊢
  have hl : lv_has ls 2 [(0, .int p0), (1, .int p1)] := hl
  refine lv_iload_n hx hb dX2_divided_0 rfl (lv_at hl 0 rfl) ?_
  refine lv_iload_n hx hb dX2_divided_1 rfl (lv_at hl 1 rfl) ?_
  refine lv_sipush (v := 10007) hx hb dX2_divided_2 (by decide +kernel) ?_
  refine ro_call (va_runS (As := [.int p1, .int 10007]) (rest := [.int p0]) ⟨hx, hb, hml, hown, hts⟩ (c_X2_inverse l D cI cZ cR _ p1 10007) (va_cwS 2 hts gX2_divided_X2_inverse rfl rfl rfl hd_X2_inverse ⟨(Nat.le_of_ble_eq_true rfl), (Nat.le_of_ble_eq_true rfl)⟩) (po_pre hAM va_P.nil) rfl rfl hl.1 rfl (lv_room (Nat.le_of_ble_eq_true rfl)) dX2_divided_5 ⟨(Nat.le_of_ble_eq_true rfl), (Nat.le_of_ble_eq_true rfl)⟩) ?_
  refine lv_imul hx hb dX2_divided_8 ?_
  refine lv_sipush (v := 10007) hx hb dX2_divided_9 (by decide +kernel) ?_
  refine w_irem hx hb dX2_divided_12 (by decide +kernel) ?_
  exact w_iret hx hb hr hlocks hE dX2_divided_13

theorem hd_X2_isRight : yX2_isRight.cls ≠ "java/lang/invoke/MethodHandle" ∧ yX2_isRight.cls ≠ "java/lang/invoke/VarHandle" ∧ (parseMethodDescriptor yX2_isRight.desc).map (fun d => d.parameters.length) = some 2 := by decide +kernel
def x_X2_isRight (p0 : Int32) (p1 : Int32) : Bool := (if (x_X8_isResidue p0) = true then (if (x_X8_isResidue p1) = true then (if (x_X2_of p0 5003) = 1 then (if (x_X2_of p1 5003) = 1 then true else false) else false) else false) else false)
def rm_X2_isRight : Room := { frames := 2, cells := 0, slots := 0, locals := 46 }
set_option maxHeartbeats 4000000 in
set_option maxRecDepth 100000 in
theorem c_X2_isRight (l : Launch) (D : va_G) (cI cZ cR : ClassId) (H0 : Heap) (p0 : Int32) (p1 : Int32) : Met l yX2_isRight wsX2_isRight rm_X2_isRight (po_P D cI cZ cR [.int p0, .int p1] [] H0) (po_Q (some (.int (bI (x_X2_isRight p0 p1)))) H0) 0 0 nF := by
  refine Met.ofW (cc := cX2_isRight) (maxL := 2) (ret := (some .boolean)) (by decide +kernel) rfl ?_
  intro p e s m args below meth c s₁ B hml hv
  obtain ⟨rfl, rfl, hAM, hP⟩ := hv
  have hx := B.exec
  have hb := B.bytes
  have hr := B.returns
  have hts := atoms_spec (ws := wsX2_isRight) B.pre
  have hown : s.vm.findClass RX2 = some m.cls := findClass_of_methodNamed B.named
  have hlocks := B.notSynchronized
  have hK := hAM.1
  generalize hE : (x_X2_isRight p0 p1) = Rv
  rw [x_X2_isRight] at hE
  have hl := lv_entry ([.int p0, .int p1]) (n := 2) (Nat.le_of_ble_eq_true rfl)
  rw [lg_entry_eq]
  generalize (lg_sl ([.int p0, .int p1]) ++ List.replicate (2 - (lg_sl ([.int p0, .int p1])).length) Slot.unset).toArray = ls at hl ⊢
  have hl : lv_has ls 2 [(0, .int p0), (1, .int p1)] := hl
  refine lv_iload_n hx hb dX2_isRight_0 rfl (lv_at hl 0 rfl) ?_
  refine ro_call (va_runSN (As := [.int p0]) (rest := []) ⟨hx, hb, hml, hown, hts⟩ (c_X8_isResidue l D cI cZ cR _ p0) ⟨va_cnB 1 hts gX2_isRight_X8_isResidue_n19 rfl rfl rfl hAM.2.2.1 (hts (.initialized RX8) (List.mem_of_getElem? (i := 2) rfl)) hd_X8_isResidue ⟨(Nat.le_of_ble_eq_true rfl), (Nat.le_of_ble_eq_true rfl)⟩, (hts (.static yX8_isResidue) (List.mem_of_getElem? (i := 1) rfl)), trivial⟩ (po_pre hAM va_P.nil) rfl rfl hl.1 rfl (lv_room (Nat.le_of_ble_eq_true rfl)) dX2_isRight_1 ⟨(Nat.le_of_ble_eq_true rfl), (Nat.le_of_ble_eq_true rfl)⟩) ?_
  refine w_if_eqb (tgt := 40) hx hb dX2_isRight_4 (by decide) (fun c_4 => ?_) (fun c_4 => ?_)
  · have hE := itF hE c_4
    refine lv_iconst (v := 0) hx hb dX2_isRight_40 (by decide) ?_
    exact w_zret (v := false) hx hb hr hlocks hE dX2_isRight_41
  · have hE := itT hE c_4
    refine lv_iload_n hx hb dX2_isRight_7 rfl (lv_at hl 1 rfl) ?_
    refine ro_call (va_runSN (As := [.int p1]) (rest := []) ⟨hx, hb, hml, hown, hts⟩ (c_X8_isResidue l D cI cZ cR _ p1) ⟨va_cnB 1 hts gX2_isRight_X8_isResidue_n19 rfl rfl rfl hAM.2.2.1 (hts (.initialized RX8) (List.mem_of_getElem? (i := 2) rfl)) hd_X8_isResidue ⟨(Nat.le_of_ble_eq_true rfl), (Nat.le_of_ble_eq_true rfl)⟩, (hts (.static yX8_isResidue) (List.mem_of_getElem? (i := 1) rfl)), trivial⟩ (po_pre hAM va_P.nil) rfl rfl hl.1 rfl (lv_room (Nat.le_of_ble_eq_true rfl)) dX2_isRight_8 ⟨(Nat.le_of_ble_eq_true rfl), (Nat.le_of_ble_eq_true rfl)⟩) ?_
    refine w_if_eqb (tgt := 40) hx hb dX2_isRight_11 (by decide) (fun c_11 => ?_) (fun c_11 => ?_)
    · have hE := itF hE c_11
      refine lv_iconst (v := 0) hx hb dX2_isRight_40 (by decide) ?_
      exact w_zret (v := false) hx hb hr hlocks hE dX2_isRight_41
    · have hE := itT hE c_11
      refine lv_iload_n hx hb dX2_isRight_14 rfl (lv_at hl 0 rfl) ?_
      refine lv_sipush (v := 5003) hx hb dX2_isRight_15 (by decide +kernel) ?_
      refine ro_call (va_runS (As := [.int p0, .int 5003]) (rest := []) ⟨hx, hb, hml, hown, hts⟩ (c_X2_of l D cI cZ cR _ p0 5003) (va_cwS 2 hts gX2_isRight_X2_of rfl rfl rfl hd_X2_of ⟨(Nat.le_of_ble_eq_true rfl), (Nat.le_of_ble_eq_true rfl)⟩) (po_pre hAM va_P.nil) rfl rfl hl.1 rfl (lv_room (Nat.le_of_ble_eq_true rfl)) dX2_isRight_18 ⟨(Nat.le_of_ble_eq_true rfl), (Nat.le_of_ble_eq_true rfl)⟩) ?_
      refine lv_iconst (v := 1) hx hb dX2_isRight_21 (by decide) ?_
      refine lv_icmp_ne (tgt := 40) hx hb dX2_isRight_22 (by decide) (fun c_22 => ?_) (fun c_22 => ?_)
      · have hE := itF hE c_22
        refine lv_iconst (v := 0) hx hb dX2_isRight_40 (by decide) ?_
        exact w_zret (v := false) hx hb hr hlocks hE dX2_isRight_41
      · have hE := itT hE c_22
        refine lv_iload_n hx hb dX2_isRight_25 rfl (lv_at hl 1 rfl) ?_
        refine lv_sipush (v := 5003) hx hb dX2_isRight_26 (by decide +kernel) ?_
        refine ro_call (va_runS (As := [.int p1, .int 5003]) (rest := []) ⟨hx, hb, hml, hown, hts⟩ (c_X2_of l D cI cZ cR _ p1 5003) (va_cwS 2 hts gX2_isRight_X2_of rfl rfl rfl hd_X2_of ⟨(Nat.le_of_ble_eq_true rfl), (Nat.le_of_ble_eq_true rfl)⟩) (po_pre hAM va_P.nil) rfl rfl hl.1 rfl (lv_room (Nat.le_of_ble_eq_true rfl)) dX2_isRight_29 ⟨(Nat.le_of_ble_eq_true rfl), (Nat.le_of_ble_eq_true rfl)⟩) ?_
        refine lv_iconst (v := 1) hx hb dX2_isRight_32 (by decide) ?_
        refine lv_icmp_ne (tgt := 40) hx hb dX2_isRight_33 (by decide) (fun c_33 => ?_) (fun c_33 => ?_)
        · have hE := itF hE c_33
          refine lv_iconst (v := 0) hx hb dX2_isRight_40 (by decide) ?_
          exact w_zret (v := false) hx hb hr hlocks hE dX2_isRight_41
        · have hE := itT hE c_33
          refine lv_iconst (v := 1) hx hb dX2_isRight_36 (by decide) ?_
          refine lv_goto (tgt := 41) hx hb dX2_isRight_37 (by decide) ?_
          exact w_zret (v := true) hx hb hr hlocks hE dX2_isRight_41

theorem hd_X2_exponentOf : yX2_exponentOf.cls ≠ "java/lang/invoke/MethodHandle" ∧ yX2_exponentOf.cls ≠ "java/lang/invoke/VarHandle" ∧ (parseMethodDescriptor yX2_exponentOf.desc).map (fun d => d.parameters.length) = some 1 := by decide +kernel
def x_X2_exponentOf_L4 (p0 : Int32) : Nat → Int32 → Int32 → Int32
  | 0, _, _ => 0
  | n + 1, v1, v2 => (if 200 < v2 then (-6) else (if v1 = p0 then v2 else (x_X2_exponentOf_L4 p0 n (xRem (v1 * 4) 10007) (v2 + 1))))
def x_X2_exponentOf (p0 : Int32) : Int32 := (x_X2_exponentOf_L4 p0 (202) 1 0)
def rm_X2_exponentOf : Room := { frames := 0, cells := 0, slots := 0, locals := 0 }
set_option maxHeartbeats 4000000 in
set_option maxRecDepth 100000 in
theorem c_X2_exponentOf (l : Launch) (D : va_G) (cI cZ cR : ClassId) (H0 : Heap) (p0 : Int32) : Met l yX2_exponentOf wsX2_exponentOf rm_X2_exponentOf (po_P D cI cZ cR [.int p0] [] H0) (po_Q (some (.int (x_X2_exponentOf p0))) H0) 0 0 nF := by
  refine Met.ofW (cc := cX2_exponentOf) (maxL := 3) (ret := (some .int)) (by decide +kernel) rfl ?_
  intro p e s m args below meth c s₁ B hml hv
  obtain ⟨rfl, rfl, hAM, hP⟩ := hv
  have hx := B.exec
  have hb := B.bytes
  have hr := B.returns
  have hts := atoms_spec (ws := wsX2_exponentOf) B.pre
  have hown : s.vm.findClass RX2 = some m.cls := findClass_of_methodNamed B.named
  have hlocks := B.notSynchronized
  have hK := hAM.1
  generalize hE : (x_X2_exponentOf p0) = Rv
  rw [x_X2_exponentOf] at hE
  have hl := lv_entry ([.int p0]) (n := 3) (Nat.le_of_ble_eq_true rfl)
  rw [lg_entry_eq]
  generalize (lg_sl ([.int p0]) ++ List.replicate (3 - (lg_sl ([.int p0])).length) Slot.unset).toArray = ls at hl ⊢
  have hl : lv_has ls 3 [(0, .int p0)] := hl
  refine lv_iconst (v := 1) hx hb dX2_exponentOf_0 (by decide) ?_
  refine lv_istore_n (lv' := [(1, .int 1), (0, .int p0)]) hx hb dX2_exponentOf_1 rfl hl (by decide) rfl (fun ls hl => ?_)
  refine lv_iconst (v := 0) hx hb dX2_exponentOf_2 (by decide) ?_
  refine lv_istore_n (lv' := [(2, .int 0), (1, .int 1), (0, .int p0)]) hx hb dX2_exponentOf_3 rfl hl (by decide) rfl (fun ls hl => ?_)
  suffices loop : ∀ (n : Nat) (v1 : Int32) (v2 : Int32), (UP 0 201 n v2) → x_X2_exponentOf_L4 p0 n v1 v2 = Rv → ∀ ls : Array Slot, lv_has ls 3 [(2, .int v2), (1, .int v1), (0, .int p0)] → W p l e (headSpec wsX2_exponentOf rm_X2_exponentOf).room s m ([.int p0] : List Value).toArray below meth c s.heap [] 0 0 (MQ below (po_Q (some (.int Rv)) s.heap) ([.int p0] : List Value).toArray s 0 0 nF) (F0 m 4 ls []) from
    loop (202) 1 0 (UP.start 0 (by omega) (by omega)) hE ls (lv_sub hl [0, 1, 2] rfl)
  clear hE hl ls
  intro n
  induction n with
  | zero =>
    intro v1 v2 hI _ _ _
    exact absurd hI (UP.zero)
  | succ n ih =>
    intro v1 v2 hI hE ls hl
    rw [x_X2_exponentOf_L4] at hE
    refine lv_iload_n hx hb dX2_exponentOf_4 rfl (lv_at hl 0 rfl) ?_
    refine lv_sipush (v := 200) hx hb dX2_exponentOf_5 (by decide +kernel) ?_
    refine lv_icmp_gt (tgt := 32) hx hb dX2_exponentOf_8 (by decide) (fun c_8 => ?_) (fun c_8 => ?_)
    · have hE := itT hE c_8
      refine lv_bipush (v := (-6)) hx hb dX2_exponentOf_32 (by decide +kernel) ?_
      exact w_iret hx hb hr hlocks hE dX2_exponentOf_34
    · have hE := itF hE c_8
      refine lv_iload_n hx hb dX2_exponentOf_11 rfl (lv_at hl 1 rfl) ?_
      refine lv_iload_n hx hb dX2_exponentOf_12 rfl (lv_at hl 2 rfl) ?_
      refine lv_icmp_ne (tgt := 18) hx hb dX2_exponentOf_13 (by decide) (fun c_13 => ?_) (fun c_13 => ?_)
      · have hE := itF hE c_13
        refine lv_iload_n hx hb dX2_exponentOf_18 rfl (lv_at hl 1 rfl) ?_
        refine lv_iconst (v := 4) hx hb dX2_exponentOf_19 (by decide) ?_
        refine lv_imul hx hb dX2_exponentOf_20 ?_
        refine lv_sipush (v := 10007) hx hb dX2_exponentOf_21 (by decide +kernel) ?_
        refine w_irem hx hb dX2_exponentOf_24 (by decide +kernel) ?_
        refine lv_istore_n (lv' := [(1, .int (xRem (v1 * 4) 10007)), (2, .int v2), (0, .int p0)]) hx hb dX2_exponentOf_25 rfl hl (by decide) rfl (fun ls hl => ?_)
        refine lv_iinc (v := (v2 + 1)) (lv' := [(2, .int (v2 + 1)), (1, .int (xRem (v1 * 4) 10007)), (0, .int p0)]) hx hb dX2_exponentOf_26 hl (k := 1) rfl rfl (by decide) rfl (fun ls hl => ?_)
        refine lv_goto (tgt := 4) hx hb dX2_exponentOf_29 (by decide) ?_
        exact ih (xRem (v1 * 4) 10007) (v2 + 1) ((hI.gt (by decide) rfl c_8).1) hE ls (lv_sub hl [0, 1, 2] rfl)
      · have hE := itT hE c_13
        refine lv_iload_n hx hb dX2_exponentOf_16 rfl (lv_at hl 0 rfl) ?_
        exact w_iret hx hb hr hlocks hE dX2_exponentOf_17

theorem hd_X0_part : yX0_part.cls ≠ "java/lang/invoke/MethodHandle" ∧ yX0_part.cls ≠ "java/lang/invoke/VarHandle" ∧ (parseMethodDescriptor yX0_part.desc).map (fun d => d.parameters.length) = some 1 := by decide +kernel
def x_X0_part (c0 : Int32) (c1 : Int32) (c2 : Int32) (p0 : Int32) : Int32 := (xRem ((c0 + (c1 * p0)) + ((c2 * p0) * p0)) 5003)
def rm_X0_part : Room := { frames := 0, cells := 0, slots := 0, locals := 0 }
theorem in_X0_part_X0 : ∀ w ∈ wsX00, w ∈ wsX0_part := fun _ h => List.mem_cons_of_mem _ (List.mem_append_right _ h)
set_option maxHeartbeats 4000000 in
set_option maxRecDepth 100000 in
theorem c_X0_part (l : Launch) (D : va_G) (cI cZ cR : ClassId) (H0 : Heap) (h0 : Nat) (need : Int32) (c0 : Int32) (c1 : Int32) (c2 : Int32) (hh : Int32) (p0 : Int32) : Met l yX0_part wsX0_part rm_X0_part (po_P D cI cZ cR [.ref h0, .int p0] [(h0, .inr (0, [.int need, .int c0, .int c1, .int c2, .int hh]))] H0) (po_Q (some (.int (x_X0_part c0 c1 c2 p0))) H0) 0 0 nF := by
  refine Met.ofW (cc := cX0_part) (maxL := 2) (ret := (some .int)) (by decide +kernel) rfl ?_
  intro p e s m args below meth c s₁ B hml hv
  obtain ⟨rfl, rfl, hAM, hP⟩ := hv
  have hx := B.exec
  have hb := B.bytes
  have hr := B.returns
  have hts := atoms_spec (ws := wsX0_part) B.pre
  have hown : s.vm.findClass RX0 = some m.cls := findClass_of_methodNamed B.named
  have hlocks := B.notSynchronized
  have hK := hAM.1
  generalize hE : (x_X0_part c0 c1 c2 p0) = Rv
  rw [x_X0_part] at hE
  have hl := lv_entry ([.ref h0, .int p0]) (n := 2) (Nat.le_of_ble_eq_true rfl)
  rw [lg_entry_eq]
  generalize (lg_sl ([.ref h0, .int p0]) ++ List.replicate (2 - (lg_sl ([.ref h0, .int p0])).length) Slot.unset).toArray = ls at hl ⊢
  have hl : lv_has ls 2 [(0, .ref h0), (1, .int p0)] := hl
  refine lv_aload_n hx hb dX0_part_0 rfl (lv_at hl 0 rfl) ?_
  refine va_get (D := D) (ci := 0) (v := .int c0) (C := RX0) (T := TX0) (N := 5) hx hb hts in_X0_part_X0 hown hK hP 0 rfl rfl 1 (by decide) (hts (.fieldLink RX0 15 "WallCount$Key" "c0" "I") (List.mem_of_getElem? (i := 1) rfl)) (fun _ h9 => h9) rfl dX0_part_1 ?_
  refine lv_aload_n hx hb dX0_part_4 rfl (lv_at hl 0 rfl) ?_
  refine va_get (D := D) (ci := 0) (v := .int c1) (C := RX0) (T := TX0) (N := 5) hx hb hts in_X0_part_X0 hown hK hP 0 rfl rfl 2 (by decide) (hts (.fieldLink RX0 18 "WallCount$Key" "c1" "I") (List.mem_of_getElem? (i := 2) rfl)) (fun _ h9 => h9) rfl dX0_part_5 ?_
  refine lv_iload_n hx hb dX0_part_8 rfl (lv_at hl 1 rfl) ?_
  refine lv_imul hx hb dX0_part_9 ?_
  refine lv_iadd hx hb dX0_part_10 ?_
  refine lv_aload_n hx hb dX0_part_11 rfl (lv_at hl 0 rfl) ?_
  refine va_get (D := D) (ci := 0) (v := .int c2) (C := RX0) (T := TX0) (N := 5) hx hb hts in_X0_part_X0 hown hK hP 0 rfl rfl 3 (by decide) (hts (.fieldLink RX0 21 "WallCount$Key" "c2" "I") (List.mem_of_getElem? (i := 3) rfl)) (fun _ h9 => h9) rfl dX0_part_12 ?_
  refine lv_iload_n hx hb dX0_part_15 rfl (lv_at hl 1 rfl) ?_
  refine lv_imul hx hb dX0_part_16 ?_
  refine lv_iload_n hx hb dX0_part_17 rfl (lv_at hl 1 rfl) ?_
  refine lv_imul hx hb dX0_part_18 ?_
  refine lv_iadd hx hb dX0_part_19 ?_
  refine lv_sipush (v := 5003) hx hb dX0_part_20 (by decide +kernel) ?_
  refine w_irem hx hb dX0_part_23 (by decide +kernel) ?_
  exact w_iret hx hb hr hlocks hE dX0_part_24

theorem hd_X0_need : yX0_need.cls ≠ "java/lang/invoke/MethodHandle" ∧ yX0_need.cls ≠ "java/lang/invoke/VarHandle" ∧ (parseMethodDescriptor yX0_need.desc).map (fun d => d.parameters.length) = some 0 := by decide +kernel
def x_X0_need (need : Int32) : Int32 := need
def rm_X0_need : Room := { frames := 0, cells := 0, slots := 0, locals := 0 }
theorem in_X0_need_X0 : ∀ w ∈ wsX00, w ∈ wsX0_need := fun _ h => List.mem_cons_of_mem _ (List.mem_append_right _ h)
set_option maxHeartbeats 4000000 in
set_option maxRecDepth 100000 in
theorem c_X0_need (l : Launch) (D : va_G) (cI cZ cR : ClassId) (H0 : Heap) (h0 : Nat) (need : Int32) (c0 : Int32) (c1 : Int32) (c2 : Int32) (hh : Int32) : Met l yX0_need wsX0_need rm_X0_need (po_P D cI cZ cR [.ref h0] [(h0, .inr (0, [.int need, .int c0, .int c1, .int c2, .int hh]))] H0) (po_Q (some (.int (x_X0_need need))) H0) 0 0 nF := by
  refine Met.ofW (cc := cX0_need) (maxL := 1) (ret := (some .int)) (by decide +kernel) rfl ?_
  intro p e s m args below meth c s₁ B hml hv
  obtain ⟨rfl, rfl, hAM, hP⟩ := hv
  have hx := B.exec
  have hb := B.bytes
  have hr := B.returns
  have hts := atoms_spec (ws := wsX0_need) B.pre
  have hown : s.vm.findClass RX0 = some m.cls := findClass_of_methodNamed B.named
  have hlocks := B.notSynchronized
  have hK := hAM.1
  generalize hE : (x_X0_need need) = Rv
  rw [x_X0_need] at hE
  have hl := lv_entry ([.ref h0]) (n := 1) (Nat.le_of_ble_eq_true rfl)
  rw [lg_entry_eq]
  generalize (lg_sl ([.ref h0]) ++ List.replicate (1 - (lg_sl ([.ref h0])).length) Slot.unset).toArray = ls at hl ⊢
  have hl : lv_has ls 1 [(0, .ref h0)] := hl
  refine lv_aload_n hx hb dX0_need_0 rfl (lv_at hl 0 rfl) ?_
  refine va_get (D := D) (ci := 0) (v := .int need) (C := RX0) (T := TX0) (N := 5) hx hb hts in_X0_need_X0 hown hK hP 0 rfl rfl 0 (by decide) (hts (.fieldLink RX0 9 "WallCount$Key" "need" "I") (List.mem_of_getElem? (i := 1) rfl)) (fun _ h9 => h9) rfl dX0_need_1 ?_
  exact w_iret hx hb hr hlocks hE dX0_need_4

theorem hd_X0_h : yX0_h.cls ≠ "java/lang/invoke/MethodHandle" ∧ yX0_h.cls ≠ "java/lang/invoke/VarHandle" ∧ (parseMethodDescriptor yX0_h.desc).map (fun d => d.parameters.length) = some 0 := by decide +kernel
def x_X0_h (hh : Int32) : Int32 := hh
def rm_X0_h : Room := { frames := 0, cells := 0, slots := 0, locals := 0 }
theorem in_X0_h_X0 : ∀ w ∈ wsX00, w ∈ wsX0_h := fun _ h => List.mem_cons_of_mem _ (List.mem_append_right _ h)
set_option maxHeartbeats 4000000 in
set_option maxRecDepth 100000 in
theorem c_X0_h (l : Launch) (D : va_G) (cI cZ cR : ClassId) (H0 : Heap) (h0 : Nat) (need : Int32) (c0 : Int32) (c1 : Int32) (c2 : Int32) (hh : Int32) : Met l yX0_h wsX0_h rm_X0_h (po_P D cI cZ cR [.ref h0] [(h0, .inr (0, [.int need, .int c0, .int c1, .int c2, .int hh]))] H0) (po_Q (some (.int (x_X0_h hh))) H0) 0 0 nF := by
  refine Met.ofW (cc := cX0_h) (maxL := 1) (ret := (some .int)) (by decide +kernel) rfl ?_
  intro p e s m args below meth c s₁ B hml hv
  obtain ⟨rfl, rfl, hAM, hP⟩ := hv
  have hx := B.exec
  have hb := B.bytes
  have hr := B.returns
  have hts := atoms_spec (ws := wsX0_h) B.pre
  have hown : s.vm.findClass RX0 = some m.cls := findClass_of_methodNamed B.named
  have hlocks := B.notSynchronized
  have hK := hAM.1
  generalize hE : (x_X0_h hh) = Rv
  rw [x_X0_h] at hE
  have hl := lv_entry ([.ref h0]) (n := 1) (Nat.le_of_ble_eq_true rfl)
  rw [lg_entry_eq]
  generalize (lg_sl ([.ref h0]) ++ List.replicate (1 - (lg_sl ([.ref h0])).length) Slot.unset).toArray = ls at hl ⊢
  have hl : lv_has ls 1 [(0, .ref h0)] := hl
  refine lv_aload_n hx hb dX0_h_0 rfl (lv_at hl 0 rfl) ?_
  refine va_get (D := D) (ci := 0) (v := .int hh) (C := RX0) (T := TX0) (N := 5) hx hb hts in_X0_h_X0 hown hK hP 0 rfl rfl 4 (by decide) (hts (.fieldLink RX0 24 "WallCount$Key" "h" "I") (List.mem_of_getElem? (i := 1) rfl)) (fun _ h9 => h9) rfl dX0_h_1 ?_
  exact w_iret hx hb hr hlocks hE dX0_h_4

theorem hd_X0_sealedB : yX0_sealedB.cls ≠ "java/lang/invoke/MethodHandle" ∧ yX0_sealedB.cls ≠ "java/lang/invoke/VarHandle" ∧ (parseMethodDescriptor yX0_sealedB.desc).map (fun d => d.parameters.length) = some 2 := by decide +kernel
def x_X0_sealedB (hh : Int32) (p0 : Int32) (p1 : Int32) : Int32 := (xRem ((x_X2_of hh p1) * (x_X2_ofG p0)) 10007)
def rm_X0_sealedB : Room := { frames := 2, cells := 0, slots := 0, locals := 46 }
theorem in_X0_sealedB_X0 : ∀ w ∈ wsX00, w ∈ wsX0_sealedB := fun _ h => List.mem_cons_of_mem _ (List.mem_append_right _ h)
set_option maxHeartbeats 4000000 in
set_option maxRecDepth 100000 in
theorem c_X0_sealedB (l : Launch) (D : va_G) (cI cZ cR : ClassId) (H0 : Heap) (h0 : Nat) (need : Int32) (c0 : Int32) (c1 : Int32) (c2 : Int32) (hh : Int32) (p0 : Int32) (p1 : Int32) : Met l yX0_sealedB wsX0_sealedB rm_X0_sealedB (po_P D cI cZ cR [.ref h0, .int p0, .int p1] [(h0, .inr (0, [.int need, .int c0, .int c1, .int c2, .int hh]))] H0) (po_Q (some (.int (x_X0_sealedB hh p0 p1))) H0) 0 0 nF := by
  refine Met.ofW (cc := cX0_sealedB) (maxL := 3) (ret := (some .int)) (by decide +kernel) rfl ?_
  intro p e s m args below meth c s₁ B hml hv
  obtain ⟨rfl, rfl, hAM, hP⟩ := hv
  have hx := B.exec
  have hb := B.bytes
  have hr := B.returns
  have hts := atoms_spec (ws := wsX0_sealedB) B.pre
  have hown : s.vm.findClass RX0 = some m.cls := findClass_of_methodNamed B.named
  have hlocks := B.notSynchronized
  have hK := hAM.1
  generalize hE : (x_X0_sealedB hh p0 p1) = Rv
  rw [x_X0_sealedB] at hE
  have hl := lv_entry ([.ref h0, .int p0, .int p1]) (n := 3) (Nat.le_of_ble_eq_true rfl)
  rw [lg_entry_eq]
  generalize (lg_sl ([.ref h0, .int p0, .int p1]) ++ List.replicate (3 - (lg_sl ([.ref h0, .int p0, .int p1])).length) Slot.unset).toArray = ls at hl ⊢
  have hl : lv_has ls 3 [(0, .ref h0), (1, .int p0), (2, .int p1)] := hl
  refine lv_aload_n hx hb dX0_sealedB_0 rfl (lv_at hl 0 rfl) ?_
  refine va_get (D := D) (ci := 0) (v := .int hh) (C := RX0) (T := TX0) (N := 5) hx hb hts in_X0_sealedB_X0 hown hK hP 0 rfl rfl 4 (by decide) (hts (.fieldLink RX0 24 "WallCount$Key" "h" "I") (List.mem_of_getElem? (i := 1) rfl)) (fun _ h9 => h9) rfl dX0_sealedB_1 ?_
  refine lv_iload_n hx hb dX0_sealedB_4 rfl (lv_at hl 2 rfl) ?_
  refine ro_call (va_runS (As := [.int hh, .int p1]) (rest := []) ⟨hx, hb, hml, hown, hts⟩ (c_X2_of l D cI cZ cR _ hh p1) (va_cwS 2 hts gX0_sealedB_X2_of rfl rfl rfl hd_X2_of ⟨(Nat.le_of_ble_eq_true rfl), (Nat.le_of_ble_eq_true rfl)⟩) (po_pre hAM va_P.nil) rfl rfl hl.1 rfl (lv_room (Nat.le_of_ble_eq_true rfl)) dX0_sealedB_5 ⟨(Nat.le_of_ble_eq_true rfl), (Nat.le_of_ble_eq_true rfl)⟩) ?_
  refine lv_iload_n hx hb dX0_sealedB_8 rfl (lv_at hl 1 rfl) ?_
  refine ro_call (va_runS (As := [.int p0]) (rest := [.int (x_X2_of hh p1)]) ⟨hx, hb, hml, hown, hts⟩ (c_X2_ofG l D cI cZ cR _ p0) (va_cwS 1 hts gX0_sealedB_X2_ofG rfl rfl rfl hd_X2_ofG ⟨(Nat.le_of_ble_eq_true rfl), (Nat.le_of_ble_eq_true rfl)⟩) (po_pre hAM va_P.nil) rfl rfl hl.1 rfl (lv_room (Nat.le_of_ble_eq_true rfl)) dX0_sealedB_9 ⟨(Nat.le_of_ble_eq_true rfl), (Nat.le_of_ble_eq_true rfl)⟩) ?_
  refine lv_imul hx hb dX0_sealedB_12 ?_
  refine lv_sipush (v := 10007) hx hb dX0_sealedB_13 (by decide +kernel) ?_
  refine w_irem hx hb dX0_sealedB_16 (by decide +kernel) ?_
  exact w_iret hx hb hr hlocks hE dX0_sealedB_17

theorem hd_X0_share : yX0_share.cls ≠ "java/lang/invoke/MethodHandle" ∧ yX0_share.cls ≠ "java/lang/invoke/VarHandle" ∧ (parseMethodDescriptor yX0_share.desc).map (fun d => d.parameters.length) = some 2 := by decide +kernel
def x_X0_share (c0 : Int32) (c1 : Int32) (c2 : Int32) (p0 : Int32) (p1 : Int32) : Int32 := (x_X2_of p1 (x_X0_part c0 c1 c2 p0))
def rm_X0_share : Room := { frames := 2, cells := 0, slots := 0, locals := 46 }
theorem in_X0_share_X0 : ∀ w ∈ wsX00, w ∈ wsX0_share := fun _ h => List.mem_cons_of_mem _ (List.mem_append_right _ h)
set_option maxHeartbeats 4000000 in
set_option maxRecDepth 100000 in
theorem c_X0_share (l : Launch) (D : va_G) (cI cZ cR : ClassId) (H0 : Heap) (h0 : Nat) (need : Int32) (c0 : Int32) (c1 : Int32) (c2 : Int32) (hh : Int32) (p0 : Int32) (p1 : Int32) : Met l yX0_share wsX0_share rm_X0_share (po_P D cI cZ cR [.ref h0, .int p0, .int p1] [(h0, .inr (0, [.int need, .int c0, .int c1, .int c2, .int hh]))] H0) (po_Q (some (.int (x_X0_share c0 c1 c2 p0 p1))) H0) 0 0 nF := by
  refine Met.ofW (cc := cX0_share) (maxL := 3) (ret := (some .int)) (by decide +kernel) rfl ?_
  intro p e s m args below meth c s₁ B hml hv
  obtain ⟨rfl, rfl, hAM, hP⟩ := hv
  have hx := B.exec
  have hb := B.bytes
  have hr := B.returns
  have hts := atoms_spec (ws := wsX0_share) B.pre
  have hown : s.vm.findClass RX0 = some m.cls := findClass_of_methodNamed B.named
  have hlocks := B.notSynchronized
  have hK := hAM.1
  generalize hE : (x_X0_share c0 c1 c2 p0 p1) = Rv
  rw [x_X0_share] at hE
  have hl := lv_entry ([.ref h0, .int p0, .int p1]) (n := 3) (Nat.le_of_ble_eq_true rfl)
  rw [lg_entry_eq]
  generalize (lg_sl ([.ref h0, .int p0, .int p1]) ++ List.replicate (3 - (lg_sl ([.ref h0, .int p0, .int p1])).length) Slot.unset).toArray = ls at hl ⊢
  have hl : lv_has ls 3 [(0, .ref h0), (1, .int p0), (2, .int p1)] := hl
  refine lv_iload_n hx hb dX0_share_0 rfl (lv_at hl 2 rfl) ?_
  refine lv_aload_n hx hb dX0_share_1 rfl (lv_at hl 0 rfl) ?_
  refine lv_iload_n hx hb dX0_share_2 rfl (lv_at hl 1 rfl) ?_
  refine ro_call (va_runV (As := [.int p0]) (rest := [.int p1]) ⟨hx, hb, hml, hown, hts⟩ (c_X0_part l D cI cZ cR _ h0 need c0 c1 c2 hh p0) (cwV 1 hts gX0_share_X0_part rfl rfl rfl ⟨rfl, hd_X0_part⟩ ⟨(Nat.le_of_ble_eq_true rfl), (Nat.le_of_ble_eq_true rfl)⟩) (po_preV hAM (hP.sub [0] rfl) (va_recv hK hP (ci := 0) (q0 := 0) rfl rfl)) rfl rfl hl.1 rfl (lv_room (Nat.le_of_ble_eq_true rfl)) dX0_share_3 ⟨(Nat.le_of_ble_eq_true rfl), (Nat.le_of_ble_eq_true rfl)⟩) ?_
  refine ro_call (va_runS (As := [.int p1, .int (x_X0_part c0 c1 c2 p0)]) (rest := []) ⟨hx, hb, hml, hown, hts⟩ (c_X2_of l D cI cZ cR _ p1 (x_X0_part c0 c1 c2 p0)) (va_cwS 2 hts gX0_share_X2_of rfl rfl rfl hd_X2_of ⟨(Nat.le_of_ble_eq_true rfl), (Nat.le_of_ble_eq_true rfl)⟩) (po_pre hAM va_P.nil) rfl rfl hl.1 rfl (lv_room (Nat.le_of_ble_eq_true rfl)) dX0_share_6 ⟨(Nat.le_of_ble_eq_true rfl), (Nat.le_of_ble_eq_true rfl)⟩) ?_
  exact w_iret hx hb hr hlocks hE dX0_share_9

theorem hd_X0_weightIn : yX0_weightIn.cls ≠ "java/lang/invoke/MethodHandle" ∧ yX0_weightIn.cls ≠ "java/lang/invoke/VarHandle" ∧ (parseMethodDescriptor yX0_weightIn.desc).map (fun d => d.parameters.length) = some 2 := by decide +kernel
def x_X0_weightIn_L4 (p0 : Int32) (p1 : Int32) : Nat → Int32 → Int32 → Int32
  | 0, _, _ => 0
  | n + 1, v2, v3 => (if 5 < v3 then v2 else (if v3 = p0 then (x_X0_weightIn_L4 p0 p1 n v2 (v3 + 1)) else (if (x_X8_isIn v3 p1) = true then (x_X0_weightIn_L4 p0 p1 n (xRem ((xRem (v2 * v3) 5003) * (x_X2_inverse ((v3 - p0) + 5003) 5003)) 5003) (v3 + 1)) else (x_X0_weightIn_L4 p0 p1 n v2 (v3 + 1)))))
def x_X0_weightIn (p0 : Int32) (p1 : Int32) : Int32 := (x_X0_weightIn_L4 p0 p1 (7) 1 1)
def rm_X0_weightIn : Room := { frames := 2, cells := 0, slots := 0, locals := 46 }
set_option maxHeartbeats 4000000 in
set_option maxRecDepth 100000 in
theorem c_X0_weightIn (l : Launch) (D : va_G) (cI cZ cR : ClassId) (H0 : Heap) (p0 : Int32) (p1 : Int32) : Met l yX0_weightIn wsX0_weightIn rm_X0_weightIn (po_P D cI cZ cR [.int p0, .int p1] [] H0) (po_Q (some (.int (x_X0_weightIn p0 p1))) H0) 0 0 nF := by
  refine Met.ofW (cc := cX0_weightIn) (maxL := 4) (ret := (some .int)) (by decide +kernel) rfl ?_
  intro p e s m args below meth c s₁ B hml hv
  obtain ⟨rfl, rfl, hAM, hP⟩ := hv
  have hx := B.exec
  have hb := B.bytes
  have hr := B.returns
  have hts := atoms_spec (ws := wsX0_weightIn) B.pre
  have hown : s.vm.findClass RX0 = some m.cls := findClass_of_methodNamed B.named
  have hlocks := B.notSynchronized
  have hK := hAM.1
  generalize hE : (x_X0_weightIn p0 p1) = Rv
  rw [x_X0_weightIn] at hE
  have hl := lv_entry ([.int p0, .int p1]) (n := 4) (Nat.le_of_ble_eq_true rfl)
  rw [lg_entry_eq]
  generalize (lg_sl ([.int p0, .int p1]) ++ List.replicate (4 - (lg_sl ([.int p0, .int p1])).length) Slot.unset).toArray = ls at hl ⊢
  have hl : lv_has ls 4 [(0, .int p0), (1, .int p1)] := hl
  refine lv_iconst (v := 1) hx hb dX0_weightIn_0 (by decide) ?_
  refine lv_istore_n (lv' := [(2, .int 1), (0, .int p0), (1, .int p1)]) hx hb dX0_weightIn_1 rfl hl (by decide) rfl (fun ls hl => ?_)
  refine lv_iconst (v := 1) hx hb dX0_weightIn_2 (by decide) ?_
  refine lv_istore_n (lv' := [(3, .int 1), (2, .int 1), (0, .int p0), (1, .int p1)]) hx hb dX0_weightIn_3 rfl hl (by decide) rfl (fun ls hl => ?_)
  suffices loop : ∀ (n : Nat) (v2 : Int32) (v3 : Int32), (UP 1 6 n v3) → x_X0_weightIn_L4 p0 p1 n v2 v3 = Rv → ∀ ls : Array Slot, lv_has ls 4 [(3, .int v3), (2, .int v2), (0, .int p0), (1, .int p1)] → W p l e (headSpec wsX0_weightIn rm_X0_weightIn).room s m ([.int p0, .int p1] : List Value).toArray below meth c s.heap [] 0 0 (MQ below (po_Q (some (.int Rv)) s.heap) ([.int p0, .int p1] : List Value).toArray s 0 0 nF) (F0 m 4 ls []) from
    loop (7) 1 1 (UP.start 1 (by omega) (by omega)) hE ls (lv_sub hl [0, 1, 2, 3] rfl)
  clear hE hl ls
  intro n
  induction n with
  | zero =>
    intro v2 v3 hI _ _ _
    exact absurd hI (UP.zero)
  | succ n ih =>
    intro v2 v3 hI hE ls hl
    rw [x_X0_weightIn_L4] at hE
    refine lv_iload_n hx hb dX0_weightIn_4 rfl (lv_at hl 0 rfl) ?_
    refine lv_iconst (v := 5) hx hb dX0_weightIn_5 (by decide) ?_
    refine lv_icmp_gt (tgt := 54) hx hb dX0_weightIn_6 (by decide) (fun c_6 => ?_) (fun c_6 => ?_)
    · have hE := itT hE c_6
      refine lv_iload_n hx hb dX0_weightIn_54 rfl (lv_at hl 1 rfl) ?_
      exact w_iret hx hb hr hlocks hE dX0_weightIn_55
    · have hE := itF hE c_6
      refine lv_iload_n hx hb dX0_weightIn_9 rfl (lv_at hl 0 rfl) ?_
      refine lv_iload_n hx hb dX0_weightIn_10 rfl (lv_at hl 2 rfl) ?_
      refine lv_icmp_eq (tgt := 48) hx hb dX0_weightIn_11 (by decide) (fun c_11 => ?_) (fun c_11 => ?_)
      · have hE := itT hE c_11
        refine lv_iinc (v := (v3 + 1)) (lv' := [(3, .int (v3 + 1)), (2, .int v2), (0, .int p0), (1, .int p1)]) hx hb dX0_weightIn_48 hl (k := 0) rfl rfl (by decide) rfl (fun ls hl => ?_)
        refine lv_goto (tgt := 4) hx hb dX0_weightIn_51 (by decide) ?_
        exact ih v2 (v3 + 1) ((hI.gt (by decide) rfl c_6).1) hE ls (lv_sub hl [0, 1, 2, 3] rfl)
      · have hE := itF hE c_11
        refine lv_iload_n hx hb dX0_weightIn_14 rfl (lv_at hl 0 rfl) ?_
        refine lv_iload_n hx hb dX0_weightIn_15 rfl (lv_at hl 3 rfl) ?_
        refine ro_call (va_runSN (As := [.int v3, .int p1]) (rest := []) ⟨hx, hb, hml, hown, hts⟩ (c_X8_isIn l D cI cZ cR _ v3 p1) ⟨va_cnB 2 hts gX0_weightIn_X8_isIn_n40 rfl rfl rfl hAM.2.2.2.1 (hts (.initialized RX8) (List.mem_of_getElem? (i := 2) rfl)) hd_X8_isIn ⟨(Nat.le_of_ble_eq_true rfl), (Nat.le_of_ble_eq_true rfl)⟩, (hts (.static yX8_isIn) (List.mem_of_getElem? (i := 1) rfl)), trivial⟩ (po_pre hAM va_P.nil) rfl rfl hl.1 rfl (lv_room (Nat.le_of_ble_eq_true rfl)) dX0_weightIn_16 ⟨(Nat.le_of_ble_eq_true rfl), (Nat.le_of_ble_eq_true rfl)⟩) ?_
        refine w_if_eqb (tgt := 48) hx hb dX0_weightIn_19 (by decide) (fun c_19 => ?_) (fun c_19 => ?_)
        · have hE := itF hE c_19
          refine lv_iinc (v := (v3 + 1)) (lv' := [(3, .int (v3 + 1)), (2, .int v2), (0, .int p0), (1, .int p1)]) hx hb dX0_weightIn_48 hl (k := 0) rfl rfl (by decide) rfl (fun ls hl => ?_)
          refine lv_goto (tgt := 4) hx hb dX0_weightIn_51 (by decide) ?_
          exact ih v2 (v3 + 1) ((hI.gt (by decide) rfl c_6).1) hE ls (lv_sub hl [0, 1, 2, 3] rfl)
        · have hE := itT hE c_19
          refine lv_iload_n hx hb dX0_weightIn_22 rfl (lv_at hl 1 rfl) ?_
          refine lv_iload_n hx hb dX0_weightIn_23 rfl (lv_at hl 0 rfl) ?_
          refine lv_imul hx hb dX0_weightIn_24 ?_
          refine lv_sipush (v := 5003) hx hb dX0_weightIn_25 (by decide +kernel) ?_
          refine w_irem hx hb dX0_weightIn_28 (by decide +kernel) ?_
          refine lv_iload_n hx hb dX0_weightIn_29 rfl (lv_at hl 0 rfl) ?_
          refine lv_iload_n hx hb dX0_weightIn_30 rfl (lv_at hl 2 rfl) ?_
          refine lv_isub hx hb dX0_weightIn_31 ?_
          refine lv_sipush (v := 5003) hx hb dX0_weightIn_32 (by decide +kernel) ?_
          refine lv_iadd hx hb dX0_weightIn_35 ?_
          refine lv_sipush (v := 5003) hx hb dX0_weightIn_36 (by decide +kernel) ?_
          refine ro_call (va_runS (As := [.int ((v3 - p0) + 5003), .int 5003]) (rest := [.int (xRem (v2 * v3) 5003)]) ⟨hx, hb, hml, hown, hts⟩ (c_X2_inverse l D cI cZ cR _ ((v3 - p0) + 5003) 5003) (va_cwS 2 hts gX0_weightIn_X2_inverse rfl rfl rfl hd_X2_inverse ⟨(Nat.le_of_ble_eq_true rfl), (Nat.le_of_ble_eq_true rfl)⟩) (po_pre hAM va_P.nil) rfl rfl hl.1 rfl (lv_room (Nat.le_of_ble_eq_true rfl)) dX0_weightIn_39 ⟨(Nat.le_of_ble_eq_true rfl), (Nat.le_of_ble_eq_true rfl)⟩) ?_
          refine lv_imul hx hb dX0_weightIn_42 ?_
          refine lv_sipush (v := 5003) hx hb dX0_weightIn_43 (by decide +kernel) ?_
          refine w_irem hx hb dX0_weightIn_46 (by decide +kernel) ?_
          refine lv_istore_n (lv' := [(2, .int (xRem ((xRem (v2 * v3) 5003) * (x_X2_inverse ((v3 - p0) + 5003) 5003)) 5003)), (3, .int v3), (0, .int p0), (1, .int p1)]) hx hb dX0_weightIn_47 rfl hl (by decide) rfl (fun ls hl => ?_)
          refine lv_iinc (v := (v3 + 1)) (lv' := [(3, .int (v3 + 1)), (2, .int (xRem ((xRem (v2 * v3) 5003) * (x_X2_inverse ((v3 - p0) + 5003) 5003)) 5003)), (0, .int p0), (1, .int p1)]) hx hb dX0_weightIn_48 hl (k := 1) rfl rfl (by decide) rfl (fun ls hl => ?_)
          refine lv_goto (tgt := 4) hx hb dX0_weightIn_51 (by decide) ?_
          exact ih (xRem ((xRem (v2 * v3) 5003) * (x_X2_inverse ((v3 - p0) + 5003) 5003)) 5003) (v3 + 1) ((hI.gt (by decide) rfl c_6).1) hE ls (lv_sub hl [0, 1, 2, 3] rfl)

theorem hd_X0_unsealed : yX0_unsealed.cls ≠ "java/lang/invoke/MethodHandle" ∧ yX0_unsealed.cls ≠ "java/lang/invoke/VarHandle" ∧ (parseMethodDescriptor yX0_unsealed.desc).map (fun d => d.parameters.length) = some 3 := by decide +kernel
def x_X0_unsealed_L6 (c0 : Int32) (c1 : Int32) (c2 : Int32) (p0 : Int32) (p1 : Int32) (p2 : Int32) : Nat → Int32 → Int32 → Int32
  | 0, _, _ => 0
  | n + 1, v4, v5 => (if 5 < v5 then (x_X2_divided p1 v4) else (if (x_X8_isIn v5 p2) = true then (x_X0_unsealed_L6 c0 c1 c2 p0 p1 p2 n (xRem (v4 * (x_X2_of (x_X0_share c0 c1 c2 v5 p0) (x_X0_weightIn v5 p2))) 10007) (v5 + 1)) else (x_X0_unsealed_L6 c0 c1 c2 p0 p1 p2 n v4 (v5 + 1))))
def x_X0_unsealed (c0 : Int32) (c1 : Int32) (c2 : Int32) (p0 : Int32) (p1 : Int32) (p2 : Int32) : Int32 := (x_X0_unsealed_L6 c0 c1 c2 p0 p1 p2 (7) 1 1)
def rm_X0_unsealed : Room := { frames := 3, cells := 0, slots := 0, locals := 69 }
theorem in_X0_unsealed_X0 : ∀ w ∈ wsX00, w ∈ wsX0_unsealed := fun _ h => List.mem_cons_of_mem _ (List.mem_append_right _ h)
set_option maxHeartbeats 4000000 in
set_option maxRecDepth 100000 in
theorem c_X0_unsealed (l : Launch) (D : va_G) (cI cZ cR : ClassId) (H0 : Heap) (h0 : Nat) (need : Int32) (c0 : Int32) (c1 : Int32) (c2 : Int32) (hh : Int32) (p0 : Int32) (p1 : Int32) (p2 : Int32) : Met l yX0_unsealed wsX0_unsealed rm_X0_unsealed (po_P D cI cZ cR [.ref h0, .int p0, .int p1, .int p2] [(h0, .inr (0, [.int need, .int c0, .int c1, .int c2, .int hh]))] H0) (po_Q (some (.int (x_X0_unsealed c0 c1 c2 p0 p1 p2))) H0) 0 0 nF := by
  refine Met.ofW (cc := cX0_unsealed) (maxL := 6) (ret := (some .int)) (by decide +kernel) rfl ?_
  intro p e s m args below meth c s₁ B hml hv
  obtain ⟨rfl, rfl, hAM, hP⟩ := hv
  have hx := B.exec
  have hb := B.bytes
  have hr := B.returns
  have hts := atoms_spec (ws := wsX0_unsealed) B.pre
  have hown : s.vm.findClass RX0 = some m.cls := findClass_of_methodNamed B.named
  have hlocks := B.notSynchronized
  have hK := hAM.1
  generalize hE : (x_X0_unsealed c0 c1 c2 p0 p1 p2) = Rv
  rw [x_X0_unsealed] at hE
  have hl := lv_entry ([.ref h0, .int p0, .int p1, .int p2]) (n := 6) (Nat.le_of_ble_eq_true rfl)
  rw [lg_entry_eq]
  generalize (lg_sl ([.ref h0, .int p0, .int p1, .int p2]) ++ List.replicate (6 - (lg_sl ([.ref h0, .int p0, .int p1, .int p2])).length) Slot.unset).toArray = ls at hl ⊢
  have hl : lv_has ls 6 [(0, .ref h0), (1, .int p0), (2, .int p1), (3, .int p2)] := hl
  refine lv_iconst (v := 1) hx hb dX0_unsealed_0 (by decide) ?_
  refine lv_istore (lv' := [(4, .int 1), (0, .ref h0), (1, .int p0), (2, .int p1), (3, .int p2)]) hx hb dX0_unsealed_1 hl (by decide) rfl (fun ls hl => ?_)
  refine lv_iconst (v := 1) hx hb dX0_unsealed_3 (by decide) ?_
  refine lv_istore (lv' := [(5, .int 1), (4, .int 1), (0, .ref h0), (1, .int p0), (2, .int p1), (3, .int p2)]) hx hb dX0_unsealed_4 hl (by decide) rfl (fun ls hl => ?_)
  suffices loop : ∀ (n : Nat) (v4 : Int32) (v5 : Int32), (UP 1 6 n v5) → x_X0_unsealed_L6 c0 c1 c2 p0 p1 p2 n v4 v5 = Rv → ∀ ls : Array Slot, lv_has ls 6 [(5, .int v5), (4, .int v4), (0, .ref h0), (1, .int p0), (2, .int p1), (3, .int p2)] → W p l e (headSpec wsX0_unsealed rm_X0_unsealed).room s m ([.ref h0, .int p0, .int p1, .int p2] : List Value).toArray below meth c s.heap [] 0 0 (MQ below (po_Q (some (.int Rv)) s.heap) ([.ref h0, .int p0, .int p1, .int p2] : List Value).toArray s 0 0 nF) (F0 m 6 ls []) from
    loop (7) 1 1 (UP.start 1 (by omega) (by omega)) hE ls (lv_sub hl [0, 1, 2, 3, 4, 5] rfl)
  clear hE hl ls
  intro n
  induction n with
  | zero =>
    intro v4 v5 hI _ _ _
    exact absurd hI (UP.zero)
  | succ n ih =>
    intro v4 v5 hI hE ls hl
    rw [x_X0_unsealed_L6] at hE
    refine lv_iload hx hb dX0_unsealed_6 (lv_at hl 0 rfl) ?_
    refine lv_iconst (v := 5) hx hb dX0_unsealed_8 (by decide) ?_
    refine lv_icmp_gt (tgt := 52) hx hb dX0_unsealed_9 (by decide) (fun c_9 => ?_) (fun c_9 => ?_)
    · have hE := itT hE c_9
      refine lv_iload_n hx hb dX0_unsealed_52 rfl (lv_at hl 4 rfl) ?_
      refine lv_iload hx hb dX0_unsealed_53 (lv_at hl 1 rfl) ?_
      refine ro_call (va_runS (As := [.int p1, .int v4]) (rest := []) ⟨hx, hb, hml, hown, hts⟩ (c_X2_divided l D cI cZ cR _ p1 v4) (va_cwS 2 hts gX0_unsealed_X2_divided rfl rfl rfl hd_X2_divided ⟨(Nat.le_of_ble_eq_true rfl), (Nat.le_of_ble_eq_true rfl)⟩) (po_pre hAM va_P.nil) rfl rfl hl.1 rfl (lv_room (Nat.le_of_ble_eq_true rfl)) dX0_unsealed_55 ⟨(Nat.le_of_ble_eq_true rfl), (Nat.le_of_ble_eq_true rfl)⟩) ?_
      exact w_iret hx hb hr hlocks hE dX0_unsealed_58
    · have hE := itF hE c_9
      refine lv_iload hx hb dX0_unsealed_12 (lv_at hl 0 rfl) ?_
      refine lv_iload_n hx hb dX0_unsealed_14 rfl (lv_at hl 5 rfl) ?_
      refine ro_call (va_runSN (As := [.int v5, .int p2]) (rest := []) ⟨hx, hb, hml, hown, hts⟩ (c_X8_isIn l D cI cZ cR _ v5 p2) ⟨va_cnB 2 hts gX0_unsealed_X8_isIn_n40 rfl rfl rfl hAM.2.2.2.1 (hts (.initialized RX8) (List.mem_of_getElem? (i := 2) rfl)) hd_X8_isIn ⟨(Nat.le_of_ble_eq_true rfl), (Nat.le_of_ble_eq_true rfl)⟩, (hts (.static yX8_isIn) (List.mem_of_getElem? (i := 1) rfl)), trivial⟩ (po_pre hAM va_P.nil) rfl rfl hl.1 rfl (lv_room (Nat.le_of_ble_eq_true rfl)) dX0_unsealed_15 ⟨(Nat.le_of_ble_eq_true rfl), (Nat.le_of_ble_eq_true rfl)⟩) ?_
      refine w_if_eqb (tgt := 46) hx hb dX0_unsealed_18 (by decide) (fun c_18 => ?_) (fun c_18 => ?_)
      · have hE := itF hE c_18
        refine lv_iinc (v := (v5 + 1)) (lv' := [(5, .int (v5 + 1)), (4, .int v4), (0, .ref h0), (1, .int p0), (2, .int p1), (3, .int p2)]) hx hb dX0_unsealed_46 hl (k := 0) rfl rfl (by decide) rfl (fun ls hl => ?_)
        refine lv_goto (tgt := 6) hx hb dX0_unsealed_49 (by decide) ?_
        exact ih v4 (v5 + 1) ((hI.gt (by decide) rfl c_9).1) hE ls (lv_sub hl [0, 1, 2, 3, 4, 5] rfl)
      · have hE := itT hE c_18
        refine lv_iload hx hb dX0_unsealed_21 (lv_at hl 1 rfl) ?_
        refine lv_aload_n hx hb dX0_unsealed_23 rfl (lv_at hl 2 rfl) ?_
        refine lv_iload hx hb dX0_unsealed_24 (lv_at hl 0 rfl) ?_
        refine lv_iload_n hx hb dX0_unsealed_26 rfl (lv_at hl 3 rfl) ?_
        refine ro_call (va_runV (As := [.int v5, .int p0]) (rest := [.int v4]) ⟨hx, hb, hml, hown, hts⟩ (c_X0_share l D cI cZ cR _ h0 need c0 c1 c2 hh v5 p0) (cwV 2 hts gX0_unsealed_X0_share rfl rfl rfl ⟨rfl, hd_X0_share⟩ ⟨(Nat.le_of_ble_eq_true rfl), (Nat.le_of_ble_eq_true rfl)⟩) (po_preV hAM (hP.sub [0] rfl) (va_recv hK hP (ci := 0) (q0 := 0) rfl rfl)) rfl rfl hl.1 rfl (lv_room (Nat.le_of_ble_eq_true rfl)) dX0_unsealed_27 ⟨(Nat.le_of_ble_eq_true rfl), (Nat.le_of_ble_eq_true rfl)⟩) ?_
        refine lv_iload hx hb dX0_unsealed_30 (lv_at hl 0 rfl) ?_
        refine lv_iload_n hx hb dX0_unsealed_32 rfl (lv_at hl 5 rfl) ?_
        refine ro_call (va_runS (As := [.int v5, .int p2]) (rest := [.int (x_X0_share c0 c1 c2 v5 p0), .int v4]) ⟨hx, hb, hml, hown, hts⟩ (c_X0_weightIn l D cI cZ cR _ v5 p2) (va_cwS 2 hts gX0_unsealed_X0_weightIn rfl rfl rfl hd_X0_weightIn ⟨(Nat.le_of_ble_eq_true rfl), (Nat.le_of_ble_eq_true rfl)⟩) (po_pre hAM va_P.nil) rfl rfl hl.1 rfl (lv_room (Nat.le_of_ble_eq_true rfl)) dX0_unsealed_33 ⟨(Nat.le_of_ble_eq_true rfl), (Nat.le_of_ble_eq_true rfl)⟩) ?_
        refine ro_call (va_runS (As := [.int (x_X0_share c0 c1 c2 v5 p0), .int (x_X0_weightIn v5 p2)]) (rest := [.int v4]) ⟨hx, hb, hml, hown, hts⟩ (c_X2_of l D cI cZ cR _ (x_X0_share c0 c1 c2 v5 p0) (x_X0_weightIn v5 p2)) (va_cwS 2 hts gX0_unsealed_X2_of rfl rfl rfl hd_X2_of ⟨(Nat.le_of_ble_eq_true rfl), (Nat.le_of_ble_eq_true rfl)⟩) (po_pre hAM va_P.nil) rfl rfl hl.1 rfl (lv_room (Nat.le_of_ble_eq_true rfl)) dX0_unsealed_36 ⟨(Nat.le_of_ble_eq_true rfl), (Nat.le_of_ble_eq_true rfl)⟩) ?_
        refine lv_imul hx hb dX0_unsealed_39 ?_
        refine lv_sipush (v := 10007) hx hb dX0_unsealed_40 (by decide +kernel) ?_
        refine w_irem hx hb dX0_unsealed_43 (by decide +kernel) ?_
        refine lv_istore (lv' := [(4, .int (xRem (v4 * (x_X2_of (x_X0_share c0 c1 c2 v5 p0) (x_X0_weightIn v5 p2))) 10007)), (5, .int v5), (0, .ref h0), (1, .int p0), (2, .int p1), (3, .int p2)]) hx hb dX0_unsealed_44 hl (by decide) rfl (fun ls hl => ?_)
        refine lv_iinc (v := (v5 + 1)) (lv' := [(5, .int (v5 + 1)), (4, .int (xRem (v4 * (x_X2_of (x_X0_share c0 c1 c2 v5 p0) (x_X0_weightIn v5 p2))) 10007)), (0, .ref h0), (1, .int p0), (2, .int p1), (3, .int p2)]) hx hb dX0_unsealed_46 hl (k := 1) rfl rfl (by decide) rfl (fun ls hl => ?_)
        refine lv_goto (tgt := 6) hx hb dX0_unsealed_49 (by decide) ?_
        exact ih (xRem (v4 * (x_X2_of (x_X0_share c0 c1 c2 v5 p0) (x_X0_weightIn v5 p2))) 10007) (v5 + 1) ((hI.gt (by decide) rfl c_9).1) hE ls (lv_sub hl [0, 1, 2, 3, 4, 5] rfl)

theorem hd_X1_choose : yX1_choose.cls ≠ "java/lang/invoke/MethodHandle" ∧ yX1_choose.cls ≠ "java/lang/invoke/VarHandle" ∧ (parseMethodDescriptor yX1_choose.desc).map (fun d => d.parameters.length) = some 2 := by decide +kernel
def x_X1_choose_L16 (p0 : Int32) (p1 : Int32) : Nat → Int64 → Int32 → Int64
  | 0, _, _ => 0
  | n + 1, v2, v4 => (if p1 < v4 then v2 else (x_X1_choose_L16 p0 p1 n ((v2 * (Int32.toInt64 ((p0 - p1) + v4))) / (Int32.toInt64 v4)) (v4 + 1)))
def x_X1_choose (p0 : Int32) (p1 : Int32) : Int64 := (if p1 < 0 then 0 else (if p1 ≤ p0 then (x_X1_choose_L16 p0 p1 (ix p1 + 2) 1 1) else 0))
def rm_X1_choose : Room := { frames := 0, cells := 0, slots := 0, locals := 0 }
set_option maxHeartbeats 4000000 in
set_option maxRecDepth 100000 in
theorem c_X1_choose (l : Launch) (D : va_G) (cI cZ cR : ClassId) (H0 : Heap) (p0 : Int32) (p1 : Int32) (hk : p1 ≤ nI 1000) : Met l yX1_choose wsX1_choose rm_X1_choose (po_P D cI cZ cR [.int p0, .int p1] [] H0) (po_Q (some (.long (x_X1_choose p0 p1))) H0) 0 0 nF := by
  refine Met.ofW (cc := cX1_choose) (maxL := 5) (ret := (some .long)) (by decide +kernel) rfl ?_
  intro p e s m args below meth c s₁ B hml hv
  obtain ⟨rfl, rfl, hAM, hP⟩ := hv
  have hx := B.exec
  have hb := B.bytes
  have hr := B.returns
  have hts := atoms_spec (ws := wsX1_choose) B.pre
  have hown : s.vm.findClass RX1 = some m.cls := findClass_of_methodNamed B.named
  have hlocks := B.notSynchronized
  have hK := hAM.1
  generalize hE : (x_X1_choose p0 p1) = Rv
  rw [x_X1_choose] at hE
  have hl := lv_entry ([.int p0, .int p1]) (n := 5) (Nat.le_of_ble_eq_true rfl)
  rw [lg_entry_eq]
  generalize (lg_sl ([.int p0, .int p1]) ++ List.replicate (5 - (lg_sl ([.int p0, .int p1])).length) Slot.unset).toArray = ls at hl ⊢
  have hl : lv_has ls 5 [(0, .int p0), (1, .int p1)] := hl
  refine lv_iload_n hx hb dX1_choose_0 rfl (lv_at hl 1 rfl) ?_
  refine lv_if_lt (tgt := 9) hx hb dX1_choose_1 (by decide) (fun c_1 => ?_) (fun c_1 => ?_)
  · have hE := itT hE c_1
    refine lv_lconst (v := 0) hx hb dX1_choose_9 (by decide +kernel) ?_
    exact w_lret hx hb hr hlocks hE dX1_choose_10
  · have hE := itF hE c_1
    refine lv_iload_n hx hb dX1_choose_4 rfl (lv_at hl 1 rfl) ?_
    refine lv_iload_n hx hb dX1_choose_5 rfl (lv_at hl 0 rfl) ?_
    refine lv_icmp_le (tgt := 11) hx hb dX1_choose_6 (by decide) (fun c_6 => ?_) (fun c_6 => ?_)
    · have hE := itT hE c_6
      refine lv_lconst (v := 1) hx hb dX1_choose_11 (by decide +kernel) ?_
      refine lv_lstore_n (lv' := [(2, .long 1), (0, .int p0), (1, .int p1)]) hx hb dX1_choose_12 rfl hl (by decide) rfl (fun ls hl => ?_)
      refine lv_iconst (v := 1) hx hb dX1_choose_13 (by decide) ?_
      refine lv_istore (lv' := [(4, .int 1), (2, .long 1), (0, .int p0), (1, .int p1)]) hx hb dX1_choose_14 hl (by decide) rfl (fun ls hl => ?_)
      suffices loop : ∀ (n : Nat) (v2 : Int64) (v4 : Int32), (UP 1 (ix p1 + 1) n v4) → x_X1_choose_L16 p0 p1 n v2 v4 = Rv → ∀ ls : Array Slot, lv_has ls 5 [(4, .int v4), (2, .long v2), (0, .int p0), (1, .int p1)] → W p l e (headSpec wsX1_choose rm_X1_choose).room s m ([.int p0, .int p1] : List Value).toArray below meth c s.heap [] 0 0 (MQ below (po_Q (some (.long Rv)) s.heap) ([.int p0, .int p1] : List Value).toArray s 0 0 nF) (F0 m 16 ls []) from
        loop (ix p1 + 2) 1 1 (UP.start 1 (by omega) (by omega)) hE ls (lv_sub hl [0, 1, 2, 3] rfl)
      have hk2 := nI_ix c_1
      have hk1 : ix p1 + 1 < 2 ^ 31 := by have h9 := ix_le (by decide) hk; omega
      clear hE hl ls
      intro n
      induction n with
      | zero =>
        intro v2 v4 hI _ _ _
        exact absurd hI (UP.zero)
      | succ n ih =>
        intro v2 v4 hI hE ls hl
        rw [x_X1_choose_L16] at hE
        refine lv_iload hx hb dX1_choose_16 (lv_at hl 0 rfl) ?_
        refine lv_iload_n hx hb dX1_choose_18 rfl (lv_at hl 3 rfl) ?_
        refine lv_icmp_gt (tgt := 42) hx hb dX1_choose_19 (by decide) (fun c_19 => ?_) (fun c_19 => ?_)
        · have hE := itT hE c_19
          refine lv_lload_n hx hb dX1_choose_42 rfl (lv_at hl 1 rfl) ?_
          exact w_lret hx hb hr hlocks hE dX1_choose_43
        · have hE := itF hE c_19
          refine lv_lload_n hx hb dX1_choose_22 rfl (lv_at hl 1 rfl) ?_
          refine lv_iload_n hx hb dX1_choose_23 rfl (lv_at hl 2 rfl) ?_
          refine lv_iload_n hx hb dX1_choose_24 rfl (lv_at hl 3 rfl) ?_
          refine lv_isub hx hb dX1_choose_25 ?_
          refine lv_iload hx hb dX1_choose_26 (lv_at hl 0 rfl) ?_
          refine lv_iadd hx hb dX1_choose_28 ?_
          refine lv_i2l hx hb dX1_choose_29 rfl ?_
          refine lv_lmul hx hb dX1_choose_30 ?_
          refine lv_iload hx hb dX1_choose_31 (lv_at hl 0 rfl) ?_
          refine lv_i2l hx hb dX1_choose_33 rfl ?_
          refine lv_ldiv hx hb dX1_choose_34 (up_neL (hI.gt hk1 hk2 c_19).2 (by decide) (by omega)) ?_
          refine lv_lstore_n (lv' := [(2, .long ((v2 * (Int32.toInt64 ((p0 - p1) + v4))) / (Int32.toInt64 v4))), (4, .int v4), (0, .int p0), (1, .int p1)]) hx hb dX1_choose_35 rfl hl (by decide) rfl (fun ls hl => ?_)
          refine lv_iinc (v := (v4 + 1)) (lv' := [(4, .int (v4 + 1)), (2, .long ((v2 * (Int32.toInt64 ((p0 - p1) + v4))) / (Int32.toInt64 v4))), (0, .int p0), (1, .int p1)]) hx hb dX1_choose_36 hl (k := 1) rfl rfl (by decide) rfl (fun ls hl => ?_)
          refine lv_goto (tgt := 16) hx hb dX1_choose_39 (by decide) ?_
          exact ih ((v2 * (Int32.toInt64 ((p0 - p1) + v4))) / (Int32.toInt64 v4)) (v4 + 1) ((hI.gt hk1 hk2 c_19).1) hE ls (lv_sub hl [0, 1, 2, 3] rfl)
    · have hE := itF hE c_6
      refine lv_lconst (v := 0) hx hb dX1_choose_9 (by decide +kernel) ?_
      exact w_lret hx hb hr hlocks hE dX1_choose_10

theorem hd_X1_waysForOne : yX1_waysForOne.cls ≠ "java/lang/invoke/MethodHandle" ∧ yX1_waysForOne.cls ≠ "java/lang/invoke/VarHandle" ∧ (parseMethodDescriptor yX1_waysForOne.desc).map (fun d => d.parameters.length) = some 3 := by decide +kernel
def x_X1_waysForOne_L5 (p0 : Int32) (p1 : Int32) (p2 : Int32) : Nat → Int64 → Int32 → Int64
  | 0, _, _ => 0
  | n + 1, v3, v5 => (if p1 < v5 then v3 else (x_X1_waysForOne_L5 p0 p1 p2 n (v3 + ((x_X1_choose (x_X1_forOne p0) v5) * (x_X1_choose (p0 / 2) (p1 - v5)))) (v5 + 1)))
def x_X1_waysForOne (p0 : Int32) (p1 : Int32) (p2 : Int32) : Int64 := (x_X1_waysForOne_L5 p0 p1 p2 (ix p1 + 2) 0 p2)
def rm_X1_waysForOne : Room := { frames := 1, cells := 0, slots := 0, locals := 24 }
set_option maxHeartbeats 4000000 in
set_option maxRecDepth 100000 in
theorem c_X1_waysForOne (l : Launch) (D : va_G) (cI cZ cR : ClassId) (H0 : Heap) (p0 : Int32) (p1 : Int32) (p2 : Int32) (h1 : ¬ p1 < 0) (h2 : p1 ≤ nI 1000) (h3 : ¬ p2 < 0) (h4 : p2 ≤ p1) : Met l yX1_waysForOne wsX1_waysForOne rm_X1_waysForOne (po_P D cI cZ cR [.int p0, .int p1, .int p2] [] H0) (po_Q (some (.long (x_X1_waysForOne p0 p1 p2))) H0) 0 0 nF := by
  refine Met.ofW (cc := cX1_waysForOne) (maxL := 6) (ret := (some .long)) (by decide +kernel) rfl ?_
  intro p e s m args below meth c s₁ B hml hv
  obtain ⟨rfl, rfl, hAM, hP⟩ := hv
  have hx := B.exec
  have hb := B.bytes
  have hr := B.returns
  have hts := atoms_spec (ws := wsX1_waysForOne) B.pre
  have hown : s.vm.findClass RX1 = some m.cls := findClass_of_methodNamed B.named
  have hlocks := B.notSynchronized
  have hK := hAM.1
  generalize hE : (x_X1_waysForOne p0 p1 p2) = Rv
  rw [x_X1_waysForOne] at hE
  have hl := lv_entry ([.int p0, .int p1, .int p2]) (n := 6) (Nat.le_of_ble_eq_true rfl)
  rw [lg_entry_eq]
  generalize (lg_sl ([.int p0, .int p1, .int p2]) ++ List.replicate (6 - (lg_sl ([.int p0, .int p1, .int p2])).length) Slot.unset).toArray = ls at hl ⊢
  have hl : lv_has ls 6 [(0, .int p0), (1, .int p1), (2, .int p2)] := hl
  refine lv_lconst (v := 0) hx hb dX1_waysForOne_0 (by decide +kernel) ?_
  refine lv_lstore_n (lv' := [(3, .long 0), (0, .int p0), (1, .int p1), (2, .int p2)]) hx hb dX1_waysForOne_1 rfl hl (by decide) rfl (fun ls hl => ?_)
  refine lv_iload_n hx hb dX1_waysForOne_2 rfl (lv_at hl 3 rfl) ?_
  refine lv_istore (lv' := [(5, .int p2), (3, .long 0), (0, .int p0), (1, .int p1), (2, .int p2)]) hx hb dX1_waysForOne_3 hl (by decide) rfl (fun ls hl => ?_)
  suffices loop : ∀ (n : Nat) (v3 : Int64) (v5 : Int32), (UP 0 (ix p1 + 1) n v5) → x_X1_waysForOne_L5 p0 p1 p2 n v3 v5 = Rv → ∀ ls : Array Slot, lv_has ls 6 [(5, .int v5), (3, .long v3), (0, .int p0), (1, .int p1), (2, .int p2)] → W p l e (headSpec wsX1_waysForOne rm_X1_waysForOne).room s m ([.int p0, .int p1, .int p2] : List Value).toArray below meth c s.heap [] 0 0 (MQ below (po_Q (some (.long Rv)) s.heap) ([.int p0, .int p1, .int p2] : List Value).toArray s 0 0 nF) (F0 m 5 ls []) from
    loop (ix p1 + 2) 0 p2 (UP.startx h3 (by omega) (by have h9 := ix_mono h3 h4; omega)) hE ls (lv_sub hl [0, 1, 2, 3, 4] rfl)
  have hk2 := nI_ix h1
  have hk0 := ix_le (by decide) h2
  have hk1 : ix p1 + 1 < 2 ^ 31 := by omega
  clear hE hl ls
  intro n
  induction n with
  | zero =>
    intro v3 v5 hI _ _ _
    exact absurd hI (UP.zero)
  | succ n ih =>
    intro v3 v5 hI hE ls hl
    rw [x_X1_waysForOne_L5] at hE
    refine lv_iload hx hb dX1_waysForOne_5 (lv_at hl 0 rfl) ?_
    refine lv_iload_n hx hb dX1_waysForOne_7 rfl (lv_at hl 3 rfl) ?_
    refine lv_icmp_gt (tgt := 40) hx hb dX1_waysForOne_8 (by decide) (fun c_8 => ?_) (fun c_8 => ?_)
    · have hE := itT hE c_8
      refine lv_lload_n hx hb dX1_waysForOne_40 rfl (lv_at hl 1 rfl) ?_
      exact w_lret hx hb hr hlocks hE dX1_waysForOne_41
    · have hE := itF hE c_8
      refine lv_lload_n hx hb dX1_waysForOne_11 rfl (lv_at hl 1 rfl) ?_
      refine lv_iload_n hx hb dX1_waysForOne_12 rfl (lv_at hl 2 rfl) ?_
      refine ro_call (va_runS (As := [.int p0]) (rest := [.long v3]) ⟨hx, hb, hml, hown, hts⟩ (c_X1_forOne l D cI cZ cR _ p0) (va_cwS 1 hts gX1_waysForOne_X1_forOne rfl rfl rfl hd_X1_forOne ⟨(Nat.le_of_ble_eq_true rfl), (Nat.le_of_ble_eq_true rfl)⟩) (po_pre hAM va_P.nil) rfl rfl hl.1 rfl (lv_room (Nat.le_of_ble_eq_true rfl)) dX1_waysForOne_13 ⟨(Nat.le_of_ble_eq_true rfl), (Nat.le_of_ble_eq_true rfl)⟩) ?_
      refine lv_iload hx hb dX1_waysForOne_16 (lv_at hl 0 rfl) ?_
      refine ro_call (va_runS (As := [.int (x_X1_forOne p0), .int v5]) (rest := [.long v3]) ⟨hx, hb, hml, hown, hts⟩ (c_X1_choose l D cI cZ cR _ (x_X1_forOne p0) v5 (up_leK (hI.gt hk1 hk2 c_8).2 hk0)) (va_cwS 2 hts gX1_waysForOne_X1_choose rfl rfl rfl hd_X1_choose ⟨(Nat.le_of_ble_eq_true rfl), (Nat.le_of_ble_eq_true rfl)⟩) (po_pre hAM va_P.nil) rfl rfl hl.1 rfl (lv_room (Nat.le_of_ble_eq_true rfl)) dX1_waysForOne_18 ⟨(Nat.le_of_ble_eq_true rfl), (Nat.le_of_ble_eq_true rfl)⟩) ?_
      refine lv_iload_n hx hb dX1_waysForOne_21 rfl (lv_at hl 2 rfl) ?_
      refine lv_iconst (v := 2) hx hb dX1_waysForOne_22 (by decide) ?_
      refine lv_idiv hx hb dX1_waysForOne_23 (by decide +kernel) ?_
      refine lv_iload_n hx hb dX1_waysForOne_24 rfl (lv_at hl 3 rfl) ?_
      refine lv_iload hx hb dX1_waysForOne_25 (lv_at hl 0 rfl) ?_
      refine lv_isub hx hb dX1_waysForOne_27 ?_
      refine ro_call (va_runS (As := [.int (p0 / 2), .int (p1 - v5)]) (rest := [.long (x_X1_choose (x_X1_forOne p0) v5), .long v3]) ⟨hx, hb, hml, hown, hts⟩ (c_X1_choose l D cI cZ cR _ (p0 / 2) (p1 - v5) (up_subK h1 h2 (hI.gt hk1 hk2 c_8).2 hk0)) (va_cwS 2 hts gX1_waysForOne_X1_choose rfl rfl rfl hd_X1_choose ⟨(Nat.le_of_ble_eq_true rfl), (Nat.le_of_ble_eq_true rfl)⟩) (po_pre hAM va_P.nil) rfl rfl hl.1 rfl (lv_room (Nat.le_of_ble_eq_true rfl)) dX1_waysForOne_28 ⟨(Nat.le_of_ble_eq_true rfl), (Nat.le_of_ble_eq_true rfl)⟩) ?_
      refine lv_lmul hx hb dX1_waysForOne_31 ?_
      refine lv_ladd hx hb dX1_waysForOne_32 ?_
      refine lv_lstore_n (lv' := [(3, .long (v3 + ((x_X1_choose (x_X1_forOne p0) v5) * (x_X1_choose (p0 / 2) (p1 - v5))))), (5, .int v5), (0, .int p0), (1, .int p1), (2, .int p2)]) hx hb dX1_waysForOne_33 rfl hl (by decide) rfl (fun ls hl => ?_)
      refine lv_iinc (v := (v5 + 1)) (lv' := [(5, .int (v5 + 1)), (3, .long (v3 + ((x_X1_choose (x_X1_forOne p0) v5) * (x_X1_choose (p0 / 2) (p1 - v5))))), (0, .int p0), (1, .int p1), (2, .int p2)]) hx hb dX1_waysForOne_34 hl (k := 1) rfl rfl (by decide) rfl (fun ls hl => ?_)
      refine lv_goto (tgt := 5) hx hb dX1_waysForOne_37 (by decide) ?_
      exact ih (v3 + ((x_X1_choose (x_X1_forOne p0) v5) * (x_X1_choose (p0 / 2) (p1 - v5)))) (v5 + 1) ((hI.gt hk1 hk2 c_8).1) hE ls (lv_sub hl [0, 1, 2, 3, 4] rfl)

theorem hd_X1_leastDrawn : yX1_leastDrawn.cls ≠ "java/lang/invoke/MethodHandle" ∧ yX1_leastDrawn.cls ≠ "java/lang/invoke/VarHandle" ∧ (parseMethodDescriptor yX1_leastDrawn.desc).map (fun d => d.parameters.length) = some 4 := by decide +kernel
def x_X1_leastDrawn_L3 (p0 : Int32) (p1 : Int32) (p2 : Int32) (p3 : Int32) : Nat → Int32 → Int32
  | 0, _ => 0
  | n + 1, v4 => (if p1 < v4 then (-6) else (if ((x_X1_choose p1 v4) * (Int32.toInt64 p3)) < ((x_X1_choose p0 v4) * 100) then (x_X1_leastDrawn_L3 p0 p1 p2 p3 n (v4 + 1)) else v4))
def x_X1_leastDrawn (p0 : Int32) (p1 : Int32) (p2 : Int32) (p3 : Int32) : Int32 := (x_X1_leastDrawn_L3 p0 p1 p2 p3 (ix p1 + 2) p2)
def rm_X1_leastDrawn : Room := { frames := 1, cells := 0, slots := 0, locals := 24 }
set_option maxHeartbeats 4000000 in
set_option maxRecDepth 100000 in
theorem c_X1_leastDrawn (l : Launch) (D : va_G) (cI cZ cR : ClassId) (H0 : Heap) (p0 : Int32) (p1 : Int32) (p2 : Int32) (p3 : Int32) (h1 : ¬ p1 < 0) (h2 : p1 ≤ nI 1000) (h3 : ¬ p2 < 0) (h4 : p2 ≤ p1) : Met l yX1_leastDrawn wsX1_leastDrawn rm_X1_leastDrawn (po_P D cI cZ cR [.int p0, .int p1, .int p2, .int p3] [] H0) (po_Q (some (.int (x_X1_leastDrawn p0 p1 p2 p3))) H0) 0 0 nF := by
  refine Met.ofW (cc := cX1_leastDrawn) (maxL := 5) (ret := (some .int)) (by decide +kernel) rfl ?_
  intro p e s m args below meth c s₁ B hml hv
  obtain ⟨rfl, rfl, hAM, hP⟩ := hv
  have hx := B.exec
  have hb := B.bytes
  have hr := B.returns
  have hts := atoms_spec (ws := wsX1_leastDrawn) B.pre
  have hown : s.vm.findClass RX1 = some m.cls := findClass_of_methodNamed B.named
  have hlocks := B.notSynchronized
  have hK := hAM.1
  generalize hE : (x_X1_leastDrawn p0 p1 p2 p3) = Rv
  rw [x_X1_leastDrawn] at hE
  have hl := lv_entry ([.int p0, .int p1, .int p2, .int p3]) (n := 5) (Nat.le_of_ble_eq_true rfl)
  rw [lg_entry_eq]
  generalize (lg_sl ([.int p0, .int p1, .int p2, .int p3]) ++ List.replicate (5 - (lg_sl ([.int p0, .int p1, .int p2, .int p3])).length) Slot.unset).toArray = ls at hl ⊢
  have hl : lv_has ls 5 [(0, .int p0), (1, .int p1), (2, .int p2), (3, .int p3)] := hl
  refine lv_iload_n hx hb dX1_leastDrawn_0 rfl (lv_at hl 2 rfl) ?_
  refine lv_istore (lv' := [(4, .int p2), (0, .int p0), (1, .int p1), (2, .int p2), (3, .int p3)]) hx hb dX1_leastDrawn_1 hl (by decide) rfl (fun ls hl => ?_)
  suffices loop : ∀ (n : Nat) (v4 : Int32), (UP 0 (ix p1 + 1) n v4) → x_X1_leastDrawn_L3 p0 p1 p2 p3 n v4 = Rv → ∀ ls : Array Slot, lv_has ls 5 [(4, .int v4), (0, .int p0), (1, .int p1), (2, .int p2), (3, .int p3)] → W p l e (headSpec wsX1_leastDrawn rm_X1_leastDrawn).room s m ([.int p0, .int p1, .int p2, .int p3] : List Value).toArray below meth c s.heap [] 0 0 (MQ below (po_Q (some (.int Rv)) s.heap) ([.int p0, .int p1, .int p2, .int p3] : List Value).toArray s 0 0 nF) (F0 m 3 ls []) from
    loop (ix p1 + 2) p2 (UP.startx h3 (by omega) (by have h9 := ix_mono h3 h4; omega)) hE ls (lv_sub hl [0, 1, 2, 3, 4] rfl)
  have hk2 := nI_ix h1
  have hk0 := ix_le (by decide) h2
  have hk1 : ix p1 + 1 < 2 ^ 31 := by omega
  clear hE hl ls
  intro n
  induction n with
  | zero =>
    intro v4 hI _ _ _
    exact absurd hI (UP.zero)
  | succ n ih =>
    intro v4 hI hE ls hl
    rw [x_X1_leastDrawn_L3] at hE
    refine lv_iload hx hb dX1_leastDrawn_3 (lv_at hl 0 rfl) ?_
    refine lv_iload_n hx hb dX1_leastDrawn_5 rfl (lv_at hl 2 rfl) ?_
    refine lv_icmp_gt (tgt := 41) hx hb dX1_leastDrawn_6 (by decide) (fun c_6 => ?_) (fun c_6 => ?_)
    · have hE := itT hE c_6
      refine lv_bipush (v := (-6)) hx hb dX1_leastDrawn_41 (by decide +kernel) ?_
      exact w_iret hx hb hr hlocks hE dX1_leastDrawn_43
    · have hE := itF hE c_6
      refine lv_iload_n hx hb dX1_leastDrawn_9 rfl (lv_at hl 1 rfl) ?_
      refine lv_iload hx hb dX1_leastDrawn_10 (lv_at hl 0 rfl) ?_
      refine ro_call (va_runS (As := [.int p0, .int v4]) (rest := []) ⟨hx, hb, hml, hown, hts⟩ (c_X1_choose l D cI cZ cR _ p0 v4 (up_leK (hI.gt hk1 hk2 c_6).2 hk0)) (va_cwS 2 hts gX1_leastDrawn_X1_choose rfl rfl rfl hd_X1_choose ⟨(Nat.le_of_ble_eq_true rfl), (Nat.le_of_ble_eq_true rfl)⟩) (po_pre hAM va_P.nil) rfl rfl hl.1 rfl (lv_room (Nat.le_of_ble_eq_true rfl)) dX1_leastDrawn_12 ⟨(Nat.le_of_ble_eq_true rfl), (Nat.le_of_ble_eq_true rfl)⟩) ?_
      refine lv_ldc2 hx hb hown (hts (.constantLong RX1 19 (100)) (List.mem_of_getElem? (i := 1) rfl)) dX1_leastDrawn_15 ?_
      refine lv_lmul hx hb dX1_leastDrawn_18 ?_
      refine lv_iload_n hx hb dX1_leastDrawn_19 rfl (lv_at hl 2 rfl) ?_
      refine lv_iload hx hb dX1_leastDrawn_20 (lv_at hl 0 rfl) ?_
      refine ro_call (va_runS (As := [.int p1, .int v4]) (rest := [.long ((x_X1_choose p0 v4) * 100)]) ⟨hx, hb, hml, hown, hts⟩ (c_X1_choose l D cI cZ cR _ p1 v4 (up_leK (hI.gt hk1 hk2 c_6).2 hk0)) (va_cwS 2 hts gX1_leastDrawn_X1_choose rfl rfl rfl hd_X1_choose ⟨(Nat.le_of_ble_eq_true rfl), (Nat.le_of_ble_eq_true rfl)⟩) (po_pre hAM va_P.nil) rfl rfl hl.1 rfl (lv_room (Nat.le_of_ble_eq_true rfl)) dX1_leastDrawn_22 ⟨(Nat.le_of_ble_eq_true rfl), (Nat.le_of_ble_eq_true rfl)⟩) ?_
      refine lv_iload_n hx hb dX1_leastDrawn_25 rfl (lv_at hl 4 rfl) ?_
      refine lv_i2l hx hb dX1_leastDrawn_26 rfl ?_
      refine lv_lmul hx hb dX1_leastDrawn_27 ?_
      refine w_lcmp_gt (tgt := 35) hx hb dX1_leastDrawn_28 dX1_leastDrawn_29 (by decide) (fun c_28 => ?_) (fun c_28 => ?_)
      · have hE := itT hE c_28
        refine lv_iinc (v := (v4 + 1)) (lv' := [(4, .int (v4 + 1)), (0, .int p0), (1, .int p1), (2, .int p2), (3, .int p3)]) hx hb dX1_leastDrawn_35 hl (k := 0) rfl rfl (by decide) rfl (fun ls hl => ?_)
        refine lv_goto (tgt := 3) hx hb dX1_leastDrawn_38 (by decide) ?_
        exact ih (v4 + 1) ((hI.gt hk1 hk2 c_6).1) hE ls (lv_sub hl [0, 1, 2, 3, 4] rfl)
      · have hE := itF hE c_28
        refine lv_iload hx hb dX1_leastDrawn_32 (lv_at hl 0 rfl) ?_
        exact w_iret hx hb hr hlocks hE dX1_leastDrawn_34

theorem hd_X1_slipDrawn : yX1_slipDrawn.cls ≠ "java/lang/invoke/MethodHandle" ∧ yX1_slipDrawn.cls ≠ "java/lang/invoke/VarHandle" ∧ (parseMethodDescriptor yX1_slipDrawn.desc).map (fun d => d.parameters.length) = some 3 := by decide +kernel
def x_X1_slipDrawn_L13 (p0 : Int32) (p1 : Int32) (p2 : Int32) : Nat → Int64 → Int32 → Int32
  | 0, _, _ => 0
  | n + 1, v3, v5 => (if p2 ≤ v5 then (Int64.toInt32 (xRemL v3 (Int32.toInt64 p1))) else (x_X1_slipDrawn_L13 p0 p1 p2 n (xRemL (v3 * 16807) 2147483647) (v5 + 1)))
def x_X1_slipDrawn (p0 : Int32) (p1 : Int32) (p2 : Int32) : Int32 := (if 0 < p1 then (x_X1_slipDrawn_L13 p0 p1 p2 (ix p2 + 1) (Int32.toInt64 p0) 0) else (-6))
def rm_X1_slipDrawn : Room := { frames := 0, cells := 0, slots := 0, locals := 0 }
set_option maxHeartbeats 4000000 in
set_option maxRecDepth 100000 in
theorem c_X1_slipDrawn (l : Launch) (D : va_G) (cI cZ cR : ClassId) (H0 : Heap) (p0 : Int32) (p1 : Int32) (p2 : Int32) (h2 : ¬ p2 < 0) : Met l yX1_slipDrawn wsX1_slipDrawn rm_X1_slipDrawn (po_P D cI cZ cR [.int p0, .int p1, .int p2] [] H0) (po_Q (some (.int (x_X1_slipDrawn p0 p1 p2))) H0) 0 0 nF := by
  refine Met.ofW (cc := cX1_slipDrawn) (maxL := 6) (ret := (some .int)) (by decide +kernel) rfl ?_
  intro p e s m args below meth c s₁ B hml hv
  obtain ⟨rfl, rfl, hAM, hP⟩ := hv
  have hx := B.exec
  have hb := B.bytes
  have hr := B.returns
  have hts := atoms_spec (ws := wsX1_slipDrawn) B.pre
  have hown : s.vm.findClass RX1 = some m.cls := findClass_of_methodNamed B.named
  have hlocks := B.notSynchronized
  have hK := hAM.1
  generalize hE : (x_X1_slipDrawn p0 p1 p2) = Rv
  rw [x_X1_slipDrawn] at hE
  have hl := lv_entry ([.int p0, .int p1, .int p2]) (n := 6) (Nat.le_of_ble_eq_true rfl)
  rw [lg_entry_eq]
  generalize (lg_sl ([.int p0, .int p1, .int p2]) ++ List.replicate (6 - (lg_sl ([.int p0, .int p1, .int p2])).length) Slot.unset).toArray = ls at hl ⊢
  have hl : lv_has ls 6 [(0, .int p0), (1, .int p1), (2, .int p2)] := hl
  refine lv_iload_n hx hb dX1_slipDrawn_0 rfl (lv_at hl 1 rfl) ?_
  refine lv_if_gt (tgt := 7) hx hb dX1_slipDrawn_1 (by decide) (fun c_1 => ?_) (fun c_1 => ?_)
  · have hE := itT hE c_1
    refine lv_iload_n hx hb dX1_slipDrawn_7 rfl (lv_at hl 0 rfl) ?_
    refine lv_i2l hx hb dX1_slipDrawn_8 rfl ?_
    refine lv_lstore_n (lv' := [(3, .long (Int32.toInt64 p0)), (0, .int p0), (1, .int p1), (2, .int p2)]) hx hb dX1_slipDrawn_9 rfl hl (by decide) rfl (fun ls hl => ?_)
    refine lv_iconst (v := 0) hx hb dX1_slipDrawn_10 (by decide) ?_
    refine lv_istore (lv' := [(5, .int 0), (3, .long (Int32.toInt64 p0)), (0, .int p0), (1, .int p1), (2, .int p2)]) hx hb dX1_slipDrawn_11 hl (by decide) rfl (fun ls hl => ?_)
    suffices loop : ∀ (n : Nat) (v3 : Int64) (v5 : Int32), (UP 0 (ix p2) n v5) → x_X1_slipDrawn_L13 p0 p1 p2 n v3 v5 = Rv → ∀ ls : Array Slot, lv_has ls 6 [(5, .int v5), (3, .long v3), (0, .int p0), (1, .int p1), (2, .int p2)] → W p l e (headSpec wsX1_slipDrawn rm_X1_slipDrawn).room s m ([.int p0, .int p1, .int p2] : List Value).toArray below meth c s.heap [] 0 0 (MQ below (po_Q (some (.int Rv)) s.heap) ([.int p0, .int p1, .int p2] : List Value).toArray s 0 0 nF) (F0 m 13 ls []) from
      loop (ix p2 + 1) (Int32.toInt64 p0) 0 (UP.start 0 (by omega) (by omega)) hE ls (lv_sub hl [0, 1, 2, 3, 4] rfl)
    clear hE hl ls
    intro n
    induction n with
    | zero =>
      intro v3 v5 hI _ _ _
      exact absurd hI (UP.zero)
    | succ n ih =>
      intro v3 v5 hI hE ls hl
      rw [x_X1_slipDrawn_L13] at hE
      refine lv_iload hx hb dX1_slipDrawn_13 (lv_at hl 0 rfl) ?_
      refine lv_iload_n hx hb dX1_slipDrawn_15 rfl (lv_at hl 4 rfl) ?_
      refine lv_icmp_ge (tgt := 35) hx hb dX1_slipDrawn_16 (by decide) (fun c_16 => ?_) (fun c_16 => ?_)
      · have hE := itT hE c_16
        refine lv_lload_n hx hb dX1_slipDrawn_35 rfl (lv_at hl 1 rfl) ?_
        refine lv_iload_n hx hb dX1_slipDrawn_36 rfl (lv_at hl 3 rfl) ?_
        refine lv_i2l hx hb dX1_slipDrawn_37 rfl ?_
        refine w_lrem hx hb dX1_slipDrawn_38 (pos_neL c_1) ?_
        refine lv_l2i hx hb dX1_slipDrawn_39 rfl ?_
        exact w_iret hx hb hr hlocks hE dX1_slipDrawn_40
      · have hE := itF hE c_16
        refine lv_lload_n hx hb dX1_slipDrawn_19 rfl (lv_at hl 1 rfl) ?_
        refine lv_ldc2 hx hb hown (hts (.constantLong RX1 21 (16807)) (List.mem_of_getElem? (i := 1) rfl)) dX1_slipDrawn_20 ?_
        refine lv_lmul hx hb dX1_slipDrawn_23 ?_
        refine lv_ldc2 hx hb hown (hts (.constantLong RX1 23 (2147483647)) (List.mem_of_getElem? (i := 2) rfl)) dX1_slipDrawn_24 ?_
        refine w_lrem hx hb dX1_slipDrawn_27 (by decide +kernel) ?_
        refine lv_lstore_n (lv' := [(3, .long (xRemL (v3 * 16807) 2147483647)), (5, .int v5), (0, .int p0), (1, .int p1), (2, .int p2)]) hx hb dX1_slipDrawn_28 rfl hl (by decide) rfl (fun ls hl => ?_)
        refine lv_iinc (v := (v5 + 1)) (lv' := [(5, .int (v5 + 1)), (3, .long (xRemL (v3 * 16807) 2147483647)), (0, .int p0), (1, .int p1), (2, .int p2)]) hx hb dX1_slipDrawn_29 hl (k := 1) rfl rfl (by decide) rfl (fun ls hl => ?_)
        refine lv_goto (tgt := 13) hx hb dX1_slipDrawn_32 (by decide) ?_
        exact ih (xRemL (v3 * 16807) 2147483647) (v5 + 1) ((hI.ge (ix_lt p2) (nI_ix h2) c_16).1) hE ls (lv_sub hl [0, 1, 2, 3, 4] rfl)
  · have hE := itF hE c_1
    refine lv_bipush (v := (-6)) hx hb dX1_slipDrawn_4 (by decide +kernel) ?_
    exact w_iret hx hb hr hlocks hE dX1_slipDrawn_6

theorem hd_X1_greatestShared : yX1_greatestShared.cls ≠ "java/lang/invoke/MethodHandle" ∧ yX1_greatestShared.cls ≠ "java/lang/invoke/VarHandle" ∧ (parseMethodDescriptor yX1_greatestShared.desc).map (fun d => d.parameters.length) = some 2 := by decide +kernel
def x_X1_greatestShared_L9 (p0 : Int64) (p1 : Int64) : Nat → Int64 → Int64 → Int32 → Int64
  | 0, _, _, _ => 0
  | n + 1, v4, v6, v8 => (if 100 ≤ v8 then v4 else (if v6 = 0 then v4 else (x_X1_greatestShared_L9 p0 p1 n v6 (xRemL v4 v6) (v8 + 1))))
def x_X1_greatestShared (p0 : Int64) (p1 : Int64) : Int64 := (x_X1_greatestShared_L9 p0 p1 (101) p0 p1 0)
def rm_X1_greatestShared : Room := { frames := 0, cells := 0, slots := 0, locals := 0 }
set_option maxHeartbeats 4000000 in
set_option maxRecDepth 100000 in
theorem c_X1_greatestShared (l : Launch) (D : va_G) (cI cZ cR : ClassId) (H0 : Heap) (p0 : Int64) (p1 : Int64) : Met l yX1_greatestShared wsX1_greatestShared rm_X1_greatestShared (po_P D cI cZ cR [.long p0, .long p1] [] H0) (po_Q (some (.long (x_X1_greatestShared p0 p1))) H0) 0 0 nF := by
  refine Met.ofW (cc := cX1_greatestShared) (maxL := 11) (ret := (some .long)) (by decide +kernel) rfl ?_
  intro p e s m args below meth c s₁ B hml hv
  obtain ⟨rfl, rfl, hAM, hP⟩ := hv
  have hx := B.exec
  have hb := B.bytes
  have hr := B.returns
  have hts := atoms_spec (ws := wsX1_greatestShared) B.pre
  have hown : s.vm.findClass RX1 = some m.cls := findClass_of_methodNamed B.named
  have hlocks := B.notSynchronized
  have hK := hAM.1
  generalize hE : (x_X1_greatestShared p0 p1) = Rv
  rw [x_X1_greatestShared] at hE
  have hl := lv_entry ([.long p0, .long p1]) (n := 11) (Nat.le_of_ble_eq_true rfl)
  rw [lg_entry_eq]
  generalize (lg_sl ([.long p0, .long p1]) ++ List.replicate (11 - (lg_sl ([.long p0, .long p1])).length) Slot.unset).toArray = ls at hl ⊢
  have hl : lv_has ls 11 [(0, .long p0), (2, .long p1)] := hl
  refine lv_lload_n hx hb dX1_greatestShared_0 rfl (lv_at hl 0 rfl) ?_
  refine lv_lstore (lv' := [(4, .long p0), (0, .long p0), (2, .long p1)]) hx hb dX1_greatestShared_1 hl (by decide) rfl (fun ls hl => ?_)
  refine lv_lload_n hx hb dX1_greatestShared_3 rfl (lv_at hl 2 rfl) ?_
  refine lv_lstore (lv' := [(6, .long p1), (4, .long p0), (0, .long p0), (2, .long p1)]) hx hb dX1_greatestShared_4 hl (by decide) rfl (fun ls hl => ?_)
  refine lv_iconst (v := 0) hx hb dX1_greatestShared_6 (by decide) ?_
  refine lv_istore (lv' := [(8, .int 0), (6, .long p1), (4, .long p0), (0, .long p0), (2, .long p1)]) hx hb dX1_greatestShared_7 hl (by decide) rfl (fun ls hl => ?_)
  suffices loop : ∀ (n : Nat) (v4 : Int64) (v6 : Int64) (v8 : Int32), (UP 0 100 n v8) → x_X1_greatestShared_L9 p0 p1 n v4 v6 v8 = Rv → ∀ ls : Array Slot, lv_has ls 11 [(0, .long p0), (2, .long p1), (4, .long v4), (6, .long v6), (8, .int v8)] → W p l e (headSpec wsX1_greatestShared rm_X1_greatestShared).room s m ([.long p0, .long p1] : List Value).toArray below meth c s.heap [] 0 0 (MQ below (po_Q (some (.long Rv)) s.heap) ([.long p0, .long p1] : List Value).toArray s 0 0 nF) (F0 m 9 ls []) from
    loop (101) p0 p1 0 (UP.start 0 (by omega) (by omega)) hE ls (lv_sub hl [3, 4, 2, 1, 0] rfl)
  clear hE hl ls
  intro n
  induction n with
  | zero =>
    intro v4 v6 v8 hI _ _ _
    exact absurd hI (UP.zero)
  | succ n ih =>
    intro v4 v6 v8 hI hE ls hl
    rw [x_X1_greatestShared_L9] at hE
    refine lv_iload hx hb dX1_greatestShared_9 (lv_at hl 4 rfl) ?_
    refine lv_bipush (v := 100) hx hb dX1_greatestShared_11 (by decide +kernel) ?_
    refine lv_icmp_ge (tgt := 44) hx hb dX1_greatestShared_13 (by decide) (fun c_13 => ?_) (fun c_13 => ?_)
    · have hE := itT hE c_13
      refine lv_lload hx hb dX1_greatestShared_44 (lv_at hl 2 rfl) ?_
      exact w_lret hx hb hr hlocks hE dX1_greatestShared_46
    · have hE := itF hE c_13
      refine lv_lload hx hb dX1_greatestShared_16 (lv_at hl 3 rfl) ?_
      refine lv_lconst (v := 0) hx hb dX1_greatestShared_18 (by decide +kernel) ?_
      refine w_lcmp_eq (tgt := 44) hx hb dX1_greatestShared_19 dX1_greatestShared_20 (by decide) (fun c_19 => ?_) (fun c_19 => ?_)
      · have hE := itT hE c_19
        refine lv_lload hx hb dX1_greatestShared_44 (lv_at hl 2 rfl) ?_
        exact w_lret hx hb hr hlocks hE dX1_greatestShared_46
      · have hE := itF hE c_19
        refine lv_lload hx hb dX1_greatestShared_23 (lv_at hl 2 rfl) ?_
        refine lv_lload hx hb dX1_greatestShared_25 (lv_at hl 3 rfl) ?_
        refine w_lrem hx hb dX1_greatestShared_27 c_19 ?_
        refine lv_lstore (lv' := [(9, .long (xRemL v4 v6)), (0, .long p0), (2, .long p1), (4, .long v4), (6, .long v6), (8, .int v8)]) hx hb dX1_greatestShared_28 hl (by decide) rfl (fun ls hl => ?_)
        refine lv_lload hx hb dX1_greatestShared_30 (lv_at hl 4 rfl) ?_
        refine lv_lstore (lv' := [(4, .long v6), (9, .long (xRemL v4 v6)), (0, .long p0), (2, .long p1), (6, .long v6), (8, .int v8)]) hx hb dX1_greatestShared_32 hl (by decide) rfl (fun ls hl => ?_)
        refine lv_lload hx hb dX1_greatestShared_34 (lv_at hl 1 rfl) ?_
        refine lv_lstore (lv' := [(6, .long (xRemL v4 v6)), (4, .long v6), (9, .long (xRemL v4 v6)), (0, .long p0), (2, .long p1), (8, .int v8)]) hx hb dX1_greatestShared_36 hl (by decide) rfl (fun ls hl => ?_)
        refine lv_iinc (v := (v8 + 1)) (lv' := [(8, .int (v8 + 1)), (6, .long (xRemL v4 v6)), (4, .long v6), (9, .long (xRemL v4 v6)), (0, .long p0), (2, .long p1)]) hx hb dX1_greatestShared_38 hl (k := 5) rfl rfl (by decide) rfl (fun ls hl => ?_)
        refine lv_goto (tgt := 9) hx hb dX1_greatestShared_41 (by decide) ?_
        exact ih v6 (xRemL v4 v6) (v8 + 1) ((hI.ge (by decide) rfl c_13).1) hE ls (lv_sub hl [4, 5, 2, 1, 0] rfl)

theorem hd_X1_inLowestTerms : yX1_inLowestTerms.cls ≠ "java/lang/invoke/MethodHandle" ∧ yX1_inLowestTerms.cls ≠ "java/lang/invoke/VarHandle" ∧ (parseMethodDescriptor yX1_inLowestTerms.desc).map (fun d => d.parameters.length) = some 3 := by decide +kernel
def x_X1_inLowestTerms (p0 : Int64) (p1 : Int64) (p2 : Int32) : Int64 := (if p0 = 0 then (if p2 = 0 then 0 else 1) else (if (x_X1_greatestShared p0 p1) = 0 then 0 else (if p2 = 0 then (p0 / (x_X1_greatestShared p0 p1)) else (p1 / (x_X1_greatestShared p0 p1)))))
def rm_X1_inLowestTerms : Room := { frames := 1, cells := 0, slots := 0, locals := 30 }
set_option maxHeartbeats 4000000 in
set_option maxRecDepth 100000 in
theorem c_X1_inLowestTerms (l : Launch) (D : va_G) (cI cZ cR : ClassId) (H0 : Heap) (p0 : Int64) (p1 : Int64) (p2 : Int32) : Met l yX1_inLowestTerms wsX1_inLowestTerms rm_X1_inLowestTerms (po_P D cI cZ cR [.long p0, .long p1, .int p2] [] H0) (po_Q (some (.long (x_X1_inLowestTerms p0 p1 p2))) H0) 0 0 nF := by
  refine Met.ofW (cc := cX1_inLowestTerms) (maxL := 7) (ret := (some .long)) (by decide +kernel) rfl ?_
  intro p e s m args below meth c s₁ B hml hv
  obtain ⟨rfl, rfl, hAM, hP⟩ := hv
  have hx := B.exec
  have hb := B.bytes
  have hr := B.returns
  have hts := atoms_spec (ws := wsX1_inLowestTerms) B.pre
  have hown : s.vm.findClass RX1 = some m.cls := findClass_of_methodNamed B.named
  have hlocks := B.notSynchronized
  have hK := hAM.1
  generalize hE : (x_X1_inLowestTerms p0 p1 p2) = Rv
  rw [x_X1_inLowestTerms] at hE
  have hl := lv_entry ([.long p0, .long p1, .int p2]) (n := 7) (Nat.le_of_ble_eq_true rfl)
  rw [lg_entry_eq]
  generalize (lg_sl ([.long p0, .long p1, .int p2]) ++ List.replicate (7 - (lg_sl ([.long p0, .long p1, .int p2])).length) Slot.unset).toArray = ls at hl ⊢
  have hl : lv_has ls 7 [(0, .long p0), (2, .long p1), (4, .int p2)] := hl
  refine lv_lload_n hx hb dX1_inLowestTerms_0 rfl (lv_at hl 0 rfl) ?_
  refine lv_lconst (v := 0) hx hb dX1_inLowestTerms_1 (by decide +kernel) ?_
  refine w_lcmp_ne (tgt := 17) hx hb dX1_inLowestTerms_2 dX1_inLowestTerms_3 (by decide) (fun c_2 => ?_) (fun c_2 => ?_)
  · have hE := itF hE c_2
    refine lv_lload_n hx hb dX1_inLowestTerms_17 rfl (lv_at hl 0 rfl) ?_
    refine lv_lload_n hx hb dX1_inLowestTerms_18 rfl (lv_at hl 1 rfl) ?_
    refine ro_call (va_runS (As := [.long p0, .long p1]) (rest := []) ⟨hx, hb, hml, hown, hts⟩ (c_X1_greatestShared l D cI cZ cR _ p0 p1) (va_cwS 2 hts gX1_inLowestTerms_X1_greatestShared rfl rfl rfl hd_X1_greatestShared ⟨(Nat.le_of_ble_eq_true rfl), (Nat.le_of_ble_eq_true rfl)⟩) (po_pre hAM va_P.nil) rfl rfl hl.1 rfl (lv_room (Nat.le_of_ble_eq_true rfl)) dX1_inLowestTerms_19 ⟨(Nat.le_of_ble_eq_true rfl), (Nat.le_of_ble_eq_true rfl)⟩) ?_
    refine lv_lstore (lv' := [(5, .long (x_X1_greatestShared p0 p1)), (0, .long p0), (2, .long p1), (4, .int p2)]) hx hb dX1_inLowestTerms_22 hl (by decide) rfl (fun ls hl => ?_)
    refine lv_lload hx hb dX1_inLowestTerms_24 (lv_at hl 0 rfl) ?_
    refine lv_lconst (v := 0) hx hb dX1_inLowestTerms_26 (by decide +kernel) ?_
    refine w_lcmp_ne (tgt := 33) hx hb dX1_inLowestTerms_27 dX1_inLowestTerms_28 (by decide) (fun c_27 => ?_) (fun c_27 => ?_)
    · have hE := itF hE c_27
      refine lv_iload hx hb dX1_inLowestTerms_33 (lv_at hl 3 rfl) ?_
      refine lv_if_ne (tgt := 45) hx hb dX1_inLowestTerms_35 (by decide) (fun c_35 => ?_) (fun c_35 => ?_)
      · have hE := itF hE c_35
        refine lv_lload_n hx hb dX1_inLowestTerms_45 rfl (lv_at hl 2 rfl) ?_
        refine lv_lload hx hb dX1_inLowestTerms_46 (lv_at hl 0 rfl) ?_
        refine lv_ldiv hx hb dX1_inLowestTerms_48 c_27 ?_
        exact w_lret hx hb hr hlocks hE dX1_inLowestTerms_49
      · have hE := itT hE c_35
        refine lv_lload_n hx hb dX1_inLowestTerms_38 rfl (lv_at hl 1 rfl) ?_
        refine lv_lload hx hb dX1_inLowestTerms_39 (lv_at hl 0 rfl) ?_
        refine lv_ldiv hx hb dX1_inLowestTerms_41 c_27 ?_
        refine lv_goto (tgt := 49) hx hb dX1_inLowestTerms_42 (by decide) ?_
        exact w_lret hx hb hr hlocks hE dX1_inLowestTerms_49
    · have hE := itT hE c_27
      refine lv_lconst (v := 0) hx hb dX1_inLowestTerms_31 (by decide +kernel) ?_
      exact w_lret hx hb hr hlocks hE dX1_inLowestTerms_32
  · have hE := itT hE c_2
    refine lv_iload hx hb dX1_inLowestTerms_6 (lv_at hl 2 rfl) ?_
    refine lv_if_ne (tgt := 15) hx hb dX1_inLowestTerms_8 (by decide) (fun c_8 => ?_) (fun c_8 => ?_)
    · have hE := itF hE c_8
      refine lv_lconst (v := 1) hx hb dX1_inLowestTerms_15 (by decide +kernel) ?_
      exact w_lret hx hb hr hlocks hE dX1_inLowestTerms_16
    · have hE := itT hE c_8
      refine lv_lconst (v := 0) hx hb dX1_inLowestTerms_11 (by decide +kernel) ?_
      refine lv_goto (tgt := 16) hx hb dX1_inLowestTerms_12 (by decide) ?_
      exact w_lret hx hb hr hlocks hE dX1_inLowestTerms_16

theorem hd_X3_number : yX3_number.cls ≠ "java/lang/invoke/MethodHandle" ∧ yX3_number.cls ≠ "java/lang/invoke/VarHandle" ∧ (parseMethodDescriptor yX3_number.desc).map (fun d => d.parameters.length) = some 1 := by decide +kernel
def x_X3_number (pc0 : Int32) (pz0 : Int32) (pc1 : Int32) (pz1 : Int32) (p0 : Int32) : Int32 := (if p0 = 0 then pc0 else (if p0 = 1 then pz0 else (if p0 = 2 then pc1 else pz1)))
def rm_X3_number : Room := { frames := 0, cells := 0, slots := 0, locals := 0 }
theorem in_X3_number_X3 : ∀ w ∈ wsX30, w ∈ wsX3_number := fun _ h => List.mem_cons_of_mem _ (List.mem_append_right _ h)
set_option maxHeartbeats 4000000 in
set_option maxRecDepth 100000 in
theorem c_X3_number (l : Launch) (D : va_G) (cI cZ cR : ClassId) (H0 : Heap) (h0 : Nat) (pc0 : Int32) (pz0 : Int32) (pc1 : Int32) (pz1 : Int32) (p0 : Int32) : Met l yX3_number wsX3_number rm_X3_number (po_P D cI cZ cR [.ref h0, .int p0] [(h0, .inr (1, [.int pc0, .int pz0, .int pc1, .int pz1]))] H0) (po_Q (some (.int (x_X3_number pc0 pz0 pc1 pz1 p0))) H0) 0 0 nF := by
  refine Met.ofW (cc := cX3_number) (maxL := 2) (ret := (some .int)) (by decide +kernel) rfl ?_
  intro p e s m args below meth c s₁ B hml hv
  obtain ⟨rfl, rfl, hAM, hP⟩ := hv
  have hx := B.exec
  have hb := B.bytes
  have hr := B.returns
  have hts := atoms_spec (ws := wsX3_number) B.pre
  have hown : s.vm.findClass RX3 = some m.cls := findClass_of_methodNamed B.named
  have hlocks := B.notSynchronized
  have hK := hAM.1
  generalize hE : (x_X3_number pc0 pz0 pc1 pz1 p0) = Rv
  rw [x_X3_number] at hE
  have hl := lv_entry ([.ref h0, .int p0]) (n := 2) (Nat.le_of_ble_eq_true rfl)
  rw [lg_entry_eq]
  generalize (lg_sl ([.ref h0, .int p0]) ++ List.replicate (2 - (lg_sl ([.ref h0, .int p0])).length) Slot.unset).toArray = ls at hl ⊢
  have hl : lv_has ls 2 [(0, .ref h0), (1, .int p0)] := hl
  refine lv_iload_n hx hb dX3_number_0 rfl (lv_at hl 1 rfl) ?_
  by_cases c_1_0 : p0 = 0
  · have hE := itT hE c_1_0
    refine lv_tableIn (tgt := 28) hx hb dX3_number_1 (by rw [c_1_0]; decide +kernel) (by rw [c_1_0]; decide +kernel) (off := 27) (by rw [c_1_0]; decide +kernel) (by decide) ?_
    refine lv_aload_n hx hb dX3_number_28 rfl (lv_at hl 0 rfl) ?_
    refine va_get (D := D) (ci := 1) (v := .int pc0) (C := RX3) (T := TX3) (N := 4) hx hb hts in_X3_number_X3 hown hK hP 0 rfl rfl 0 (by decide) (hts (.fieldLink RX3 9 "WallCount$Proof" "c0" "I") (List.mem_of_getElem? (i := 1) rfl)) (fun _ h9 => h9) rfl dX3_number_29 ?_
    exact w_iret hx hb hr hlocks hE dX3_number_32
  · have hE := itF hE c_1_0
    by_cases c_1_1 : p0 = 1
    · have hE := itT hE c_1_1
      refine lv_tableIn (tgt := 33) hx hb dX3_number_1 (by rw [c_1_1]; decide +kernel) (by rw [c_1_1]; decide +kernel) (off := 32) (by rw [c_1_1]; decide +kernel) (by decide) ?_
      refine lv_aload_n hx hb dX3_number_33 rfl (lv_at hl 0 rfl) ?_
      refine va_get (D := D) (ci := 1) (v := .int pz0) (C := RX3) (T := TX3) (N := 4) hx hb hts in_X3_number_X3 hown hK hP 0 rfl rfl 1 (by decide) (hts (.fieldLink RX3 15 "WallCount$Proof" "z0" "I") (List.mem_of_getElem? (i := 2) rfl)) (fun _ h9 => h9) rfl dX3_number_34 ?_
      exact w_iret hx hb hr hlocks hE dX3_number_37
    · have hE := itF hE c_1_1
      by_cases c_1_2 : p0 = 2
      · have hE := itT hE c_1_2
        refine lv_tableIn (tgt := 38) hx hb dX3_number_1 (by rw [c_1_2]; decide +kernel) (by rw [c_1_2]; decide +kernel) (off := 37) (by rw [c_1_2]; decide +kernel) (by decide) ?_
        refine lv_aload_n hx hb dX3_number_38 rfl (lv_at hl 0 rfl) ?_
        refine va_get (D := D) (ci := 1) (v := .int pc1) (C := RX3) (T := TX3) (N := 4) hx hb hts in_X3_number_X3 hown hK hP 0 rfl rfl 2 (by decide) (hts (.fieldLink RX3 18 "WallCount$Proof" "c1" "I") (List.mem_of_getElem? (i := 3) rfl)) (fun _ h9 => h9) rfl dX3_number_39 ?_
        exact w_iret hx hb hr hlocks hE dX3_number_42
      · have hE := itF hE c_1_2
        refine lv_tableOut (tgt := 43) hx hb dX3_number_1 (sw_out3 c_1_0 c_1_1 c_1_2) (by decide) ?_
        refine lv_aload_n hx hb dX3_number_43 rfl (lv_at hl 0 rfl) ?_
        refine va_get (D := D) (ci := 1) (v := .int pz1) (C := RX3) (T := TX3) (N := 4) hx hb hts in_X3_number_X3 hown hK hP 0 rfl rfl 3 (by decide) (hts (.fieldLink RX3 21 "WallCount$Proof" "z1" "I") (List.mem_of_getElem? (i := 4) rfl)) (fun _ h9 => h9) rfl dX3_number_44 ?_
        exact w_iret hx hb hr hlocks hE dX3_number_47

theorem hd_X3_sOf : yX3_sOf.cls ≠ "java/lang/invoke/MethodHandle" ∧ yX3_sOf.cls ≠ "java/lang/invoke/VarHandle" ∧ (parseMethodDescriptor yX3_sOf.desc).map (fun d => d.parameters.length) = some 3 := by decide +kernel
def x_X3_sOf (p0 : Int32) (p1 : Int32) (p2 : Int32) : Int32 := (x_X2_divided (x_X2_ofG p2) (x_X2_of p0 p1))
def rm_X3_sOf : Room := { frames := 3, cells := 0, slots := 0, locals := 67 }
set_option maxHeartbeats 4000000 in
set_option maxRecDepth 100000 in
theorem c_X3_sOf (l : Launch) (D : va_G) (cI cZ cR : ClassId) (H0 : Heap) (p0 : Int32) (p1 : Int32) (p2 : Int32) : Met l yX3_sOf wsX3_sOf rm_X3_sOf (po_P D cI cZ cR [.int p0, .int p1, .int p2] [] H0) (po_Q (some (.int (x_X3_sOf p0 p1 p2))) H0) 0 0 nF := by
  refine Met.ofW (cc := cX3_sOf) (maxL := 3) (ret := (some .int)) (by decide +kernel) rfl ?_
  intro p e s m args below meth c s₁ B hml hv
  obtain ⟨rfl, rfl, hAM, hP⟩ := hv
  have hx := B.exec
  have hb := B.bytes
  have hr := B.returns
  have hts := atoms_spec (ws := wsX3_sOf) B.pre
  have hown : s.vm.findClass RX3 = some m.cls := findClass_of_methodNamed B.named
  have hlocks := B.notSynchronized
  have hK := hAM.1
  generalize hE : (x_X3_sOf p0 p1 p2) = Rv
  rw [x_X3_sOf] at hE
  have hl := lv_entry ([.int p0, .int p1, .int p2]) (n := 3) (Nat.le_of_ble_eq_true rfl)
  rw [lg_entry_eq]
  generalize (lg_sl ([.int p0, .int p1, .int p2]) ++ List.replicate (3 - (lg_sl ([.int p0, .int p1, .int p2])).length) Slot.unset).toArray = ls at hl ⊢
  have hl : lv_has ls 3 [(0, .int p0), (1, .int p1), (2, .int p2)] := hl
  refine lv_iload_n hx hb dX3_sOf_0 rfl (lv_at hl 2 rfl) ?_
  refine ro_call (va_runS (As := [.int p2]) (rest := []) ⟨hx, hb, hml, hown, hts⟩ (c_X2_ofG l D cI cZ cR _ p2) (va_cwS 1 hts gX3_sOf_X2_ofG rfl rfl rfl hd_X2_ofG ⟨(Nat.le_of_ble_eq_true rfl), (Nat.le_of_ble_eq_true rfl)⟩) (po_pre hAM va_P.nil) rfl rfl hl.1 rfl (lv_room (Nat.le_of_ble_eq_true rfl)) dX3_sOf_1 ⟨(Nat.le_of_ble_eq_true rfl), (Nat.le_of_ble_eq_true rfl)⟩) ?_
  refine lv_iload_n hx hb dX3_sOf_4 rfl (lv_at hl 0 rfl) ?_
  refine lv_iload_n hx hb dX3_sOf_5 rfl (lv_at hl 1 rfl) ?_
  refine ro_call (va_runS (As := [.int p0, .int p1]) (rest := [.int (x_X2_ofG p2)]) ⟨hx, hb, hml, hown, hts⟩ (c_X2_of l D cI cZ cR _ p0 p1) (va_cwS 2 hts gX3_sOf_X2_of rfl rfl rfl hd_X2_of ⟨(Nat.le_of_ble_eq_true rfl), (Nat.le_of_ble_eq_true rfl)⟩) (po_pre hAM va_P.nil) rfl rfl hl.1 rfl (lv_room (Nat.le_of_ble_eq_true rfl)) dX3_sOf_6 ⟨(Nat.le_of_ble_eq_true rfl), (Nat.le_of_ble_eq_true rfl)⟩) ?_
  refine ro_call (va_runS (As := [.int (x_X2_ofG p2), .int (x_X2_of p0 p1)]) (rest := []) ⟨hx, hb, hml, hown, hts⟩ (c_X2_divided l D cI cZ cR _ (x_X2_ofG p2) (x_X2_of p0 p1)) (va_cwS 2 hts gX3_sOf_X2_divided rfl rfl rfl hd_X2_divided ⟨(Nat.le_of_ble_eq_true rfl), (Nat.le_of_ble_eq_true rfl)⟩) (po_pre hAM va_P.nil) rfl rfl hl.1 rfl (lv_room (Nat.le_of_ble_eq_true rfl)) dX3_sOf_9 ⟨(Nat.le_of_ble_eq_true rfl), (Nat.le_of_ble_eq_true rfl)⟩) ?_
  exact w_iret hx hb hr hlocks hE dX3_sOf_12

theorem hd_X3_tOf : yX3_tOf.cls ≠ "java/lang/invoke/MethodHandle" ∧ yX3_tOf.cls ≠ "java/lang/invoke/VarHandle" ∧ (parseMethodDescriptor yX3_tOf.desc).map (fun d => d.parameters.length) = some 5 := by decide +kernel
def x_X3_tOf (hh : Int32) (p1 : Int32) (p2 : Int32) (p3 : Int32) (p4 : Int32) : Int32 := (x_X2_divided (x_X2_of (x_X0_h hh) p4) (x_X2_of (x_X2_divided p1 (x_X2_ofG p2)) p3))
def rm_X3_tOf : Room := { frames := 3, cells := 0, slots := 0, locals := 67 }
theorem in_X3_tOf_X0 : ∀ w ∈ wsX00, w ∈ wsX3_tOf := fun _ h => List.mem_cons_of_mem _ (List.mem_append_right _ h)
set_option maxHeartbeats 4000000 in
set_option maxRecDepth 100000 in
theorem c_X3_tOf (l : Launch) (D : va_G) (cI cZ cR : ClassId) (H0 : Heap) (p0 : Nat) (need : Int32) (c0 : Int32) (c1 : Int32) (c2 : Int32) (hh : Int32) (p1 : Int32) (p2 : Int32) (p3 : Int32) (p4 : Int32) : Met l yX3_tOf wsX3_tOf rm_X3_tOf (po_P D cI cZ cR [.ref p0, .int p1, .int p2, .int p3, .int p4] [(p0, .inr (0, [.int need, .int c0, .int c1, .int c2, .int hh]))] H0) (po_Q (some (.int (x_X3_tOf hh p1 p2 p3 p4))) H0) 0 0 nF := by
  refine Met.ofW (cc := cX3_tOf) (maxL := 6) (ret := (some .int)) (by decide +kernel) rfl ?_
  intro p e s m args below meth c s₁ B hml hv
  obtain ⟨rfl, rfl, hAM, hP⟩ := hv
  have hx := B.exec
  have hb := B.bytes
  have hr := B.returns
  have hts := atoms_spec (ws := wsX3_tOf) B.pre
  have hown : s.vm.findClass RX3 = some m.cls := findClass_of_methodNamed B.named
  have hlocks := B.notSynchronized
  have hK := hAM.1
  generalize hE : (x_X3_tOf hh p1 p2 p3 p4) = Rv
  rw [x_X3_tOf] at hE
  have hl := lv_entry ([.ref p0, .int p1, .int p2, .int p3, .int p4]) (n := 6) (Nat.le_of_ble_eq_true rfl)
  rw [lg_entry_eq]
  generalize (lg_sl ([.ref p0, .int p1, .int p2, .int p3, .int p4]) ++ List.replicate (6 - (lg_sl ([.ref p0, .int p1, .int p2, .int p3, .int p4])).length) Slot.unset).toArray = ls at hl ⊢
  have hl : lv_has ls 6 [(0, .ref p0), (1, .int p1), (2, .int p2), (3, .int p3), (4, .int p4)] := hl
  refine lv_iload_n hx hb dX3_tOf_0 rfl (lv_at hl 1 rfl) ?_
  refine lv_iload_n hx hb dX3_tOf_1 rfl (lv_at hl 2 rfl) ?_
  refine ro_call (va_runS (As := [.int p2]) (rest := [.int p1]) ⟨hx, hb, hml, hown, hts⟩ (c_X2_ofG l D cI cZ cR _ p2) (va_cwS 1 hts gX3_tOf_X2_ofG rfl rfl rfl hd_X2_ofG ⟨(Nat.le_of_ble_eq_true rfl), (Nat.le_of_ble_eq_true rfl)⟩) (po_pre hAM va_P.nil) rfl rfl hl.1 rfl (lv_room (Nat.le_of_ble_eq_true rfl)) dX3_tOf_2 ⟨(Nat.le_of_ble_eq_true rfl), (Nat.le_of_ble_eq_true rfl)⟩) ?_
  refine ro_call (va_runS (As := [.int p1, .int (x_X2_ofG p2)]) (rest := []) ⟨hx, hb, hml, hown, hts⟩ (c_X2_divided l D cI cZ cR _ p1 (x_X2_ofG p2)) (va_cwS 2 hts gX3_tOf_X2_divided rfl rfl rfl hd_X2_divided ⟨(Nat.le_of_ble_eq_true rfl), (Nat.le_of_ble_eq_true rfl)⟩) (po_pre hAM va_P.nil) rfl rfl hl.1 rfl (lv_room (Nat.le_of_ble_eq_true rfl)) dX3_tOf_5 ⟨(Nat.le_of_ble_eq_true rfl), (Nat.le_of_ble_eq_true rfl)⟩) ?_
  refine lv_istore (lv' := [(5, .int (x_X2_divided p1 (x_X2_ofG p2))), (0, .ref p0), (1, .int p1), (2, .int p2), (3, .int p3), (4, .int p4)]) hx hb dX3_tOf_8 hl (by decide) rfl (fun ls hl => ?_)
  refine lv_aload_n hx hb dX3_tOf_10 rfl (lv_at hl 1 rfl) ?_
  refine ro_call (va_runV (As := []) (rest := []) ⟨hx, hb, hml, hown, hts⟩ (c_X0_h l D cI cZ cR _ p0 need c0 c1 c2 hh) (cwV 0 hts gX3_tOf_X0_h rfl rfl rfl ⟨rfl, hd_X0_h⟩ ⟨(Nat.le_of_ble_eq_true rfl), (Nat.le_of_ble_eq_true rfl)⟩) (po_preV hAM (hP.sub [0] rfl) (va_recv hK hP (ci := 0) (q0 := 0) rfl rfl)) rfl rfl hl.1 rfl (lv_room (Nat.le_of_ble_eq_true rfl)) dX3_tOf_11 ⟨(Nat.le_of_ble_eq_true rfl), (Nat.le_of_ble_eq_true rfl)⟩) ?_
  refine lv_iload hx hb dX3_tOf_14 (lv_at hl 5 rfl) ?_
  refine ro_call (va_runS (As := [.int (x_X0_h hh), .int p4]) (rest := []) ⟨hx, hb, hml, hown, hts⟩ (c_X2_of l D cI cZ cR _ (x_X0_h hh) p4) (va_cwS 2 hts gX3_tOf_X2_of rfl rfl rfl hd_X2_of ⟨(Nat.le_of_ble_eq_true rfl), (Nat.le_of_ble_eq_true rfl)⟩) (po_pre hAM va_P.nil) rfl rfl hl.1 rfl (lv_room (Nat.le_of_ble_eq_true rfl)) dX3_tOf_16 ⟨(Nat.le_of_ble_eq_true rfl), (Nat.le_of_ble_eq_true rfl)⟩) ?_
  refine lv_iload hx hb dX3_tOf_19 (lv_at hl 0 rfl) ?_
  refine lv_iload_n hx hb dX3_tOf_21 rfl (lv_at hl 4 rfl) ?_
  refine ro_call (va_runS (As := [.int (x_X2_divided p1 (x_X2_ofG p2)), .int p3]) (rest := [.int (x_X2_of (x_X0_h hh) p4)]) ⟨hx, hb, hml, hown, hts⟩ (c_X2_of l D cI cZ cR _ (x_X2_divided p1 (x_X2_ofG p2)) p3) (va_cwS 2 hts gX3_tOf_X2_of rfl rfl rfl hd_X2_of ⟨(Nat.le_of_ble_eq_true rfl), (Nat.le_of_ble_eq_true rfl)⟩) (po_pre hAM va_P.nil) rfl rfl hl.1 rfl (lv_room (Nat.le_of_ble_eq_true rfl)) dX3_tOf_22 ⟨(Nat.le_of_ble_eq_true rfl), (Nat.le_of_ble_eq_true rfl)⟩) ?_
  refine ro_call (va_runS (As := [.int (x_X2_of (x_X0_h hh) p4), .int (x_X2_of (x_X2_divided p1 (x_X2_ofG p2)) p3)]) (rest := []) ⟨hx, hb, hml, hown, hts⟩ (c_X2_divided l D cI cZ cR _ (x_X2_of (x_X0_h hh) p4) (x_X2_of (x_X2_divided p1 (x_X2_ofG p2)) p3)) (va_cwS 2 hts gX3_tOf_X2_divided rfl rfl rfl hd_X2_divided ⟨(Nat.le_of_ble_eq_true rfl), (Nat.le_of_ble_eq_true rfl)⟩) (po_pre hAM va_P.nil) rfl rfl hl.1 rfl (lv_room (Nat.le_of_ble_eq_true rfl)) dX3_tOf_25 ⟨(Nat.le_of_ble_eq_true rfl), (Nat.le_of_ble_eq_true rfl)⟩) ?_
  exact w_iret hx hb hr hlocks hE dX3_tOf_28

theorem hd_X3_holds : yX3_holds.cls ≠ "java/lang/invoke/MethodHandle" ∧ yX3_holds.cls ≠ "java/lang/invoke/VarHandle" ∧ (parseMethodDescriptor yX3_holds.desc).map (fun d => d.parameters.length) = some 3 := by decide +kernel
def x_X3_holds (pc0 : Int32) (pz0 : Int32) (pc1 : Int32) (pz1 : Int32) (hh : Int32) (p1 : Int32) (p2 : Int32) : Bool := (if (x_X2_isRight p1 p2) = true then (if (x_X8_areLots pc0 pz0 pc1 pz1) = true then (if (xRem (pc0 + pc1) 5003) = (x_X3_mixedWith (x_X3_mixedWith (x_X3_mixedWith (x_X3_mixedWith (x_X3_mixedWith (x_X3_mixedWith 1 p1) p2) (x_X3_sOf p1 pc0 pz0)) (x_X3_tOf hh p2 0 pc0 pz0)) (x_X3_sOf p1 pc1 pz1)) (x_X3_tOf hh p2 1 pc1 pz1)) then true else false) else false) else false)
def rm_X3_holds : Room := { frames := 4, cells := 0, slots := 0, locals := 92 }
theorem in_X3_holds_X0 : ∀ w ∈ wsX00, w ∈ wsX3_holds := fun _ h => List.mem_cons_of_mem _ (List.mem_append_right _ h)
theorem in_X3_holds_X3 : ∀ w ∈ wsX30, w ∈ wsX3_holds := fun _ h => List.mem_cons_of_mem _ (List.mem_append_left _ (List.mem_append_right _ h))
set_option maxHeartbeats 4000000 in
set_option maxRecDepth 100000 in
theorem c_X3_holds (l : Launch) (D : va_G) (cI cZ cR : ClassId) (H0 : Heap) (h0 p0 : Nat) (pc0 : Int32) (pz0 : Int32) (pc1 : Int32) (pz1 : Int32) (need : Int32) (c0 : Int32) (c1 : Int32) (c2 : Int32) (hh : Int32) (p1 : Int32) (p2 : Int32) : Met l yX3_holds wsX3_holds rm_X3_holds (po_P D cI cZ cR [.ref h0, .ref p0, .int p1, .int p2] [(h0, .inr (1, [.int pc0, .int pz0, .int pc1, .int pz1])), (p0, .inr (0, [.int need, .int c0, .int c1, .int c2, .int hh]))] H0) (po_Q (some (.int (bI (x_X3_holds pc0 pz0 pc1 pz1 hh p1 p2)))) H0) 0 0 nF := by
  refine Met.ofW (cc := cX3_holds) (maxL := 5) (ret := (some .boolean)) (by decide +kernel) rfl ?_
  intro p e s m args below meth c s₁ B hml hv
  obtain ⟨rfl, rfl, hAM, hP⟩ := hv
  have hx := B.exec
  have hb := B.bytes
  have hr := B.returns
  have hts := atoms_spec (ws := wsX3_holds) B.pre
  have hown : s.vm.findClass RX3 = some m.cls := findClass_of_methodNamed B.named
  have hlocks := B.notSynchronized
  have hK := hAM.1
  generalize hE : (x_X3_holds pc0 pz0 pc1 pz1 hh p1 p2) = Rv
  rw [x_X3_holds] at hE
  have hl := lv_entry ([.ref h0, .ref p0, .int p1, .int p2]) (n := 5) (Nat.le_of_ble_eq_true rfl)
  rw [lg_entry_eq]
  generalize (lg_sl ([.ref h0, .ref p0, .int p1, .int p2]) ++ List.replicate (5 - (lg_sl ([.ref h0, .ref p0, .int p1, .int p2])).length) Slot.unset).toArray = ls at hl ⊢
  have hl : lv_has ls 5 [(0, .ref h0), (1, .ref p0), (2, .int p1), (3, .int p2)] := hl
  refine lv_iload_n hx hb dX3_holds_0 rfl (lv_at hl 2 rfl) ?_
  refine lv_iload_n hx hb dX3_holds_1 rfl (lv_at hl 3 rfl) ?_
  refine ro_call (va_runS (As := [.int p1, .int p2]) (rest := []) ⟨hx, hb, hml, hown, hts⟩ (c_X2_isRight l D cI cZ cR _ p1 p2) (va_cwS 2 hts gX3_holds_X2_isRight rfl rfl rfl hd_X2_isRight ⟨(Nat.le_of_ble_eq_true rfl), (Nat.le_of_ble_eq_true rfl)⟩) (po_pre hAM va_P.nil) rfl rfl hl.1 rfl (lv_room (Nat.le_of_ble_eq_true rfl)) dX3_holds_2 ⟨(Nat.le_of_ble_eq_true rfl), (Nat.le_of_ble_eq_true rfl)⟩) ?_
  refine w_if_eqb (tgt := 30) hx hb dX3_holds_5 (by decide) (fun c_5 => ?_) (fun c_5 => ?_)
  · have hE := itF hE c_5
    refine lv_iconst (v := 0) hx hb dX3_holds_30 (by decide) ?_
    exact w_zret (v := false) hx hb hr hlocks hE dX3_holds_31
  · have hE := itT hE c_5
    refine lv_aload_n hx hb dX3_holds_8 rfl (lv_at hl 0 rfl) ?_
    refine va_get (D := D) (ci := 1) (v := .int pc0) (C := RX3) (T := TX3) (N := 4) hx hb hts in_X3_holds_X3 hown hK hP 0 rfl rfl 0 (by decide) (hts (.fieldLink RX3 9 "WallCount$Proof" "c0" "I") (List.mem_of_getElem? (i := 1) rfl)) (fun _ h9 => h9) rfl dX3_holds_9 ?_
    refine lv_aload_n hx hb dX3_holds_12 rfl (lv_at hl 0 rfl) ?_
    refine va_get (D := D) (ci := 1) (v := .int pz0) (C := RX3) (T := TX3) (N := 4) hx hb hts in_X3_holds_X3 hown hK hP 0 rfl rfl 1 (by decide) (hts (.fieldLink RX3 15 "WallCount$Proof" "z0" "I") (List.mem_of_getElem? (i := 2) rfl)) (fun _ h9 => h9) rfl dX3_holds_13 ?_
    refine lv_aload_n hx hb dX3_holds_16 rfl (lv_at hl 0 rfl) ?_
    refine va_get (D := D) (ci := 1) (v := .int pc1) (C := RX3) (T := TX3) (N := 4) hx hb hts in_X3_holds_X3 hown hK hP 0 rfl rfl 2 (by decide) (hts (.fieldLink RX3 18 "WallCount$Proof" "c1" "I") (List.mem_of_getElem? (i := 3) rfl)) (fun _ h9 => h9) rfl dX3_holds_17 ?_
    refine lv_aload_n hx hb dX3_holds_20 rfl (lv_at hl 0 rfl) ?_
    refine va_get (D := D) (ci := 1) (v := .int pz1) (C := RX3) (T := TX3) (N := 4) hx hb hts in_X3_holds_X3 hown hK hP 0 rfl rfl 3 (by decide) (hts (.fieldLink RX3 21 "WallCount$Proof" "z1" "I") (List.mem_of_getElem? (i := 4) rfl)) (fun _ h9 => h9) rfl dX3_holds_21 ?_
    refine ro_call (va_runSN (As := [.int pc0, .int pz0, .int pc1, .int pz1]) (rest := []) ⟨hx, hb, hml, hown, hts⟩ (c_X8_areLots l D cI cZ cR _ pc0 pz0 pc1 pz1) ⟨va_cnB 4 hts gX3_holds_X8_areLots_n30 rfl rfl rfl hAM.2.2.2.2 (hts (.initialized RX8) (List.mem_of_getElem? (i := 10) rfl)) hd_X8_areLots ⟨(Nat.le_of_ble_eq_true rfl), (Nat.le_of_ble_eq_true rfl)⟩, (hts (.static yX8_areLots) (List.mem_of_getElem? (i := 21) rfl)), trivial⟩ (po_pre hAM va_P.nil) rfl rfl hl.1 rfl (lv_room (Nat.le_of_ble_eq_true rfl)) dX3_holds_24 ⟨(Nat.le_of_ble_eq_true rfl), (Nat.le_of_ble_eq_true rfl)⟩) ?_
    refine w_if_neb (tgt := 32) hx hb dX3_holds_27 (by decide) (fun c_27 => ?_) (fun c_27 => ?_)
    · have hE := itT hE c_27
      refine lv_iconst (v := 1) hx hb dX3_holds_32 (by decide) ?_
      refine lv_iload_n hx hb dX3_holds_33 rfl (lv_at hl 2 rfl) ?_
      refine ro_call (va_runS (As := [.int 1, .int p1]) (rest := []) ⟨hx, hb, hml, hown, hts⟩ (c_X3_mixedWith l D cI cZ cR _ 1 p1) (va_cwS 2 hts gX3_holds_X3_mixedWith rfl rfl rfl hd_X3_mixedWith ⟨(Nat.le_of_ble_eq_true rfl), (Nat.le_of_ble_eq_true rfl)⟩) (po_pre hAM va_P.nil) rfl rfl hl.1 rfl (lv_room (Nat.le_of_ble_eq_true rfl)) dX3_holds_34 ⟨(Nat.le_of_ble_eq_true rfl), (Nat.le_of_ble_eq_true rfl)⟩) ?_
      refine lv_iload_n hx hb dX3_holds_37 rfl (lv_at hl 3 rfl) ?_
      refine ro_call (va_runS (As := [.int (x_X3_mixedWith 1 p1), .int p2]) (rest := []) ⟨hx, hb, hml, hown, hts⟩ (c_X3_mixedWith l D cI cZ cR _ (x_X3_mixedWith 1 p1) p2) (va_cwS 2 hts gX3_holds_X3_mixedWith rfl rfl rfl hd_X3_mixedWith ⟨(Nat.le_of_ble_eq_true rfl), (Nat.le_of_ble_eq_true rfl)⟩) (po_pre hAM va_P.nil) rfl rfl hl.1 rfl (lv_room (Nat.le_of_ble_eq_true rfl)) dX3_holds_38 ⟨(Nat.le_of_ble_eq_true rfl), (Nat.le_of_ble_eq_true rfl)⟩) ?_
      refine lv_istore (lv' := [(4, .int (x_X3_mixedWith (x_X3_mixedWith 1 p1) p2)), (0, .ref h0), (1, .ref p0), (2, .int p1), (3, .int p2)]) hx hb dX3_holds_41 hl (by decide) rfl (fun ls hl => ?_)
      refine lv_iload hx hb dX3_holds_43 (lv_at hl 0 rfl) ?_
      refine lv_iload_n hx hb dX3_holds_45 rfl (lv_at hl 3 rfl) ?_
      refine lv_aload_n hx hb dX3_holds_46 rfl (lv_at hl 1 rfl) ?_
      refine va_get (D := D) (ci := 1) (v := .int pc0) (C := RX3) (T := TX3) (N := 4) hx hb hts in_X3_holds_X3 hown hK hP 0 rfl rfl 0 (by decide) (hts (.fieldLink RX3 9 "WallCount$Proof" "c0" "I") (List.mem_of_getElem? (i := 1) rfl)) (fun _ h9 => h9) rfl dX3_holds_47 ?_
      refine lv_aload_n hx hb dX3_holds_50 rfl (lv_at hl 1 rfl) ?_
      refine va_get (D := D) (ci := 1) (v := .int pz0) (C := RX3) (T := TX3) (N := 4) hx hb hts in_X3_holds_X3 hown hK hP 0 rfl rfl 1 (by decide) (hts (.fieldLink RX3 15 "WallCount$Proof" "z0" "I") (List.mem_of_getElem? (i := 2) rfl)) (fun _ h9 => h9) rfl dX3_holds_51 ?_
      refine ro_call (va_runS (As := [.int p1, .int pc0, .int pz0]) (rest := [.int (x_X3_mixedWith (x_X3_mixedWith 1 p1) p2)]) ⟨hx, hb, hml, hown, hts⟩ (c_X3_sOf l D cI cZ cR _ p1 pc0 pz0) (va_cwS 3 hts gX3_holds_X3_sOf rfl rfl rfl hd_X3_sOf ⟨(Nat.le_of_ble_eq_true rfl), (Nat.le_of_ble_eq_true rfl)⟩) (po_pre hAM va_P.nil) rfl rfl hl.1 rfl (lv_room (Nat.le_of_ble_eq_true rfl)) dX3_holds_54 ⟨(Nat.le_of_ble_eq_true rfl), (Nat.le_of_ble_eq_true rfl)⟩) ?_
      refine ro_call (va_runS (As := [.int (x_X3_mixedWith (x_X3_mixedWith 1 p1) p2), .int (x_X3_sOf p1 pc0 pz0)]) (rest := []) ⟨hx, hb, hml, hown, hts⟩ (c_X3_mixedWith l D cI cZ cR _ (x_X3_mixedWith (x_X3_mixedWith 1 p1) p2) (x_X3_sOf p1 pc0 pz0)) (va_cwS 2 hts gX3_holds_X3_mixedWith rfl rfl rfl hd_X3_mixedWith ⟨(Nat.le_of_ble_eq_true rfl), (Nat.le_of_ble_eq_true rfl)⟩) (po_pre hAM va_P.nil) rfl rfl hl.1 rfl (lv_room (Nat.le_of_ble_eq_true rfl)) dX3_holds_57 ⟨(Nat.le_of_ble_eq_true rfl), (Nat.le_of_ble_eq_true rfl)⟩) ?_
      refine lv_aload_n hx hb dX3_holds_60 rfl (lv_at hl 2 rfl) ?_
      refine lv_iload_n hx hb dX3_holds_61 rfl (lv_at hl 4 rfl) ?_
      refine lv_iconst (v := 0) hx hb dX3_holds_62 (by decide) ?_
      refine lv_aload_n hx hb dX3_holds_63 rfl (lv_at hl 1 rfl) ?_
      refine va_get (D := D) (ci := 1) (v := .int pc0) (C := RX3) (T := TX3) (N := 4) hx hb hts in_X3_holds_X3 hown hK hP 0 rfl rfl 0 (by decide) (hts (.fieldLink RX3 9 "WallCount$Proof" "c0" "I") (List.mem_of_getElem? (i := 1) rfl)) (fun _ h9 => h9) rfl dX3_holds_64 ?_
      refine lv_aload_n hx hb dX3_holds_67 rfl (lv_at hl 1 rfl) ?_
      refine va_get (D := D) (ci := 1) (v := .int pz0) (C := RX3) (T := TX3) (N := 4) hx hb hts in_X3_holds_X3 hown hK hP 0 rfl rfl 1 (by decide) (hts (.fieldLink RX3 15 "WallCount$Proof" "z0" "I") (List.mem_of_getElem? (i := 2) rfl)) (fun _ h9 => h9) rfl dX3_holds_68 ?_
      refine ro_call (va_runS (As := [.ref p0, .int p2, .int 0, .int pc0, .int pz0]) (rest := [.int (x_X3_mixedWith (x_X3_mixedWith (x_X3_mixedWith 1 p1) p2) (x_X3_sOf p1 pc0 pz0))]) ⟨hx, hb, hml, hown, hts⟩ (c_X3_tOf l D cI cZ cR _ p0 need c0 c1 c2 hh p2 0 pc0 pz0) (va_cwS 5 hts gX3_holds_X3_tOf rfl rfl rfl hd_X3_tOf ⟨(Nat.le_of_ble_eq_true rfl), (Nat.le_of_ble_eq_true rfl)⟩) (po_pre hAM (hP.sub [1] rfl)) rfl rfl hl.1 rfl (lv_room (Nat.le_of_ble_eq_true rfl)) dX3_holds_71 ⟨(Nat.le_of_ble_eq_true rfl), (Nat.le_of_ble_eq_true rfl)⟩) ?_
      refine ro_call (va_runS (As := [.int (x_X3_mixedWith (x_X3_mixedWith (x_X3_mixedWith 1 p1) p2) (x_X3_sOf p1 pc0 pz0)), .int (x_X3_tOf hh p2 0 pc0 pz0)]) (rest := []) ⟨hx, hb, hml, hown, hts⟩ (c_X3_mixedWith l D cI cZ cR _ (x_X3_mixedWith (x_X3_mixedWith (x_X3_mixedWith 1 p1) p2) (x_X3_sOf p1 pc0 pz0)) (x_X3_tOf hh p2 0 pc0 pz0)) (va_cwS 2 hts gX3_holds_X3_mixedWith rfl rfl rfl hd_X3_mixedWith ⟨(Nat.le_of_ble_eq_true rfl), (Nat.le_of_ble_eq_true rfl)⟩) (po_pre hAM va_P.nil) rfl rfl hl.1 rfl (lv_room (Nat.le_of_ble_eq_true rfl)) dX3_holds_74 ⟨(Nat.le_of_ble_eq_true rfl), (Nat.le_of_ble_eq_true rfl)⟩) ?_
      refine lv_istore (lv' := [(4, .int (x_X3_mixedWith (x_X3_mixedWith (x_X3_mixedWith (x_X3_mixedWith 1 p1) p2) (x_X3_sOf p1 pc0 pz0)) (x_X3_tOf hh p2 0 pc0 pz0))), (0, .ref h0), (1, .ref p0), (2, .int p1), (3, .int p2)]) hx hb dX3_holds_77 hl (by decide) rfl (fun ls hl => ?_)
      refine lv_iload hx hb dX3_holds_79 (lv_at hl 0 rfl) ?_
      refine lv_iload_n hx hb dX3_holds_81 rfl (lv_at hl 3 rfl) ?_
      refine lv_aload_n hx hb dX3_holds_82 rfl (lv_at hl 1 rfl) ?_
      refine va_get (D := D) (ci := 1) (v := .int pc1) (C := RX3) (T := TX3) (N := 4) hx hb hts in_X3_holds_X3 hown hK hP 0 rfl rfl 2 (by decide) (hts (.fieldLink RX3 18 "WallCount$Proof" "c1" "I") (List.mem_of_getElem? (i := 3) rfl)) (fun _ h9 => h9) rfl dX3_holds_83 ?_
      refine lv_aload_n hx hb dX3_holds_86 rfl (lv_at hl 1 rfl) ?_
      refine va_get (D := D) (ci := 1) (v := .int pz1) (C := RX3) (T := TX3) (N := 4) hx hb hts in_X3_holds_X3 hown hK hP 0 rfl rfl 3 (by decide) (hts (.fieldLink RX3 21 "WallCount$Proof" "z1" "I") (List.mem_of_getElem? (i := 4) rfl)) (fun _ h9 => h9) rfl dX3_holds_87 ?_
      refine ro_call (va_runS (As := [.int p1, .int pc1, .int pz1]) (rest := [.int (x_X3_mixedWith (x_X3_mixedWith (x_X3_mixedWith (x_X3_mixedWith 1 p1) p2) (x_X3_sOf p1 pc0 pz0)) (x_X3_tOf hh p2 0 pc0 pz0))]) ⟨hx, hb, hml, hown, hts⟩ (c_X3_sOf l D cI cZ cR _ p1 pc1 pz1) (va_cwS 3 hts gX3_holds_X3_sOf rfl rfl rfl hd_X3_sOf ⟨(Nat.le_of_ble_eq_true rfl), (Nat.le_of_ble_eq_true rfl)⟩) (po_pre hAM va_P.nil) rfl rfl hl.1 rfl (lv_room (Nat.le_of_ble_eq_true rfl)) dX3_holds_90 ⟨(Nat.le_of_ble_eq_true rfl), (Nat.le_of_ble_eq_true rfl)⟩) ?_
      refine ro_call (va_runS (As := [.int (x_X3_mixedWith (x_X3_mixedWith (x_X3_mixedWith (x_X3_mixedWith 1 p1) p2) (x_X3_sOf p1 pc0 pz0)) (x_X3_tOf hh p2 0 pc0 pz0)), .int (x_X3_sOf p1 pc1 pz1)]) (rest := []) ⟨hx, hb, hml, hown, hts⟩ (c_X3_mixedWith l D cI cZ cR _ (x_X3_mixedWith (x_X3_mixedWith (x_X3_mixedWith (x_X3_mixedWith 1 p1) p2) (x_X3_sOf p1 pc0 pz0)) (x_X3_tOf hh p2 0 pc0 pz0)) (x_X3_sOf p1 pc1 pz1)) (va_cwS 2 hts gX3_holds_X3_mixedWith rfl rfl rfl hd_X3_mixedWith ⟨(Nat.le_of_ble_eq_true rfl), (Nat.le_of_ble_eq_true rfl)⟩) (po_pre hAM va_P.nil) rfl rfl hl.1 rfl (lv_room (Nat.le_of_ble_eq_true rfl)) dX3_holds_93 ⟨(Nat.le_of_ble_eq_true rfl), (Nat.le_of_ble_eq_true rfl)⟩) ?_
      refine lv_aload_n hx hb dX3_holds_96 rfl (lv_at hl 2 rfl) ?_
      refine lv_iload_n hx hb dX3_holds_97 rfl (lv_at hl 4 rfl) ?_
      refine lv_iconst (v := 1) hx hb dX3_holds_98 (by decide) ?_
      refine lv_aload_n hx hb dX3_holds_99 rfl (lv_at hl 1 rfl) ?_
      refine va_get (D := D) (ci := 1) (v := .int pc1) (C := RX3) (T := TX3) (N := 4) hx hb hts in_X3_holds_X3 hown hK hP 0 rfl rfl 2 (by decide) (hts (.fieldLink RX3 18 "WallCount$Proof" "c1" "I") (List.mem_of_getElem? (i := 3) rfl)) (fun _ h9 => h9) rfl dX3_holds_100 ?_
      refine lv_aload_n hx hb dX3_holds_103 rfl (lv_at hl 1 rfl) ?_
      refine va_get (D := D) (ci := 1) (v := .int pz1) (C := RX3) (T := TX3) (N := 4) hx hb hts in_X3_holds_X3 hown hK hP 0 rfl rfl 3 (by decide) (hts (.fieldLink RX3 21 "WallCount$Proof" "z1" "I") (List.mem_of_getElem? (i := 4) rfl)) (fun _ h9 => h9) rfl dX3_holds_104 ?_
      refine ro_call (va_runS (As := [.ref p0, .int p2, .int 1, .int pc1, .int pz1]) (rest := [.int (x_X3_mixedWith (x_X3_mixedWith (x_X3_mixedWith (x_X3_mixedWith (x_X3_mixedWith 1 p1) p2) (x_X3_sOf p1 pc0 pz0)) (x_X3_tOf hh p2 0 pc0 pz0)) (x_X3_sOf p1 pc1 pz1))]) ⟨hx, hb, hml, hown, hts⟩ (c_X3_tOf l D cI cZ cR _ p0 need c0 c1 c2 hh p2 1 pc1 pz1) (va_cwS 5 hts gX3_holds_X3_tOf rfl rfl rfl hd_X3_tOf ⟨(Nat.le_of_ble_eq_true rfl), (Nat.le_of_ble_eq_true rfl)⟩) (po_pre hAM (hP.sub [1] rfl)) rfl rfl hl.1 rfl (lv_room (Nat.le_of_ble_eq_true rfl)) dX3_holds_107 ⟨(Nat.le_of_ble_eq_true rfl), (Nat.le_of_ble_eq_true rfl)⟩) ?_
      refine ro_call (va_runS (As := [.int (x_X3_mixedWith (x_X3_mixedWith (x_X3_mixedWith (x_X3_mixedWith (x_X3_mixedWith 1 p1) p2) (x_X3_sOf p1 pc0 pz0)) (x_X3_tOf hh p2 0 pc0 pz0)) (x_X3_sOf p1 pc1 pz1)), .int (x_X3_tOf hh p2 1 pc1 pz1)]) (rest := []) ⟨hx, hb, hml, hown, hts⟩ (c_X3_mixedWith l D cI cZ cR _ (x_X3_mixedWith (x_X3_mixedWith (x_X3_mixedWith (x_X3_mixedWith (x_X3_mixedWith 1 p1) p2) (x_X3_sOf p1 pc0 pz0)) (x_X3_tOf hh p2 0 pc0 pz0)) (x_X3_sOf p1 pc1 pz1)) (x_X3_tOf hh p2 1 pc1 pz1)) (va_cwS 2 hts gX3_holds_X3_mixedWith rfl rfl rfl hd_X3_mixedWith ⟨(Nat.le_of_ble_eq_true rfl), (Nat.le_of_ble_eq_true rfl)⟩) (po_pre hAM va_P.nil) rfl rfl hl.1 rfl (lv_room (Nat.le_of_ble_eq_true rfl)) dX3_holds_110 ⟨(Nat.le_of_ble_eq_true rfl), (Nat.le_of_ble_eq_true rfl)⟩) ?_
      refine lv_istore (lv' := [(4, .int (x_X3_mixedWith (x_X3_mixedWith (x_X3_mixedWith (x_X3_mixedWith (x_X3_mixedWith (x_X3_mixedWith 1 p1) p2) (x_X3_sOf p1 pc0 pz0)) (x_X3_tOf hh p2 0 pc0 pz0)) (x_X3_sOf p1 pc1 pz1)) (x_X3_tOf hh p2 1 pc1 pz1))), (0, .ref h0), (1, .ref p0), (2, .int p1), (3, .int p2)]) hx hb dX3_holds_113 hl (by decide) rfl (fun ls hl => ?_)
      refine lv_aload_n hx hb dX3_holds_115 rfl (lv_at hl 1 rfl) ?_
      refine va_get (D := D) (ci := 1) (v := .int pc0) (C := RX3) (T := TX3) (N := 4) hx hb hts in_X3_holds_X3 hown hK hP 0 rfl rfl 0 (by decide) (hts (.fieldLink RX3 9 "WallCount$Proof" "c0" "I") (List.mem_of_getElem? (i := 1) rfl)) (fun _ h9 => h9) rfl dX3_holds_116 ?_
      refine lv_aload_n hx hb dX3_holds_119 rfl (lv_at hl 1 rfl) ?_
      refine va_get (D := D) (ci := 1) (v := .int pc1) (C := RX3) (T := TX3) (N := 4) hx hb hts in_X3_holds_X3 hown hK hP 0 rfl rfl 2 (by decide) (hts (.fieldLink RX3 18 "WallCount$Proof" "c1" "I") (List.mem_of_getElem? (i := 3) rfl)) (fun _ h9 => h9) rfl dX3_holds_120 ?_
      refine lv_iadd hx hb dX3_holds_123 ?_
      refine lv_sipush (v := 5003) hx hb dX3_holds_124 (by decide +kernel) ?_
      refine w_irem hx hb dX3_holds_127 (by decide +kernel) ?_
      refine lv_iload hx hb dX3_holds_128 (lv_at hl 0 rfl) ?_
      refine lv_icmp_ne (tgt := 137) hx hb dX3_holds_130 (by decide) (fun c_130 => ?_) (fun c_130 => ?_)
      · have hE := itF hE c_130
        refine lv_iconst (v := 0) hx hb dX3_holds_137 (by decide) ?_
        exact w_zret (v := false) hx hb hr hlocks hE dX3_holds_138
      · have hE := itT hE c_130
        refine lv_iconst (v := 1) hx hb dX3_holds_133 (by decide) ?_
        refine lv_goto (tgt := 138) hx hb dX3_holds_134 (by decide) ?_
        exact w_zret (v := true) hx hb hr hlocks hE dX3_holds_138
    · have hE := itF hE c_27
      refine lv_iconst (v := 0) hx hb dX3_holds_30 (by decide) ?_
      exact w_zret (v := false) hx hb hr hlocks hE dX3_holds_31

theorem hd_X6_size : yX6_size.cls ≠ "java/lang/invoke/MethodHandle" ∧ yX6_size.cls ≠ "java/lang/invoke/VarHandle" ∧ (parseMethodDescriptor yX6_size.desc).map (fun d => d.parameters.length) = some 0 := by decide +kernel
def x_X6_size (nt : Int32) : Int32 := nt
def rm_X6_size : Room := { frames := 0, cells := 0, slots := 0, locals := 0 }
theorem in_X6_size_X6 : ∀ w ∈ wsX60, w ∈ wsX6_size := fun _ h => List.mem_cons_of_mem _ (List.mem_append_right _ h)
set_option maxHeartbeats 4000000 in
set_option maxRecDepth 100000 in
theorem c_X6_size (l : Launch) (D : va_G) (cI cZ cR : ClassId) (H0 : Heap) (h0 h1 : Nat) (nt : Int32) (ft : Nat → Int32) : Met l yX6_size wsX6_size rm_X6_size (po_P D cI cZ cR [.ref h0] [(h0, .inr (4, [.ref h1, .int nt])), (h1, .inl (cI, 40, .inl ft))] H0) (po_Q (some (.int (x_X6_size nt))) H0) 0 0 nF := by
  refine Met.ofW (cc := cX6_size) (maxL := 1) (ret := (some .int)) (by decide +kernel) rfl ?_
  intro p e s m args below meth c s₁ B hml hv
  obtain ⟨rfl, rfl, hAM, hP⟩ := hv
  have hx := B.exec
  have hb := B.bytes
  have hr := B.returns
  have hts := atoms_spec (ws := wsX6_size) B.pre
  have hown : s.vm.findClass RX6 = some m.cls := findClass_of_methodNamed B.named
  have hlocks := B.notSynchronized
  have hK := hAM.1
  generalize hE : (x_X6_size nt) = Rv
  rw [x_X6_size] at hE
  have hl := lv_entry ([.ref h0]) (n := 1) (Nat.le_of_ble_eq_true rfl)
  rw [lg_entry_eq]
  generalize (lg_sl ([.ref h0]) ++ List.replicate (1 - (lg_sl ([.ref h0])).length) Slot.unset).toArray = ls at hl ⊢
  have hl : lv_has ls 1 [(0, .ref h0)] := hl
  refine lv_aload_n hx hb dX6_size_0 rfl (lv_at hl 0 rfl) ?_
  refine va_get (D := D) (ci := 4) (v := .int nt) (C := RX6) (T := TX6) (N := 2) hx hb hts in_X6_size_X6 hown hK hP 0 rfl rfl 1 (by decide) (hts (.fieldLink RX6 15 "WallCount$Text" "size" "I") (List.mem_of_getElem? (i := 1) rfl)) (fun _ h9 => h9) rfl dX6_size_1 ?_
  exact w_iret hx hb hr hlocks hE dX6_size_4

theorem hd_X6_stateBehind : yX6_stateBehind.cls ≠ "java/lang/invoke/MethodHandle" ∧ yX6_stateBehind.cls ≠ "java/lang/invoke/VarHandle" ∧ (parseMethodDescriptor yX6_stateBehind.desc).map (fun d => d.parameters.length) = some 2 := by decide +kernel
def x_X6_stateBehind (p0 : Int32) (p1 : Int32) : Int32 := (if p0 = 0 then (if (x_X6_isName p1) = true then 1 else (-1)) else (if p0 = 1 then (if (x_X6_isCompare p1) = true then 2 else (-1)) else (if (x_X6_isDigit p1) = true then (if 5 ≤ p0 then (-1) else (p0 + 1)) else (if p0 < 3 then (-1) else (if (x_X6_isJoin p1) = true then 0 else (-1))))))
def rm_X6_stateBehind : Room := { frames := 1, cells := 0, slots := 0, locals := 20 }
set_option maxHeartbeats 4000000 in
set_option maxRecDepth 100000 in
theorem c_X6_stateBehind (l : Launch) (D : va_G) (cI cZ cR : ClassId) (H0 : Heap) (p0 : Int32) (p1 : Int32) : Met l yX6_stateBehind wsX6_stateBehind rm_X6_stateBehind (po_P D cI cZ cR [.int p0, .int p1] [] H0) (po_Q (some (.int (x_X6_stateBehind p0 p1))) H0) 0 0 nF := by
  refine Met.ofW (cc := cX6_stateBehind) (maxL := 2) (ret := (some .int)) (by decide +kernel) rfl ?_
  intro p e s m args below meth c s₁ B hml hv
  obtain ⟨rfl, rfl, hAM, hP⟩ := hv
  have hx := B.exec
  have hb := B.bytes
  have hr := B.returns
  have hts := atoms_spec (ws := wsX6_stateBehind) B.pre
  have hown : s.vm.findClass RX6 = some m.cls := findClass_of_methodNamed B.named
  have hlocks := B.notSynchronized
  have hK := hAM.1
  generalize hE : (x_X6_stateBehind p0 p1) = Rv
  rw [x_X6_stateBehind] at hE
  have hl := lv_entry ([.int p0, .int p1]) (n := 2) (Nat.le_of_ble_eq_true rfl)
  rw [lg_entry_eq]
  generalize (lg_sl ([.int p0, .int p1]) ++ List.replicate (2 - (lg_sl ([.int p0, .int p1])).length) Slot.unset).toArray = ls at hl ⊢
  have hl : lv_has ls 2 [(0, .int p0), (1, .int p1)] := hl
  refine lv_iload_n hx hb dX6_stateBehind_0 rfl (lv_at hl 0 rfl) ?_
  refine lv_if_ne (tgt := 17) hx hb dX6_stateBehind_1 (by decide) (fun c_1 => ?_) (fun c_1 => ?_)
  · have hE := itF hE c_1
    refine lv_iload_n hx hb dX6_stateBehind_17 rfl (lv_at hl 0 rfl) ?_
    refine lv_iconst (v := 1) hx hb dX6_stateBehind_18 (by decide) ?_
    refine lv_icmp_ne (tgt := 35) hx hb dX6_stateBehind_19 (by decide) (fun c_19 => ?_) (fun c_19 => ?_)
    · have hE := itF hE c_19
      refine lv_iload_n hx hb dX6_stateBehind_35 rfl (lv_at hl 1 rfl) ?_
      refine ro_call (va_runS (As := [.int p1]) (rest := []) ⟨hx, hb, hml, hown, hts⟩ (c_X6_isDigit l D cI cZ cR _ p1) (va_cwS 1 hts gX6_stateBehind_X6_isDigit rfl rfl rfl hd_X6_isDigit ⟨(Nat.le_of_ble_eq_true rfl), (Nat.le_of_ble_eq_true rfl)⟩) (po_pre hAM va_P.nil) rfl rfl hl.1 rfl (lv_room (Nat.le_of_ble_eq_true rfl)) dX6_stateBehind_36 ⟨(Nat.le_of_ble_eq_true rfl), (Nat.le_of_ble_eq_true rfl)⟩) ?_
      refine w_if_eqb (tgt := 55) hx hb dX6_stateBehind_39 (by decide) (fun c_39 => ?_) (fun c_39 => ?_)
      · have hE := itF hE c_39
        refine lv_iload_n hx hb dX6_stateBehind_55 rfl (lv_at hl 0 rfl) ?_
        refine lv_iconst (v := 3) hx hb dX6_stateBehind_56 (by decide) ?_
        refine lv_icmp_lt (tgt := 71) hx hb dX6_stateBehind_57 (by decide) (fun c_57 => ?_) (fun c_57 => ?_)
        · have hE := itT hE c_57
          refine lv_iconst (v := (-1)) hx hb dX6_stateBehind_71 (by decide) ?_
          exact w_iret hx hb hr hlocks hE dX6_stateBehind_72
        · have hE := itF hE c_57
          refine lv_iload_n hx hb dX6_stateBehind_60 rfl (lv_at hl 1 rfl) ?_
          refine ro_call (va_runS (As := [.int p1]) (rest := []) ⟨hx, hb, hml, hown, hts⟩ (c_X6_isJoin l D cI cZ cR _ p1) (va_cwS 1 hts gX6_stateBehind_X6_isJoin rfl rfl rfl hd_X6_isJoin ⟨(Nat.le_of_ble_eq_true rfl), (Nat.le_of_ble_eq_true rfl)⟩) (po_pre hAM va_P.nil) rfl rfl hl.1 rfl (lv_room (Nat.le_of_ble_eq_true rfl)) dX6_stateBehind_61 ⟨(Nat.le_of_ble_eq_true rfl), (Nat.le_of_ble_eq_true rfl)⟩) ?_
          refine w_if_eqb (tgt := 71) hx hb dX6_stateBehind_64 (by decide) (fun c_64 => ?_) (fun c_64 => ?_)
          · have hE := itF hE c_64
            refine lv_iconst (v := (-1)) hx hb dX6_stateBehind_71 (by decide) ?_
            exact w_iret hx hb hr hlocks hE dX6_stateBehind_72
          · have hE := itT hE c_64
            refine lv_iconst (v := 0) hx hb dX6_stateBehind_67 (by decide) ?_
            refine lv_goto (tgt := 72) hx hb dX6_stateBehind_68 (by decide) ?_
            exact w_iret hx hb hr hlocks hE dX6_stateBehind_72
      · have hE := itT hE c_39
        refine lv_iload_n hx hb dX6_stateBehind_42 rfl (lv_at hl 0 rfl) ?_
        refine lv_iconst (v := 5) hx hb dX6_stateBehind_43 (by decide) ?_
        refine lv_icmp_ge (tgt := 53) hx hb dX6_stateBehind_44 (by decide) (fun c_44 => ?_) (fun c_44 => ?_)
        · have hE := itT hE c_44
          refine lv_iconst (v := (-1)) hx hb dX6_stateBehind_53 (by decide) ?_
          exact w_iret hx hb hr hlocks hE dX6_stateBehind_54
        · have hE := itF hE c_44
          refine lv_iload_n hx hb dX6_stateBehind_47 rfl (lv_at hl 0 rfl) ?_
          refine lv_iconst (v := 1) hx hb dX6_stateBehind_48 (by decide) ?_
          refine lv_iadd hx hb dX6_stateBehind_49 ?_
          refine lv_goto (tgt := 54) hx hb dX6_stateBehind_50 (by decide) ?_
          exact w_iret hx hb hr hlocks hE dX6_stateBehind_54
    · have hE := itT hE c_19
      refine lv_iload_n hx hb dX6_stateBehind_22 rfl (lv_at hl 1 rfl) ?_
      refine ro_call (va_runS (As := [.int p1]) (rest := []) ⟨hx, hb, hml, hown, hts⟩ (c_X6_isCompare l D cI cZ cR _ p1) (va_cwS 1 hts gX6_stateBehind_X6_isCompare rfl rfl rfl hd_X6_isCompare ⟨(Nat.le_of_ble_eq_true rfl), (Nat.le_of_ble_eq_true rfl)⟩) (po_pre hAM va_P.nil) rfl rfl hl.1 rfl (lv_room (Nat.le_of_ble_eq_true rfl)) dX6_stateBehind_23 ⟨(Nat.le_of_ble_eq_true rfl), (Nat.le_of_ble_eq_true rfl)⟩) ?_
      refine w_if_eqb (tgt := 33) hx hb dX6_stateBehind_26 (by decide) (fun c_26 => ?_) (fun c_26 => ?_)
      · have hE := itF hE c_26
        refine lv_iconst (v := (-1)) hx hb dX6_stateBehind_33 (by decide) ?_
        exact w_iret hx hb hr hlocks hE dX6_stateBehind_34
      · have hE := itT hE c_26
        refine lv_iconst (v := 2) hx hb dX6_stateBehind_29 (by decide) ?_
        refine lv_goto (tgt := 34) hx hb dX6_stateBehind_30 (by decide) ?_
        exact w_iret hx hb hr hlocks hE dX6_stateBehind_34
  · have hE := itT hE c_1
    refine lv_iload_n hx hb dX6_stateBehind_4 rfl (lv_at hl 1 rfl) ?_
    refine ro_call (va_runS (As := [.int p1]) (rest := []) ⟨hx, hb, hml, hown, hts⟩ (c_X6_isName l D cI cZ cR _ p1) (va_cwS 1 hts gX6_stateBehind_X6_isName rfl rfl rfl hd_X6_isName ⟨(Nat.le_of_ble_eq_true rfl), (Nat.le_of_ble_eq_true rfl)⟩) (po_pre hAM va_P.nil) rfl rfl hl.1 rfl (lv_room (Nat.le_of_ble_eq_true rfl)) dX6_stateBehind_5 ⟨(Nat.le_of_ble_eq_true rfl), (Nat.le_of_ble_eq_true rfl)⟩) ?_
    refine w_if_eqb (tgt := 15) hx hb dX6_stateBehind_8 (by decide) (fun c_8 => ?_) (fun c_8 => ?_)
    · have hE := itF hE c_8
      refine lv_iconst (v := (-1)) hx hb dX6_stateBehind_15 (by decide) ?_
      exact w_iret hx hb hr hlocks hE dX6_stateBehind_16
    · have hE := itT hE c_8
      refine lv_iconst (v := 1) hx hb dX6_stateBehind_11 (by decide) ?_
      refine lv_goto (tgt := 16) hx hb dX6_stateBehind_12 (by decide) ?_
      exact w_iret hx hb hr hlocks hE dX6_stateBehind_16

theorem hd_X6_faultPlace : yX6_faultPlace.cls ≠ "java/lang/invoke/MethodHandle" ∧ yX6_faultPlace.cls ≠ "java/lang/invoke/VarHandle" ∧ (parseMethodDescriptor yX6_faultPlace.desc).map (fun d => d.parameters.length) = some 0 := by decide +kernel
def x_X6_faultPlace_L4 (nt : Int32) (ft : Nat → Int32) : Nat → Int32 → Int32 → Int32
  | 0, _, _ => 0
  | n + 1, v1, v2 => (if nt ≤ v2 then (if v1 < 3 then nt else (-6)) else (if 40 ≤ v2 then (if v1 < 3 then nt else (-6)) else (if (x_X6_stateBehind v1 (ft (ix v2))) = (-1) then v2 else (x_X6_faultPlace_L4 nt ft n (x_X6_stateBehind v1 (ft (ix v2))) (v2 + 1)))))
def x_X6_faultPlace (nt : Int32) (ft : Nat → Int32) : Int32 := (x_X6_faultPlace_L4 nt ft (41) 0 0)
def rm_X6_faultPlace : Room := { frames := 2, cells := 0, slots := 0, locals := 41 }
theorem in_X6_faultPlace_X6 : ∀ w ∈ wsX60, w ∈ wsX6_faultPlace := fun _ h => List.mem_cons_of_mem _ (List.mem_append_right _ h)
set_option maxHeartbeats 4000000 in
set_option maxRecDepth 100000 in
theorem c_X6_faultPlace (l : Launch) (D : va_G) (cI cZ cR : ClassId) (H0 : Heap) (h0 h1 : Nat) (nt : Int32) (ft : Nat → Int32) : Met l yX6_faultPlace wsX6_faultPlace rm_X6_faultPlace (po_P D cI cZ cR [.ref h0] [(h0, .inr (4, [.ref h1, .int nt])), (h1, .inl (cI, 40, .inl ft))] H0) (po_Q (some (.int (x_X6_faultPlace nt ft))) H0) 0 0 nF := by
  refine Met.ofW (cc := cX6_faultPlace) (maxL := 3) (ret := (some .int)) (by decide +kernel) rfl ?_
  intro p e s m args below meth c s₁ B hml hv
  obtain ⟨rfl, rfl, hAM, hP⟩ := hv
  have hx := B.exec
  have hb := B.bytes
  have hr := B.returns
  have hts := atoms_spec (ws := wsX6_faultPlace) B.pre
  have hown : s.vm.findClass RX6 = some m.cls := findClass_of_methodNamed B.named
  have hlocks := B.notSynchronized
  have hK := hAM.1
  generalize hE : (x_X6_faultPlace nt ft) = Rv
  rw [x_X6_faultPlace] at hE
  have hl := lv_entry ([.ref h0]) (n := 3) (Nat.le_of_ble_eq_true rfl)
  rw [lg_entry_eq]
  generalize (lg_sl ([.ref h0]) ++ List.replicate (3 - (lg_sl ([.ref h0])).length) Slot.unset).toArray = ls at hl ⊢
  have hl : lv_has ls 3 [(0, .ref h0)] := hl
  refine lv_iconst (v := 0) hx hb dX6_faultPlace_0 (by decide) ?_
  refine lv_istore_n (lv' := [(1, .int 0), (0, .ref h0)]) hx hb dX6_faultPlace_1 rfl hl (by decide) rfl (fun ls hl => ?_)
  refine lv_iconst (v := 0) hx hb dX6_faultPlace_2 (by decide) ?_
  refine lv_istore_n (lv' := [(2, .int 0), (1, .int 0), (0, .ref h0)]) hx hb dX6_faultPlace_3 rfl hl (by decide) rfl (fun ls hl => ?_)
  suffices loop : ∀ (n : Nat) (v1 : Int32) (v2 : Int32), (UP 0 40 n v2) → x_X6_faultPlace_L4 nt ft n v1 v2 = Rv → ∀ ls : Array Slot, lv_has ls 3 [(2, .int v2), (1, .int v1), (0, .ref h0)] → W p l e (headSpec wsX6_faultPlace rm_X6_faultPlace).room s m ([.ref h0] : List Value).toArray below meth c s.heap [] 0 0 (MQ below (po_Q (some (.int Rv)) s.heap) ([.ref h0] : List Value).toArray s 0 0 nF) (F0 m 4 ls []) from
    loop (41) 0 0 (UP.start 0 (by omega) (by omega)) hE ls (lv_sub hl [0, 1, 2] rfl)
  clear hE hl ls
  intro n
  induction n with
  | zero =>
    intro v1 v2 hI _ _ _
    exact absurd hI (UP.zero)
  | succ n ih =>
    intro v1 v2 hI hE ls hl
    rw [x_X6_faultPlace_L4] at hE
    refine lv_iload_n hx hb dX6_faultPlace_4 rfl (lv_at hl 0 rfl) ?_
    refine lv_aload_n hx hb dX6_faultPlace_5 rfl (lv_at hl 2 rfl) ?_
    refine va_get (D := D) (ci := 4) (v := .int nt) (C := RX6) (T := TX6) (N := 2) hx hb hts in_X6_faultPlace_X6 hown hK hP 0 rfl rfl 1 (by decide) (hts (.fieldLink RX6 15 "WallCount$Text" "size" "I") (List.mem_of_getElem? (i := 1) rfl)) (fun _ h9 => h9) rfl dX6_faultPlace_6 ?_
    refine lv_icmp_ge (tgt := 45) hx hb dX6_faultPlace_9 (by decide) (fun c_9 => ?_) (fun c_9 => ?_)
    · have hE := itT hE c_9
      refine lv_iload_n hx hb dX6_faultPlace_45 rfl (lv_at hl 1 rfl) ?_
      refine lv_iconst (v := 3) hx hb dX6_faultPlace_46 (by decide) ?_
      refine lv_icmp_lt (tgt := 55) hx hb dX6_faultPlace_47 (by decide) (fun c_47 => ?_) (fun c_47 => ?_)
      · have hE := itT hE c_47
        refine lv_aload_n hx hb dX6_faultPlace_55 rfl (lv_at hl 2 rfl) ?_
        refine va_get (D := D) (ci := 4) (v := .int nt) (C := RX6) (T := TX6) (N := 2) hx hb hts in_X6_faultPlace_X6 hown hK hP 0 rfl rfl 1 (by decide) (hts (.fieldLink RX6 15 "WallCount$Text" "size" "I") (List.mem_of_getElem? (i := 1) rfl)) (fun _ h9 => h9) rfl dX6_faultPlace_56 ?_
        exact w_iret hx hb hr hlocks hE dX6_faultPlace_59
      · have hE := itF hE c_47
        refine lv_bipush (v := (-6)) hx hb dX6_faultPlace_50 (by decide +kernel) ?_
        refine lv_goto (tgt := 59) hx hb dX6_faultPlace_52 (by decide) ?_
        exact w_iret hx hb hr hlocks hE dX6_faultPlace_59
    · have hE := itF hE c_9
      refine lv_iload_n hx hb dX6_faultPlace_12 rfl (lv_at hl 0 rfl) ?_
      refine lv_aload_n hx hb dX6_faultPlace_13 rfl (lv_at hl 2 rfl) ?_
      refine va_get (D := D) (ci := 4) (v := .ref h1) (C := RX6) (T := TX6) (N := 2) hx hb hts in_X6_faultPlace_X6 hown hK hP 0 rfl rfl 0 (by decide) (hts (.fieldLink RX6 9 "WallCount$Text" "signs" "[I") (List.mem_of_getElem? (i := 2) rfl)) (fun _ h9 => h9) rfl dX6_faultPlace_14 ?_
      refine va_alen (v := 40) hx hb hK hP 1 0 rfl rfl rfl dX6_faultPlace_17 ?_
      refine lv_icmp_ge (tgt := 45) hx hb dX6_faultPlace_18 (by decide) (fun c_18 => ?_) (fun c_18 => ?_)
      · have hE := itT hE c_18
        refine lv_iload_n hx hb dX6_faultPlace_45 rfl (lv_at hl 1 rfl) ?_
        refine lv_iconst (v := 3) hx hb dX6_faultPlace_46 (by decide) ?_
        refine lv_icmp_lt (tgt := 55) hx hb dX6_faultPlace_47 (by decide) (fun c_47 => ?_) (fun c_47 => ?_)
        · have hE := itT hE c_47
          refine lv_aload_n hx hb dX6_faultPlace_55 rfl (lv_at hl 2 rfl) ?_
          refine va_get (D := D) (ci := 4) (v := .int nt) (C := RX6) (T := TX6) (N := 2) hx hb hts in_X6_faultPlace_X6 hown hK hP 0 rfl rfl 1 (by decide) (hts (.fieldLink RX6 15 "WallCount$Text" "size" "I") (List.mem_of_getElem? (i := 1) rfl)) (fun _ h9 => h9) rfl dX6_faultPlace_56 ?_
          exact w_iret hx hb hr hlocks hE dX6_faultPlace_59
        · have hE := itF hE c_47
          refine lv_bipush (v := (-6)) hx hb dX6_faultPlace_50 (by decide +kernel) ?_
          refine lv_goto (tgt := 59) hx hb dX6_faultPlace_52 (by decide) ?_
          exact w_iret hx hb hr hlocks hE dX6_faultPlace_59
      · have hE := itF hE c_18
        refine lv_iload_n hx hb dX6_faultPlace_21 rfl (lv_at hl 1 rfl) ?_
        refine lv_aload_n hx hb dX6_faultPlace_22 rfl (lv_at hl 2 rfl) ?_
        refine va_get (D := D) (ci := 4) (v := .ref h1) (C := RX6) (T := TX6) (N := 2) hx hb hts in_X6_faultPlace_X6 hown hK hP 0 rfl rfl 0 (by decide) (hts (.fieldLink RX6 9 "WallCount$Text" "signs" "[I") (List.mem_of_getElem? (i := 2) rfl)) (fun _ h9 => h9) rfl dX6_faultPlace_23 ?_
        refine lv_iload_n hx hb dX6_faultPlace_26 rfl (lv_at hl 0 rfl) ?_
        refine va_iald hx hb hK hP 1 0 rfl rfl (up_in hI (by decide) rfl (by decide) c_18) dX6_faultPlace_27 ?_
        refine ro_call (va_runS (As := [.int v1, .int (ft (ix v2))]) (rest := []) ⟨hx, hb, hml, hown, hts⟩ (c_X6_stateBehind l D cI cZ cR _ v1 (ft (ix v2))) (va_cwS 2 hts gX6_faultPlace_X6_stateBehind rfl rfl rfl hd_X6_stateBehind ⟨(Nat.le_of_ble_eq_true rfl), (Nat.le_of_ble_eq_true rfl)⟩) (po_pre hAM va_P.nil) rfl rfl hl.1 rfl (lv_room (Nat.le_of_ble_eq_true rfl)) dX6_faultPlace_28 ⟨(Nat.le_of_ble_eq_true rfl), (Nat.le_of_ble_eq_true rfl)⟩) ?_
        refine lv_istore_n (lv' := [(1, .int (x_X6_stateBehind v1 (ft (ix v2)))), (2, .int v2), (0, .ref h0)]) hx hb dX6_faultPlace_31 rfl hl (by decide) rfl (fun ls hl => ?_)
        refine lv_iload_n hx hb dX6_faultPlace_32 rfl (lv_at hl 0 rfl) ?_
        refine lv_iconst (v := (-1)) hx hb dX6_faultPlace_33 (by decide) ?_
        refine lv_icmp_ne (tgt := 39) hx hb dX6_faultPlace_34 (by decide) (fun c_34 => ?_) (fun c_34 => ?_)
        · have hE := itF hE c_34
          refine lv_iinc (v := (v2 + 1)) (lv' := [(2, .int (v2 + 1)), (1, .int (x_X6_stateBehind v1 (ft (ix v2)))), (0, .ref h0)]) hx hb dX6_faultPlace_39 hl (k := 1) rfl rfl (by decide) rfl (fun ls hl => ?_)
          refine lv_goto (tgt := 4) hx hb dX6_faultPlace_42 (by decide) ?_
          exact ih (x_X6_stateBehind v1 (ft (ix v2))) (v2 + 1) ((hI.ge (by decide) rfl c_18).1) hE ls (lv_sub hl [0, 1, 2] rfl)
        · have hE := itT hE c_34
          refine lv_iload_n hx hb dX6_faultPlace_37 rfl (lv_at hl 1 rfl) ?_
          exact w_iret hx hb hr hlocks hE dX6_faultPlace_38

theorem hd_X6_allows : yX6_allows.cls ≠ "java/lang/invoke/MethodHandle" ∧ yX6_allows.cls ≠ "java/lang/invoke/VarHandle" ∧ (parseMethodDescriptor yX6_allows.desc).map (fun d => d.parameters.length) = some 3 := by decide +kernel
def x_X6_allows_L27 (nt : Int32) (ft : Nat → Int32) (p0 : Int32) (p1 : Int32) (p2 : Int32) : Nat → Bool → Bool → Int32 → Int32 → Int32 → Int32 → Bool
  | 0, _, _, _, _, _, _ => false
  | n + 1, v4, v5, v6, v7, v8, v9 => (if nt ≤ v9 then (if v4 = true then true else (if v5 = true then (if (x_X6_passes v6 v7 v8) = true then true else false) else false)) else (if 40 ≤ v9 then (if v4 = true then true else (if v5 = true then (if (x_X6_passes v6 v7 v8) = true then true else false) else false)) else (if (x_X6_isName (ft (ix v9))) = true then (if (ft (ix v9)) = 97 then (x_X6_allows_L27 nt ft p0 p1 p2 n v4 v5 p0 v7 0 (v9 + 1)) else (if (ft (ix v9)) = 121 then (x_X6_allows_L27 nt ft p0 p1 p2 n v4 v5 p1 v7 0 (v9 + 1)) else (x_X6_allows_L27 nt ft p0 p1 p2 n v4 v5 p2 v7 0 (v9 + 1)))) else (if (x_X6_isCompare (ft (ix v9))) = true then (x_X6_allows_L27 nt ft p0 p1 p2 n v4 v5 v6 (ft (ix v9)) v8 (v9 + 1)) else (if (x_X6_isDigit (ft (ix v9))) = true then (x_X6_allows_L27 nt ft p0 p1 p2 n v4 v5 v6 v7 (((v8 * 10) + (ft (ix v9))) - 48) (v9 + 1)) else (if v5 = true then (if (x_X6_passes v6 v7 v8) = true then (if (ft (ix v9)) = 124 then (if v4 = true then (x_X6_allows_L27 nt ft p0 p1 p2 n true true v6 v7 v8 (v9 + 1)) else (x_X6_allows_L27 nt ft p0 p1 p2 n true true v6 v7 v8 (v9 + 1))) else (x_X6_allows_L27 nt ft p0 p1 p2 n v4 true v6 v7 v8 (v9 + 1))) else (if (ft (ix v9)) = 124 then (if v4 = true then (x_X6_allows_L27 nt ft p0 p1 p2 n true true v6 v7 v8 (v9 + 1)) else (x_X6_allows_L27 nt ft p0 p1 p2 n false true v6 v7 v8 (v9 + 1))) else (x_X6_allows_L27 nt ft p0 p1 p2 n v4 false v6 v7 v8 (v9 + 1)))) else (if (ft (ix v9)) = 124 then (if v4 = true then (x_X6_allows_L27 nt ft p0 p1 p2 n true true v6 v7 v8 (v9 + 1)) else (x_X6_allows_L27 nt ft p0 p1 p2 n false true v6 v7 v8 (v9 + 1))) else (x_X6_allows_L27 nt ft p0 p1 p2 n v4 false v6 v7 v8 (v9 + 1)))))))))
def x_X6_allows (nt : Int32) (ft : Nat → Int32) (p0 : Int32) (p1 : Int32) (p2 : Int32) : Bool := (if nt = 0 then true else (x_X6_allows_L27 nt ft p0 p1 p2 (41) false true 0 0 0 0))
def rm_X6_allows : Room := { frames := 1, cells := 0, slots := 0, locals := 22 }
theorem in_X6_allows_X6 : ∀ w ∈ wsX60, w ∈ wsX6_allows := fun _ h => List.mem_cons_of_mem _ (List.mem_append_right _ h)
set_option maxHeartbeats 4000000 in
set_option maxRecDepth 100000 in
theorem c_X6_allows (l : Launch) (D : va_G) (cI cZ cR : ClassId) (H0 : Heap) (h0 h1 : Nat) (nt : Int32) (ft : Nat → Int32) (p0 : Int32) (p1 : Int32) (p2 : Int32) : Met l yX6_allows wsX6_allows rm_X6_allows (po_P D cI cZ cR [.ref h0, .int p0, .int p1, .int p2] [(h0, .inr (4, [.ref h1, .int nt])), (h1, .inl (cI, 40, .inl ft))] H0) (po_Q (some (.int (bI (x_X6_allows nt ft p0 p1 p2)))) H0) 0 0 nF := by
  refine Met.ofW (cc := cX6_allows) (maxL := 11) (ret := (some .boolean)) (by decide +kernel) rfl ?_
  intro p e s m args below meth c s₁ B hml hv
  obtain ⟨rfl, rfl, hAM, hP⟩ := hv
  have hx := B.exec
  have hb := B.bytes
  have hr := B.returns
  have hts := atoms_spec (ws := wsX6_allows) B.pre
  have hown : s.vm.findClass RX6 = some m.cls := findClass_of_methodNamed B.named
  have hlocks := B.notSynchronized
  have hK := hAM.1
  generalize hE : (x_X6_allows nt ft p0 p1 p2) = Rv
  rw [x_X6_allows] at hE
  have hl := lv_entry ([.ref h0, .int p0, .int p1, .int p2]) (n := 11) (Nat.le_of_ble_eq_true rfl)
  rw [lg_entry_eq]
  generalize (lg_sl ([.ref h0, .int p0, .int p1, .int p2]) ++ List.replicate (11 - (lg_sl ([.ref h0, .int p0, .int p1, .int p2])).length) Slot.unset).toArray = ls at hl ⊢
  have hl : lv_has ls 11 [(0, .ref h0), (1, .int p0), (2, .int p1), (3, .int p2)] := hl
  refine lv_aload_n hx hb dX6_allows_0 rfl (lv_at hl 0 rfl) ?_
  refine va_get (D := D) (ci := 4) (v := .int nt) (C := RX6) (T := TX6) (N := 2) hx hb hts in_X6_allows_X6 hown hK hP 0 rfl rfl 1 (by decide) (hts (.fieldLink RX6 15 "WallCount$Text" "size" "I") (List.mem_of_getElem? (i := 1) rfl)) (fun _ h9 => h9) rfl dX6_allows_1 ?_
  refine lv_if_ne (tgt := 9) hx hb dX6_allows_4 (by decide) (fun c_4 => ?_) (fun c_4 => ?_)
  · have hE := itF hE c_4
    refine lv_iconst (v := 0) hx hb dX6_allows_9 (by decide) ?_
    refine lv_istore (lv' := [(4, .int 0), (0, .ref h0), (1, .int p0), (2, .int p1), (3, .int p2)]) hx hb dX6_allows_10 hl (by decide) rfl (fun ls hl => ?_)
    refine lv_iconst (v := 1) hx hb dX6_allows_12 (by decide) ?_
    refine lv_istore (lv' := [(5, .int 1), (4, .int 0), (0, .ref h0), (1, .int p0), (2, .int p1), (3, .int p2)]) hx hb dX6_allows_13 hl (by decide) rfl (fun ls hl => ?_)
    refine lv_iconst (v := 0) hx hb dX6_allows_15 (by decide) ?_
    refine lv_istore (lv' := [(6, .int 0), (5, .int 1), (4, .int 0), (0, .ref h0), (1, .int p0), (2, .int p1), (3, .int p2)]) hx hb dX6_allows_16 hl (by decide) rfl (fun ls hl => ?_)
    refine lv_iconst (v := 0) hx hb dX6_allows_18 (by decide) ?_
    refine lv_istore (lv' := [(7, .int 0), (6, .int 0), (5, .int 1), (4, .int 0), (0, .ref h0), (1, .int p0), (2, .int p1), (3, .int p2)]) hx hb dX6_allows_19 hl (by decide) rfl (fun ls hl => ?_)
    refine lv_iconst (v := 0) hx hb dX6_allows_21 (by decide) ?_
    refine lv_istore (lv' := [(8, .int 0), (7, .int 0), (6, .int 0), (5, .int 1), (4, .int 0), (0, .ref h0), (1, .int p0), (2, .int p1), (3, .int p2)]) hx hb dX6_allows_22 hl (by decide) rfl (fun ls hl => ?_)
    refine lv_iconst (v := 0) hx hb dX6_allows_24 (by decide) ?_
    refine lv_istore (lv' := [(9, .int 0), (8, .int 0), (7, .int 0), (6, .int 0), (5, .int 1), (4, .int 0), (0, .ref h0), (1, .int p0), (2, .int p1), (3, .int p2)]) hx hb dX6_allows_25 hl (by decide) rfl (fun ls hl => ?_)
    suffices loop : ∀ (n : Nat) (v4 : Bool) (v5 : Bool) (v6 : Int32) (v7 : Int32) (v8 : Int32) (v9 : Int32), (UP 0 40 n v9) → x_X6_allows_L27 nt ft p0 p1 p2 n v4 v5 v6 v7 v8 v9 = Rv → ∀ ls : Array Slot, lv_has ls 11 [(0, .ref h0), (1, .int p0), (2, .int p1), (3, .int p2), (4, .int (bI v4)), (5, .int (bI v5)), (6, .int v6), (7, .int v7), (8, .int v8), (9, .int v9)] → W p l e (headSpec wsX6_allows rm_X6_allows).room s m ([.ref h0, .int p0, .int p1, .int p2] : List Value).toArray below meth c s.heap [] 0 0 (MQ below (po_Q (some (.int (bI Rv))) s.heap) ([.ref h0, .int p0, .int p1, .int p2] : List Value).toArray s 0 0 nF) (F0 m 27 ls []) from
      loop (41) false true 0 0 0 0 (UP.start 0 (by omega) (by omega)) hE ls (lv_sub hl [6, 7, 8, 9, 5, 4, 3, 2, 1, 0] rfl)
    clear hE hl ls
    intro n
    induction n with
    | zero =>
      intro v4 v5 v6 v7 v8 v9 hI _ _ _
      exact absurd hI (UP.zero)
    | succ n ih =>
      intro v4 v5 v6 v7 v8 v9 hI hE ls hl
      rw [x_X6_allows_L27] at hE
      refine lv_iload hx hb dX6_allows_27 (lv_at hl 9 rfl) ?_
      refine lv_aload_n hx hb dX6_allows_29 rfl (lv_at hl 0 rfl) ?_
      refine va_get (D := D) (ci := 4) (v := .int nt) (C := RX6) (T := TX6) (N := 2) hx hb hts in_X6_allows_X6 hown hK hP 0 rfl rfl 1 (by decide) (hts (.fieldLink RX6 15 "WallCount$Text" "size" "I") (List.mem_of_getElem? (i := 1) rfl)) (fun _ h9 => h9) rfl dX6_allows_30 ?_
      refine lv_icmp_ge (tgt := 190) hx hb dX6_allows_33 (by decide) (fun c_33 => ?_) (fun c_33 => ?_)
      · have hE := itT hE c_33
        refine lv_iload hx hb dX6_allows_190 (lv_at hl 4 rfl) ?_
        refine w_if_neb (tgt := 212) hx hb dX6_allows_192 (by decide) (fun c_192 => ?_) (fun c_192 => ?_)
        · have hE := itT hE c_192
          refine lv_iconst (v := 1) hx hb dX6_allows_212 (by decide) ?_
          refine lv_goto (tgt := 217) hx hb dX6_allows_213 (by decide) ?_
          exact w_zret (v := true) hx hb hr hlocks hE dX6_allows_217
        · have hE := itF hE c_192
          refine lv_iload hx hb dX6_allows_195 (lv_at hl 5 rfl) ?_
          refine w_if_eqb (tgt := 216) hx hb dX6_allows_197 (by decide) (fun c_197 => ?_) (fun c_197 => ?_)
          · have hE := itF hE c_197
            refine lv_iconst (v := 0) hx hb dX6_allows_216 (by decide) ?_
            exact w_zret (v := false) hx hb hr hlocks hE dX6_allows_217
          · have hE := itT hE c_197
            refine lv_iload hx hb dX6_allows_200 (lv_at hl 6 rfl) ?_
            refine lv_iload hx hb dX6_allows_202 (lv_at hl 7 rfl) ?_
            refine lv_iload hx hb dX6_allows_204 (lv_at hl 8 rfl) ?_
            refine ro_call (va_runS (As := [.int v6, .int v7, .int v8]) (rest := []) ⟨hx, hb, hml, hown, hts⟩ (c_X6_passes l D cI cZ cR _ v6 v7 v8) (va_cwS 3 hts gX6_allows_X6_passes rfl rfl rfl hd_X6_passes ⟨(Nat.le_of_ble_eq_true rfl), (Nat.le_of_ble_eq_true rfl)⟩) (po_pre hAM va_P.nil) rfl rfl hl.1 rfl (lv_room (Nat.le_of_ble_eq_true rfl)) dX6_allows_206 ⟨(Nat.le_of_ble_eq_true rfl), (Nat.le_of_ble_eq_true rfl)⟩) ?_
            refine w_if_eqb (tgt := 216) hx hb dX6_allows_209 (by decide) (fun c_209 => ?_) (fun c_209 => ?_)
            · have hE := itF hE c_209
              refine lv_iconst (v := 0) hx hb dX6_allows_216 (by decide) ?_
              exact w_zret (v := false) hx hb hr hlocks hE dX6_allows_217
            · have hE := itT hE c_209
              refine lv_iconst (v := 1) hx hb dX6_allows_212 (by decide) ?_
              refine lv_goto (tgt := 217) hx hb dX6_allows_213 (by decide) ?_
              exact w_zret (v := true) hx hb hr hlocks hE dX6_allows_217
      · have hE := itF hE c_33
        refine lv_iload hx hb dX6_allows_36 (lv_at hl 9 rfl) ?_
        refine lv_aload_n hx hb dX6_allows_38 rfl (lv_at hl 0 rfl) ?_
        refine va_get (D := D) (ci := 4) (v := .ref h1) (C := RX6) (T := TX6) (N := 2) hx hb hts in_X6_allows_X6 hown hK hP 0 rfl rfl 0 (by decide) (hts (.fieldLink RX6 9 "WallCount$Text" "signs" "[I") (List.mem_of_getElem? (i := 2) rfl)) (fun _ h9 => h9) rfl dX6_allows_39 ?_
        refine va_alen (v := 40) hx hb hK hP 1 0 rfl rfl rfl dX6_allows_42 ?_
        refine lv_icmp_ge (tgt := 190) hx hb dX6_allows_43 (by decide) (fun c_43 => ?_) (fun c_43 => ?_)
        · have hE := itT hE c_43
          refine lv_iload hx hb dX6_allows_190 (lv_at hl 4 rfl) ?_
          refine w_if_neb (tgt := 212) hx hb dX6_allows_192 (by decide) (fun c_192 => ?_) (fun c_192 => ?_)
          · have hE := itT hE c_192
            refine lv_iconst (v := 1) hx hb dX6_allows_212 (by decide) ?_
            refine lv_goto (tgt := 217) hx hb dX6_allows_213 (by decide) ?_
            exact w_zret (v := true) hx hb hr hlocks hE dX6_allows_217
          · have hE := itF hE c_192
            refine lv_iload hx hb dX6_allows_195 (lv_at hl 5 rfl) ?_
            refine w_if_eqb (tgt := 216) hx hb dX6_allows_197 (by decide) (fun c_197 => ?_) (fun c_197 => ?_)
            · have hE := itF hE c_197
              refine lv_iconst (v := 0) hx hb dX6_allows_216 (by decide) ?_
              exact w_zret (v := false) hx hb hr hlocks hE dX6_allows_217
            · have hE := itT hE c_197
              refine lv_iload hx hb dX6_allows_200 (lv_at hl 6 rfl) ?_
              refine lv_iload hx hb dX6_allows_202 (lv_at hl 7 rfl) ?_
              refine lv_iload hx hb dX6_allows_204 (lv_at hl 8 rfl) ?_
              refine ro_call (va_runS (As := [.int v6, .int v7, .int v8]) (rest := []) ⟨hx, hb, hml, hown, hts⟩ (c_X6_passes l D cI cZ cR _ v6 v7 v8) (va_cwS 3 hts gX6_allows_X6_passes rfl rfl rfl hd_X6_passes ⟨(Nat.le_of_ble_eq_true rfl), (Nat.le_of_ble_eq_true rfl)⟩) (po_pre hAM va_P.nil) rfl rfl hl.1 rfl (lv_room (Nat.le_of_ble_eq_true rfl)) dX6_allows_206 ⟨(Nat.le_of_ble_eq_true rfl), (Nat.le_of_ble_eq_true rfl)⟩) ?_
              refine w_if_eqb (tgt := 216) hx hb dX6_allows_209 (by decide) (fun c_209 => ?_) (fun c_209 => ?_)
              · have hE := itF hE c_209
                refine lv_iconst (v := 0) hx hb dX6_allows_216 (by decide) ?_
                exact w_zret (v := false) hx hb hr hlocks hE dX6_allows_217
              · have hE := itT hE c_209
                refine lv_iconst (v := 1) hx hb dX6_allows_212 (by decide) ?_
                refine lv_goto (tgt := 217) hx hb dX6_allows_213 (by decide) ?_
                exact w_zret (v := true) hx hb hr hlocks hE dX6_allows_217
        · have hE := itF hE c_43
          refine lv_aload_n hx hb dX6_allows_46 rfl (lv_at hl 0 rfl) ?_
          refine va_get (D := D) (ci := 4) (v := .ref h1) (C := RX6) (T := TX6) (N := 2) hx hb hts in_X6_allows_X6 hown hK hP 0 rfl rfl 0 (by decide) (hts (.fieldLink RX6 9 "WallCount$Text" "signs" "[I") (List.mem_of_getElem? (i := 2) rfl)) (fun _ h9 => h9) rfl dX6_allows_47 ?_
          refine lv_iload hx hb dX6_allows_50 (lv_at hl 9 rfl) ?_
          refine va_iald hx hb hK hP 1 0 rfl rfl (up_in hI (by decide) rfl (by decide) c_43) dX6_allows_52 ?_
          refine lv_istore (lv' := [(10, .int (ft (ix v9))), (0, .ref h0), (1, .int p0), (2, .int p1), (3, .int p2), (4, .int (bI v4)), (5, .int (bI v5)), (6, .int v6), (7, .int v7), (8, .int v8), (9, .int v9)]) hx hb dX6_allows_53 hl (by decide) rfl (fun ls hl => ?_)
          refine lv_iload hx hb dX6_allows_55 (lv_at hl 0 rfl) ?_
          refine ro_call (va_runS (As := [.int (ft (ix v9))]) (rest := []) ⟨hx, hb, hml, hown, hts⟩ (c_X6_isName l D cI cZ cR _ (ft (ix v9))) (va_cwS 1 hts gX6_allows_X6_isName rfl rfl rfl hd_X6_isName ⟨(Nat.le_of_ble_eq_true rfl), (Nat.le_of_ble_eq_true rfl)⟩) (po_pre hAM va_P.nil) rfl rfl hl.1 rfl (lv_room (Nat.le_of_ble_eq_true rfl)) dX6_allows_57 ⟨(Nat.le_of_ble_eq_true rfl), (Nat.le_of_ble_eq_true rfl)⟩) ?_
          refine w_if_eqb (tgt := 94) hx hb dX6_allows_60 (by decide) (fun c_60 => ?_) (fun c_60 => ?_)
          · have hE := itF hE c_60
            refine lv_iload hx hb dX6_allows_94 (lv_at hl 0 rfl) ?_
            refine ro_call (va_runS (As := [.int (ft (ix v9))]) (rest := []) ⟨hx, hb, hml, hown, hts⟩ (c_X6_isCompare l D cI cZ cR _ (ft (ix v9))) (va_cwS 1 hts gX6_allows_X6_isCompare rfl rfl rfl hd_X6_isCompare ⟨(Nat.le_of_ble_eq_true rfl), (Nat.le_of_ble_eq_true rfl)⟩) (po_pre hAM va_P.nil) rfl rfl hl.1 rfl (lv_room (Nat.le_of_ble_eq_true rfl)) dX6_allows_96 ⟨(Nat.le_of_ble_eq_true rfl), (Nat.le_of_ble_eq_true rfl)⟩) ?_
            refine w_if_eqb (tgt := 109) hx hb dX6_allows_99 (by decide) (fun c_99 => ?_) (fun c_99 => ?_)
            · have hE := itF hE c_99
              refine lv_iload hx hb dX6_allows_109 (lv_at hl 0 rfl) ?_
              refine ro_call (va_runS (As := [.int (ft (ix v9))]) (rest := []) ⟨hx, hb, hml, hown, hts⟩ (c_X6_isDigit l D cI cZ cR _ (ft (ix v9))) (va_cwS 1 hts gX6_allows_X6_isDigit rfl rfl rfl hd_X6_isDigit ⟨(Nat.le_of_ble_eq_true rfl), (Nat.le_of_ble_eq_true rfl)⟩) (po_pre hAM va_P.nil) rfl rfl hl.1 rfl (lv_room (Nat.le_of_ble_eq_true rfl)) dX6_allows_111 ⟨(Nat.le_of_ble_eq_true rfl), (Nat.le_of_ble_eq_true rfl)⟩) ?_
              refine w_if_eqb (tgt := 133) hx hb dX6_allows_114 (by decide) (fun c_114 => ?_) (fun c_114 => ?_)
              · have hE := itF hE c_114
                refine lv_iload hx hb dX6_allows_133 (lv_at hl 6 rfl) ?_
                refine w_if_eqb (tgt := 154) hx hb dX6_allows_135 (by decide) (fun c_135 => ?_) (fun c_135 => ?_)
                · have hE := itF hE c_135
                  refine lv_iconst (v := 0) hx hb dX6_allows_154 (by decide) ?_
                  refine lv_istore (lv' := [(5, .int 0), (10, .int (ft (ix v9))), (0, .ref h0), (1, .int p0), (2, .int p1), (3, .int p2), (4, .int (bI v4)), (6, .int v6), (7, .int v7), (8, .int v8), (9, .int v9)]) hx hb dX6_allows_155 hl (by decide) rfl (fun ls hl => ?_)
                  refine lv_iload hx hb dX6_allows_157 (lv_at hl 1 rfl) ?_
                  refine lv_bipush (v := 124) hx hb dX6_allows_159 (by decide +kernel) ?_
                  refine lv_icmp_ne (tgt := 184) hx hb dX6_allows_161 (by decide) (fun c_161 => ?_) (fun c_161 => ?_)
                  · have hE := itF hE c_161
                    refine lv_iinc (v := (v9 + 1)) (lv' := [(9, .int (v9 + 1)), (5, .int 0), (10, .int (ft (ix v9))), (0, .ref h0), (1, .int p0), (2, .int p1), (3, .int p2), (4, .int (bI v4)), (6, .int v6), (7, .int v7), (8, .int v8)]) hx hb dX6_allows_184 hl (k := 10) rfl rfl (by decide) rfl (fun ls hl => ?_)
                    refine lv_goto (tgt := 27) hx hb dX6_allows_187 (by decide) ?_
                    exact ih v4 false v6 v7 v8 (v9 + 1) ((hI.ge (by decide) rfl c_43).1) hE ls (lv_sub hl [3, 4, 5, 6, 7, 1, 8, 9, 10, 0] rfl)
                  · have hE := itT hE c_161
                    refine lv_iload hx hb dX6_allows_164 (lv_at hl 6 rfl) ?_
                    refine w_if_neb (tgt := 174) hx hb dX6_allows_166 (by decide) (fun c_166 => ?_) (fun c_166 => ?_)
                    · have hE := itT hE c_166
                      refine lv_iconst (v := 1) hx hb dX6_allows_174 (by decide) ?_
                      refine lv_goto (tgt := 179) hx hb dX6_allows_175 (by decide) ?_
                      refine lv_istore (lv' := [(4, .int 1), (5, .int 0), (10, .int (ft (ix v9))), (0, .ref h0), (1, .int p0), (2, .int p1), (3, .int p2), (6, .int v6), (7, .int v7), (8, .int v8), (9, .int v9)]) hx hb dX6_allows_179 hl (by decide) rfl (fun ls hl => ?_)
                      refine lv_iconst (v := 1) hx hb dX6_allows_181 (by decide) ?_
                      refine lv_istore (lv' := [(5, .int 1), (4, .int 1), (10, .int (ft (ix v9))), (0, .ref h0), (1, .int p0), (2, .int p1), (3, .int p2), (6, .int v6), (7, .int v7), (8, .int v8), (9, .int v9)]) hx hb dX6_allows_182 hl (by decide) rfl (fun ls hl => ?_)
                      refine lv_iinc (v := (v9 + 1)) (lv' := [(9, .int (v9 + 1)), (5, .int 1), (4, .int 1), (10, .int (ft (ix v9))), (0, .ref h0), (1, .int p0), (2, .int p1), (3, .int p2), (6, .int v6), (7, .int v7), (8, .int v8)]) hx hb dX6_allows_184 hl (k := 10) rfl rfl (by decide) rfl (fun ls hl => ?_)
                      refine lv_goto (tgt := 27) hx hb dX6_allows_187 (by decide) ?_
                      exact ih true true v6 v7 v8 (v9 + 1) ((hI.ge (by decide) rfl c_43).1) hE ls (lv_sub hl [4, 5, 6, 7, 2, 1, 8, 9, 10, 0] rfl)
                    · have hE := itF hE c_166
                      refine lv_iload hx hb dX6_allows_169 (lv_at hl 0 rfl) ?_
                      refine lv_if_eq (tgt := 178) hx hb dX6_allows_171 (by decide) (fun _ => ?_) (fun h9 => absurd h9 (by decide +kernel))
                      refine lv_iconst (v := 0) hx hb dX6_allows_178 (by decide) ?_
                      refine lv_istore (lv' := [(4, .int 0), (5, .int 0), (10, .int (ft (ix v9))), (0, .ref h0), (1, .int p0), (2, .int p1), (3, .int p2), (6, .int v6), (7, .int v7), (8, .int v8), (9, .int v9)]) hx hb dX6_allows_179 hl (by decide) rfl (fun ls hl => ?_)
                      refine lv_iconst (v := 1) hx hb dX6_allows_181 (by decide) ?_
                      refine lv_istore (lv' := [(5, .int 1), (4, .int 0), (10, .int (ft (ix v9))), (0, .ref h0), (1, .int p0), (2, .int p1), (3, .int p2), (6, .int v6), (7, .int v7), (8, .int v8), (9, .int v9)]) hx hb dX6_allows_182 hl (by decide) rfl (fun ls hl => ?_)
                      refine lv_iinc (v := (v9 + 1)) (lv' := [(9, .int (v9 + 1)), (5, .int 1), (4, .int 0), (10, .int (ft (ix v9))), (0, .ref h0), (1, .int p0), (2, .int p1), (3, .int p2), (6, .int v6), (7, .int v7), (8, .int v8)]) hx hb dX6_allows_184 hl (k := 10) rfl rfl (by decide) rfl (fun ls hl => ?_)
                      refine lv_goto (tgt := 27) hx hb dX6_allows_187 (by decide) ?_
                      exact ih false true v6 v7 v8 (v9 + 1) ((hI.ge (by decide) rfl c_43).1) hE ls (lv_sub hl [4, 5, 6, 7, 2, 1, 8, 9, 10, 0] rfl)
                · have hE := itT hE c_135
                  refine lv_iload hx hb dX6_allows_138 (lv_at hl 7 rfl) ?_
                  refine lv_iload hx hb dX6_allows_140 (lv_at hl 8 rfl) ?_
                  refine lv_iload hx hb dX6_allows_142 (lv_at hl 9 rfl) ?_
                  refine ro_call (va_runS (As := [.int v6, .int v7, .int v8]) (rest := []) ⟨hx, hb, hml, hown, hts⟩ (c_X6_passes l D cI cZ cR _ v6 v7 v8) (va_cwS 3 hts gX6_allows_X6_passes rfl rfl rfl hd_X6_passes ⟨(Nat.le_of_ble_eq_true rfl), (Nat.le_of_ble_eq_true rfl)⟩) (po_pre hAM va_P.nil) rfl rfl hl.1 rfl (lv_room (Nat.le_of_ble_eq_true rfl)) dX6_allows_144 ⟨(Nat.le_of_ble_eq_true rfl), (Nat.le_of_ble_eq_true rfl)⟩) ?_
                  refine w_if_eqb (tgt := 154) hx hb dX6_allows_147 (by decide) (fun c_147 => ?_) (fun c_147 => ?_)
                  · have hE := itF hE c_147
                    refine lv_iconst (v := 0) hx hb dX6_allows_154 (by decide) ?_
                    refine lv_istore (lv' := [(5, .int 0), (10, .int (ft (ix v9))), (0, .ref h0), (1, .int p0), (2, .int p1), (3, .int p2), (4, .int (bI v4)), (6, .int v6), (7, .int v7), (8, .int v8), (9, .int v9)]) hx hb dX6_allows_155 hl (by decide) rfl (fun ls hl => ?_)
                    refine lv_iload hx hb dX6_allows_157 (lv_at hl 1 rfl) ?_
                    refine lv_bipush (v := 124) hx hb dX6_allows_159 (by decide +kernel) ?_
                    refine lv_icmp_ne (tgt := 184) hx hb dX6_allows_161 (by decide) (fun c_161 => ?_) (fun c_161 => ?_)
                    · have hE := itF hE c_161
                      refine lv_iinc (v := (v9 + 1)) (lv' := [(9, .int (v9 + 1)), (5, .int 0), (10, .int (ft (ix v9))), (0, .ref h0), (1, .int p0), (2, .int p1), (3, .int p2), (4, .int (bI v4)), (6, .int v6), (7, .int v7), (8, .int v8)]) hx hb dX6_allows_184 hl (k := 10) rfl rfl (by decide) rfl (fun ls hl => ?_)
                      refine lv_goto (tgt := 27) hx hb dX6_allows_187 (by decide) ?_
                      exact ih v4 false v6 v7 v8 (v9 + 1) ((hI.ge (by decide) rfl c_43).1) hE ls (lv_sub hl [3, 4, 5, 6, 7, 1, 8, 9, 10, 0] rfl)
                    · have hE := itT hE c_161
                      refine lv_iload hx hb dX6_allows_164 (lv_at hl 6 rfl) ?_
                      refine w_if_neb (tgt := 174) hx hb dX6_allows_166 (by decide) (fun c_166 => ?_) (fun c_166 => ?_)
                      · have hE := itT hE c_166
                        refine lv_iconst (v := 1) hx hb dX6_allows_174 (by decide) ?_
                        refine lv_goto (tgt := 179) hx hb dX6_allows_175 (by decide) ?_
                        refine lv_istore (lv' := [(4, .int 1), (5, .int 0), (10, .int (ft (ix v9))), (0, .ref h0), (1, .int p0), (2, .int p1), (3, .int p2), (6, .int v6), (7, .int v7), (8, .int v8), (9, .int v9)]) hx hb dX6_allows_179 hl (by decide) rfl (fun ls hl => ?_)
                        refine lv_iconst (v := 1) hx hb dX6_allows_181 (by decide) ?_
                        refine lv_istore (lv' := [(5, .int 1), (4, .int 1), (10, .int (ft (ix v9))), (0, .ref h0), (1, .int p0), (2, .int p1), (3, .int p2), (6, .int v6), (7, .int v7), (8, .int v8), (9, .int v9)]) hx hb dX6_allows_182 hl (by decide) rfl (fun ls hl => ?_)
                        refine lv_iinc (v := (v9 + 1)) (lv' := [(9, .int (v9 + 1)), (5, .int 1), (4, .int 1), (10, .int (ft (ix v9))), (0, .ref h0), (1, .int p0), (2, .int p1), (3, .int p2), (6, .int v6), (7, .int v7), (8, .int v8)]) hx hb dX6_allows_184 hl (k := 10) rfl rfl (by decide) rfl (fun ls hl => ?_)
                        refine lv_goto (tgt := 27) hx hb dX6_allows_187 (by decide) ?_
                        exact ih true true v6 v7 v8 (v9 + 1) ((hI.ge (by decide) rfl c_43).1) hE ls (lv_sub hl [4, 5, 6, 7, 2, 1, 8, 9, 10, 0] rfl)
                      · have hE := itF hE c_166
                        refine lv_iload hx hb dX6_allows_169 (lv_at hl 0 rfl) ?_
                        refine lv_if_eq (tgt := 178) hx hb dX6_allows_171 (by decide) (fun _ => ?_) (fun h9 => absurd h9 (by decide +kernel))
                        refine lv_iconst (v := 0) hx hb dX6_allows_178 (by decide) ?_
                        refine lv_istore (lv' := [(4, .int 0), (5, .int 0), (10, .int (ft (ix v9))), (0, .ref h0), (1, .int p0), (2, .int p1), (3, .int p2), (6, .int v6), (7, .int v7), (8, .int v8), (9, .int v9)]) hx hb dX6_allows_179 hl (by decide) rfl (fun ls hl => ?_)
                        refine lv_iconst (v := 1) hx hb dX6_allows_181 (by decide) ?_
                        refine lv_istore (lv' := [(5, .int 1), (4, .int 0), (10, .int (ft (ix v9))), (0, .ref h0), (1, .int p0), (2, .int p1), (3, .int p2), (6, .int v6), (7, .int v7), (8, .int v8), (9, .int v9)]) hx hb dX6_allows_182 hl (by decide) rfl (fun ls hl => ?_)
                        refine lv_iinc (v := (v9 + 1)) (lv' := [(9, .int (v9 + 1)), (5, .int 1), (4, .int 0), (10, .int (ft (ix v9))), (0, .ref h0), (1, .int p0), (2, .int p1), (3, .int p2), (6, .int v6), (7, .int v7), (8, .int v8)]) hx hb dX6_allows_184 hl (k := 10) rfl rfl (by decide) rfl (fun ls hl => ?_)
                        refine lv_goto (tgt := 27) hx hb dX6_allows_187 (by decide) ?_
                        exact ih false true v6 v7 v8 (v9 + 1) ((hI.ge (by decide) rfl c_43).1) hE ls (lv_sub hl [4, 5, 6, 7, 2, 1, 8, 9, 10, 0] rfl)
                  · have hE := itT hE c_147
                    refine lv_iconst (v := 1) hx hb dX6_allows_150 (by decide) ?_
                    refine lv_goto (tgt := 155) hx hb dX6_allows_151 (by decide) ?_
                    refine lv_istore (lv' := [(5, .int 1), (10, .int (ft (ix v9))), (0, .ref h0), (1, .int p0), (2, .int p1), (3, .int p2), (4, .int (bI v4)), (6, .int v6), (7, .int v7), (8, .int v8), (9, .int v9)]) hx hb dX6_allows_155 hl (by decide) rfl (fun ls hl => ?_)
                    refine lv_iload hx hb dX6_allows_157 (lv_at hl 1 rfl) ?_
                    refine lv_bipush (v := 124) hx hb dX6_allows_159 (by decide +kernel) ?_
                    refine lv_icmp_ne (tgt := 184) hx hb dX6_allows_161 (by decide) (fun c_161 => ?_) (fun c_161 => ?_)
                    · have hE := itF hE c_161
                      refine lv_iinc (v := (v9 + 1)) (lv' := [(9, .int (v9 + 1)), (5, .int 1), (10, .int (ft (ix v9))), (0, .ref h0), (1, .int p0), (2, .int p1), (3, .int p2), (4, .int (bI v4)), (6, .int v6), (7, .int v7), (8, .int v8)]) hx hb dX6_allows_184 hl (k := 10) rfl rfl (by decide) rfl (fun ls hl => ?_)
                      refine lv_goto (tgt := 27) hx hb dX6_allows_187 (by decide) ?_
                      exact ih v4 true v6 v7 v8 (v9 + 1) ((hI.ge (by decide) rfl c_43).1) hE ls (lv_sub hl [3, 4, 5, 6, 7, 1, 8, 9, 10, 0] rfl)
                    · have hE := itT hE c_161
                      refine lv_iload hx hb dX6_allows_164 (lv_at hl 6 rfl) ?_
                      refine w_if_neb (tgt := 174) hx hb dX6_allows_166 (by decide) (fun c_166 => ?_) (fun c_166 => ?_)
                      · have hE := itT hE c_166
                        refine lv_iconst (v := 1) hx hb dX6_allows_174 (by decide) ?_
                        refine lv_goto (tgt := 179) hx hb dX6_allows_175 (by decide) ?_
                        refine lv_istore (lv' := [(4, .int 1), (5, .int 1), (10, .int (ft (ix v9))), (0, .ref h0), (1, .int p0), (2, .int p1), (3, .int p2), (6, .int v6), (7, .int v7), (8, .int v8), (9, .int v9)]) hx hb dX6_allows_179 hl (by decide) rfl (fun ls hl => ?_)
                        refine lv_iconst (v := 1) hx hb dX6_allows_181 (by decide) ?_
                        refine lv_istore (lv' := [(5, .int 1), (4, .int 1), (10, .int (ft (ix v9))), (0, .ref h0), (1, .int p0), (2, .int p1), (3, .int p2), (6, .int v6), (7, .int v7), (8, .int v8), (9, .int v9)]) hx hb dX6_allows_182 hl (by decide) rfl (fun ls hl => ?_)
                        refine lv_iinc (v := (v9 + 1)) (lv' := [(9, .int (v9 + 1)), (5, .int 1), (4, .int 1), (10, .int (ft (ix v9))), (0, .ref h0), (1, .int p0), (2, .int p1), (3, .int p2), (6, .int v6), (7, .int v7), (8, .int v8)]) hx hb dX6_allows_184 hl (k := 10) rfl rfl (by decide) rfl (fun ls hl => ?_)
                        refine lv_goto (tgt := 27) hx hb dX6_allows_187 (by decide) ?_
                        exact ih true true v6 v7 v8 (v9 + 1) ((hI.ge (by decide) rfl c_43).1) hE ls (lv_sub hl [4, 5, 6, 7, 2, 1, 8, 9, 10, 0] rfl)
                      · have hE := itF hE c_166
                        refine lv_iload hx hb dX6_allows_169 (lv_at hl 0 rfl) ?_
                        refine lv_if_eq (tgt := 178) hx hb dX6_allows_171 (by decide) (fun h9 => absurd h9 (by decide +kernel)) (fun _ => ?_)
                        refine lv_iconst (v := 1) hx hb dX6_allows_174 (by decide) ?_
                        refine lv_goto (tgt := 179) hx hb dX6_allows_175 (by decide) ?_
                        refine lv_istore (lv' := [(4, .int 1), (5, .int 1), (10, .int (ft (ix v9))), (0, .ref h0), (1, .int p0), (2, .int p1), (3, .int p2), (6, .int v6), (7, .int v7), (8, .int v8), (9, .int v9)]) hx hb dX6_allows_179 hl (by decide) rfl (fun ls hl => ?_)
                        refine lv_iconst (v := 1) hx hb dX6_allows_181 (by decide) ?_
                        refine lv_istore (lv' := [(5, .int 1), (4, .int 1), (10, .int (ft (ix v9))), (0, .ref h0), (1, .int p0), (2, .int p1), (3, .int p2), (6, .int v6), (7, .int v7), (8, .int v8), (9, .int v9)]) hx hb dX6_allows_182 hl (by decide) rfl (fun ls hl => ?_)
                        refine lv_iinc (v := (v9 + 1)) (lv' := [(9, .int (v9 + 1)), (5, .int 1), (4, .int 1), (10, .int (ft (ix v9))), (0, .ref h0), (1, .int p0), (2, .int p1), (3, .int p2), (6, .int v6), (7, .int v7), (8, .int v8)]) hx hb dX6_allows_184 hl (k := 10) rfl rfl (by decide) rfl (fun ls hl => ?_)
                        refine lv_goto (tgt := 27) hx hb dX6_allows_187 (by decide) ?_
                        exact ih true true v6 v7 v8 (v9 + 1) ((hI.ge (by decide) rfl c_43).1) hE ls (lv_sub hl [4, 5, 6, 7, 2, 1, 8, 9, 10, 0] rfl)
              · have hE := itT hE c_114
                refine lv_iload hx hb dX6_allows_117 (lv_at hl 9 rfl) ?_
                refine lv_bipush (v := 10) hx hb dX6_allows_119 (by decide +kernel) ?_
                refine lv_imul hx hb dX6_allows_121 ?_
                refine lv_iload hx hb dX6_allows_122 (lv_at hl 0 rfl) ?_
                refine lv_iadd hx hb dX6_allows_124 ?_
                refine lv_bipush (v := 48) hx hb dX6_allows_125 (by decide +kernel) ?_
                refine lv_isub hx hb dX6_allows_127 ?_
                refine lv_istore (lv' := [(8, .int (((v8 * 10) + (ft (ix v9))) - 48)), (10, .int (ft (ix v9))), (0, .ref h0), (1, .int p0), (2, .int p1), (3, .int p2), (4, .int (bI v4)), (5, .int (bI v5)), (6, .int v6), (7, .int v7), (9, .int v9)]) hx hb dX6_allows_128 hl (by decide) rfl (fun ls hl => ?_)
                refine lv_goto (tgt := 184) hx hb dX6_allows_130 (by decide) ?_
                refine lv_iinc (v := (v9 + 1)) (lv' := [(9, .int (v9 + 1)), (8, .int (((v8 * 10) + (ft (ix v9))) - 48)), (10, .int (ft (ix v9))), (0, .ref h0), (1, .int p0), (2, .int p1), (3, .int p2), (4, .int (bI v4)), (5, .int (bI v5)), (6, .int v6), (7, .int v7)]) hx hb dX6_allows_184 hl (k := 10) rfl rfl (by decide) rfl (fun ls hl => ?_)
                refine lv_goto (tgt := 27) hx hb dX6_allows_187 (by decide) ?_
                exact ih v4 v5 v6 v7 (((v8 * 10) + (ft (ix v9))) - 48) (v9 + 1) ((hI.ge (by decide) rfl c_43).1) hE ls (lv_sub hl [3, 4, 5, 6, 7, 8, 9, 10, 1, 0] rfl)
            · have hE := itT hE c_99
              refine lv_iload hx hb dX6_allows_102 (lv_at hl 0 rfl) ?_
              refine lv_istore (lv' := [(7, .int (ft (ix v9))), (10, .int (ft (ix v9))), (0, .ref h0), (1, .int p0), (2, .int p1), (3, .int p2), (4, .int (bI v4)), (5, .int (bI v5)), (6, .int v6), (8, .int v8), (9, .int v9)]) hx hb dX6_allows_104 hl (by decide) rfl (fun ls hl => ?_)
              refine lv_goto (tgt := 184) hx hb dX6_allows_106 (by decide) ?_
              refine lv_iinc (v := (v9 + 1)) (lv' := [(9, .int (v9 + 1)), (7, .int (ft (ix v9))), (10, .int (ft (ix v9))), (0, .ref h0), (1, .int p0), (2, .int p1), (3, .int p2), (4, .int (bI v4)), (5, .int (bI v5)), (6, .int v6), (8, .int v8)]) hx hb dX6_allows_184 hl (k := 10) rfl rfl (by decide) rfl (fun ls hl => ?_)
              refine lv_goto (tgt := 27) hx hb dX6_allows_187 (by decide) ?_
              exact ih v4 v5 v6 (ft (ix v9)) v8 (v9 + 1) ((hI.ge (by decide) rfl c_43).1) hE ls (lv_sub hl [3, 4, 5, 6, 7, 8, 9, 1, 10, 0] rfl)
          · have hE := itT hE c_60
            refine lv_iload hx hb dX6_allows_63 (lv_at hl 0 rfl) ?_
            refine lv_bipush (v := 97) hx hb dX6_allows_65 (by decide +kernel) ?_
            refine lv_icmp_ne (tgt := 74) hx hb dX6_allows_67 (by decide) (fun c_67 => ?_) (fun c_67 => ?_)
            · have hE := itF hE c_67
              refine lv_iload hx hb dX6_allows_74 (lv_at hl 0 rfl) ?_
              refine lv_bipush (v := 121) hx hb dX6_allows_76 (by decide +kernel) ?_
              refine lv_icmp_ne (tgt := 85) hx hb dX6_allows_78 (by decide) (fun c_78 => ?_) (fun c_78 => ?_)
              · have hE := itF hE c_78
                refine lv_iload_n hx hb dX6_allows_85 rfl (lv_at hl 4 rfl) ?_
                refine lv_istore (lv' := [(6, .int p2), (10, .int (ft (ix v9))), (0, .ref h0), (1, .int p0), (2, .int p1), (3, .int p2), (4, .int (bI v4)), (5, .int (bI v5)), (7, .int v7), (8, .int v8), (9, .int v9)]) hx hb dX6_allows_86 hl (by decide) rfl (fun ls hl => ?_)
                refine lv_iconst (v := 0) hx hb dX6_allows_88 (by decide) ?_
                refine lv_istore (lv' := [(8, .int 0), (6, .int p2), (10, .int (ft (ix v9))), (0, .ref h0), (1, .int p0), (2, .int p1), (3, .int p2), (4, .int (bI v4)), (5, .int (bI v5)), (7, .int v7), (9, .int v9)]) hx hb dX6_allows_89 hl (by decide) rfl (fun ls hl => ?_)
                refine lv_goto (tgt := 184) hx hb dX6_allows_91 (by decide) ?_
                refine lv_iinc (v := (v9 + 1)) (lv' := [(9, .int (v9 + 1)), (8, .int 0), (6, .int p2), (10, .int (ft (ix v9))), (0, .ref h0), (1, .int p0), (2, .int p1), (3, .int p2), (4, .int (bI v4)), (5, .int (bI v5)), (7, .int v7)]) hx hb dX6_allows_184 hl (k := 10) rfl rfl (by decide) rfl (fun ls hl => ?_)
                refine lv_goto (tgt := 27) hx hb dX6_allows_187 (by decide) ?_
                exact ih v4 v5 p2 v7 0 (v9 + 1) ((hI.ge (by decide) rfl c_43).1) hE ls (lv_sub hl [4, 5, 6, 7, 8, 9, 2, 10, 1, 0] rfl)
              · have hE := itT hE c_78
                refine lv_iload_n hx hb dX6_allows_81 rfl (lv_at hl 3 rfl) ?_
                refine lv_goto (tgt := 86) hx hb dX6_allows_82 (by decide) ?_
                refine lv_istore (lv' := [(6, .int p1), (10, .int (ft (ix v9))), (0, .ref h0), (1, .int p0), (2, .int p1), (3, .int p2), (4, .int (bI v4)), (5, .int (bI v5)), (7, .int v7), (8, .int v8), (9, .int v9)]) hx hb dX6_allows_86 hl (by decide) rfl (fun ls hl => ?_)
                refine lv_iconst (v := 0) hx hb dX6_allows_88 (by decide) ?_
                refine lv_istore (lv' := [(8, .int 0), (6, .int p1), (10, .int (ft (ix v9))), (0, .ref h0), (1, .int p0), (2, .int p1), (3, .int p2), (4, .int (bI v4)), (5, .int (bI v5)), (7, .int v7), (9, .int v9)]) hx hb dX6_allows_89 hl (by decide) rfl (fun ls hl => ?_)
                refine lv_goto (tgt := 184) hx hb dX6_allows_91 (by decide) ?_
                refine lv_iinc (v := (v9 + 1)) (lv' := [(9, .int (v9 + 1)), (8, .int 0), (6, .int p1), (10, .int (ft (ix v9))), (0, .ref h0), (1, .int p0), (2, .int p1), (3, .int p2), (4, .int (bI v4)), (5, .int (bI v5)), (7, .int v7)]) hx hb dX6_allows_184 hl (k := 10) rfl rfl (by decide) rfl (fun ls hl => ?_)
                refine lv_goto (tgt := 27) hx hb dX6_allows_187 (by decide) ?_
                exact ih v4 v5 p1 v7 0 (v9 + 1) ((hI.ge (by decide) rfl c_43).1) hE ls (lv_sub hl [4, 5, 6, 7, 8, 9, 2, 10, 1, 0] rfl)
            · have hE := itT hE c_67
              refine lv_iload_n hx hb dX6_allows_70 rfl (lv_at hl 2 rfl) ?_
              refine lv_goto (tgt := 86) hx hb dX6_allows_71 (by decide) ?_
              refine lv_istore (lv' := [(6, .int p0), (10, .int (ft (ix v9))), (0, .ref h0), (1, .int p0), (2, .int p1), (3, .int p2), (4, .int (bI v4)), (5, .int (bI v5)), (7, .int v7), (8, .int v8), (9, .int v9)]) hx hb dX6_allows_86 hl (by decide) rfl (fun ls hl => ?_)
              refine lv_iconst (v := 0) hx hb dX6_allows_88 (by decide) ?_
              refine lv_istore (lv' := [(8, .int 0), (6, .int p0), (10, .int (ft (ix v9))), (0, .ref h0), (1, .int p0), (2, .int p1), (3, .int p2), (4, .int (bI v4)), (5, .int (bI v5)), (7, .int v7), (9, .int v9)]) hx hb dX6_allows_89 hl (by decide) rfl (fun ls hl => ?_)
              refine lv_goto (tgt := 184) hx hb dX6_allows_91 (by decide) ?_
              refine lv_iinc (v := (v9 + 1)) (lv' := [(9, .int (v9 + 1)), (8, .int 0), (6, .int p0), (10, .int (ft (ix v9))), (0, .ref h0), (1, .int p0), (2, .int p1), (3, .int p2), (4, .int (bI v4)), (5, .int (bI v5)), (7, .int v7)]) hx hb dX6_allows_184 hl (k := 10) rfl rfl (by decide) rfl (fun ls hl => ?_)
              refine lv_goto (tgt := 27) hx hb dX6_allows_187 (by decide) ?_
              exact ih v4 v5 p0 v7 0 (v9 + 1) ((hI.ge (by decide) rfl c_43).1) hE ls (lv_sub hl [4, 5, 6, 7, 8, 9, 2, 10, 1, 0] rfl)
  · have hE := itT hE c_4
    refine lv_iconst (v := 1) hx hb dX6_allows_7 (by decide) ?_
    exact w_zret (v := true) hx hb hr hlocks hE dX6_allows_8

theorem hd_X4_draft : yX4_draft.cls ≠ "java/lang/invoke/MethodHandle" ∧ yX4_draft.cls ≠ "java/lang/invoke/VarHandle" ∧ (parseMethodDescriptor yX4_draft.desc).map (fun d => d.parameters.length) = some 0 := by decide +kernel
def rm_X4_draft : Room := { frames := 0, cells := 0, slots := 0, locals := 0 }
theorem in_X4_draft_X4 : ∀ w ∈ wsX40, w ∈ wsX4_draft := fun _ h => List.mem_cons_of_mem _ (List.mem_append_right _ h)
set_option maxHeartbeats 4000000 in
set_option maxRecDepth 100000 in
theorem c_X4_draft (l : Launch) (D : va_G) (cI cZ cR : ClassId) (H0 : Heap) (h0 h1 h2 h3 : Nat) (fr : Nat → Int32) : Met l yX4_draft wsX4_draft rm_X4_draft (po_P D cI cZ cR [.ref h0] [(h0, .inr (2, [.ref h1, .ref h2, .ref h3])), (h1, .inl (cI, 36, .inl fr))] H0) (po_Q (some (.ref h3)) H0) 0 0 nF := by
  refine Met.ofW (cc := cX4_draft) (maxL := 1) (ret := (some (.object "WallCount$Text"))) (by decide +kernel) rfl ?_
  intro p e s m args below meth c s₁ B hml hv
  obtain ⟨rfl, rfl, hAM, hP⟩ := hv
  have hx := B.exec
  have hb := B.bytes
  have hr := B.returns
  have hts := atoms_spec (ws := wsX4_draft) B.pre
  have hown : s.vm.findClass RX4 = some m.cls := findClass_of_methodNamed B.named
  have hlocks := B.notSynchronized
  have hK := hAM.1


  have hl := lv_entry ([.ref h0]) (n := 1) (Nat.le_of_ble_eq_true rfl)
  rw [lg_entry_eq]
  generalize (lg_sl ([.ref h0]) ++ List.replicate (1 - (lg_sl ([.ref h0])).length) Slot.unset).toArray = ls at hl ⊢
  have hl : lv_has ls 1 [(0, .ref h0)] := hl
  refine lv_aload_n hx hb dX4_draft_0 rfl (lv_at hl 0 rfl) ?_
  refine va_get (D := D) (ci := 2) (v := .ref h3) (C := RX4) (T := TX4) (N := 3) hx hb hts in_X4_draft_X4 hown hK hP 0 rfl rfl 2 (by decide) (hts (.fieldLink RX4 22 "WallCount$Roll" "draft" "LWallCount$Text;") (List.mem_of_getElem? (i := 1) rfl)) (fun _ h9 => h9) rfl dX4_draft_1 ?_
  exact w_aret hx hb hr hlocks dX4_draft_4

theorem hd_X4_trait : yX4_trait.cls ≠ "java/lang/invoke/MethodHandle" ∧ yX4_trait.cls ≠ "java/lang/invoke/VarHandle" ∧ (parseMethodDescriptor yX4_trait.desc).map (fun d => d.parameters.length) = some 2 := by decide +kernel
def x_X4_trait (fr : Nat → Int32) (p0 : Int32) (p1 : Int32) : Int32 := (if ((p0 * 3) + p1) < 0 then 0 else (if 36 ≤ ((p0 * 3) + p1) then 0 else (fr (ix ((p0 * 3) + p1)))))
def rm_X4_trait : Room := { frames := 0, cells := 0, slots := 0, locals := 0 }
theorem in_X4_trait_X4 : ∀ w ∈ wsX40, w ∈ wsX4_trait := fun _ h => List.mem_cons_of_mem _ (List.mem_append_right _ h)
set_option maxHeartbeats 4000000 in
set_option maxRecDepth 100000 in
theorem c_X4_trait (l : Launch) (D : va_G) (cI cZ cR : ClassId) (H0 : Heap) (h0 h1 h2 h3 : Nat) (fr : Nat → Int32) (p0 : Int32) (p1 : Int32) : Met l yX4_trait wsX4_trait rm_X4_trait (po_P D cI cZ cR [.ref h0, .int p0, .int p1] [(h0, .inr (2, [.ref h1, .ref h2, .ref h3])), (h1, .inl (cI, 36, .inl fr))] H0) (po_Q (some (.int (x_X4_trait fr p0 p1))) H0) 0 0 nF := by
  refine Met.ofW (cc := cX4_trait) (maxL := 4) (ret := (some .int)) (by decide +kernel) rfl ?_
  intro p e s m args below meth c s₁ B hml hv
  obtain ⟨rfl, rfl, hAM, hP⟩ := hv
  have hx := B.exec
  have hb := B.bytes
  have hr := B.returns
  have hts := atoms_spec (ws := wsX4_trait) B.pre
  have hown : s.vm.findClass RX4 = some m.cls := findClass_of_methodNamed B.named
  have hlocks := B.notSynchronized
  have hK := hAM.1
  generalize hE : (x_X4_trait fr p0 p1) = Rv
  rw [x_X4_trait] at hE
  have hl := lv_entry ([.ref h0, .int p0, .int p1]) (n := 4) (Nat.le_of_ble_eq_true rfl)
  rw [lg_entry_eq]
  generalize (lg_sl ([.ref h0, .int p0, .int p1]) ++ List.replicate (4 - (lg_sl ([.ref h0, .int p0, .int p1])).length) Slot.unset).toArray = ls at hl ⊢
  have hl : lv_has ls 4 [(0, .ref h0), (1, .int p0), (2, .int p1)] := hl
  refine lv_iload_n hx hb dX4_trait_0 rfl (lv_at hl 1 rfl) ?_
  refine lv_iconst (v := 3) hx hb dX4_trait_1 (by decide) ?_
  refine lv_imul hx hb dX4_trait_2 ?_
  refine lv_iload_n hx hb dX4_trait_3 rfl (lv_at hl 2 rfl) ?_
  refine lv_iadd hx hb dX4_trait_4 ?_
  refine lv_istore_n (lv' := [(3, .int ((p0 * 3) + p1)), (0, .ref h0), (1, .int p0), (2, .int p1)]) hx hb dX4_trait_5 rfl hl (by decide) rfl (fun ls hl => ?_)
  refine lv_iload_n hx hb dX4_trait_6 rfl (lv_at hl 0 rfl) ?_
  refine lv_if_lt (tgt := 28) hx hb dX4_trait_7 (by decide) (fun c_7 => ?_) (fun c_7 => ?_)
  · have hE := itT hE c_7
    refine lv_iconst (v := 0) hx hb dX4_trait_28 (by decide) ?_
    exact w_iret hx hb hr hlocks hE dX4_trait_29
  · have hE := itF hE c_7
    refine lv_iload_n hx hb dX4_trait_10 rfl (lv_at hl 0 rfl) ?_
    refine lv_aload_n hx hb dX4_trait_11 rfl (lv_at hl 1 rfl) ?_
    refine va_get (D := D) (ci := 2) (v := .ref h1) (C := RX4) (T := TX4) (N := 3) hx hb hts in_X4_trait_X4 hown hK hP 0 rfl rfl 0 (by decide) (hts (.fieldLink RX4 9 "WallCount$Roll" "traits" "[I") (List.mem_of_getElem? (i := 1) rfl)) (fun _ h9 => h9) rfl dX4_trait_12 ?_
    refine va_alen (v := 36) hx hb hK hP 1 0 rfl rfl rfl dX4_trait_15 ?_
    refine lv_icmp_ge (tgt := 28) hx hb dX4_trait_16 (by decide) (fun c_16 => ?_) (fun c_16 => ?_)
    · have hE := itT hE c_16
      refine lv_iconst (v := 0) hx hb dX4_trait_28 (by decide) ?_
      exact w_iret hx hb hr hlocks hE dX4_trait_29
    · have hE := itF hE c_16
      refine lv_aload_n hx hb dX4_trait_19 rfl (lv_at hl 1 rfl) ?_
      refine va_get (D := D) (ci := 2) (v := .ref h1) (C := RX4) (T := TX4) (N := 3) hx hb hts in_X4_trait_X4 hown hK hP 0 rfl rfl 0 (by decide) (hts (.fieldLink RX4 9 "WallCount$Roll" "traits" "[I") (List.mem_of_getElem? (i := 1) rfl)) (fun _ h9 => h9) rfl dX4_trait_20 ?_
      refine lv_iload_n hx hb dX4_trait_23 rfl (lv_at hl 0 rfl) ?_
      refine va_iald hx hb hK hP 1 0 rfl rfl (in_of2 c_7 rfl (by decide) c_16) dX4_trait_24 ?_
      refine lv_goto (tgt := 29) hx hb dX4_trait_25 (by decide) ?_
      exact w_iret hx hb hr hlocks hE dX4_trait_29

theorem hd_X4_allows : yX4_allows.cls ≠ "java/lang/invoke/MethodHandle" ∧ yX4_allows.cls ≠ "java/lang/invoke/VarHandle" ∧ (parseMethodDescriptor yX4_allows.desc).map (fun d => d.parameters.length) = some 1 := by decide +kernel
def x_X4_allows (fr : Nat → Int32) (nt : Int32) (ft : Nat → Int32) (p0 : Int32) : Bool := (x_X6_allows nt ft (x_X4_trait fr p0 0) (x_X4_trait fr p0 1) (x_X4_trait fr p0 2))
def rm_X4_allows : Room := { frames := 2, cells := 0, slots := 0, locals := 52 }
theorem in_X4_allows_X4 : ∀ w ∈ wsX40, w ∈ wsX4_allows := fun _ h => List.mem_cons_of_mem _ (List.mem_append_left _ (List.mem_append_right _ h))
theorem in_X4_allows_X6 : ∀ w ∈ wsX60, w ∈ wsX4_allows := fun _ h => List.mem_cons_of_mem _ (List.mem_append_right _ h)
set_option maxHeartbeats 4000000 in
set_option maxRecDepth 100000 in
theorem c_X4_allows (l : Launch) (D : va_G) (cI cZ cR : ClassId) (H0 : Heap) (h0 h1 h2 h4 h3 : Nat) (fr : Nat → Int32) (nt : Int32) (ft : Nat → Int32) (p0 : Int32) : Met l yX4_allows wsX4_allows rm_X4_allows (po_P D cI cZ cR [.ref h0, .int p0] [(h0, .inr (2, [.ref h1, .ref h2, .ref h3])), (h1, .inl (cI, 36, .inl fr)), (h2, .inr (4, [.ref h4, .int nt])), (h4, .inl (cI, 40, .inl ft))] H0) (po_Q (some (.int (bI (x_X4_allows fr nt ft p0)))) H0) 0 0 nF := by
  refine Met.ofW (cc := cX4_allows) (maxL := 2) (ret := (some .boolean)) (by decide +kernel) rfl ?_
  intro p e s m args below meth c s₁ B hml hv
  obtain ⟨rfl, rfl, hAM, hP⟩ := hv
  have hx := B.exec
  have hb := B.bytes
  have hr := B.returns
  have hts := atoms_spec (ws := wsX4_allows) B.pre
  have hown : s.vm.findClass RX4 = some m.cls := findClass_of_methodNamed B.named
  have hlocks := B.notSynchronized
  have hK := hAM.1
  generalize hE : (x_X4_allows fr nt ft p0) = Rv
  rw [x_X4_allows] at hE
  have hl := lv_entry ([.ref h0, .int p0]) (n := 2) (Nat.le_of_ble_eq_true rfl)
  rw [lg_entry_eq]
  generalize (lg_sl ([.ref h0, .int p0]) ++ List.replicate (2 - (lg_sl ([.ref h0, .int p0])).length) Slot.unset).toArray = ls at hl ⊢
  have hl : lv_has ls 2 [(0, .ref h0), (1, .int p0)] := hl
  refine lv_aload_n hx hb dX4_allows_0 rfl (lv_at hl 0 rfl) ?_
  refine va_get (D := D) (ci := 2) (v := .ref h2) (C := RX4) (T := TX4) (N := 3) hx hb hts in_X4_allows_X4 hown hK hP 0 rfl rfl 1 (by decide) (hts (.fieldLink RX4 18 "WallCount$Roll" "whoMay" "LWallCount$Text;") (List.mem_of_getElem? (i := 1) rfl)) (fun _ h9 => h9) rfl dX4_allows_1 ?_
  refine lv_aload_n hx hb dX4_allows_4 rfl (lv_at hl 0 rfl) ?_
  refine lv_iload_n hx hb dX4_allows_5 rfl (lv_at hl 1 rfl) ?_
  refine lv_iconst (v := 0) hx hb dX4_allows_6 (by decide) ?_
  refine ro_call (va_runV (As := [.int p0, .int 0]) (rest := [.ref h2]) ⟨hx, hb, hml, hown, hts⟩ (c_X4_trait l D cI cZ cR _ h0 h1 h2 h3 fr p0 0) (cwV 2 hts gX4_allows_X4_trait rfl rfl rfl ⟨rfl, hd_X4_trait⟩ ⟨(Nat.le_of_ble_eq_true rfl), (Nat.le_of_ble_eq_true rfl)⟩) (po_preV hAM (hP.sub [0, 1] rfl) (va_recv hK hP (ci := 2) (q0 := 0) rfl rfl)) rfl rfl hl.1 rfl (lv_room (Nat.le_of_ble_eq_true rfl)) dX4_allows_7 ⟨(Nat.le_of_ble_eq_true rfl), (Nat.le_of_ble_eq_true rfl)⟩) ?_
  refine lv_aload_n hx hb dX4_allows_10 rfl (lv_at hl 0 rfl) ?_
  refine lv_iload_n hx hb dX4_allows_11 rfl (lv_at hl 1 rfl) ?_
  refine lv_iconst (v := 1) hx hb dX4_allows_12 (by decide) ?_
  refine ro_call (va_runV (As := [.int p0, .int 1]) (rest := [.int (x_X4_trait fr p0 0), .ref h2]) ⟨hx, hb, hml, hown, hts⟩ (c_X4_trait l D cI cZ cR _ h0 h1 h2 h3 fr p0 1) (cwV 2 hts gX4_allows_X4_trait rfl rfl rfl ⟨rfl, hd_X4_trait⟩ ⟨(Nat.le_of_ble_eq_true rfl), (Nat.le_of_ble_eq_true rfl)⟩) (po_preV hAM (hP.sub [0, 1] rfl) (va_recv hK hP (ci := 2) (q0 := 0) rfl rfl)) rfl rfl hl.1 rfl (lv_room (Nat.le_of_ble_eq_true rfl)) dX4_allows_13 ⟨(Nat.le_of_ble_eq_true rfl), (Nat.le_of_ble_eq_true rfl)⟩) ?_
  refine lv_aload_n hx hb dX4_allows_16 rfl (lv_at hl 0 rfl) ?_
  refine lv_iload_n hx hb dX4_allows_17 rfl (lv_at hl 1 rfl) ?_
  refine lv_iconst (v := 2) hx hb dX4_allows_18 (by decide) ?_
  refine ro_call (va_runV (As := [.int p0, .int 2]) (rest := [.int (x_X4_trait fr p0 1), .int (x_X4_trait fr p0 0), .ref h2]) ⟨hx, hb, hml, hown, hts⟩ (c_X4_trait l D cI cZ cR _ h0 h1 h2 h3 fr p0 2) (cwV 2 hts gX4_allows_X4_trait rfl rfl rfl ⟨rfl, hd_X4_trait⟩ ⟨(Nat.le_of_ble_eq_true rfl), (Nat.le_of_ble_eq_true rfl)⟩) (po_preV hAM (hP.sub [0, 1] rfl) (va_recv hK hP (ci := 2) (q0 := 0) rfl rfl)) rfl rfl hl.1 rfl (lv_room (Nat.le_of_ble_eq_true rfl)) dX4_allows_19 ⟨(Nat.le_of_ble_eq_true rfl), (Nat.le_of_ble_eq_true rfl)⟩) ?_
  refine ro_call (va_runV (As := [.int (x_X4_trait fr p0 0), .int (x_X4_trait fr p0 1), .int (x_X4_trait fr p0 2)]) (rest := []) ⟨hx, hb, hml, hown, hts⟩ (c_X6_allows l D cI cZ cR _ h2 h4 nt ft (x_X4_trait fr p0 0) (x_X4_trait fr p0 1) (x_X4_trait fr p0 2)) (cwV 3 hts gX4_allows_X6_allows rfl rfl rfl ⟨rfl, hd_X6_allows⟩ ⟨(Nat.le_of_ble_eq_true rfl), (Nat.le_of_ble_eq_true rfl)⟩) (po_preV hAM (hP.sub [2, 3] rfl) (va_recv hK hP (ci := 4) (q0 := 2) rfl rfl)) rfl rfl hl.1 rfl (lv_room (Nat.le_of_ble_eq_true rfl)) dX4_allows_22 ⟨(Nat.le_of_ble_eq_true rfl), (Nat.le_of_ble_eq_true rfl)⟩) ?_
  exact w_zret (v := (x_X6_allows nt ft (x_X4_trait fr p0 0) (x_X4_trait fr p0 1) (x_X4_trait fr p0 2))) hx hb hr hlocks hE dX4_allows_25

theorem hd_X5_word : yX5_word.cls ≠ "java/lang/invoke/MethodHandle" ∧ yX5_word.cls ≠ "java/lang/invoke/VarHandle" ∧ (parseMethodDescriptor yX5_word.desc).map (fun d => d.parameters.length) = some 0 := by decide +kernel
def x_X5_word (r0 : Int32) (r1 : Int32) (r2 : Int32) (r3 : Int32) : Int32 := (x_X5_wordWith (x_X5_wordWith (x_X5_wordWith (x_X5_wordWith 7 r0) r1) r2) r3)
def rm_X5_word : Room := { frames := 1, cells := 0, slots := 0, locals := 21 }
theorem in_X5_word_X5 : ∀ w ∈ wsX50, w ∈ wsX5_word := fun _ h => List.mem_cons_of_mem _ (List.mem_append_right _ h)
set_option maxHeartbeats 4000000 in
set_option maxRecDepth 100000 in
theorem c_X5_word (l : Launch) (D : va_G) (cI cZ cR : ClassId) (H0 : Heap) (h0 : Nat) (r0 : Int32) (r1 : Int32) (r2 : Int32) (r3 : Int32) (r4 : Bool) (r5 : Bool) : Met l yX5_word wsX5_word rm_X5_word (po_P D cI cZ cR [.ref h0] [(h0, .inr (3, [.int r0, .int r1, .int r2, .int r3, .int (bI r4), .int (bI r5)]))] H0) (po_Q (some (.int (x_X5_word r0 r1 r2 r3))) H0) 0 0 nF := by
  refine Met.ofW (cc := cX5_word) (maxL := 2) (ret := (some .int)) (by decide +kernel) rfl ?_
  intro p e s m args below meth c s₁ B hml hv
  obtain ⟨rfl, rfl, hAM, hP⟩ := hv
  have hx := B.exec
  have hb := B.bytes
  have hr := B.returns
  have hts := atoms_spec (ws := wsX5_word) B.pre
  have hown : s.vm.findClass RX5 = some m.cls := findClass_of_methodNamed B.named
  have hlocks := B.notSynchronized
  have hK := hAM.1
  generalize hE : (x_X5_word r0 r1 r2 r3) = Rv
  rw [x_X5_word] at hE
  have hl := lv_entry ([.ref h0]) (n := 2) (Nat.le_of_ble_eq_true rfl)
  rw [lg_entry_eq]
  generalize (lg_sl ([.ref h0]) ++ List.replicate (2 - (lg_sl ([.ref h0])).length) Slot.unset).toArray = ls at hl ⊢
  have hl : lv_has ls 2 [(0, .ref h0)] := hl
  refine lv_bipush (v := 7) hx hb dX5_word_0 (by decide +kernel) ?_
  refine lv_aload_n hx hb dX5_word_2 rfl (lv_at hl 0 rfl) ?_
  refine va_get (D := D) (ci := 3) (v := .int r0) (C := RX5) (T := TX5) (N := 6) hx hb hts in_X5_word_X5 hown hK hP 0 rfl rfl 0 (by decide) (hts (.fieldLink RX5 9 "WallCount$Row" "voter" "I") (List.mem_of_getElem? (i := 1) rfl)) (fun _ h9 => h9) rfl dX5_word_3 ?_
  refine ro_call (va_runS (As := [.int 7, .int r0]) (rest := []) ⟨hx, hb, hml, hown, hts⟩ (c_X5_wordWith l D cI cZ cR _ 7 r0) (va_cwS 2 hts gX5_word_X5_wordWith rfl rfl rfl hd_X5_wordWith ⟨(Nat.le_of_ble_eq_true rfl), (Nat.le_of_ble_eq_true rfl)⟩) (po_pre hAM va_P.nil) rfl rfl hl.1 rfl (lv_room (Nat.le_of_ble_eq_true rfl)) dX5_word_6 ⟨(Nat.le_of_ble_eq_true rfl), (Nat.le_of_ble_eq_true rfl)⟩) ?_
  refine lv_istore_n (lv' := [(1, .int (x_X5_wordWith 7 r0)), (0, .ref h0)]) hx hb dX5_word_9 rfl hl (by decide) rfl (fun ls hl => ?_)
  refine lv_iload_n hx hb dX5_word_10 rfl (lv_at hl 0 rfl) ?_
  refine lv_aload_n hx hb dX5_word_11 rfl (lv_at hl 1 rfl) ?_
  refine va_get (D := D) (ci := 3) (v := .int r1) (C := RX5) (T := TX5) (N := 6) hx hb hts in_X5_word_X5 hown hK hP 0 rfl rfl 1 (by decide) (hts (.fieldLink RX5 15 "WallCount$Row" "a" "I") (List.mem_of_getElem? (i := 2) rfl)) (fun _ h9 => h9) rfl dX5_word_12 ?_
  refine ro_call (va_runS (As := [.int (x_X5_wordWith 7 r0), .int r1]) (rest := []) ⟨hx, hb, hml, hown, hts⟩ (c_X5_wordWith l D cI cZ cR _ (x_X5_wordWith 7 r0) r1) (va_cwS 2 hts gX5_word_X5_wordWith rfl rfl rfl hd_X5_wordWith ⟨(Nat.le_of_ble_eq_true rfl), (Nat.le_of_ble_eq_true rfl)⟩) (po_pre hAM va_P.nil) rfl rfl hl.1 rfl (lv_room (Nat.le_of_ble_eq_true rfl)) dX5_word_15 ⟨(Nat.le_of_ble_eq_true rfl), (Nat.le_of_ble_eq_true rfl)⟩) ?_
  refine lv_istore_n (lv' := [(1, .int (x_X5_wordWith (x_X5_wordWith 7 r0) r1)), (0, .ref h0)]) hx hb dX5_word_18 rfl hl (by decide) rfl (fun ls hl => ?_)
  refine lv_iload_n hx hb dX5_word_19 rfl (lv_at hl 0 rfl) ?_
  refine lv_aload_n hx hb dX5_word_20 rfl (lv_at hl 1 rfl) ?_
  refine va_get (D := D) (ci := 3) (v := .int r2) (C := RX5) (T := TX5) (N := 6) hx hb hts in_X5_word_X5 hown hK hP 0 rfl rfl 2 (by decide) (hts (.fieldLink RX5 18 "WallCount$Row" "b" "I") (List.mem_of_getElem? (i := 3) rfl)) (fun _ h9 => h9) rfl dX5_word_21 ?_
  refine ro_call (va_runS (As := [.int (x_X5_wordWith (x_X5_wordWith 7 r0) r1), .int r2]) (rest := []) ⟨hx, hb, hml, hown, hts⟩ (c_X5_wordWith l D cI cZ cR _ (x_X5_wordWith (x_X5_wordWith 7 r0) r1) r2) (va_cwS 2 hts gX5_word_X5_wordWith rfl rfl rfl hd_X5_wordWith ⟨(Nat.le_of_ble_eq_true rfl), (Nat.le_of_ble_eq_true rfl)⟩) (po_pre hAM va_P.nil) rfl rfl hl.1 rfl (lv_room (Nat.le_of_ble_eq_true rfl)) dX5_word_24 ⟨(Nat.le_of_ble_eq_true rfl), (Nat.le_of_ble_eq_true rfl)⟩) ?_
  refine lv_istore_n (lv' := [(1, .int (x_X5_wordWith (x_X5_wordWith (x_X5_wordWith 7 r0) r1) r2)), (0, .ref h0)]) hx hb dX5_word_27 rfl hl (by decide) rfl (fun ls hl => ?_)
  refine lv_iload_n hx hb dX5_word_28 rfl (lv_at hl 0 rfl) ?_
  refine lv_aload_n hx hb dX5_word_29 rfl (lv_at hl 1 rfl) ?_
  refine va_get (D := D) (ci := 3) (v := .int r3) (C := RX5) (T := TX5) (N := 6) hx hb hts in_X5_word_X5 hown hK hP 0 rfl rfl 3 (by decide) (hts (.fieldLink RX5 21 "WallCount$Row" "hour" "I") (List.mem_of_getElem? (i := 4) rfl)) (fun _ h9 => h9) rfl dX5_word_30 ?_
  refine ro_call (va_runS (As := [.int (x_X5_wordWith (x_X5_wordWith (x_X5_wordWith 7 r0) r1) r2), .int r3]) (rest := []) ⟨hx, hb, hml, hown, hts⟩ (c_X5_wordWith l D cI cZ cR _ (x_X5_wordWith (x_X5_wordWith (x_X5_wordWith 7 r0) r1) r2) r3) (va_cwS 2 hts gX5_word_X5_wordWith rfl rfl rfl hd_X5_wordWith ⟨(Nat.le_of_ble_eq_true rfl), (Nat.le_of_ble_eq_true rfl)⟩) (po_pre hAM va_P.nil) rfl rfl hl.1 rfl (lv_room (Nat.le_of_ble_eq_true rfl)) dX5_word_33 ⟨(Nat.le_of_ble_eq_true rfl), (Nat.le_of_ble_eq_true rfl)⟩) ?_
  exact w_iret hx hb hr hlocks hE dX5_word_36
