theorem hd_X8_within : yX8_within.cls ≠ "java/lang/invoke/MethodHandle" ∧ yX8_within.cls ≠ "java/lang/invoke/VarHandle" ∧ (parseMethodDescriptor yX8_within.desc).map (fun d => d.parameters.length) = some 3 := by decide +kernel
def x_X8_within (p0 : Int32) (p1 : Int32) (p2 : Int32) : Bool := (if p0 < p1 then false else (if p2 < p0 then false else true))
def rm_X8_within : Room := { frames := 0, cells := 0, slots := 0, locals := 0 }
set_option maxHeartbeats 4000000 in
set_option maxRecDepth 100000 in
theorem c_X8_within (l : Launch) (D : va_G) (cI cZ cR : ClassId) (H0 : Heap) (p0 : Int32) (p1 : Int32) (p2 : Int32) : Met l yX8_within wsX8_within rm_X8_within (po_P D cI cZ cR [.int p0, .int p1, .int p2] [] H0) (po_Q (some (.int (bI (x_X8_within p0 p1 p2)))) H0) 0 0 nF := by
  refine Met.ofW (cc := cX8_within) (maxL := 3) (ret := (some .boolean)) (by decide +kernel) rfl ?_
  intro p e s m args below meth c s₁ B hml hv
  obtain ⟨rfl, rfl, hAM, hP⟩ := hv
  have hx := B.exec
  have hb := B.bytes
  have hr := B.returns
  have hts := atoms_spec (ws := wsX8_within) B.pre
  have hown : s.vm.findClass RX8 = some m.cls := findClass_of_methodNamed B.named
  have hlocks := B.notSynchronized
  have hK := hAM.1
  generalize hE : (x_X8_within p0 p1 p2) = Rv
  rw [x_X8_within] at hE
  have hl := lv_entry ([.int p0, .int p1, .int p2]) (n := 3) (Nat.le_of_ble_eq_true rfl)
  rw [lg_entry_eq]
  generalize (lg_sl ([.int p0, .int p1, .int p2]) ++ List.replicate (3 - (lg_sl ([.int p0, .int p1, .int p2])).length) Slot.unset).toArray = ls at hl ⊢
  have hl : lv_has ls 3 [(0, .int p0), (1, .int p1), (2, .int p2)] := hl
  refine lv_iload_n hx hb dX8_within_0 rfl (lv_at hl 0 rfl) ?_
  refine lv_iload_n hx hb dX8_within_1 rfl (lv_at hl 1 rfl) ?_
  refine lv_icmp_lt (tgt := 14) hx hb dX8_within_2 (by decide) (fun c_2 => ?_) (fun c_2 => ?_)
  · have hE := itT hE c_2
    refine lv_iconst (v := 0) hx hb dX8_within_14 (by decide) ?_
    exact w_zret (v := false) hx hb hr hlocks hE dX8_within_15
  · have hE := itF hE c_2
    refine lv_iload_n hx hb dX8_within_5 rfl (lv_at hl 0 rfl) ?_
    refine lv_iload_n hx hb dX8_within_6 rfl (lv_at hl 2 rfl) ?_
    refine lv_icmp_gt (tgt := 14) hx hb dX8_within_7 (by decide) (fun c_7 => ?_) (fun c_7 => ?_)
    · have hE := itT hE c_7
      refine lv_iconst (v := 0) hx hb dX8_within_14 (by decide) ?_
      exact w_zret (v := false) hx hb hr hlocks hE dX8_within_15
    · have hE := itF hE c_7
      refine lv_iconst (v := 1) hx hb dX8_within_10 (by decide) ?_
      refine lv_goto (tgt := 15) hx hb dX8_within_11 (by decide) ?_
      exact w_zret (v := true) hx hb hr hlocks hE dX8_within_15

theorem hd_X8_isExponent : yX8_isExponent.cls ≠ "java/lang/invoke/MethodHandle" ∧ yX8_isExponent.cls ≠ "java/lang/invoke/VarHandle" ∧ (parseMethodDescriptor yX8_isExponent.desc).map (fun d => d.parameters.length) = some 1 := by decide +kernel
def x_X8_isExponent (p0 : Int32) : Bool := (x_X8_within p0 0 5002)
def rm_X8_isExponent : Room := { frames := 1, cells := 0, slots := 0, locals := 22 }
set_option maxHeartbeats 4000000 in
set_option maxRecDepth 100000 in
theorem c_X8_isExponent (l : Launch) (D : va_G) (cI cZ cR : ClassId) (H0 : Heap) (p0 : Int32) : Met l yX8_isExponent wsX8_isExponent rm_X8_isExponent (po_P D cI cZ cR [.int p0] [] H0) (po_Q (some (.int (bI (x_X8_isExponent p0)))) H0) 0 0 nF := by
  refine Met.ofW (cc := cX8_isExponent) (maxL := 1) (ret := (some .boolean)) (by decide +kernel) rfl ?_
  intro p e s m args below meth c s₁ B hml hv
  obtain ⟨rfl, rfl, hAM, hP⟩ := hv
  have hx := B.exec
  have hb := B.bytes
  have hr := B.returns
  have hts := atoms_spec (ws := wsX8_isExponent) B.pre
  have hown : s.vm.findClass RX8 = some m.cls := findClass_of_methodNamed B.named
  have hlocks := B.notSynchronized
  have hK := hAM.1
  generalize hE : (x_X8_isExponent p0) = Rv
  rw [x_X8_isExponent] at hE
  have hl := lv_entry ([.int p0]) (n := 1) (Nat.le_of_ble_eq_true rfl)
  rw [lg_entry_eq]
  generalize (lg_sl ([.int p0]) ++ List.replicate (1 - (lg_sl ([.int p0])).length) Slot.unset).toArray = ls at hl ⊢
  have hl : lv_has ls 1 [(0, .int p0)] := hl
  refine lv_iload_n hx hb dX8_isExponent_0 rfl (lv_at hl 0 rfl) ?_
  refine lv_iconst (v := 0) hx hb dX8_isExponent_1 (by decide) ?_
  refine lv_sipush (v := 5002) hx hb dX8_isExponent_2 (by decide +kernel) ?_
  refine ro_call (va_runS (As := [.int p0, .int 0, .int 5002]) (rest := []) ⟨hx, hb, hml, hown, hts⟩ (c_X8_within l D cI cZ cR _ p0 0 5002) (va_cwS 3 hts gX8_isExponent_X8_within rfl rfl rfl hd_X8_within ⟨(Nat.le_of_ble_eq_true rfl), (Nat.le_of_ble_eq_true rfl)⟩) (po_pre hAM va_P.nil) rfl rfl hl.1 rfl (lv_room (Nat.le_of_ble_eq_true rfl)) dX8_isExponent_5 ⟨(Nat.le_of_ble_eq_true rfl), (Nat.le_of_ble_eq_true rfl)⟩) ?_
  exact w_zret (v := (x_X8_within p0 0 5002)) hx hb hr hlocks hE dX8_isExponent_8

theorem hd_X8_areLots : yX8_areLots.cls ≠ "java/lang/invoke/MethodHandle" ∧ yX8_areLots.cls ≠ "java/lang/invoke/VarHandle" ∧ (parseMethodDescriptor yX8_areLots.desc).map (fun d => d.parameters.length) = some 4 := by decide +kernel
def x_X8_areLots (p0 : Int32) (p1 : Int32) (p2 : Int32) (p3 : Int32) : Bool := (if (x_X8_isExponent p0) = true then (if (x_X8_isExponent p1) = true then (if (x_X8_isExponent p2) = true then (if (x_X8_isExponent p3) = true then true else false) else false) else false) else false)
def rm_X8_areLots : Room := { frames := 2, cells := 0, slots := 0, locals := 42 }
set_option maxHeartbeats 4000000 in
set_option maxRecDepth 100000 in
theorem c_X8_areLots (l : Launch) (D : va_G) (cI cZ cR : ClassId) (H0 : Heap) (p0 : Int32) (p1 : Int32) (p2 : Int32) (p3 : Int32) : Met l yX8_areLots wsX8_areLots rm_X8_areLots (po_P D cI cZ cR [.int p0, .int p1, .int p2, .int p3] [] H0) (po_Q (some (.int (bI (x_X8_areLots p0 p1 p2 p3)))) H0) 0 0 nF := by
  refine Met.ofW (cc := cX8_areLots) (maxL := 4) (ret := (some .boolean)) (by decide +kernel) rfl ?_
  intro p e s m args below meth c s₁ B hml hv
  obtain ⟨rfl, rfl, hAM, hP⟩ := hv
  have hx := B.exec
  have hb := B.bytes
  have hr := B.returns
  have hts := atoms_spec (ws := wsX8_areLots) B.pre
  have hown : s.vm.findClass RX8 = some m.cls := findClass_of_methodNamed B.named
  have hlocks := B.notSynchronized
  have hK := hAM.1
  generalize hE : (x_X8_areLots p0 p1 p2 p3) = Rv
  rw [x_X8_areLots] at hE
  have hl := lv_entry ([.int p0, .int p1, .int p2, .int p3]) (n := 4) (Nat.le_of_ble_eq_true rfl)
  rw [lg_entry_eq]
  generalize (lg_sl ([.int p0, .int p1, .int p2, .int p3]) ++ List.replicate (4 - (lg_sl ([.int p0, .int p1, .int p2, .int p3])).length) Slot.unset).toArray = ls at hl ⊢
  have hl : lv_has ls 4 [(0, .int p0), (1, .int p1), (2, .int p2), (3, .int p3)] := hl
  refine lv_iload_n hx hb dX8_areLots_0 rfl (lv_at hl 0 rfl) ?_
  refine ro_call (va_runS (As := [.int p0]) (rest := []) ⟨hx, hb, hml, hown, hts⟩ (c_X8_isExponent l D cI cZ cR _ p0) (va_cwS 1 hts gX8_areLots_X8_isExponent rfl rfl rfl hd_X8_isExponent ⟨(Nat.le_of_ble_eq_true rfl), (Nat.le_of_ble_eq_true rfl)⟩) (po_pre hAM va_P.nil) rfl rfl hl.1 rfl (lv_room (Nat.le_of_ble_eq_true rfl)) dX8_areLots_1 ⟨(Nat.le_of_ble_eq_true rfl), (Nat.le_of_ble_eq_true rfl)⟩) ?_
  refine w_if_eqb (tgt := 32) hx hb dX8_areLots_4 (by decide) (fun c_4 => ?_) (fun c_4 => ?_)
  · have hE := itF hE c_4
    refine lv_iconst (v := 0) hx hb dX8_areLots_32 (by decide) ?_
    exact w_zret (v := false) hx hb hr hlocks hE dX8_areLots_33
  · have hE := itT hE c_4
    refine lv_iload_n hx hb dX8_areLots_7 rfl (lv_at hl 1 rfl) ?_
    refine ro_call (va_runS (As := [.int p1]) (rest := []) ⟨hx, hb, hml, hown, hts⟩ (c_X8_isExponent l D cI cZ cR _ p1) (va_cwS 1 hts gX8_areLots_X8_isExponent rfl rfl rfl hd_X8_isExponent ⟨(Nat.le_of_ble_eq_true rfl), (Nat.le_of_ble_eq_true rfl)⟩) (po_pre hAM va_P.nil) rfl rfl hl.1 rfl (lv_room (Nat.le_of_ble_eq_true rfl)) dX8_areLots_8 ⟨(Nat.le_of_ble_eq_true rfl), (Nat.le_of_ble_eq_true rfl)⟩) ?_
    refine w_if_eqb (tgt := 32) hx hb dX8_areLots_11 (by decide) (fun c_11 => ?_) (fun c_11 => ?_)
    · have hE := itF hE c_11
      refine lv_iconst (v := 0) hx hb dX8_areLots_32 (by decide) ?_
      exact w_zret (v := false) hx hb hr hlocks hE dX8_areLots_33
    · have hE := itT hE c_11
      refine lv_iload_n hx hb dX8_areLots_14 rfl (lv_at hl 2 rfl) ?_
      refine ro_call (va_runS (As := [.int p2]) (rest := []) ⟨hx, hb, hml, hown, hts⟩ (c_X8_isExponent l D cI cZ cR _ p2) (va_cwS 1 hts gX8_areLots_X8_isExponent rfl rfl rfl hd_X8_isExponent ⟨(Nat.le_of_ble_eq_true rfl), (Nat.le_of_ble_eq_true rfl)⟩) (po_pre hAM va_P.nil) rfl rfl hl.1 rfl (lv_room (Nat.le_of_ble_eq_true rfl)) dX8_areLots_15 ⟨(Nat.le_of_ble_eq_true rfl), (Nat.le_of_ble_eq_true rfl)⟩) ?_
      refine w_if_eqb (tgt := 32) hx hb dX8_areLots_18 (by decide) (fun c_18 => ?_) (fun c_18 => ?_)
      · have hE := itF hE c_18
        refine lv_iconst (v := 0) hx hb dX8_areLots_32 (by decide) ?_
        exact w_zret (v := false) hx hb hr hlocks hE dX8_areLots_33
      · have hE := itT hE c_18
        refine lv_iload_n hx hb dX8_areLots_21 rfl (lv_at hl 3 rfl) ?_
        refine ro_call (va_runS (As := [.int p3]) (rest := []) ⟨hx, hb, hml, hown, hts⟩ (c_X8_isExponent l D cI cZ cR _ p3) (va_cwS 1 hts gX8_areLots_X8_isExponent rfl rfl rfl hd_X8_isExponent ⟨(Nat.le_of_ble_eq_true rfl), (Nat.le_of_ble_eq_true rfl)⟩) (po_pre hAM va_P.nil) rfl rfl hl.1 rfl (lv_room (Nat.le_of_ble_eq_true rfl)) dX8_areLots_22 ⟨(Nat.le_of_ble_eq_true rfl), (Nat.le_of_ble_eq_true rfl)⟩) ?_
        refine w_if_eqb (tgt := 32) hx hb dX8_areLots_25 (by decide) (fun c_25 => ?_) (fun c_25 => ?_)
        · have hE := itF hE c_25
          refine lv_iconst (v := 0) hx hb dX8_areLots_32 (by decide) ?_
          exact w_zret (v := false) hx hb hr hlocks hE dX8_areLots_33
        · have hE := itT hE c_25
          refine lv_iconst (v := 1) hx hb dX8_areLots_28 (by decide) ?_
          refine lv_goto (tgt := 33) hx hb dX8_areLots_29 (by decide) ?_
          exact w_zret (v := true) hx hb hr hlocks hE dX8_areLots_33

theorem hd_X8_isResidue : yX8_isResidue.cls ≠ "java/lang/invoke/MethodHandle" ∧ yX8_isResidue.cls ≠ "java/lang/invoke/VarHandle" ∧ (parseMethodDescriptor yX8_isResidue.desc).map (fun d => d.parameters.length) = some 1 := by decide +kernel
def x_X8_isResidue (p0 : Int32) : Bool := (x_X8_within p0 1 10006)
def rm_X8_isResidue : Room := { frames := 1, cells := 0, slots := 0, locals := 22 }
set_option maxHeartbeats 4000000 in
set_option maxRecDepth 100000 in
theorem c_X8_isResidue (l : Launch) (D : va_G) (cI cZ cR : ClassId) (H0 : Heap) (p0 : Int32) : Met l yX8_isResidue wsX8_isResidue rm_X8_isResidue (po_P D cI cZ cR [.int p0] [] H0) (po_Q (some (.int (bI (x_X8_isResidue p0)))) H0) 0 0 nF := by
  refine Met.ofW (cc := cX8_isResidue) (maxL := 1) (ret := (some .boolean)) (by decide +kernel) rfl ?_
  intro p e s m args below meth c s₁ B hml hv
  obtain ⟨rfl, rfl, hAM, hP⟩ := hv
  have hx := B.exec
  have hb := B.bytes
  have hr := B.returns
  have hts := atoms_spec (ws := wsX8_isResidue) B.pre
  have hown : s.vm.findClass RX8 = some m.cls := findClass_of_methodNamed B.named
  have hlocks := B.notSynchronized
  have hK := hAM.1
  generalize hE : (x_X8_isResidue p0) = Rv
  rw [x_X8_isResidue] at hE
  have hl := lv_entry ([.int p0]) (n := 1) (Nat.le_of_ble_eq_true rfl)
  rw [lg_entry_eq]
  generalize (lg_sl ([.int p0]) ++ List.replicate (1 - (lg_sl ([.int p0])).length) Slot.unset).toArray = ls at hl ⊢
  have hl : lv_has ls 1 [(0, .int p0)] := hl
  refine lv_iload_n hx hb dX8_isResidue_0 rfl (lv_at hl 0 rfl) ?_
  refine lv_iconst (v := 1) hx hb dX8_isResidue_1 (by decide) ?_
  refine lv_sipush (v := 10006) hx hb dX8_isResidue_2 (by decide +kernel) ?_
  refine ro_call (va_runS (As := [.int p0, .int 1, .int 10006]) (rest := []) ⟨hx, hb, hml, hown, hts⟩ (c_X8_within l D cI cZ cR _ p0 1 10006) (va_cwS 3 hts gX8_isResidue_X8_within rfl rfl rfl hd_X8_within ⟨(Nat.le_of_ble_eq_true rfl), (Nat.le_of_ble_eq_true rfl)⟩) (po_pre hAM va_P.nil) rfl rfl hl.1 rfl (lv_room (Nat.le_of_ble_eq_true rfl)) dX8_isResidue_5 ⟨(Nat.le_of_ble_eq_true rfl), (Nat.le_of_ble_eq_true rfl)⟩) ?_
  exact w_zret (v := (x_X8_within p0 1 10006)) hx hb hr hlocks hE dX8_isResidue_8

theorem hd_X8_isHolder : yX8_isHolder.cls ≠ "java/lang/invoke/MethodHandle" ∧ yX8_isHolder.cls ≠ "java/lang/invoke/VarHandle" ∧ (parseMethodDescriptor yX8_isHolder.desc).map (fun d => d.parameters.length) = some 1 := by decide +kernel
def x_X8_isHolder (p0 : Int32) : Bool := (x_X8_within p0 1 5)
def rm_X8_isHolder : Room := { frames := 1, cells := 0, slots := 0, locals := 22 }
set_option maxHeartbeats 4000000 in
set_option maxRecDepth 100000 in
theorem c_X8_isHolder (l : Launch) (D : va_G) (cI cZ cR : ClassId) (H0 : Heap) (p0 : Int32) : Met l yX8_isHolder wsX8_isHolder rm_X8_isHolder (po_P D cI cZ cR [.int p0] [] H0) (po_Q (some (.int (bI (x_X8_isHolder p0)))) H0) 0 0 nF := by
  refine Met.ofW (cc := cX8_isHolder) (maxL := 1) (ret := (some .boolean)) (by decide +kernel) rfl ?_
  intro p e s m args below meth c s₁ B hml hv
  obtain ⟨rfl, rfl, hAM, hP⟩ := hv
  have hx := B.exec
  have hb := B.bytes
  have hr := B.returns
  have hts := atoms_spec (ws := wsX8_isHolder) B.pre
  have hown : s.vm.findClass RX8 = some m.cls := findClass_of_methodNamed B.named
  have hlocks := B.notSynchronized
  have hK := hAM.1
  generalize hE : (x_X8_isHolder p0) = Rv
  rw [x_X8_isHolder] at hE
  have hl := lv_entry ([.int p0]) (n := 1) (Nat.le_of_ble_eq_true rfl)
  rw [lg_entry_eq]
  generalize (lg_sl ([.int p0]) ++ List.replicate (1 - (lg_sl ([.int p0])).length) Slot.unset).toArray = ls at hl ⊢
  have hl : lv_has ls 1 [(0, .int p0)] := hl
  refine lv_iload_n hx hb dX8_isHolder_0 rfl (lv_at hl 0 rfl) ?_
  refine lv_iconst (v := 1) hx hb dX8_isHolder_1 (by decide) ?_
  refine lv_iconst (v := 5) hx hb dX8_isHolder_2 (by decide) ?_
  refine ro_call (va_runS (As := [.int p0, .int 1, .int 5]) (rest := []) ⟨hx, hb, hml, hown, hts⟩ (c_X8_within l D cI cZ cR _ p0 1 5) (va_cwS 3 hts gX8_isHolder_X8_within rfl rfl rfl hd_X8_within ⟨(Nat.le_of_ble_eq_true rfl), (Nat.le_of_ble_eq_true rfl)⟩) (po_pre hAM va_P.nil) rfl rfl hl.1 rfl (lv_room (Nat.le_of_ble_eq_true rfl)) dX8_isHolder_3 ⟨(Nat.le_of_ble_eq_true rfl), (Nat.le_of_ble_eq_true rfl)⟩) ?_
  exact w_zret (v := (x_X8_within p0 1 5)) hx hb hr hlocks hE dX8_isHolder_6

theorem hd_X8_isSet : yX8_isSet.cls ≠ "java/lang/invoke/MethodHandle" ∧ yX8_isSet.cls ≠ "java/lang/invoke/VarHandle" ∧ (parseMethodDescriptor yX8_isSet.desc).map (fun d => d.parameters.length) = some 1 := by decide +kernel
def x_X8_isSet (p0 : Int32) : Bool := (if (x_X8_within p0 2 62) = true then (if (p0 &&& 1) = 0 then true else false) else false)
def rm_X8_isSet : Room := { frames := 1, cells := 0, slots := 0, locals := 22 }
set_option maxHeartbeats 4000000 in
set_option maxRecDepth 100000 in
theorem c_X8_isSet (l : Launch) (D : va_G) (cI cZ cR : ClassId) (H0 : Heap) (p0 : Int32) : Met l yX8_isSet wsX8_isSet rm_X8_isSet (po_P D cI cZ cR [.int p0] [] H0) (po_Q (some (.int (bI (x_X8_isSet p0)))) H0) 0 0 nF := by
  refine Met.ofW (cc := cX8_isSet) (maxL := 1) (ret := (some .boolean)) (by decide +kernel) rfl ?_
  intro p e s m args below meth c s₁ B hml hv
  obtain ⟨rfl, rfl, hAM, hP⟩ := hv
  have hx := B.exec
  have hb := B.bytes
  have hr := B.returns
  have hts := atoms_spec (ws := wsX8_isSet) B.pre
  have hown : s.vm.findClass RX8 = some m.cls := findClass_of_methodNamed B.named
  have hlocks := B.notSynchronized
  have hK := hAM.1
  generalize hE : (x_X8_isSet p0) = Rv
  rw [x_X8_isSet] at hE
  have hl := lv_entry ([.int p0]) (n := 1) (Nat.le_of_ble_eq_true rfl)
  rw [lg_entry_eq]
  generalize (lg_sl ([.int p0]) ++ List.replicate (1 - (lg_sl ([.int p0])).length) Slot.unset).toArray = ls at hl ⊢
  have hl : lv_has ls 1 [(0, .int p0)] := hl
  refine lv_iload_n hx hb dX8_isSet_0 rfl (lv_at hl 0 rfl) ?_
  refine lv_iconst (v := 2) hx hb dX8_isSet_1 (by decide) ?_
  refine lv_bipush (v := 62) hx hb dX8_isSet_2 (by decide +kernel) ?_
  refine ro_call (va_runS (As := [.int p0, .int 2, .int 62]) (rest := []) ⟨hx, hb, hml, hown, hts⟩ (c_X8_within l D cI cZ cR _ p0 2 62) (va_cwS 3 hts gX8_isSet_X8_within rfl rfl rfl hd_X8_within ⟨(Nat.le_of_ble_eq_true rfl), (Nat.le_of_ble_eq_true rfl)⟩) (po_pre hAM va_P.nil) rfl rfl hl.1 rfl (lv_room (Nat.le_of_ble_eq_true rfl)) dX8_isSet_4 ⟨(Nat.le_of_ble_eq_true rfl), (Nat.le_of_ble_eq_true rfl)⟩) ?_
  refine w_if_eqb (tgt := 20) hx hb dX8_isSet_7 (by decide) (fun c_7 => ?_) (fun c_7 => ?_)
  · have hE := itF hE c_7
    refine lv_iconst (v := 0) hx hb dX8_isSet_20 (by decide) ?_
    exact w_zret (v := false) hx hb hr hlocks hE dX8_isSet_21
  · have hE := itT hE c_7
    refine lv_iload_n hx hb dX8_isSet_10 rfl (lv_at hl 0 rfl) ?_
    refine lv_iconst (v := 1) hx hb dX8_isSet_11 (by decide) ?_
    refine lv_iand hx hb dX8_isSet_12 ?_
    refine lv_if_ne (tgt := 20) hx hb dX8_isSet_13 (by decide) (fun c_13 => ?_) (fun c_13 => ?_)
    · have hE := itF hE c_13
      refine lv_iconst (v := 0) hx hb dX8_isSet_20 (by decide) ?_
      exact w_zret (v := false) hx hb hr hlocks hE dX8_isSet_21
    · have hE := itT hE c_13
      refine lv_iconst (v := 1) hx hb dX8_isSet_16 (by decide) ?_
      refine lv_goto (tgt := 21) hx hb dX8_isSet_17 (by decide) ?_
      exact w_zret (v := true) hx hb hr hlocks hE dX8_isSet_21

theorem hd_X8_isIn : yX8_isIn.cls ≠ "java/lang/invoke/MethodHandle" ∧ yX8_isIn.cls ≠ "java/lang/invoke/VarHandle" ∧ (parseMethodDescriptor yX8_isIn.desc).map (fun d => d.parameters.length) = some 2 := by decide +kernel
def x_X8_isIn (p0 : Int32) (p1 : Int32) : Bool := (if ((xShr p1 p0) &&& 1) = 1 then true else false)
def rm_X8_isIn : Room := { frames := 0, cells := 0, slots := 0, locals := 0 }
set_option maxHeartbeats 4000000 in
set_option maxRecDepth 100000 in
theorem c_X8_isIn (l : Launch) (D : va_G) (cI cZ cR : ClassId) (H0 : Heap) (p0 : Int32) (p1 : Int32) : Met l yX8_isIn wsX8_isIn rm_X8_isIn (po_P D cI cZ cR [.int p0, .int p1] [] H0) (po_Q (some (.int (bI (x_X8_isIn p0 p1)))) H0) 0 0 nF := by
  refine Met.ofW (cc := cX8_isIn) (maxL := 2) (ret := (some .boolean)) (by decide +kernel) rfl ?_
  intro p e s m args below meth c s₁ B hml hv
  obtain ⟨rfl, rfl, hAM, hP⟩ := hv
  have hx := B.exec
  have hb := B.bytes
  have hr := B.returns
  have hts := atoms_spec (ws := wsX8_isIn) B.pre
  have hown : s.vm.findClass RX8 = some m.cls := findClass_of_methodNamed B.named
  have hlocks := B.notSynchronized
  have hK := hAM.1
  generalize hE : (x_X8_isIn p0 p1) = Rv
  rw [x_X8_isIn] at hE
  have hl := lv_entry ([.int p0, .int p1]) (n := 2) (Nat.le_of_ble_eq_true rfl)
  rw [lg_entry_eq]
  generalize (lg_sl ([.int p0, .int p1]) ++ List.replicate (2 - (lg_sl ([.int p0, .int p1])).length) Slot.unset).toArray = ls at hl ⊢
  have hl : lv_has ls 2 [(0, .int p0), (1, .int p1)] := hl
  refine lv_iload_n hx hb dX8_isIn_0 rfl (lv_at hl 1 rfl) ?_
  refine lv_iload_n hx hb dX8_isIn_1 rfl (lv_at hl 0 rfl) ?_
  refine w_ishr hx hb dX8_isIn_2 ?_
  refine lv_iconst (v := 1) hx hb dX8_isIn_3 (by decide) ?_
  refine lv_iand hx hb dX8_isIn_4 ?_
  refine lv_iconst (v := 1) hx hb dX8_isIn_5 (by decide) ?_
  refine lv_icmp_ne (tgt := 13) hx hb dX8_isIn_6 (by decide) (fun c_6 => ?_) (fun c_6 => ?_)
  · have hE := itF hE c_6
    refine lv_iconst (v := 0) hx hb dX8_isIn_13 (by decide) ?_
    exact w_zret (v := false) hx hb hr hlocks hE dX8_isIn_14
  · have hE := itT hE c_6
    refine lv_iconst (v := 1) hx hb dX8_isIn_9 (by decide) ?_
    refine lv_goto (tgt := 14) hx hb dX8_isIn_10 (by decide) ?_
    exact w_zret (v := true) hx hb hr hlocks hE dX8_isIn_14

theorem hd_X8_isVoter : yX8_isVoter.cls ≠ "java/lang/invoke/MethodHandle" ∧ yX8_isVoter.cls ≠ "java/lang/invoke/VarHandle" ∧ (parseMethodDescriptor yX8_isVoter.desc).map (fun d => d.parameters.length) = some 1 := by decide +kernel
def x_X8_isVoter (p0 : Int32) : Bool := (x_X8_within p0 0 11)
def rm_X8_isVoter : Room := { frames := 1, cells := 0, slots := 0, locals := 22 }
set_option maxHeartbeats 4000000 in
set_option maxRecDepth 100000 in
theorem c_X8_isVoter (l : Launch) (D : va_G) (cI cZ cR : ClassId) (H0 : Heap) (p0 : Int32) : Met l yX8_isVoter wsX8_isVoter rm_X8_isVoter (po_P D cI cZ cR [.int p0] [] H0) (po_Q (some (.int (bI (x_X8_isVoter p0)))) H0) 0 0 nF := by
  refine Met.ofW (cc := cX8_isVoter) (maxL := 1) (ret := (some .boolean)) (by decide +kernel) rfl ?_
  intro p e s m args below meth c s₁ B hml hv
  obtain ⟨rfl, rfl, hAM, hP⟩ := hv
  have hx := B.exec
  have hb := B.bytes
  have hr := B.returns
  have hts := atoms_spec (ws := wsX8_isVoter) B.pre
  have hown : s.vm.findClass RX8 = some m.cls := findClass_of_methodNamed B.named
  have hlocks := B.notSynchronized
  have hK := hAM.1
  generalize hE : (x_X8_isVoter p0) = Rv
  rw [x_X8_isVoter] at hE
  have hl := lv_entry ([.int p0]) (n := 1) (Nat.le_of_ble_eq_true rfl)
  rw [lg_entry_eq]
  generalize (lg_sl ([.int p0]) ++ List.replicate (1 - (lg_sl ([.int p0])).length) Slot.unset).toArray = ls at hl ⊢
  have hl : lv_has ls 1 [(0, .int p0)] := hl
  refine lv_iload_n hx hb dX8_isVoter_0 rfl (lv_at hl 0 rfl) ?_
  refine lv_iconst (v := 0) hx hb dX8_isVoter_1 (by decide) ?_
  refine lv_bipush (v := 11) hx hb dX8_isVoter_2 (by decide +kernel) ?_
  refine ro_call (va_runS (As := [.int p0, .int 0, .int 11]) (rest := []) ⟨hx, hb, hml, hown, hts⟩ (c_X8_within l D cI cZ cR _ p0 0 11) (va_cwS 3 hts gX8_isVoter_X8_within rfl rfl rfl hd_X8_within ⟨(Nat.le_of_ble_eq_true rfl), (Nat.le_of_ble_eq_true rfl)⟩) (po_pre hAM va_P.nil) rfl rfl hl.1 rfl (lv_room (Nat.le_of_ble_eq_true rfl)) dX8_isVoter_4 ⟨(Nat.le_of_ble_eq_true rfl), (Nat.le_of_ble_eq_true rfl)⟩) ?_
  exact w_zret (v := (x_X8_within p0 0 11)) hx hb hr hlocks hE dX8_isVoter_7

theorem hd_X8_isRowNumber : yX8_isRowNumber.cls ≠ "java/lang/invoke/MethodHandle" ∧ yX8_isRowNumber.cls ≠ "java/lang/invoke/VarHandle" ∧ (parseMethodDescriptor yX8_isRowNumber.desc).map (fun d => d.parameters.length) = some 1 := by decide +kernel
def x_X8_isRowNumber (p0 : Int32) : Bool := (x_X8_within p0 0 1000000)
def rm_X8_isRowNumber : Room := { frames := 1, cells := 0, slots := 0, locals := 22 }
set_option maxHeartbeats 4000000 in
set_option maxRecDepth 100000 in
theorem c_X8_isRowNumber (l : Launch) (D : va_G) (cI cZ cR : ClassId) (H0 : Heap) (p0 : Int32) : Met l yX8_isRowNumber wsX8_isRowNumber rm_X8_isRowNumber (po_P D cI cZ cR [.int p0] [] H0) (po_Q (some (.int (bI (x_X8_isRowNumber p0)))) H0) 0 0 nF := by
  refine Met.ofW (cc := cX8_isRowNumber) (maxL := 1) (ret := (some .boolean)) (by decide +kernel) rfl ?_
  intro p e s m args below meth c s₁ B hml hv
  obtain ⟨rfl, rfl, hAM, hP⟩ := hv
  have hx := B.exec
  have hb := B.bytes
  have hr := B.returns
  have hts := atoms_spec (ws := wsX8_isRowNumber) B.pre
  have hown : s.vm.findClass RX8 = some m.cls := findClass_of_methodNamed B.named
  have hlocks := B.notSynchronized
  have hK := hAM.1
  generalize hE : (x_X8_isRowNumber p0) = Rv
  rw [x_X8_isRowNumber] at hE
  have hl := lv_entry ([.int p0]) (n := 1) (Nat.le_of_ble_eq_true rfl)
  rw [lg_entry_eq]
  generalize (lg_sl ([.int p0]) ++ List.replicate (1 - (lg_sl ([.int p0])).length) Slot.unset).toArray = ls at hl ⊢
  have hl : lv_has ls 1 [(0, .int p0)] := hl
  refine lv_iload_n hx hb dX8_isRowNumber_0 rfl (lv_at hl 0 rfl) ?_
  refine lv_iconst (v := 0) hx hb dX8_isRowNumber_1 (by decide) ?_
  refine lv_ldc hx hb hown (hts (.constant RX8 243 (1000000)) (List.mem_of_getElem? (i := 1) rfl)) dX8_isRowNumber_2 ?_
  refine ro_call (va_runS (As := [.int p0, .int 0, .int 1000000]) (rest := []) ⟨hx, hb, hml, hown, hts⟩ (c_X8_within l D cI cZ cR _ p0 0 1000000) (va_cwS 3 hts gX8_isRowNumber_X8_within rfl rfl rfl hd_X8_within ⟨(Nat.le_of_ble_eq_true rfl), (Nat.le_of_ble_eq_true rfl)⟩) (po_pre hAM va_P.nil) rfl rfl hl.1 rfl (lv_room (Nat.le_of_ble_eq_true rfl)) dX8_isRowNumber_4 ⟨(Nat.le_of_ble_eq_true rfl), (Nat.le_of_ble_eq_true rfl)⟩) ?_
  exact w_zret (v := (x_X8_within p0 0 1000000)) hx hb hr hlocks hE dX8_isRowNumber_7

theorem hd_X8_areBooth : yX8_areBooth.cls ≠ "java/lang/invoke/MethodHandle" ∧ yX8_areBooth.cls ≠ "java/lang/invoke/VarHandle" ∧ (parseMethodDescriptor yX8_areBooth.desc).map (fun d => d.parameters.length) = some 2 := by decide +kernel
def x_X8_areBooth (p0 : Int32) (p1 : Int32) : Bool := (if (x_X8_within p0 1 40) = true then (if (x_X8_within p1 0 p0) = true then true else false) else false)
def rm_X8_areBooth : Room := { frames := 1, cells := 0, slots := 0, locals := 22 }
set_option maxHeartbeats 4000000 in
set_option maxRecDepth 100000 in
theorem c_X8_areBooth (l : Launch) (D : va_G) (cI cZ cR : ClassId) (H0 : Heap) (p0 : Int32) (p1 : Int32) : Met l yX8_areBooth wsX8_areBooth rm_X8_areBooth (po_P D cI cZ cR [.int p0, .int p1] [] H0) (po_Q (some (.int (bI (x_X8_areBooth p0 p1)))) H0) 0 0 nF := by
  refine Met.ofW (cc := cX8_areBooth) (maxL := 2) (ret := (some .boolean)) (by decide +kernel) rfl ?_
  intro p e s m args below meth c s₁ B hml hv
  obtain ⟨rfl, rfl, hAM, hP⟩ := hv
  have hx := B.exec
  have hb := B.bytes
  have hr := B.returns
  have hts := atoms_spec (ws := wsX8_areBooth) B.pre
  have hown : s.vm.findClass RX8 = some m.cls := findClass_of_methodNamed B.named
  have hlocks := B.notSynchronized
  have hK := hAM.1
  generalize hE : (x_X8_areBooth p0 p1) = Rv
  rw [x_X8_areBooth] at hE
  have hl := lv_entry ([.int p0, .int p1]) (n := 2) (Nat.le_of_ble_eq_true rfl)
  rw [lg_entry_eq]
  generalize (lg_sl ([.int p0, .int p1]) ++ List.replicate (2 - (lg_sl ([.int p0, .int p1])).length) Slot.unset).toArray = ls at hl ⊢
  have hl : lv_has ls 2 [(0, .int p0), (1, .int p1)] := hl
  refine lv_iload_n hx hb dX8_areBooth_0 rfl (lv_at hl 0 rfl) ?_
  refine lv_iconst (v := 1) hx hb dX8_areBooth_1 (by decide) ?_
  refine lv_bipush (v := 40) hx hb dX8_areBooth_2 (by decide +kernel) ?_
  refine ro_call (va_runS (As := [.int p0, .int 1, .int 40]) (rest := []) ⟨hx, hb, hml, hown, hts⟩ (c_X8_within l D cI cZ cR _ p0 1 40) (va_cwS 3 hts gX8_areBooth_X8_within rfl rfl rfl hd_X8_within ⟨(Nat.le_of_ble_eq_true rfl), (Nat.le_of_ble_eq_true rfl)⟩) (po_pre hAM va_P.nil) rfl rfl hl.1 rfl (lv_room (Nat.le_of_ble_eq_true rfl)) dX8_areBooth_4 ⟨(Nat.le_of_ble_eq_true rfl), (Nat.le_of_ble_eq_true rfl)⟩) ?_
  refine w_if_eqb (tgt := 23) hx hb dX8_areBooth_7 (by decide) (fun c_7 => ?_) (fun c_7 => ?_)
  · have hE := itF hE c_7
    refine lv_iconst (v := 0) hx hb dX8_areBooth_23 (by decide) ?_
    exact w_zret (v := false) hx hb hr hlocks hE dX8_areBooth_24
  · have hE := itT hE c_7
    refine lv_iload_n hx hb dX8_areBooth_10 rfl (lv_at hl 1 rfl) ?_
    refine lv_iconst (v := 0) hx hb dX8_areBooth_11 (by decide) ?_
    refine lv_iload_n hx hb dX8_areBooth_12 rfl (lv_at hl 0 rfl) ?_
    refine ro_call (va_runS (As := [.int p1, .int 0, .int p0]) (rest := []) ⟨hx, hb, hml, hown, hts⟩ (c_X8_within l D cI cZ cR _ p1 0 p0) (va_cwS 3 hts gX8_areBooth_X8_within rfl rfl rfl hd_X8_within ⟨(Nat.le_of_ble_eq_true rfl), (Nat.le_of_ble_eq_true rfl)⟩) (po_pre hAM va_P.nil) rfl rfl hl.1 rfl (lv_room (Nat.le_of_ble_eq_true rfl)) dX8_areBooth_13 ⟨(Nat.le_of_ble_eq_true rfl), (Nat.le_of_ble_eq_true rfl)⟩) ?_
    refine w_if_eqb (tgt := 23) hx hb dX8_areBooth_16 (by decide) (fun c_16 => ?_) (fun c_16 => ?_)
    · have hE := itF hE c_16
      refine lv_iconst (v := 0) hx hb dX8_areBooth_23 (by decide) ?_
      exact w_zret (v := false) hx hb hr hlocks hE dX8_areBooth_24
    · have hE := itT hE c_16
      refine lv_iconst (v := 1) hx hb dX8_areBooth_19 (by decide) ?_
      refine lv_goto (tgt := 24) hx hb dX8_areBooth_20 (by decide) ?_
      exact w_zret (v := true) hx hb hr hlocks hE dX8_areBooth_24

theorem hd_X8_areSums : yX8_areSums.cls ≠ "java/lang/invoke/MethodHandle" ∧ yX8_areSums.cls ≠ "java/lang/invoke/VarHandle" ∧ (parseMethodDescriptor yX8_areSums.desc).map (fun d => d.parameters.length) = some 3 := by decide +kernel
def x_X8_areSums (p0 : Int32) (p1 : Int32) (p2 : Int32) : Bool := (if (x_X8_within p0 0 8) = true then (if (x_X8_within p1 0 8) = true then (if (x_X8_within p2 0 8) = true then (if (x_X8_within ((p0 + p1) + p2) 1 8) = true then true else false) else false) else false) else false)
def rm_X8_areSums : Room := { frames := 1, cells := 0, slots := 0, locals := 22 }
set_option maxHeartbeats 4000000 in
set_option maxRecDepth 100000 in
theorem c_X8_areSums (l : Launch) (D : va_G) (cI cZ cR : ClassId) (H0 : Heap) (p0 : Int32) (p1 : Int32) (p2 : Int32) : Met l yX8_areSums wsX8_areSums rm_X8_areSums (po_P D cI cZ cR [.int p0, .int p1, .int p2] [] H0) (po_Q (some (.int (bI (x_X8_areSums p0 p1 p2)))) H0) 0 0 nF := by
  refine Met.ofW (cc := cX8_areSums) (maxL := 3) (ret := (some .boolean)) (by decide +kernel) rfl ?_
  intro p e s m args below meth c s₁ B hml hv
  obtain ⟨rfl, rfl, hAM, hP⟩ := hv
  have hx := B.exec
  have hb := B.bytes
  have hr := B.returns
  have hts := atoms_spec (ws := wsX8_areSums) B.pre
  have hown : s.vm.findClass RX8 = some m.cls := findClass_of_methodNamed B.named
  have hlocks := B.notSynchronized
  have hK := hAM.1
  generalize hE : (x_X8_areSums p0 p1 p2) = Rv
  rw [x_X8_areSums] at hE
  have hl := lv_entry ([.int p0, .int p1, .int p2]) (n := 3) (Nat.le_of_ble_eq_true rfl)
  rw [lg_entry_eq]
  generalize (lg_sl ([.int p0, .int p1, .int p2]) ++ List.replicate (3 - (lg_sl ([.int p0, .int p1, .int p2])).length) Slot.unset).toArray = ls at hl ⊢
  have hl : lv_has ls 3 [(0, .int p0), (1, .int p1), (2, .int p2)] := hl
  refine lv_iload_n hx hb dX8_areSums_0 rfl (lv_at hl 0 rfl) ?_
  refine lv_iconst (v := 0) hx hb dX8_areSums_1 (by decide) ?_
  refine lv_bipush (v := 8) hx hb dX8_areSums_2 (by decide +kernel) ?_
  refine ro_call (va_runS (As := [.int p0, .int 0, .int 8]) (rest := []) ⟨hx, hb, hml, hown, hts⟩ (c_X8_within l D cI cZ cR _ p0 0 8) (va_cwS 3 hts gX8_areSums_X8_within rfl rfl rfl hd_X8_within ⟨(Nat.le_of_ble_eq_true rfl), (Nat.le_of_ble_eq_true rfl)⟩) (po_pre hAM va_P.nil) rfl rfl hl.1 rfl (lv_room (Nat.le_of_ble_eq_true rfl)) dX8_areSums_4 ⟨(Nat.le_of_ble_eq_true rfl), (Nat.le_of_ble_eq_true rfl)⟩) ?_
  refine w_if_eqb (tgt := 48) hx hb dX8_areSums_7 (by decide) (fun c_7 => ?_) (fun c_7 => ?_)
  · have hE := itF hE c_7
    refine lv_iconst (v := 0) hx hb dX8_areSums_48 (by decide) ?_
    exact w_zret (v := false) hx hb hr hlocks hE dX8_areSums_49
  · have hE := itT hE c_7
    refine lv_iload_n hx hb dX8_areSums_10 rfl (lv_at hl 1 rfl) ?_
    refine lv_iconst (v := 0) hx hb dX8_areSums_11 (by decide) ?_
    refine lv_bipush (v := 8) hx hb dX8_areSums_12 (by decide +kernel) ?_
    refine ro_call (va_runS (As := [.int p1, .int 0, .int 8]) (rest := []) ⟨hx, hb, hml, hown, hts⟩ (c_X8_within l D cI cZ cR _ p1 0 8) (va_cwS 3 hts gX8_areSums_X8_within rfl rfl rfl hd_X8_within ⟨(Nat.le_of_ble_eq_true rfl), (Nat.le_of_ble_eq_true rfl)⟩) (po_pre hAM va_P.nil) rfl rfl hl.1 rfl (lv_room (Nat.le_of_ble_eq_true rfl)) dX8_areSums_14 ⟨(Nat.le_of_ble_eq_true rfl), (Nat.le_of_ble_eq_true rfl)⟩) ?_
    refine w_if_eqb (tgt := 48) hx hb dX8_areSums_17 (by decide) (fun c_17 => ?_) (fun c_17 => ?_)
    · have hE := itF hE c_17
      refine lv_iconst (v := 0) hx hb dX8_areSums_48 (by decide) ?_
      exact w_zret (v := false) hx hb hr hlocks hE dX8_areSums_49
    · have hE := itT hE c_17
      refine lv_iload_n hx hb dX8_areSums_20 rfl (lv_at hl 2 rfl) ?_
      refine lv_iconst (v := 0) hx hb dX8_areSums_21 (by decide) ?_
      refine lv_bipush (v := 8) hx hb dX8_areSums_22 (by decide +kernel) ?_
      refine ro_call (va_runS (As := [.int p2, .int 0, .int 8]) (rest := []) ⟨hx, hb, hml, hown, hts⟩ (c_X8_within l D cI cZ cR _ p2 0 8) (va_cwS 3 hts gX8_areSums_X8_within rfl rfl rfl hd_X8_within ⟨(Nat.le_of_ble_eq_true rfl), (Nat.le_of_ble_eq_true rfl)⟩) (po_pre hAM va_P.nil) rfl rfl hl.1 rfl (lv_room (Nat.le_of_ble_eq_true rfl)) dX8_areSums_24 ⟨(Nat.le_of_ble_eq_true rfl), (Nat.le_of_ble_eq_true rfl)⟩) ?_
      refine w_if_eqb (tgt := 48) hx hb dX8_areSums_27 (by decide) (fun c_27 => ?_) (fun c_27 => ?_)
      · have hE := itF hE c_27
        refine lv_iconst (v := 0) hx hb dX8_areSums_48 (by decide) ?_
        exact w_zret (v := false) hx hb hr hlocks hE dX8_areSums_49
      · have hE := itT hE c_27
        refine lv_iload_n hx hb dX8_areSums_30 rfl (lv_at hl 0 rfl) ?_
        refine lv_iload_n hx hb dX8_areSums_31 rfl (lv_at hl 1 rfl) ?_
        refine lv_iadd hx hb dX8_areSums_32 ?_
        refine lv_iload_n hx hb dX8_areSums_33 rfl (lv_at hl 2 rfl) ?_
        refine lv_iadd hx hb dX8_areSums_34 ?_
        refine lv_iconst (v := 1) hx hb dX8_areSums_35 (by decide) ?_
        refine lv_bipush (v := 8) hx hb dX8_areSums_36 (by decide +kernel) ?_
        refine ro_call (va_runS (As := [.int ((p0 + p1) + p2), .int 1, .int 8]) (rest := []) ⟨hx, hb, hml, hown, hts⟩ (c_X8_within l D cI cZ cR _ ((p0 + p1) + p2) 1 8) (va_cwS 3 hts gX8_areSums_X8_within rfl rfl rfl hd_X8_within ⟨(Nat.le_of_ble_eq_true rfl), (Nat.le_of_ble_eq_true rfl)⟩) (po_pre hAM va_P.nil) rfl rfl hl.1 rfl (lv_room (Nat.le_of_ble_eq_true rfl)) dX8_areSums_38 ⟨(Nat.le_of_ble_eq_true rfl), (Nat.le_of_ble_eq_true rfl)⟩) ?_
        refine w_if_eqb (tgt := 48) hx hb dX8_areSums_41 (by decide) (fun c_41 => ?_) (fun c_41 => ?_)
        · have hE := itF hE c_41
          refine lv_iconst (v := 0) hx hb dX8_areSums_48 (by decide) ?_
          exact w_zret (v := false) hx hb hr hlocks hE dX8_areSums_49
        · have hE := itT hE c_41
          refine lv_iconst (v := 1) hx hb dX8_areSums_44 (by decide) ?_
          refine lv_goto (tgt := 49) hx hb dX8_areSums_45 (by decide) ?_
          exact w_zret (v := true) hx hb hr hlocks hE dX8_areSums_49

theorem hd_X8_areKnown : yX8_areKnown.cls ≠ "java/lang/invoke/MethodHandle" ∧ yX8_areKnown.cls ≠ "java/lang/invoke/VarHandle" ∧ (parseMethodDescriptor yX8_areKnown.desc).map (fun d => d.parameters.length) = some 6 := by decide +kernel
def x_X8_areKnown (p0 : Int32) (p1 : Int32) (p2 : Int32) (p3 : Int32) (p4 : Int32) (p5 : Int32) : Bool := (if (x_X8_within p3 0 p0) = true then (if (x_X8_within p4 0 p1) = true then (if (x_X8_within p5 0 p2) = true then true else false) else false) else false)
def rm_X8_areKnown : Room := { frames := 1, cells := 0, slots := 0, locals := 22 }
set_option maxHeartbeats 4000000 in
set_option maxRecDepth 100000 in
theorem c_X8_areKnown (l : Launch) (D : va_G) (cI cZ cR : ClassId) (H0 : Heap) (p0 : Int32) (p1 : Int32) (p2 : Int32) (p3 : Int32) (p4 : Int32) (p5 : Int32) : Met l yX8_areKnown wsX8_areKnown rm_X8_areKnown (po_P D cI cZ cR [.int p0, .int p1, .int p2, .int p3, .int p4, .int p5] [] H0) (po_Q (some (.int (bI (x_X8_areKnown p0 p1 p2 p3 p4 p5)))) H0) 0 0 nF := by
  refine Met.ofW (cc := cX8_areKnown) (maxL := 6) (ret := (some .boolean)) (by decide +kernel) rfl ?_
  intro p e s m args below meth c s₁ B hml hv
  obtain ⟨rfl, rfl, hAM, hP⟩ := hv
  have hx := B.exec
  have hb := B.bytes
  have hr := B.returns
  have hts := atoms_spec (ws := wsX8_areKnown) B.pre
  have hown : s.vm.findClass RX8 = some m.cls := findClass_of_methodNamed B.named
  have hlocks := B.notSynchronized
  have hK := hAM.1
  generalize hE : (x_X8_areKnown p0 p1 p2 p3 p4 p5) = Rv
  rw [x_X8_areKnown] at hE
  have hl := lv_entry ([.int p0, .int p1, .int p2, .int p3, .int p4, .int p5]) (n := 6) (Nat.le_of_ble_eq_true rfl)
  rw [lg_entry_eq]
  generalize (lg_sl ([.int p0, .int p1, .int p2, .int p3, .int p4, .int p5]) ++ List.replicate (6 - (lg_sl ([.int p0, .int p1, .int p2, .int p3, .int p4, .int p5])).length) Slot.unset).toArray = ls at hl ⊢
  have hl : lv_has ls 6 [(0, .int p0), (1, .int p1), (2, .int p2), (3, .int p3), (4, .int p4), (5, .int p5)] := hl
  refine lv_iload_n hx hb dX8_areKnown_0 rfl (lv_at hl 3 rfl) ?_
  refine lv_iconst (v := 0) hx hb dX8_areKnown_1 (by decide) ?_
  refine lv_iload_n hx hb dX8_areKnown_2 rfl (lv_at hl 0 rfl) ?_
  refine ro_call (va_runS (As := [.int p3, .int 0, .int p0]) (rest := []) ⟨hx, hb, hml, hown, hts⟩ (c_X8_within l D cI cZ cR _ p3 0 p0) (va_cwS 3 hts gX8_areKnown_X8_within rfl rfl rfl hd_X8_within ⟨(Nat.le_of_ble_eq_true rfl), (Nat.le_of_ble_eq_true rfl)⟩) (po_pre hAM va_P.nil) rfl rfl hl.1 rfl (lv_room (Nat.le_of_ble_eq_true rfl)) dX8_areKnown_3 ⟨(Nat.le_of_ble_eq_true rfl), (Nat.le_of_ble_eq_true rfl)⟩) ?_
  refine w_if_eqb (tgt := 33) hx hb dX8_areKnown_6 (by decide) (fun c_6 => ?_) (fun c_6 => ?_)
  · have hE := itF hE c_6
    refine lv_iconst (v := 0) hx hb dX8_areKnown_33 (by decide) ?_
    exact w_zret (v := false) hx hb hr hlocks hE dX8_areKnown_34
  · have hE := itT hE c_6
    refine lv_iload hx hb dX8_areKnown_9 (lv_at hl 4 rfl) ?_
    refine lv_iconst (v := 0) hx hb dX8_areKnown_11 (by decide) ?_
    refine lv_iload_n hx hb dX8_areKnown_12 rfl (lv_at hl 1 rfl) ?_
    refine ro_call (va_runS (As := [.int p4, .int 0, .int p1]) (rest := []) ⟨hx, hb, hml, hown, hts⟩ (c_X8_within l D cI cZ cR _ p4 0 p1) (va_cwS 3 hts gX8_areKnown_X8_within rfl rfl rfl hd_X8_within ⟨(Nat.le_of_ble_eq_true rfl), (Nat.le_of_ble_eq_true rfl)⟩) (po_pre hAM va_P.nil) rfl rfl hl.1 rfl (lv_room (Nat.le_of_ble_eq_true rfl)) dX8_areKnown_13 ⟨(Nat.le_of_ble_eq_true rfl), (Nat.le_of_ble_eq_true rfl)⟩) ?_
    refine w_if_eqb (tgt := 33) hx hb dX8_areKnown_16 (by decide) (fun c_16 => ?_) (fun c_16 => ?_)
    · have hE := itF hE c_16
      refine lv_iconst (v := 0) hx hb dX8_areKnown_33 (by decide) ?_
      exact w_zret (v := false) hx hb hr hlocks hE dX8_areKnown_34
    · have hE := itT hE c_16
      refine lv_iload hx hb dX8_areKnown_19 (lv_at hl 5 rfl) ?_
      refine lv_iconst (v := 0) hx hb dX8_areKnown_21 (by decide) ?_
      refine lv_iload_n hx hb dX8_areKnown_22 rfl (lv_at hl 2 rfl) ?_
      refine ro_call (va_runS (As := [.int p5, .int 0, .int p2]) (rest := []) ⟨hx, hb, hml, hown, hts⟩ (c_X8_within l D cI cZ cR _ p5 0 p2) (va_cwS 3 hts gX8_areKnown_X8_within rfl rfl rfl hd_X8_within ⟨(Nat.le_of_ble_eq_true rfl), (Nat.le_of_ble_eq_true rfl)⟩) (po_pre hAM va_P.nil) rfl rfl hl.1 rfl (lv_room (Nat.le_of_ble_eq_true rfl)) dX8_areKnown_23 ⟨(Nat.le_of_ble_eq_true rfl), (Nat.le_of_ble_eq_true rfl)⟩) ?_
      refine w_if_eqb (tgt := 33) hx hb dX8_areKnown_26 (by decide) (fun c_26 => ?_) (fun c_26 => ?_)
      · have hE := itF hE c_26
        refine lv_iconst (v := 0) hx hb dX8_areKnown_33 (by decide) ?_
        exact w_zret (v := false) hx hb hr hlocks hE dX8_areKnown_34
      · have hE := itT hE c_26
        refine lv_iconst (v := 1) hx hb dX8_areKnown_29 (by decide) ?_
        refine lv_goto (tgt := 34) hx hb dX8_areKnown_30 (by decide) ?_
        exact w_zret (v := true) hx hb hr hlocks hE dX8_areKnown_34

theorem hd_X6_isName : yX6_isName.cls ≠ "java/lang/invoke/MethodHandle" ∧ yX6_isName.cls ≠ "java/lang/invoke/VarHandle" ∧ (parseMethodDescriptor yX6_isName.desc).map (fun d => d.parameters.length) = some 1 := by decide +kernel
def x_X6_isName (p0 : Int32) : Bool := (if p0 = 97 then true else (if p0 = 121 then true else (if p0 = 98 then true else false)))
def rm_X6_isName : Room := { frames := 0, cells := 0, slots := 0, locals := 0 }
set_option maxHeartbeats 4000000 in
set_option maxRecDepth 100000 in
theorem c_X6_isName (l : Launch) (D : va_G) (cI cZ cR : ClassId) (H0 : Heap) (p0 : Int32) : Met l yX6_isName wsX6_isName rm_X6_isName (po_P D cI cZ cR [.int p0] [] H0) (po_Q (some (.int (bI (x_X6_isName p0)))) H0) 0 0 nF := by
  refine Met.ofW (cc := cX6_isName) (maxL := 1) (ret := (some .boolean)) (by decide +kernel) rfl ?_
  intro p e s m args below meth c s₁ B hml hv
  obtain ⟨rfl, rfl, hAM, hP⟩ := hv
  have hx := B.exec
  have hb := B.bytes
  have hr := B.returns
  have hts := atoms_spec (ws := wsX6_isName) B.pre
  have hown : s.vm.findClass RX6 = some m.cls := findClass_of_methodNamed B.named
  have hlocks := B.notSynchronized
  have hK := hAM.1
  generalize hE : (x_X6_isName p0) = Rv
  rw [x_X6_isName] at hE
  have hl := lv_entry ([.int p0]) (n := 1) (Nat.le_of_ble_eq_true rfl)
  rw [lg_entry_eq]
  generalize (lg_sl ([.int p0]) ++ List.replicate (1 - (lg_sl ([.int p0])).length) Slot.unset).toArray = ls at hl ⊢
  have hl : lv_has ls 1 [(0, .int p0)] := hl
  refine lv_iload_n hx hb dX6_isName_0 rfl (lv_at hl 0 rfl) ?_
  refine lv_bipush (v := 97) hx hb dX6_isName_1 (by decide +kernel) ?_
  refine lv_icmp_eq (tgt := 18) hx hb dX6_isName_3 (by decide) (fun c_3 => ?_) (fun c_3 => ?_)
  · have hE := itT hE c_3
    refine lv_iconst (v := 1) hx hb dX6_isName_18 (by decide) ?_
    refine lv_goto (tgt := 23) hx hb dX6_isName_19 (by decide) ?_
    exact w_zret (v := true) hx hb hr hlocks hE dX6_isName_23
  · have hE := itF hE c_3
    refine lv_iload_n hx hb dX6_isName_6 rfl (lv_at hl 0 rfl) ?_
    refine lv_bipush (v := 121) hx hb dX6_isName_7 (by decide +kernel) ?_
    refine lv_icmp_eq (tgt := 18) hx hb dX6_isName_9 (by decide) (fun c_9 => ?_) (fun c_9 => ?_)
    · have hE := itT hE c_9
      refine lv_iconst (v := 1) hx hb dX6_isName_18 (by decide) ?_
      refine lv_goto (tgt := 23) hx hb dX6_isName_19 (by decide) ?_
      exact w_zret (v := true) hx hb hr hlocks hE dX6_isName_23
    · have hE := itF hE c_9
      refine lv_iload_n hx hb dX6_isName_12 rfl (lv_at hl 0 rfl) ?_
      refine lv_bipush (v := 98) hx hb dX6_isName_13 (by decide +kernel) ?_
      refine lv_icmp_ne (tgt := 22) hx hb dX6_isName_15 (by decide) (fun c_15 => ?_) (fun c_15 => ?_)
      · have hE := itF hE c_15
        refine lv_iconst (v := 0) hx hb dX6_isName_22 (by decide) ?_
        exact w_zret (v := false) hx hb hr hlocks hE dX6_isName_23
      · have hE := itT hE c_15
        refine lv_iconst (v := 1) hx hb dX6_isName_18 (by decide) ?_
        refine lv_goto (tgt := 23) hx hb dX6_isName_19 (by decide) ?_
        exact w_zret (v := true) hx hb hr hlocks hE dX6_isName_23

theorem hd_X6_isCompare : yX6_isCompare.cls ≠ "java/lang/invoke/MethodHandle" ∧ yX6_isCompare.cls ≠ "java/lang/invoke/VarHandle" ∧ (parseMethodDescriptor yX6_isCompare.desc).map (fun d => d.parameters.length) = some 1 := by decide +kernel
def x_X6_isCompare (p0 : Int32) : Bool := (if p0 = 60 then true else (if p0 = 62 then true else (if p0 = 61 then true else false)))
def rm_X6_isCompare : Room := { frames := 0, cells := 0, slots := 0, locals := 0 }
set_option maxHeartbeats 4000000 in
set_option maxRecDepth 100000 in
theorem c_X6_isCompare (l : Launch) (D : va_G) (cI cZ cR : ClassId) (H0 : Heap) (p0 : Int32) : Met l yX6_isCompare wsX6_isCompare rm_X6_isCompare (po_P D cI cZ cR [.int p0] [] H0) (po_Q (some (.int (bI (x_X6_isCompare p0)))) H0) 0 0 nF := by
  refine Met.ofW (cc := cX6_isCompare) (maxL := 1) (ret := (some .boolean)) (by decide +kernel) rfl ?_
  intro p e s m args below meth c s₁ B hml hv
  obtain ⟨rfl, rfl, hAM, hP⟩ := hv
  have hx := B.exec
  have hb := B.bytes
  have hr := B.returns
  have hts := atoms_spec (ws := wsX6_isCompare) B.pre
  have hown : s.vm.findClass RX6 = some m.cls := findClass_of_methodNamed B.named
  have hlocks := B.notSynchronized
  have hK := hAM.1
  generalize hE : (x_X6_isCompare p0) = Rv
  rw [x_X6_isCompare] at hE
  have hl := lv_entry ([.int p0]) (n := 1) (Nat.le_of_ble_eq_true rfl)
  rw [lg_entry_eq]
  generalize (lg_sl ([.int p0]) ++ List.replicate (1 - (lg_sl ([.int p0])).length) Slot.unset).toArray = ls at hl ⊢
  have hl : lv_has ls 1 [(0, .int p0)] := hl
  refine lv_iload_n hx hb dX6_isCompare_0 rfl (lv_at hl 0 rfl) ?_
  refine lv_bipush (v := 60) hx hb dX6_isCompare_1 (by decide +kernel) ?_
  refine lv_icmp_eq (tgt := 18) hx hb dX6_isCompare_3 (by decide) (fun c_3 => ?_) (fun c_3 => ?_)
  · have hE := itT hE c_3
    refine lv_iconst (v := 1) hx hb dX6_isCompare_18 (by decide) ?_
    refine lv_goto (tgt := 23) hx hb dX6_isCompare_19 (by decide) ?_
    exact w_zret (v := true) hx hb hr hlocks hE dX6_isCompare_23
  · have hE := itF hE c_3
    refine lv_iload_n hx hb dX6_isCompare_6 rfl (lv_at hl 0 rfl) ?_
    refine lv_bipush (v := 62) hx hb dX6_isCompare_7 (by decide +kernel) ?_
    refine lv_icmp_eq (tgt := 18) hx hb dX6_isCompare_9 (by decide) (fun c_9 => ?_) (fun c_9 => ?_)
    · have hE := itT hE c_9
      refine lv_iconst (v := 1) hx hb dX6_isCompare_18 (by decide) ?_
      refine lv_goto (tgt := 23) hx hb dX6_isCompare_19 (by decide) ?_
      exact w_zret (v := true) hx hb hr hlocks hE dX6_isCompare_23
    · have hE := itF hE c_9
      refine lv_iload_n hx hb dX6_isCompare_12 rfl (lv_at hl 0 rfl) ?_
      refine lv_bipush (v := 61) hx hb dX6_isCompare_13 (by decide +kernel) ?_
      refine lv_icmp_ne (tgt := 22) hx hb dX6_isCompare_15 (by decide) (fun c_15 => ?_) (fun c_15 => ?_)
      · have hE := itF hE c_15
        refine lv_iconst (v := 0) hx hb dX6_isCompare_22 (by decide) ?_
        exact w_zret (v := false) hx hb hr hlocks hE dX6_isCompare_23
      · have hE := itT hE c_15
        refine lv_iconst (v := 1) hx hb dX6_isCompare_18 (by decide) ?_
        refine lv_goto (tgt := 23) hx hb dX6_isCompare_19 (by decide) ?_
        exact w_zret (v := true) hx hb hr hlocks hE dX6_isCompare_23

theorem hd_X6_isDigit : yX6_isDigit.cls ≠ "java/lang/invoke/MethodHandle" ∧ yX6_isDigit.cls ≠ "java/lang/invoke/VarHandle" ∧ (parseMethodDescriptor yX6_isDigit.desc).map (fun d => d.parameters.length) = some 1 := by decide +kernel
def x_X6_isDigit (p0 : Int32) : Bool := (if p0 < 48 then false else (if 57 < p0 then false else true))
def rm_X6_isDigit : Room := { frames := 0, cells := 0, slots := 0, locals := 0 }
set_option maxHeartbeats 4000000 in
set_option maxRecDepth 100000 in
theorem c_X6_isDigit (l : Launch) (D : va_G) (cI cZ cR : ClassId) (H0 : Heap) (p0 : Int32) : Met l yX6_isDigit wsX6_isDigit rm_X6_isDigit (po_P D cI cZ cR [.int p0] [] H0) (po_Q (some (.int (bI (x_X6_isDigit p0)))) H0) 0 0 nF := by
  refine Met.ofW (cc := cX6_isDigit) (maxL := 1) (ret := (some .boolean)) (by decide +kernel) rfl ?_
  intro p e s m args below meth c s₁ B hml hv
  obtain ⟨rfl, rfl, hAM, hP⟩ := hv
  have hx := B.exec
  have hb := B.bytes
  have hr := B.returns
  have hts := atoms_spec (ws := wsX6_isDigit) B.pre
  have hown : s.vm.findClass RX6 = some m.cls := findClass_of_methodNamed B.named
  have hlocks := B.notSynchronized
  have hK := hAM.1
  generalize hE : (x_X6_isDigit p0) = Rv
  rw [x_X6_isDigit] at hE
  have hl := lv_entry ([.int p0]) (n := 1) (Nat.le_of_ble_eq_true rfl)
  rw [lg_entry_eq]
  generalize (lg_sl ([.int p0]) ++ List.replicate (1 - (lg_sl ([.int p0])).length) Slot.unset).toArray = ls at hl ⊢
  have hl : lv_has ls 1 [(0, .int p0)] := hl
  refine lv_iload_n hx hb dX6_isDigit_0 rfl (lv_at hl 0 rfl) ?_
  refine lv_bipush (v := 48) hx hb dX6_isDigit_1 (by decide +kernel) ?_
  refine lv_icmp_lt (tgt := 16) hx hb dX6_isDigit_3 (by decide) (fun c_3 => ?_) (fun c_3 => ?_)
  · have hE := itT hE c_3
    refine lv_iconst (v := 0) hx hb dX6_isDigit_16 (by decide) ?_
    exact w_zret (v := false) hx hb hr hlocks hE dX6_isDigit_17
  · have hE := itF hE c_3
    refine lv_iload_n hx hb dX6_isDigit_6 rfl (lv_at hl 0 rfl) ?_
    refine lv_bipush (v := 57) hx hb dX6_isDigit_7 (by decide +kernel) ?_
    refine lv_icmp_gt (tgt := 16) hx hb dX6_isDigit_9 (by decide) (fun c_9 => ?_) (fun c_9 => ?_)
    · have hE := itT hE c_9
      refine lv_iconst (v := 0) hx hb dX6_isDigit_16 (by decide) ?_
      exact w_zret (v := false) hx hb hr hlocks hE dX6_isDigit_17
    · have hE := itF hE c_9
      refine lv_iconst (v := 1) hx hb dX6_isDigit_12 (by decide) ?_
      refine lv_goto (tgt := 17) hx hb dX6_isDigit_13 (by decide) ?_
      exact w_zret (v := true) hx hb hr hlocks hE dX6_isDigit_17

theorem hd_X6_isJoin : yX6_isJoin.cls ≠ "java/lang/invoke/MethodHandle" ∧ yX6_isJoin.cls ≠ "java/lang/invoke/VarHandle" ∧ (parseMethodDescriptor yX6_isJoin.desc).map (fun d => d.parameters.length) = some 1 := by decide +kernel
def x_X6_isJoin (p0 : Int32) : Bool := (if p0 = 38 then true else (if p0 = 124 then true else false))
def rm_X6_isJoin : Room := { frames := 0, cells := 0, slots := 0, locals := 0 }
set_option maxHeartbeats 4000000 in
set_option maxRecDepth 100000 in
theorem c_X6_isJoin (l : Launch) (D : va_G) (cI cZ cR : ClassId) (H0 : Heap) (p0 : Int32) : Met l yX6_isJoin wsX6_isJoin rm_X6_isJoin (po_P D cI cZ cR [.int p0] [] H0) (po_Q (some (.int (bI (x_X6_isJoin p0)))) H0) 0 0 nF := by
  refine Met.ofW (cc := cX6_isJoin) (maxL := 1) (ret := (some .boolean)) (by decide +kernel) rfl ?_
  intro p e s m args below meth c s₁ B hml hv
  obtain ⟨rfl, rfl, hAM, hP⟩ := hv
  have hx := B.exec
  have hb := B.bytes
  have hr := B.returns
  have hts := atoms_spec (ws := wsX6_isJoin) B.pre
  have hown : s.vm.findClass RX6 = some m.cls := findClass_of_methodNamed B.named
  have hlocks := B.notSynchronized
  have hK := hAM.1
  generalize hE : (x_X6_isJoin p0) = Rv
  rw [x_X6_isJoin] at hE
  have hl := lv_entry ([.int p0]) (n := 1) (Nat.le_of_ble_eq_true rfl)
  rw [lg_entry_eq]
  generalize (lg_sl ([.int p0]) ++ List.replicate (1 - (lg_sl ([.int p0])).length) Slot.unset).toArray = ls at hl ⊢
  have hl : lv_has ls 1 [(0, .int p0)] := hl
  refine lv_iload_n hx hb dX6_isJoin_0 rfl (lv_at hl 0 rfl) ?_
  refine lv_bipush (v := 38) hx hb dX6_isJoin_1 (by decide +kernel) ?_
  refine lv_icmp_eq (tgt := 12) hx hb dX6_isJoin_3 (by decide) (fun c_3 => ?_) (fun c_3 => ?_)
  · have hE := itT hE c_3
    refine lv_iconst (v := 1) hx hb dX6_isJoin_12 (by decide) ?_
    refine lv_goto (tgt := 17) hx hb dX6_isJoin_13 (by decide) ?_
    exact w_zret (v := true) hx hb hr hlocks hE dX6_isJoin_17
  · have hE := itF hE c_3
    refine lv_iload_n hx hb dX6_isJoin_6 rfl (lv_at hl 0 rfl) ?_
    refine lv_bipush (v := 124) hx hb dX6_isJoin_7 (by decide +kernel) ?_
    refine lv_icmp_ne (tgt := 16) hx hb dX6_isJoin_9 (by decide) (fun c_9 => ?_) (fun c_9 => ?_)
    · have hE := itF hE c_9
      refine lv_iconst (v := 0) hx hb dX6_isJoin_16 (by decide) ?_
      exact w_zret (v := false) hx hb hr hlocks hE dX6_isJoin_17
    · have hE := itT hE c_9
      refine lv_iconst (v := 1) hx hb dX6_isJoin_12 (by decide) ?_
      refine lv_goto (tgt := 17) hx hb dX6_isJoin_13 (by decide) ?_
      exact w_zret (v := true) hx hb hr hlocks hE dX6_isJoin_17

theorem hd_X6_passes : yX6_passes.cls ≠ "java/lang/invoke/MethodHandle" ∧ yX6_passes.cls ≠ "java/lang/invoke/VarHandle" ∧ (parseMethodDescriptor yX6_passes.desc).map (fun d => d.parameters.length) = some 3 := by decide +kernel
def x_X6_passes (p0 : Int32) (p1 : Int32) (p2 : Int32) : Bool := (if p1 = 60 then (if p2 ≤ p0 then false else true) else (if p1 = 62 then (if p0 ≤ p2 then false else true) else (if p0 = p2 then true else false)))
def rm_X6_passes : Room := { frames := 0, cells := 0, slots := 0, locals := 0 }
set_option maxHeartbeats 4000000 in
set_option maxRecDepth 100000 in
theorem c_X6_passes (l : Launch) (D : va_G) (cI cZ cR : ClassId) (H0 : Heap) (p0 : Int32) (p1 : Int32) (p2 : Int32) : Met l yX6_passes wsX6_passes rm_X6_passes (po_P D cI cZ cR [.int p0, .int p1, .int p2] [] H0) (po_Q (some (.int (bI (x_X6_passes p0 p1 p2)))) H0) 0 0 nF := by
  refine Met.ofW (cc := cX6_passes) (maxL := 3) (ret := (some .boolean)) (by decide +kernel) rfl ?_
  intro p e s m args below meth c s₁ B hml hv
  obtain ⟨rfl, rfl, hAM, hP⟩ := hv
  have hx := B.exec
  have hb := B.bytes
  have hr := B.returns
  have hts := atoms_spec (ws := wsX6_passes) B.pre
  have hown : s.vm.findClass RX6 = some m.cls := findClass_of_methodNamed B.named
  have hlocks := B.notSynchronized
  have hK := hAM.1
  generalize hE : (x_X6_passes p0 p1 p2) = Rv
  rw [x_X6_passes] at hE
  have hl := lv_entry ([.int p0, .int p1, .int p2]) (n := 3) (Nat.le_of_ble_eq_true rfl)
  rw [lg_entry_eq]
  generalize (lg_sl ([.int p0, .int p1, .int p2]) ++ List.replicate (3 - (lg_sl ([.int p0, .int p1, .int p2])).length) Slot.unset).toArray = ls at hl ⊢
  have hl : lv_has ls 3 [(0, .int p0), (1, .int p1), (2, .int p2)] := hl
  refine lv_iload_n hx hb dX6_passes_0 rfl (lv_at hl 1 rfl) ?_
  refine lv_bipush (v := 60) hx hb dX6_passes_1 (by decide +kernel) ?_
  refine lv_icmp_ne (tgt := 17) hx hb dX6_passes_3 (by decide) (fun c_3 => ?_) (fun c_3 => ?_)
  · have hE := itF hE c_3
    refine lv_iload_n hx hb dX6_passes_17 rfl (lv_at hl 1 rfl) ?_
    refine lv_bipush (v := 62) hx hb dX6_passes_18 (by decide +kernel) ?_
    refine lv_icmp_ne (tgt := 36) hx hb dX6_passes_20 (by decide) (fun c_20 => ?_) (fun c_20 => ?_)
    · have hE := itF hE c_20
      refine lv_iload_n hx hb dX6_passes_36 rfl (lv_at hl 0 rfl) ?_
      refine lv_iload_n hx hb dX6_passes_37 rfl (lv_at hl 2 rfl) ?_
      refine lv_icmp_ne (tgt := 45) hx hb dX6_passes_38 (by decide) (fun c_38 => ?_) (fun c_38 => ?_)
      · have hE := itF hE c_38
        refine lv_iconst (v := 0) hx hb dX6_passes_45 (by decide) ?_
        exact w_zret (v := false) hx hb hr hlocks hE dX6_passes_46
      · have hE := itT hE c_38
        refine lv_iconst (v := 1) hx hb dX6_passes_41 (by decide) ?_
        refine lv_goto (tgt := 46) hx hb dX6_passes_42 (by decide) ?_
        exact w_zret (v := true) hx hb hr hlocks hE dX6_passes_46
    · have hE := itT hE c_20
      refine lv_iload_n hx hb dX6_passes_23 rfl (lv_at hl 0 rfl) ?_
      refine lv_iload_n hx hb dX6_passes_24 rfl (lv_at hl 2 rfl) ?_
      refine lv_icmp_le (tgt := 32) hx hb dX6_passes_25 (by decide) (fun c_25 => ?_) (fun c_25 => ?_)
      · have hE := itT hE c_25
        refine lv_iconst (v := 0) hx hb dX6_passes_32 (by decide) ?_
        refine lv_goto (tgt := 46) hx hb dX6_passes_33 (by decide) ?_
        exact w_zret (v := false) hx hb hr hlocks hE dX6_passes_46
      · have hE := itF hE c_25
        refine lv_iconst (v := 1) hx hb dX6_passes_28 (by decide) ?_
        refine lv_goto (tgt := 46) hx hb dX6_passes_29 (by decide) ?_
        exact w_zret (v := true) hx hb hr hlocks hE dX6_passes_46
  · have hE := itT hE c_3
    refine lv_iload_n hx hb dX6_passes_6 rfl (lv_at hl 0 rfl) ?_
    refine lv_iload_n hx hb dX6_passes_7 rfl (lv_at hl 2 rfl) ?_
    refine lv_icmp_ge (tgt := 15) hx hb dX6_passes_8 (by decide) (fun c_8 => ?_) (fun c_8 => ?_)
    · have hE := itT hE c_8
      refine lv_iconst (v := 0) hx hb dX6_passes_15 (by decide) ?_
      exact w_zret (v := false) hx hb hr hlocks hE dX6_passes_16
    · have hE := itF hE c_8
      refine lv_iconst (v := 1) hx hb dX6_passes_11 (by decide) ?_
      refine lv_goto (tgt := 16) hx hb dX6_passes_12 (by decide) ?_
      exact w_zret (v := true) hx hb hr hlocks hE dX6_passes_16

theorem hd_X5_wordWith : yX5_wordWith.cls ≠ "java/lang/invoke/MethodHandle" ∧ yX5_wordWith.cls ≠ "java/lang/invoke/VarHandle" ∧ (parseMethodDescriptor yX5_wordWith.desc).map (fun d => d.parameters.length) = some 2 := by decide +kernel
def x_X5_wordWith (p0 : Int32) (p1 : Int32) : Int32 := (xRem ((p0 * 131) + p1) 9973)
def rm_X5_wordWith : Room := { frames := 0, cells := 0, slots := 0, locals := 0 }
set_option maxHeartbeats 4000000 in
set_option maxRecDepth 100000 in
theorem c_X5_wordWith (l : Launch) (D : va_G) (cI cZ cR : ClassId) (H0 : Heap) (p0 : Int32) (p1 : Int32) : Met l yX5_wordWith wsX5_wordWith rm_X5_wordWith (po_P D cI cZ cR [.int p0, .int p1] [] H0) (po_Q (some (.int (x_X5_wordWith p0 p1))) H0) 0 0 nF := by
  refine Met.ofW (cc := cX5_wordWith) (maxL := 2) (ret := (some .int)) (by decide +kernel) rfl ?_
  intro p e s m args below meth c s₁ B hml hv
  obtain ⟨rfl, rfl, hAM, hP⟩ := hv
  have hx := B.exec
  have hb := B.bytes
  have hr := B.returns
  have hts := atoms_spec (ws := wsX5_wordWith) B.pre
  have hown : s.vm.findClass RX5 = some m.cls := findClass_of_methodNamed B.named
  have hlocks := B.notSynchronized
  have hK := hAM.1
  generalize hE : (x_X5_wordWith p0 p1) = Rv
  rw [x_X5_wordWith] at hE
  have hl := lv_entry ([.int p0, .int p1]) (n := 2) (Nat.le_of_ble_eq_true rfl)
  rw [lg_entry_eq]
  generalize (lg_sl ([.int p0, .int p1]) ++ List.replicate (2 - (lg_sl ([.int p0, .int p1])).length) Slot.unset).toArray = ls at hl ⊢
  have hl : lv_has ls 2 [(0, .int p0), (1, .int p1)] := hl
  refine lv_iload_n hx hb dX5_wordWith_0 rfl (lv_at hl 0 rfl) ?_
  refine lv_sipush (v := 131) hx hb dX5_wordWith_1 (by decide +kernel) ?_
  refine lv_imul hx hb dX5_wordWith_4 ?_
  refine lv_iload_n hx hb dX5_wordWith_5 rfl (lv_at hl 1 rfl) ?_
  refine lv_iadd hx hb dX5_wordWith_6 ?_
  refine lv_sipush (v := 9973) hx hb dX5_wordWith_7 (by decide +kernel) ?_
  refine w_irem hx hb dX5_wordWith_10 (by decide +kernel) ?_
  exact w_iret hx hb hr hlocks hE dX5_wordWith_11

theorem hd_X3_mixedWith : yX3_mixedWith.cls ≠ "java/lang/invoke/MethodHandle" ∧ yX3_mixedWith.cls ≠ "java/lang/invoke/VarHandle" ∧ (parseMethodDescriptor yX3_mixedWith.desc).map (fun d => d.parameters.length) = some 2 := by decide +kernel
def x_X3_mixedWith (p0 : Int32) (p1 : Int32) : Int32 := (xRem ((p0 * 31) + p1) 5003)
def rm_X3_mixedWith : Room := { frames := 0, cells := 0, slots := 0, locals := 0 }
set_option maxHeartbeats 4000000 in
set_option maxRecDepth 100000 in
theorem c_X3_mixedWith (l : Launch) (D : va_G) (cI cZ cR : ClassId) (H0 : Heap) (p0 : Int32) (p1 : Int32) : Met l yX3_mixedWith wsX3_mixedWith rm_X3_mixedWith (po_P D cI cZ cR [.int p0, .int p1] [] H0) (po_Q (some (.int (x_X3_mixedWith p0 p1))) H0) 0 0 nF := by
  refine Met.ofW (cc := cX3_mixedWith) (maxL := 2) (ret := (some .int)) (by decide +kernel) rfl ?_
  intro p e s m args below meth c s₁ B hml hv
  obtain ⟨rfl, rfl, hAM, hP⟩ := hv
  have hx := B.exec
  have hb := B.bytes
  have hr := B.returns
  have hts := atoms_spec (ws := wsX3_mixedWith) B.pre
  have hown : s.vm.findClass RX3 = some m.cls := findClass_of_methodNamed B.named
  have hlocks := B.notSynchronized
  have hK := hAM.1
  generalize hE : (x_X3_mixedWith p0 p1) = Rv
  rw [x_X3_mixedWith] at hE
  have hl := lv_entry ([.int p0, .int p1]) (n := 2) (Nat.le_of_ble_eq_true rfl)
  rw [lg_entry_eq]
  generalize (lg_sl ([.int p0, .int p1]) ++ List.replicate (2 - (lg_sl ([.int p0, .int p1])).length) Slot.unset).toArray = ls at hl ⊢
  have hl : lv_has ls 2 [(0, .int p0), (1, .int p1)] := hl
  refine lv_iload_n hx hb dX3_mixedWith_0 rfl (lv_at hl 0 rfl) ?_
  refine lv_bipush (v := 31) hx hb dX3_mixedWith_1 (by decide +kernel) ?_
  refine lv_imul hx hb dX3_mixedWith_3 ?_
  refine lv_iload_n hx hb dX3_mixedWith_4 rfl (lv_at hl 1 rfl) ?_
  refine lv_iadd hx hb dX3_mixedWith_5 ?_
  refine lv_sipush (v := 5003) hx hb dX3_mixedWith_6 (by decide +kernel) ?_
  refine w_irem hx hb dX3_mixedWith_9 (by decide +kernel) ?_
  exact w_iret hx hb hr hlocks hE dX3_mixedWith_10

theorem hd_X1_forOne : yX1_forOne.cls ≠ "java/lang/invoke/MethodHandle" ∧ yX1_forOne.cls ≠ "java/lang/invoke/VarHandle" ∧ (parseMethodDescriptor yX1_forOne.desc).map (fun d => d.parameters.length) = some 1 := by decide +kernel
def x_X1_forOne (p0 : Int32) : Int32 := (p0 - (p0 / 2))
def rm_X1_forOne : Room := { frames := 0, cells := 0, slots := 0, locals := 0 }
set_option maxHeartbeats 4000000 in
set_option maxRecDepth 100000 in
theorem c_X1_forOne (l : Launch) (D : va_G) (cI cZ cR : ClassId) (H0 : Heap) (p0 : Int32) : Met l yX1_forOne wsX1_forOne rm_X1_forOne (po_P D cI cZ cR [.int p0] [] H0) (po_Q (some (.int (x_X1_forOne p0))) H0) 0 0 nF := by
  refine Met.ofW (cc := cX1_forOne) (maxL := 1) (ret := (some .int)) (by decide +kernel) rfl ?_
  intro p e s m args below meth c s₁ B hml hv
  obtain ⟨rfl, rfl, hAM, hP⟩ := hv
  have hx := B.exec
  have hb := B.bytes
  have hr := B.returns
  have hts := atoms_spec (ws := wsX1_forOne) B.pre
  have hown : s.vm.findClass RX1 = some m.cls := findClass_of_methodNamed B.named
  have hlocks := B.notSynchronized
  have hK := hAM.1
  generalize hE : (x_X1_forOne p0) = Rv
  rw [x_X1_forOne] at hE
  have hl := lv_entry ([.int p0]) (n := 1) (Nat.le_of_ble_eq_true rfl)
  rw [lg_entry_eq]
  generalize (lg_sl ([.int p0]) ++ List.replicate (1 - (lg_sl ([.int p0])).length) Slot.unset).toArray = ls at hl ⊢
  have hl : lv_has ls 1 [(0, .int p0)] := hl
  refine lv_iload_n hx hb dX1_forOne_0 rfl (lv_at hl 0 rfl) ?_
  refine lv_iload_n hx hb dX1_forOne_1 rfl (lv_at hl 0 rfl) ?_
  refine lv_iconst (v := 2) hx hb dX1_forOne_2 (by decide) ?_
  refine lv_idiv hx hb dX1_forOne_3 (by decide +kernel) ?_
  refine lv_isub hx hb dX1_forOne_4 ?_
  exact w_iret hx hb hr hlocks hE dX1_forOne_5

theorem hd_X2_power : yX2_power.cls ≠ "java/lang/invoke/MethodHandle" ∧ yX2_power.cls ≠ "java/lang/invoke/VarHandle" ∧ (parseMethodDescriptor yX2_power.desc).map (fun d => d.parameters.length) = some 3 := by decide +kernel
def x_X2_power_L16 (p0 : Int32) (p1 : Int32) (p2 : Int32) : Nat → Int32 → Int32 → Int32 → Int32
  | 0, _, _, _ => 0
  | n + 1, v3, v4, v5 => (if 14 ≤ v5 then v3 else (if ((xShr p1 v5) &&& 1) = 1 then (x_X2_power_L16 p0 p1 p2 n (xRem (v3 * v4) p2) (xRem (v4 * v4) p2) (v5 + 1)) else (x_X2_power_L16 p0 p1 p2 n v3 (xRem (v4 * v4) p2) (v5 + 1))))
def x_X2_power (p0 : Int32) (p1 : Int32) (p2 : Int32) : Int32 := (if 0 < p2 then (x_X2_power_L16 p0 p1 p2 (15) 1 (xRem p0 p2) 0) else 0)
def rm_X2_power : Room := { frames := 0, cells := 0, slots := 0, locals := 0 }
set_option maxHeartbeats 4000000 in
set_option maxRecDepth 100000 in
theorem c_X2_power (l : Launch) (D : va_G) (cI cZ cR : ClassId) (H0 : Heap) (p0 : Int32) (p1 : Int32) (p2 : Int32) : Met l yX2_power wsX2_power rm_X2_power (po_P D cI cZ cR [.int p0, .int p1, .int p2] [] H0) (po_Q (some (.int (x_X2_power p0 p1 p2))) H0) 0 0 nF := by
  refine Met.ofW (cc := cX2_power) (maxL := 6) (ret := (some .int)) (by decide +kernel) rfl ?_
  intro p e s m args below meth c s₁ B hml hv
  obtain ⟨rfl, rfl, hAM, hP⟩ := hv
  have hx := B.exec
  have hb := B.bytes
  have hr := B.returns
  have hts := atoms_spec (ws := wsX2_power) B.pre
  have hown : s.vm.findClass RX2 = some m.cls := findClass_of_methodNamed B.named
  have hlocks := B.notSynchronized
  have hK := hAM.1
  generalize hE : (x_X2_power p0 p1 p2) = Rv
  rw [x_X2_power] at hE
  have hl := lv_entry ([.int p0, .int p1, .int p2]) (n := 6) (Nat.le_of_ble_eq_true rfl)
  rw [lg_entry_eq]
  generalize (lg_sl ([.int p0, .int p1, .int p2]) ++ List.replicate (6 - (lg_sl ([.int p0, .int p1, .int p2])).length) Slot.unset).toArray = ls at hl ⊢
  have hl : lv_has ls 6 [(0, .int p0), (1, .int p1), (2, .int p2)] := hl
  refine lv_iload_n hx hb dX2_power_0 rfl (lv_at hl 2 rfl) ?_
  refine lv_if_gt (tgt := 6) hx hb dX2_power_1 (by decide) (fun c_1 => ?_) (fun c_1 => ?_)
  · have hE := itT hE c_1
    refine lv_iconst (v := 1) hx hb dX2_power_6 (by decide) ?_
    refine lv_istore_n (lv' := [(3, .int 1), (0, .int p0), (1, .int p1), (2, .int p2)]) hx hb dX2_power_7 rfl hl (by decide) rfl (fun ls hl => ?_)
    refine lv_iload_n hx hb dX2_power_8 rfl (lv_at hl 1 rfl) ?_
    refine lv_iload_n hx hb dX2_power_9 rfl (lv_at hl 3 rfl) ?_
    refine w_irem hx hb dX2_power_10 (ne_pos c_1) ?_
    refine lv_istore (lv' := [(4, .int (xRem p0 p2)), (3, .int 1), (0, .int p0), (1, .int p1), (2, .int p2)]) hx hb dX2_power_11 hl (by decide) rfl (fun ls hl => ?_)
    refine lv_iconst (v := 0) hx hb dX2_power_13 (by decide) ?_
    refine lv_istore (lv' := [(5, .int 0), (4, .int (xRem p0 p2)), (3, .int 1), (0, .int p0), (1, .int p1), (2, .int p2)]) hx hb dX2_power_14 hl (by decide) rfl (fun ls hl => ?_)
    suffices loop : ∀ (n : Nat) (v3 : Int32) (v4 : Int32) (v5 : Int32), (UP 0 14 n v5) → x_X2_power_L16 p0 p1 p2 n v3 v4 v5 = Rv → ∀ ls : Array Slot, lv_has ls 6 [(5, .int v5), (4, .int v4), (3, .int v3), (0, .int p0), (1, .int p1), (2, .int p2)] → W p l e (headSpec wsX2_power rm_X2_power).room s m ([.int p0, .int p1, .int p2] : List Value).toArray below meth c s.heap [] 0 0 (MQ below (po_Q (some (.int Rv)) s.heap) ([.int p0, .int p1, .int p2] : List Value).toArray s 0 0 nF) (F0 m 16 ls []) from
      loop (15) 1 (xRem p0 p2) 0 (UP.start 0 (by omega) (by omega)) hE ls (lv_sub hl [0, 1, 2, 3, 4, 5] rfl)
    clear hE hl ls
    intro n
    induction n with
    | zero =>
      intro v3 v4 v5 hI _ _ _
      exact absurd hI (UP.zero)
    | succ n ih =>
      intro v3 v4 v5 hI hE ls hl
      rw [x_X2_power_L16] at hE
      refine lv_iload hx hb dX2_power_16 (lv_at hl 0 rfl) ?_
      refine lv_bipush (v := 14) hx hb dX2_power_18 (by decide +kernel) ?_
      refine lv_icmp_ge (tgt := 55) hx hb dX2_power_20 (by decide) (fun c_20 => ?_) (fun c_20 => ?_)
      · have hE := itT hE c_20
        refine lv_iload_n hx hb dX2_power_55 rfl (lv_at hl 2 rfl) ?_
        exact w_iret hx hb hr hlocks hE dX2_power_56
      · have hE := itF hE c_20
        refine lv_iload_n hx hb dX2_power_23 rfl (lv_at hl 4 rfl) ?_
        refine lv_iload hx hb dX2_power_24 (lv_at hl 0 rfl) ?_
        refine w_ishr hx hb dX2_power_26 ?_
        refine lv_iconst (v := 1) hx hb dX2_power_27 (by decide) ?_
        refine lv_iand hx hb dX2_power_28 ?_
        refine lv_iconst (v := 1) hx hb dX2_power_29 (by decide) ?_
        refine lv_icmp_ne (tgt := 40) hx hb dX2_power_30 (by decide) (fun c_30 => ?_) (fun c_30 => ?_)
        · have hE := itF hE c_30
          refine lv_iload hx hb dX2_power_40 (lv_at hl 1 rfl) ?_
          refine lv_iload hx hb dX2_power_42 (lv_at hl 1 rfl) ?_
          refine lv_imul hx hb dX2_power_44 ?_
          refine lv_iload_n hx hb dX2_power_45 rfl (lv_at hl 5 rfl) ?_
          refine w_irem hx hb dX2_power_46 (ne_pos c_1) ?_
          refine lv_istore (lv' := [(4, .int (xRem (v4 * v4) p2)), (5, .int v5), (3, .int v3), (0, .int p0), (1, .int p1), (2, .int p2)]) hx hb dX2_power_47 hl (by decide) rfl (fun ls hl => ?_)
          refine lv_iinc (v := (v5 + 1)) (lv' := [(5, .int (v5 + 1)), (4, .int (xRem (v4 * v4) p2)), (3, .int v3), (0, .int p0), (1, .int p1), (2, .int p2)]) hx hb dX2_power_49 hl (k := 1) rfl rfl (by decide) rfl (fun ls hl => ?_)
          refine lv_goto (tgt := 16) hx hb dX2_power_52 (by decide) ?_
          exact ih v3 (xRem (v4 * v4) p2) (v5 + 1) ((hI.ge (by decide) rfl c_20).1) hE ls (lv_sub hl [0, 1, 2, 3, 4, 5] rfl)
        · have hE := itT hE c_30
          refine lv_iload_n hx hb dX2_power_33 rfl (lv_at hl 2 rfl) ?_
          refine lv_iload hx hb dX2_power_34 (lv_at hl 1 rfl) ?_
          refine lv_imul hx hb dX2_power_36 ?_
          refine lv_iload_n hx hb dX2_power_37 rfl (lv_at hl 5 rfl) ?_
          refine w_irem hx hb dX2_power_38 (ne_pos c_1) ?_
          refine lv_istore_n (lv' := [(3, .int (xRem (v3 * v4) p2)), (5, .int v5), (4, .int v4), (0, .int p0), (1, .int p1), (2, .int p2)]) hx hb dX2_power_39 rfl hl (by decide) rfl (fun ls hl => ?_)
          refine lv_iload hx hb dX2_power_40 (lv_at hl 2 rfl) ?_
          refine lv_iload hx hb dX2_power_42 (lv_at hl 2 rfl) ?_
          refine lv_imul hx hb dX2_power_44 ?_
          refine lv_iload_n hx hb dX2_power_45 rfl (lv_at hl 5 rfl) ?_
          refine w_irem hx hb dX2_power_46 (ne_pos c_1) ?_
          refine lv_istore (lv' := [(4, .int (xRem (v4 * v4) p2)), (3, .int (xRem (v3 * v4) p2)), (5, .int v5), (0, .int p0), (1, .int p1), (2, .int p2)]) hx hb dX2_power_47 hl (by decide) rfl (fun ls hl => ?_)
          refine lv_iinc (v := (v5 + 1)) (lv' := [(5, .int (v5 + 1)), (4, .int (xRem (v4 * v4) p2)), (3, .int (xRem (v3 * v4) p2)), (0, .int p0), (1, .int p1), (2, .int p2)]) hx hb dX2_power_49 hl (k := 2) rfl rfl (by decide) rfl (fun ls hl => ?_)
          refine lv_goto (tgt := 16) hx hb dX2_power_52 (by decide) ?_
          exact ih (xRem (v3 * v4) p2) (xRem (v4 * v4) p2) (v5 + 1) ((hI.ge (by decide) rfl c_20).1) hE ls (lv_sub hl [0, 1, 2, 3, 4, 5] rfl)
  · have hE := itF hE c_1
    refine lv_iconst (v := 0) hx hb dX2_power_4 (by decide) ?_
    exact w_iret hx hb hr hlocks hE dX2_power_5
