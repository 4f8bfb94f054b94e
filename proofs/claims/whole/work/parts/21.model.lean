theorem hd_X9_in : yX9_in.cls ≠ "java/lang/invoke/MethodHandle" ∧ yX9_in.cls ≠ "java/lang/invoke/VarHandle" ∧ (parseMethodDescriptor yX9_in.desc).map (fun d => d.parameters.length) = some 3 := by decide +kernel
def x_X9_in (p0 : Int32) (p1 : Int32) (p2 : Int32) : Bool := (if p0 < p1 then false else (if p2 < p0 then false else true))
def rm_X9_in : Room := { frames := 0, cells := 0, slots := 0, locals := 0 }
set_option maxHeartbeats 4000000 in
set_option maxRecDepth 100000 in
theorem c_X9_in (l : Launch) (D : va_G) (cI cZ cR : ClassId) (H0 : Heap) (p0 : Int32) (p1 : Int32) (p2 : Int32) : Met l yX9_in wsX9_in rm_X9_in (po_P D cI cZ cR [.int p0, .int p1, .int p2] [] H0) (po_Q (some (.int (bI (x_X9_in p0 p1 p2)))) H0) 0 0 nF := by
  refine Met.ofW (cc := cX9_in) (maxL := 3) (ret := (some .boolean)) (by decide +kernel) rfl ?_
  intro p e s m args below meth c s₁ B hml hv
  obtain ⟨rfl, rfl, hAM, hP⟩ := hv
  have hx := B.exec
  have hb := B.bytes
  have hr := B.returns
  have hts := atoms_spec (ws := wsX9_in) B.pre
  have hown : s.vm.findClass RX9 = some m.cls := findClass_of_methodNamed B.named
  have hlocks := B.notSynchronized
  have hK := hAM.1
  generalize hE : (x_X9_in p0 p1 p2) = Rv
  rw [x_X9_in] at hE
  have hl := lv_entry ([.int p0, .int p1, .int p2]) (n := 3) (Nat.le_of_ble_eq_true rfl)
  rw [lg_entry_eq]
  generalize (lg_sl ([.int p0, .int p1, .int p2]) ++ List.replicate (3 - (lg_sl ([.int p0, .int p1, .int p2])).length) Slot.unset).toArray = ls at hl ⊢
  have hl : lv_has ls 3 [(0, .int p0), (1, .int p1), (2, .int p2)] := hl
  refine lv_iload_n hx hb dX9_in_0 rfl (lv_at hl 0 rfl) ?_
  refine lv_iload_n hx hb dX9_in_1 rfl (lv_at hl 1 rfl) ?_
  refine lv_icmp_lt (tgt := 14) hx hb dX9_in_2 (by decide) (fun c_2 => ?_) (fun c_2 => ?_)
  · have hE := itT hE c_2
    refine lv_iconst (v := 0) hx hb dX9_in_14 (by decide) ?_
    exact w_zret (v := false) hx hb hr hlocks hE dX9_in_15
  · have hE := itF hE c_2
    refine lv_iload_n hx hb dX9_in_5 rfl (lv_at hl 0 rfl) ?_
    refine lv_iload_n hx hb dX9_in_6 rfl (lv_at hl 2 rfl) ?_
    refine lv_icmp_gt (tgt := 14) hx hb dX9_in_7 (by decide) (fun c_7 => ?_) (fun c_7 => ?_)
    · have hE := itT hE c_7
      refine lv_iconst (v := 0) hx hb dX9_in_14 (by decide) ?_
      exact w_zret (v := false) hx hb hr hlocks hE dX9_in_15
    · have hE := itF hE c_7
      refine lv_iconst (v := 1) hx hb dX9_in_10 (by decide) ?_
      refine lv_goto (tgt := 15) hx hb dX9_in_11 (by decide) ?_
      exact w_zret (v := true) hx hb hr hlocks hE dX9_in_15

theorem hd_X9_isPower : yX9_isPower.cls ≠ "java/lang/invoke/MethodHandle" ∧ yX9_isPower.cls ≠ "java/lang/invoke/VarHandle" ∧ (parseMethodDescriptor yX9_isPower.desc).map (fun d => d.parameters.length) = some 1 := by decide +kernel
def x_X9_isPower (p0 : Int32) : Bool := (x_X9_in p0 0 5002)
def rm_X9_isPower : Room := { frames := 1, cells := 0, slots := 0, locals := 22 }
set_option maxHeartbeats 4000000 in
set_option maxRecDepth 100000 in
theorem c_X9_isPower (l : Launch) (D : va_G) (cI cZ cR : ClassId) (H0 : Heap) (p0 : Int32) : Met l yX9_isPower wsX9_isPower rm_X9_isPower (po_P D cI cZ cR [.int p0] [] H0) (po_Q (some (.int (bI (x_X9_isPower p0)))) H0) 0 0 nF := by
  refine Met.ofW (cc := cX9_isPower) (maxL := 1) (ret := (some .boolean)) (by decide +kernel) rfl ?_
  intro p e s m args below meth c s₁ B hml hv
  obtain ⟨rfl, rfl, hAM, hP⟩ := hv
  have hx := B.exec
  have hb := B.bytes
  have hr := B.returns
  have hts := atoms_spec (ws := wsX9_isPower) B.pre
  have hown : s.vm.findClass RX9 = some m.cls := findClass_of_methodNamed B.named
  have hlocks := B.notSynchronized
  have hK := hAM.1
  generalize hE : (x_X9_isPower p0) = Rv
  rw [x_X9_isPower] at hE
  have hl := lv_entry ([.int p0]) (n := 1) (Nat.le_of_ble_eq_true rfl)
  rw [lg_entry_eq]
  generalize (lg_sl ([.int p0]) ++ List.replicate (1 - (lg_sl ([.int p0])).length) Slot.unset).toArray = ls at hl ⊢
  have hl : lv_has ls 1 [(0, .int p0)] := hl
  refine lv_iload_n hx hb dX9_isPower_0 rfl (lv_at hl 0 rfl) ?_
  refine lv_iconst (v := 0) hx hb dX9_isPower_1 (by decide) ?_
  refine lv_sipush (v := 5002) hx hb dX9_isPower_2 (by decide +kernel) ?_
  refine ro_call (va_runS (As := [.int p0, .int 0, .int 5002]) (rest := []) ⟨hx, hb, hml, hown, hts⟩ (c_X9_in l D cI cZ cR _ p0 0 5002) (va_cwS 3 hts gX9_isPower_X9_in rfl rfl rfl hd_X9_in ⟨(Nat.le_of_ble_eq_true rfl), (Nat.le_of_ble_eq_true rfl)⟩) (po_pre hAM va_P.nil) rfl rfl hl.1 rfl (lv_room (Nat.le_of_ble_eq_true rfl)) dX9_isPower_5 ⟨(Nat.le_of_ble_eq_true rfl), (Nat.le_of_ble_eq_true rfl)⟩) ?_
  exact w_zret (v := (x_X9_in p0 0 5002)) hx hb hr hlocks hE dX9_isPower_8

theorem hd_X9_isNumber : yX9_isNumber.cls ≠ "java/lang/invoke/MethodHandle" ∧ yX9_isNumber.cls ≠ "java/lang/invoke/VarHandle" ∧ (parseMethodDescriptor yX9_isNumber.desc).map (fun d => d.parameters.length) = some 1 := by decide +kernel
def x_X9_isNumber (p0 : Int32) : Bool := (x_X9_in p0 1 10006)
def rm_X9_isNumber : Room := { frames := 1, cells := 0, slots := 0, locals := 22 }
set_option maxHeartbeats 4000000 in
set_option maxRecDepth 100000 in
theorem c_X9_isNumber (l : Launch) (D : va_G) (cI cZ cR : ClassId) (H0 : Heap) (p0 : Int32) : Met l yX9_isNumber wsX9_isNumber rm_X9_isNumber (po_P D cI cZ cR [.int p0] [] H0) (po_Q (some (.int (bI (x_X9_isNumber p0)))) H0) 0 0 nF := by
  refine Met.ofW (cc := cX9_isNumber) (maxL := 1) (ret := (some .boolean)) (by decide +kernel) rfl ?_
  intro p e s m args below meth c s₁ B hml hv
  obtain ⟨rfl, rfl, hAM, hP⟩ := hv
  have hx := B.exec
  have hb := B.bytes
  have hr := B.returns
  have hts := atoms_spec (ws := wsX9_isNumber) B.pre
  have hown : s.vm.findClass RX9 = some m.cls := findClass_of_methodNamed B.named
  have hlocks := B.notSynchronized
  have hK := hAM.1
  generalize hE : (x_X9_isNumber p0) = Rv
  rw [x_X9_isNumber] at hE
  have hl := lv_entry ([.int p0]) (n := 1) (Nat.le_of_ble_eq_true rfl)
  rw [lg_entry_eq]
  generalize (lg_sl ([.int p0]) ++ List.replicate (1 - (lg_sl ([.int p0])).length) Slot.unset).toArray = ls at hl ⊢
  have hl : lv_has ls 1 [(0, .int p0)] := hl
  refine lv_iload_n hx hb dX9_isNumber_0 rfl (lv_at hl 0 rfl) ?_
  refine lv_iconst (v := 1) hx hb dX9_isNumber_1 (by decide) ?_
  refine lv_sipush (v := 10006) hx hb dX9_isNumber_2 (by decide +kernel) ?_
  refine ro_call (va_runS (As := [.int p0, .int 1, .int 10006]) (rest := []) ⟨hx, hb, hml, hown, hts⟩ (c_X9_in l D cI cZ cR _ p0 1 10006) (va_cwS 3 hts gX9_isNumber_X9_in rfl rfl rfl hd_X9_in ⟨(Nat.le_of_ble_eq_true rfl), (Nat.le_of_ble_eq_true rfl)⟩) (po_pre hAM va_P.nil) rfl rfl hl.1 rfl (lv_room (Nat.le_of_ble_eq_true rfl)) dX9_isNumber_5 ⟨(Nat.le_of_ble_eq_true rfl), (Nat.le_of_ble_eq_true rfl)⟩) ?_
  exact w_zret (v := (x_X9_in p0 1 10006)) hx hb hr hlocks hE dX9_isNumber_8

theorem hd_X9_times : yX9_times.cls ≠ "java/lang/invoke/MethodHandle" ∧ yX9_times.cls ≠ "java/lang/invoke/VarHandle" ∧ (parseMethodDescriptor yX9_times.desc).map (fun d => d.parameters.length) = some 2 := by decide +kernel
def x_X9_times (p0 : Int32) (p1 : Int32) : Int32 := (Int64.toInt32 (xRemL ((Int32.toInt64 p0) * (Int32.toInt64 p1)) 10007))
def rm_X9_times : Room := { frames := 0, cells := 0, slots := 0, locals := 0 }
set_option maxHeartbeats 4000000 in
set_option maxRecDepth 100000 in
theorem c_X9_times (l : Launch) (D : va_G) (cI cZ cR : ClassId) (H0 : Heap) (p0 : Int32) (p1 : Int32) : Met l yX9_times wsX9_times rm_X9_times (po_P D cI cZ cR [.int p0, .int p1] [] H0) (po_Q (some (.int (x_X9_times p0 p1))) H0) 0 0 nF := by
  refine Met.ofW (cc := cX9_times) (maxL := 2) (ret := (some .int)) (by decide +kernel) rfl ?_
  intro p e s m args below meth c s₁ B hml hv
  obtain ⟨rfl, rfl, hAM, hP⟩ := hv
  have hx := B.exec
  have hb := B.bytes
  have hr := B.returns
  have hts := atoms_spec (ws := wsX9_times) B.pre
  have hown : s.vm.findClass RX9 = some m.cls := findClass_of_methodNamed B.named
  have hlocks := B.notSynchronized
  have hK := hAM.1
  generalize hE : (x_X9_times p0 p1) = Rv
  rw [x_X9_times] at hE
  have hl := lv_entry ([.int p0, .int p1]) (n := 2) (Nat.le_of_ble_eq_true rfl)
  rw [lg_entry_eq]
  generalize (lg_sl ([.int p0, .int p1]) ++ List.replicate (2 - (lg_sl ([.int p0, .int p1])).length) Slot.unset).toArray = ls at hl ⊢
  have hl : lv_has ls 2 [(0, .int p0), (1, .int p1)] := hl
  refine lv_iload_n hx hb dX9_times_0 rfl (lv_at hl 0 rfl) ?_
  refine lv_i2l hx hb dX9_times_1 rfl ?_
  refine lv_iload_n hx hb dX9_times_2 rfl (lv_at hl 1 rfl) ?_
  refine lv_i2l hx hb dX9_times_3 rfl ?_
  refine lv_lmul hx hb dX9_times_4 ?_
  refine lv_ldc2 hx hb hown (hts (.constantLong RX9 55 (10007)) (List.mem_of_getElem? (i := 1) rfl)) dX9_times_5 ?_
  refine w_lrem hx hb dX9_times_8 (by decide +kernel) ?_
  refine lv_l2i hx hb dX9_times_9 rfl ?_
  exact w_iret hx hb hr hlocks hE dX9_times_10

theorem hd_X9_raise : yX9_raise.cls ≠ "java/lang/invoke/MethodHandle" ∧ yX9_raise.cls ≠ "java/lang/invoke/VarHandle" ∧ (parseMethodDescriptor yX9_raise.desc).map (fun d => d.parameters.length) = some 3 := by decide +kernel
def x_X9_raise_L12 (p0 : Int64) (p1 : Int32) (p2 : Int32) : Nat → Int64 → Int64 → Int32 → Int64
  | 0, _, _, _ => 0
  | n + 1, v4, v6, v8 => (if v8 ≤ 0 then v4 else (if (xRem v8 2) = 1 then (x_X9_raise_L12 p0 p1 p2 n (xRemL (v4 * v6) (Int32.toInt64 p2)) (xRemL (v6 * v6) (Int32.toInt64 p2)) (v8 / 2)) else (x_X9_raise_L12 p0 p1 p2 n v4 (xRemL (v6 * v6) (Int32.toInt64 p2)) (v8 / 2))))
def x_X9_raise (p0 : Int64) (p1 : Int32) (p2 : Int32) : Int64 := (x_X9_raise_L12 p0 p1 p2 (32) 1 (xRemL p0 (Int32.toInt64 p2)) p1)
def rm_X9_raise : Room := { frames := 0, cells := 0, slots := 0, locals := 0 }
set_option maxHeartbeats 4000000 in
set_option maxRecDepth 100000 in
theorem c_X9_raise (l : Launch) (D : va_G) (cI cZ cR : ClassId) (H0 : Heap) (p0 : Int64) (p1 : Int32) (p2 : Int32) (h2 : 0 < p2) : Met l yX9_raise wsX9_raise rm_X9_raise (po_P D cI cZ cR [.long p0, .int p1, .int p2] [] H0) (po_Q (some (.long (x_X9_raise p0 p1 p2))) H0) 0 0 nF := by
  refine Met.ofW (cc := cX9_raise) (maxL := 9) (ret := (some .long)) (by decide +kernel) rfl ?_
  intro p e s m args below meth c s₁ B hml hv
  obtain ⟨rfl, rfl, hAM, hP⟩ := hv
  have hx := B.exec
  have hb := B.bytes
  have hr := B.returns
  have hts := atoms_spec (ws := wsX9_raise) B.pre
  have hown : s.vm.findClass RX9 = some m.cls := findClass_of_methodNamed B.named
  have hlocks := B.notSynchronized
  have hK := hAM.1
  generalize hE : (x_X9_raise p0 p1 p2) = Rv
  rw [x_X9_raise] at hE
  have hl := lv_entry ([.long p0, .int p1, .int p2]) (n := 9) (Nat.le_of_ble_eq_true rfl)
  rw [lg_entry_eq]
  generalize (lg_sl ([.long p0, .int p1, .int p2]) ++ List.replicate (9 - (lg_sl ([.long p0, .int p1, .int p2])).length) Slot.unset).toArray = ls at hl ⊢
  have hl : lv_has ls 9 [(0, .long p0), (2, .int p1), (3, .int p2)] := hl
  refine lv_lconst (v := 1) hx hb dX9_raise_0 (by decide +kernel) ?_
  refine lv_lstore (lv' := [(4, .long 1), (0, .long p0), (2, .int p1), (3, .int p2)]) hx hb dX9_raise_1 hl (by decide) rfl (fun ls hl => ?_)
  refine lv_lload_n hx hb dX9_raise_3 rfl (lv_at hl 1 rfl) ?_
  refine lv_iload_n hx hb dX9_raise_4 rfl (lv_at hl 3 rfl) ?_
  refine lv_i2l hx hb dX9_raise_5 rfl ?_
  refine w_lrem hx hb dX9_raise_6 (pos_neL h2) ?_
  refine lv_lstore (lv' := [(6, .long (xRemL p0 (Int32.toInt64 p2))), (4, .long 1), (0, .long p0), (2, .int p1), (3, .int p2)]) hx hb dX9_raise_7 hl (by decide) rfl (fun ls hl => ?_)
  refine lv_iload_n hx hb dX9_raise_9 rfl (lv_at hl 3 rfl) ?_
  refine lv_istore (lv' := [(8, .int p1), (6, .long (xRemL p0 (Int32.toInt64 p2))), (4, .long 1), (0, .long p0), (2, .int p1), (3, .int p2)]) hx hb dX9_raise_10 hl (by decide) rfl (fun ls hl => ?_)
  suffices loop : ∀ (n : Nat) (v4 : Int64) (v6 : Int64) (v8 : Int32), (HF n v8) → x_X9_raise_L12 p0 p1 p2 n v4 v6 v8 = Rv → ∀ ls : Array Slot, lv_has ls 9 [(8, .int v8), (6, .long v6), (4, .long v4), (0, .long p0), (2, .int p1), (3, .int p2)] → W p l e (headSpec wsX9_raise rm_X9_raise).room s m ([.long p0, .int p1, .int p2] : List Value).toArray below meth c s.heap [] 0 0 (MQ below (po_Q (some (.long Rv)) s.heap) ([.long p0, .int p1, .int p2] : List Value).toArray s 0 0 nF) (F0 m 12 ls []) from
    loop (32) 1 (xRemL p0 (Int32.toInt64 p2)) p1 (HF.start p1) hE ls (lv_sub hl [0, 1, 2, 3, 4, 5] rfl)
  clear hE hl ls
  intro n
  induction n with
  | zero =>
    intro v4 v6 v8 hI _ _ _
    exact absurd hI (HF.zero)
  | succ n ih =>
    intro v4 v6 v8 hI hE ls hl
    rw [x_X9_raise_L12] at hE
    refine lv_iload hx hb dX9_raise_12 (lv_at hl 0 rfl) ?_
    refine lv_if_le (tgt := 59) hx hb dX9_raise_14 (by decide) (fun c_14 => ?_) (fun c_14 => ?_)
    · have hE := itT hE c_14
      refine lv_lload hx hb dX9_raise_59 (lv_at hl 2 rfl) ?_
      exact w_lret hx hb hr hlocks hE dX9_raise_61
    · have hE := itF hE c_14
      refine lv_iload hx hb dX9_raise_17 (lv_at hl 0 rfl) ?_
      refine lv_iconst (v := 2) hx hb dX9_raise_19 (by decide) ?_
      refine w_irem hx hb dX9_raise_20 (by decide +kernel) ?_
      refine lv_iconst (v := 1) hx hb dX9_raise_21 (by decide) ?_
      refine lv_icmp_ne (tgt := 36) hx hb dX9_raise_22 (by decide) (fun c_22 => ?_) (fun c_22 => ?_)
      · have hE := itF hE c_22
        refine lv_lload hx hb dX9_raise_36 (lv_at hl 2 rfl) ?_
        refine lv_lstore (lv' := [(4, .long v4), (8, .int v8), (6, .long v6), (0, .long p0), (2, .int p1), (3, .int p2)]) hx hb dX9_raise_38 hl (by decide) rfl (fun ls hl => ?_)
        refine lv_lload hx hb dX9_raise_40 (lv_at hl 2 rfl) ?_
        refine lv_lload hx hb dX9_raise_42 (lv_at hl 2 rfl) ?_
        refine lv_lmul hx hb dX9_raise_44 ?_
        refine lv_iload_n hx hb dX9_raise_45 rfl (lv_at hl 5 rfl) ?_
        refine lv_i2l hx hb dX9_raise_46 rfl ?_
        refine w_lrem hx hb dX9_raise_47 (pos_neL h2) ?_
        refine lv_lstore (lv' := [(6, .long (xRemL (v6 * v6) (Int32.toInt64 p2))), (4, .long v4), (8, .int v8), (0, .long p0), (2, .int p1), (3, .int p2)]) hx hb dX9_raise_48 hl (by decide) rfl (fun ls hl => ?_)
        refine lv_iload hx hb dX9_raise_50 (lv_at hl 2 rfl) ?_
        refine lv_iconst (v := 2) hx hb dX9_raise_52 (by decide) ?_
        refine lv_idiv hx hb dX9_raise_53 (by decide +kernel) ?_
        refine lv_istore (lv' := [(8, .int (v8 / 2)), (6, .long (xRemL (v6 * v6) (Int32.toInt64 p2))), (4, .long v4), (0, .long p0), (2, .int p1), (3, .int p2)]) hx hb dX9_raise_54 hl (by decide) rfl (fun ls hl => ?_)
        refine lv_goto (tgt := 12) hx hb dX9_raise_56 (by decide) ?_
        exact ih v4 (xRemL (v6 * v6) (Int32.toInt64 p2)) (v8 / 2) (hI.step c_14) hE ls (lv_sub hl [0, 1, 2, 3, 4, 5] rfl)
      · have hE := itT hE c_22
        refine lv_lload hx hb dX9_raise_25 (lv_at hl 2 rfl) ?_
        refine lv_lload hx hb dX9_raise_27 (lv_at hl 1 rfl) ?_
        refine lv_lmul hx hb dX9_raise_29 ?_
        refine lv_iload_n hx hb dX9_raise_30 rfl (lv_at hl 5 rfl) ?_
        refine lv_i2l hx hb dX9_raise_31 rfl ?_
        refine w_lrem hx hb dX9_raise_32 (pos_neL h2) ?_
        refine lv_goto (tgt := 38) hx hb dX9_raise_33 (by decide) ?_
        refine lv_lstore (lv' := [(4, .long (xRemL (v4 * v6) (Int32.toInt64 p2))), (8, .int v8), (6, .long v6), (0, .long p0), (2, .int p1), (3, .int p2)]) hx hb dX9_raise_38 hl (by decide) rfl (fun ls hl => ?_)
        refine lv_lload hx hb dX9_raise_40 (lv_at hl 2 rfl) ?_
        refine lv_lload hx hb dX9_raise_42 (lv_at hl 2 rfl) ?_
        refine lv_lmul hx hb dX9_raise_44 ?_
        refine lv_iload_n hx hb dX9_raise_45 rfl (lv_at hl 5 rfl) ?_
        refine lv_i2l hx hb dX9_raise_46 rfl ?_
        refine w_lrem hx hb dX9_raise_47 (pos_neL h2) ?_
        refine lv_lstore (lv' := [(6, .long (xRemL (v6 * v6) (Int32.toInt64 p2))), (4, .long (xRemL (v4 * v6) (Int32.toInt64 p2))), (8, .int v8), (0, .long p0), (2, .int p1), (3, .int p2)]) hx hb dX9_raise_48 hl (by decide) rfl (fun ls hl => ?_)
        refine lv_iload hx hb dX9_raise_50 (lv_at hl 2 rfl) ?_
        refine lv_iconst (v := 2) hx hb dX9_raise_52 (by decide) ?_
        refine lv_idiv hx hb dX9_raise_53 (by decide +kernel) ?_
        refine lv_istore (lv' := [(8, .int (v8 / 2)), (6, .long (xRemL (v6 * v6) (Int32.toInt64 p2))), (4, .long (xRemL (v4 * v6) (Int32.toInt64 p2))), (0, .long p0), (2, .int p1), (3, .int p2)]) hx hb dX9_raise_54 hl (by decide) rfl (fun ls hl => ?_)
        refine lv_goto (tgt := 12) hx hb dX9_raise_56 (by decide) ?_
        exact ih (xRemL (v4 * v6) (Int32.toInt64 p2)) (xRemL (v6 * v6) (Int32.toInt64 p2)) (v8 / 2) (hI.step c_14) hE ls (lv_sub hl [0, 1, 2, 3, 4, 5] rfl)

theorem hd_X9_power : yX9_power.cls ≠ "java/lang/invoke/MethodHandle" ∧ yX9_power.cls ≠ "java/lang/invoke/VarHandle" ∧ (parseMethodDescriptor yX9_power.desc).map (fun d => d.parameters.length) = some 2 := by decide +kernel
def x_X9_power (p0 : Int32) (p1 : Int32) : Int32 := (Int64.toInt32 (x_X9_raise (Int32.toInt64 p0) p1 10007))
def rm_X9_power : Room := { frames := 1, cells := 0, slots := 0, locals := 28 }
set_option maxHeartbeats 4000000 in
set_option maxRecDepth 100000 in
theorem c_X9_power (l : Launch) (D : va_G) (cI cZ cR : ClassId) (H0 : Heap) (p0 : Int32) (p1 : Int32) : Met l yX9_power wsX9_power rm_X9_power (po_P D cI cZ cR [.int p0, .int p1] [] H0) (po_Q (some (.int (x_X9_power p0 p1))) H0) 0 0 nF := by
  refine Met.ofW (cc := cX9_power) (maxL := 2) (ret := (some .int)) (by decide +kernel) rfl ?_
  intro p e s m args below meth c s₁ B hml hv
  obtain ⟨rfl, rfl, hAM, hP⟩ := hv
  have hx := B.exec
  have hb := B.bytes
  have hr := B.returns
  have hts := atoms_spec (ws := wsX9_power) B.pre
  have hown : s.vm.findClass RX9 = some m.cls := findClass_of_methodNamed B.named
  have hlocks := B.notSynchronized
  have hK := hAM.1
  generalize hE : (x_X9_power p0 p1) = Rv
  rw [x_X9_power] at hE
  have hl := lv_entry ([.int p0, .int p1]) (n := 2) (Nat.le_of_ble_eq_true rfl)
  rw [lg_entry_eq]
  generalize (lg_sl ([.int p0, .int p1]) ++ List.replicate (2 - (lg_sl ([.int p0, .int p1])).length) Slot.unset).toArray = ls at hl ⊢
  have hl : lv_has ls 2 [(0, .int p0), (1, .int p1)] := hl
  refine lv_iload_n hx hb dX9_power_0 rfl (lv_at hl 0 rfl) ?_
  refine lv_i2l hx hb dX9_power_1 rfl ?_
  refine lv_iload_n hx hb dX9_power_2 rfl (lv_at hl 1 rfl) ?_
  refine lv_sipush (v := 10007) hx hb dX9_power_3 (by decide +kernel) ?_
  refine ro_call (va_runS (As := [.long (Int32.toInt64 p0), .int p1, .int 10007]) (rest := []) ⟨hx, hb, hml, hown, hts⟩ (c_X9_raise l D cI cZ cR _ (Int32.toInt64 p0) p1 10007 (by decide +kernel)) (va_cwS 3 hts gX9_power_X9_raise rfl rfl rfl hd_X9_raise ⟨(Nat.le_of_ble_eq_true rfl), (Nat.le_of_ble_eq_true rfl)⟩) (po_pre hAM va_P.nil) rfl rfl hl.1 rfl (lv_room (Nat.le_of_ble_eq_true rfl)) dX9_power_6 ⟨(Nat.le_of_ble_eq_true rfl), (Nat.le_of_ble_eq_true rfl)⟩) ?_
  refine lv_l2i hx hb dX9_power_9 rfl ?_
  exact w_iret hx hb hr hlocks hE dX9_power_10

theorem hd_X9_by : yX9_by.cls ≠ "java/lang/invoke/MethodHandle" ∧ yX9_by.cls ≠ "java/lang/invoke/VarHandle" ∧ (parseMethodDescriptor yX9_by.desc).map (fun d => d.parameters.length) = some 2 := by decide +kernel
def x_X9_by (p0 : Int32) (p1 : Int32) : Int32 := (x_X9_times p0 (x_X9_power p1 10005))
def rm_X9_by : Room := { frames := 2, cells := 0, slots := 0, locals := 49 }
set_option maxHeartbeats 4000000 in
set_option maxRecDepth 100000 in
theorem c_X9_by (l : Launch) (D : va_G) (cI cZ cR : ClassId) (H0 : Heap) (p0 : Int32) (p1 : Int32) : Met l yX9_by wsX9_by rm_X9_by (po_P D cI cZ cR [.int p0, .int p1] [] H0) (po_Q (some (.int (x_X9_by p0 p1))) H0) 0 0 nF := by
  refine Met.ofW (cc := cX9_by) (maxL := 2) (ret := (some .int)) (by decide +kernel) rfl ?_
  intro p e s m args below meth c s₁ B hml hv
  obtain ⟨rfl, rfl, hAM, hP⟩ := hv
  have hx := B.exec
  have hb := B.bytes
  have hr := B.returns
  have hts := atoms_spec (ws := wsX9_by) B.pre
  have hown : s.vm.findClass RX9 = some m.cls := findClass_of_methodNamed B.named
  have hlocks := B.notSynchronized
  have hK := hAM.1
  generalize hE : (x_X9_by p0 p1) = Rv
  rw [x_X9_by] at hE
  have hl := lv_entry ([.int p0, .int p1]) (n := 2) (Nat.le_of_ble_eq_true rfl)
  rw [lg_entry_eq]
  generalize (lg_sl ([.int p0, .int p1]) ++ List.replicate (2 - (lg_sl ([.int p0, .int p1])).length) Slot.unset).toArray = ls at hl ⊢
  have hl : lv_has ls 2 [(0, .int p0), (1, .int p1)] := hl
  refine lv_iload_n hx hb dX9_by_0 rfl (lv_at hl 0 rfl) ?_
  refine lv_iload_n hx hb dX9_by_1 rfl (lv_at hl 1 rfl) ?_
  refine lv_sipush (v := 10005) hx hb dX9_by_2 (by decide +kernel) ?_
  refine ro_call (va_runS (As := [.int p1, .int 10005]) (rest := [.int p0]) ⟨hx, hb, hml, hown, hts⟩ (c_X9_power l D cI cZ cR _ p1 10005) (va_cwS 2 hts gX9_by_X9_power rfl rfl rfl hd_X9_power ⟨(Nat.le_of_ble_eq_true rfl), (Nat.le_of_ble_eq_true rfl)⟩) (po_pre hAM va_P.nil) rfl rfl hl.1 rfl (lv_room (Nat.le_of_ble_eq_true rfl)) dX9_by_5 ⟨(Nat.le_of_ble_eq_true rfl), (Nat.le_of_ble_eq_true rfl)⟩) ?_
  refine ro_call (va_runS (As := [.int p0, .int (x_X9_power p1 10005)]) (rest := []) ⟨hx, hb, hml, hown, hts⟩ (c_X9_times l D cI cZ cR _ p0 (x_X9_power p1 10005)) (va_cwS 2 hts gX9_by_X9_times rfl rfl rfl hd_X9_times ⟨(Nat.le_of_ble_eq_true rfl), (Nat.le_of_ble_eq_true rfl)⟩) (po_pre hAM va_P.nil) rfl rfl hl.1 rfl (lv_room (Nat.le_of_ble_eq_true rfl)) dX9_by_8 ⟨(Nat.le_of_ble_eq_true rfl), (Nat.le_of_ble_eq_true rfl)⟩) ?_
  exact w_iret hx hb hr hlocks hE dX9_by_11

theorem hd_X9_isHolder : yX9_isHolder.cls ≠ "java/lang/invoke/MethodHandle" ∧ yX9_isHolder.cls ≠ "java/lang/invoke/VarHandle" ∧ (parseMethodDescriptor yX9_isHolder.desc).map (fun d => d.parameters.length) = some 1 := by decide +kernel
def x_X9_isHolder (p0 : Int32) : Bool := (x_X9_in p0 1 5)
def rm_X9_isHolder : Room := { frames := 1, cells := 0, slots := 0, locals := 22 }
set_option maxHeartbeats 4000000 in
set_option maxRecDepth 100000 in
theorem c_X9_isHolder (l : Launch) (D : va_G) (cI cZ cR : ClassId) (H0 : Heap) (p0 : Int32) : Met l yX9_isHolder wsX9_isHolder rm_X9_isHolder (po_P D cI cZ cR [.int p0] [] H0) (po_Q (some (.int (bI (x_X9_isHolder p0)))) H0) 0 0 nF := by
  refine Met.ofW (cc := cX9_isHolder) (maxL := 1) (ret := (some .boolean)) (by decide +kernel) rfl ?_
  intro p e s m args below meth c s₁ B hml hv
  obtain ⟨rfl, rfl, hAM, hP⟩ := hv
  have hx := B.exec
  have hb := B.bytes
  have hr := B.returns
  have hts := atoms_spec (ws := wsX9_isHolder) B.pre
  have hown : s.vm.findClass RX9 = some m.cls := findClass_of_methodNamed B.named
  have hlocks := B.notSynchronized
  have hK := hAM.1
  generalize hE : (x_X9_isHolder p0) = Rv
  rw [x_X9_isHolder] at hE
  have hl := lv_entry ([.int p0]) (n := 1) (Nat.le_of_ble_eq_true rfl)
  rw [lg_entry_eq]
  generalize (lg_sl ([.int p0]) ++ List.replicate (1 - (lg_sl ([.int p0])).length) Slot.unset).toArray = ls at hl ⊢
  have hl : lv_has ls 1 [(0, .int p0)] := hl
  refine lv_iload_n hx hb dX9_isHolder_0 rfl (lv_at hl 0 rfl) ?_
  refine lv_iconst (v := 1) hx hb dX9_isHolder_1 (by decide) ?_
  refine lv_iconst (v := 5) hx hb dX9_isHolder_2 (by decide) ?_
  refine ro_call (va_runS (As := [.int p0, .int 1, .int 5]) (rest := []) ⟨hx, hb, hml, hown, hts⟩ (c_X9_in l D cI cZ cR _ p0 1 5) (va_cwS 3 hts gX9_isHolder_X9_in rfl rfl rfl hd_X9_in ⟨(Nat.le_of_ble_eq_true rfl), (Nat.le_of_ble_eq_true rfl)⟩) (po_pre hAM va_P.nil) rfl rfl hl.1 rfl (lv_room (Nat.le_of_ble_eq_true rfl)) dX9_isHolder_3 ⟨(Nat.le_of_ble_eq_true rfl), (Nat.le_of_ble_eq_true rfl)⟩) ?_
  exact w_zret (v := (x_X9_in p0 1 5)) hx hb hr hlocks hE dX9_isHolder_6

theorem hd_X9_isRight : yX9_isRight.cls ≠ "java/lang/invoke/MethodHandle" ∧ yX9_isRight.cls ≠ "java/lang/invoke/VarHandle" ∧ (parseMethodDescriptor yX9_isRight.desc).map (fun d => d.parameters.length) = some 2 := by decide +kernel
def x_X9_isRight (p0 : Int32) (p1 : Int32) : Bool := (if (x_X9_isNumber p0) = true then (if (x_X9_isNumber p1) = true then (if (x_X9_power p0 5003) = 1 then (if (x_X9_power p1 5003) = 1 then true else false) else false) else false) else false)
def rm_X9_isRight : Room := { frames := 2, cells := 0, slots := 0, locals := 49 }
set_option maxHeartbeats 4000000 in
set_option maxRecDepth 100000 in
theorem c_X9_isRight (l : Launch) (D : va_G) (cI cZ cR : ClassId) (H0 : Heap) (p0 : Int32) (p1 : Int32) : Met l yX9_isRight wsX9_isRight rm_X9_isRight (po_P D cI cZ cR [.int p0, .int p1] [] H0) (po_Q (some (.int (bI (x_X9_isRight p0 p1)))) H0) 0 0 nF := by
  refine Met.ofW (cc := cX9_isRight) (maxL := 2) (ret := (some .boolean)) (by decide +kernel) rfl ?_
  intro p e s m args below meth c s₁ B hml hv
  obtain ⟨rfl, rfl, hAM, hP⟩ := hv
  have hx := B.exec
  have hb := B.bytes
  have hr := B.returns
  have hts := atoms_spec (ws := wsX9_isRight) B.pre
  have hown : s.vm.findClass RX9 = some m.cls := findClass_of_methodNamed B.named
  have hlocks := B.notSynchronized
  have hK := hAM.1
  generalize hE : (x_X9_isRight p0 p1) = Rv
  rw [x_X9_isRight] at hE
  have hl := lv_entry ([.int p0, .int p1]) (n := 2) (Nat.le_of_ble_eq_true rfl)
  rw [lg_entry_eq]
  generalize (lg_sl ([.int p0, .int p1]) ++ List.replicate (2 - (lg_sl ([.int p0, .int p1])).length) Slot.unset).toArray = ls at hl ⊢
  have hl : lv_has ls 2 [(0, .int p0), (1, .int p1)] := hl
  refine lv_iload_n hx hb dX9_isRight_0 rfl (lv_at hl 0 rfl) ?_
  refine ro_call (va_runS (As := [.int p0]) (rest := []) ⟨hx, hb, hml, hown, hts⟩ (c_X9_isNumber l D cI cZ cR _ p0) (va_cwS 1 hts gX9_isRight_X9_isNumber rfl rfl rfl hd_X9_isNumber ⟨(Nat.le_of_ble_eq_true rfl), (Nat.le_of_ble_eq_true rfl)⟩) (po_pre hAM va_P.nil) rfl rfl hl.1 rfl (lv_room (Nat.le_of_ble_eq_true rfl)) dX9_isRight_1 ⟨(Nat.le_of_ble_eq_true rfl), (Nat.le_of_ble_eq_true rfl)⟩) ?_
  refine w_if_eqb (tgt := 40) hx hb dX9_isRight_4 (by decide) (fun c_4 => ?_) (fun c_4 => ?_)
  · have hE := itF hE c_4
    refine lv_iconst (v := 0) hx hb dX9_isRight_40 (by decide) ?_
    exact w_zret (v := false) hx hb hr hlocks hE dX9_isRight_41
  · have hE := itT hE c_4
    refine lv_iload_n hx hb dX9_isRight_7 rfl (lv_at hl 1 rfl) ?_
    refine ro_call (va_runS (As := [.int p1]) (rest := []) ⟨hx, hb, hml, hown, hts⟩ (c_X9_isNumber l D cI cZ cR _ p1) (va_cwS 1 hts gX9_isRight_X9_isNumber rfl rfl rfl hd_X9_isNumber ⟨(Nat.le_of_ble_eq_true rfl), (Nat.le_of_ble_eq_true rfl)⟩) (po_pre hAM va_P.nil) rfl rfl hl.1 rfl (lv_room (Nat.le_of_ble_eq_true rfl)) dX9_isRight_8 ⟨(Nat.le_of_ble_eq_true rfl), (Nat.le_of_ble_eq_true rfl)⟩) ?_
    refine w_if_eqb (tgt := 40) hx hb dX9_isRight_11 (by decide) (fun c_11 => ?_) (fun c_11 => ?_)
    · have hE := itF hE c_11
      refine lv_iconst (v := 0) hx hb dX9_isRight_40 (by decide) ?_
      exact w_zret (v := false) hx hb hr hlocks hE dX9_isRight_41
    · have hE := itT hE c_11
      refine lv_iload_n hx hb dX9_isRight_14 rfl (lv_at hl 0 rfl) ?_
      refine lv_sipush (v := 5003) hx hb dX9_isRight_15 (by decide +kernel) ?_
      refine ro_call (va_runS (As := [.int p0, .int 5003]) (rest := []) ⟨hx, hb, hml, hown, hts⟩ (c_X9_power l D cI cZ cR _ p0 5003) (va_cwS 2 hts gX9_isRight_X9_power rfl rfl rfl hd_X9_power ⟨(Nat.le_of_ble_eq_true rfl), (Nat.le_of_ble_eq_true rfl)⟩) (po_pre hAM va_P.nil) rfl rfl hl.1 rfl (lv_room (Nat.le_of_ble_eq_true rfl)) dX9_isRight_18 ⟨(Nat.le_of_ble_eq_true rfl), (Nat.le_of_ble_eq_true rfl)⟩) ?_
      refine lv_iconst (v := 1) hx hb dX9_isRight_21 (by decide) ?_
      refine lv_icmp_ne (tgt := 40) hx hb dX9_isRight_22 (by decide) (fun c_22 => ?_) (fun c_22 => ?_)
      · have hE := itF hE c_22
        refine lv_iconst (v := 0) hx hb dX9_isRight_40 (by decide) ?_
        exact w_zret (v := false) hx hb hr hlocks hE dX9_isRight_41
      · have hE := itT hE c_22
        refine lv_iload_n hx hb dX9_isRight_25 rfl (lv_at hl 1 rfl) ?_
        refine lv_sipush (v := 5003) hx hb dX9_isRight_26 (by decide +kernel) ?_
        refine ro_call (va_runS (As := [.int p1, .int 5003]) (rest := []) ⟨hx, hb, hml, hown, hts⟩ (c_X9_power l D cI cZ cR _ p1 5003) (va_cwS 2 hts gX9_isRight_X9_power rfl rfl rfl hd_X9_power ⟨(Nat.le_of_ble_eq_true rfl), (Nat.le_of_ble_eq_true rfl)⟩) (po_pre hAM va_P.nil) rfl rfl hl.1 rfl (lv_room (Nat.le_of_ble_eq_true rfl)) dX9_isRight_29 ⟨(Nat.le_of_ble_eq_true rfl), (Nat.le_of_ble_eq_true rfl)⟩) ?_
        refine lv_iconst (v := 1) hx hb dX9_isRight_32 (by decide) ?_
        refine lv_icmp_ne (tgt := 40) hx hb dX9_isRight_33 (by decide) (fun c_33 => ?_) (fun c_33 => ?_)
        · have hE := itF hE c_33
          refine lv_iconst (v := 0) hx hb dX9_isRight_40 (by decide) ?_
          exact w_zret (v := false) hx hb hr hlocks hE dX9_isRight_41
        · have hE := itT hE c_33
          refine lv_iconst (v := 1) hx hb dX9_isRight_36 (by decide) ?_
          refine lv_goto (tgt := 41) hx hb dX9_isRight_37 (by decide) ?_
          exact w_zret (v := true) hx hb hr hlocks hE dX9_isRight_41

theorem hd_X9_isSet : yX9_isSet.cls ≠ "java/lang/invoke/MethodHandle" ∧ yX9_isSet.cls ≠ "java/lang/invoke/VarHandle" ∧ (parseMethodDescriptor yX9_isSet.desc).map (fun d => d.parameters.length) = some 1 := by decide +kernel
def x_X9_isSet (p0 : Int32) : Bool := (if (x_X9_in p0 2 62) = true then (if (xRem p0 2) = 0 then true else false) else false)
def rm_X9_isSet : Room := { frames := 1, cells := 0, slots := 0, locals := 22 }
set_option maxHeartbeats 4000000 in
set_option maxRecDepth 100000 in
theorem c_X9_isSet (l : Launch) (D : va_G) (cI cZ cR : ClassId) (H0 : Heap) (p0 : Int32) : Met l yX9_isSet wsX9_isSet rm_X9_isSet (po_P D cI cZ cR [.int p0] [] H0) (po_Q (some (.int (bI (x_X9_isSet p0)))) H0) 0 0 nF := by
  refine Met.ofW (cc := cX9_isSet) (maxL := 1) (ret := (some .boolean)) (by decide +kernel) rfl ?_
  intro p e s m args below meth c s₁ B hml hv
  obtain ⟨rfl, rfl, hAM, hP⟩ := hv
  have hx := B.exec
  have hb := B.bytes
  have hr := B.returns
  have hts := atoms_spec (ws := wsX9_isSet) B.pre
  have hown : s.vm.findClass RX9 = some m.cls := findClass_of_methodNamed B.named
  have hlocks := B.notSynchronized
  have hK := hAM.1
  generalize hE : (x_X9_isSet p0) = Rv
  rw [x_X9_isSet] at hE
  have hl := lv_entry ([.int p0]) (n := 1) (Nat.le_of_ble_eq_true rfl)
  rw [lg_entry_eq]
  generalize (lg_sl ([.int p0]) ++ List.replicate (1 - (lg_sl ([.int p0])).length) Slot.unset).toArray = ls at hl ⊢
  have hl : lv_has ls 1 [(0, .int p0)] := hl
  refine lv_iload_n hx hb dX9_isSet_0 rfl (lv_at hl 0 rfl) ?_
  refine lv_iconst (v := 2) hx hb dX9_isSet_1 (by decide) ?_
  refine lv_bipush (v := 62) hx hb dX9_isSet_2 (by decide +kernel) ?_
  refine ro_call (va_runS (As := [.int p0, .int 2, .int 62]) (rest := []) ⟨hx, hb, hml, hown, hts⟩ (c_X9_in l D cI cZ cR _ p0 2 62) (va_cwS 3 hts gX9_isSet_X9_in rfl rfl rfl hd_X9_in ⟨(Nat.le_of_ble_eq_true rfl), (Nat.le_of_ble_eq_true rfl)⟩) (po_pre hAM va_P.nil) rfl rfl hl.1 rfl (lv_room (Nat.le_of_ble_eq_true rfl)) dX9_isSet_4 ⟨(Nat.le_of_ble_eq_true rfl), (Nat.le_of_ble_eq_true rfl)⟩) ?_
  refine w_if_eqb (tgt := 20) hx hb dX9_isSet_7 (by decide) (fun c_7 => ?_) (fun c_7 => ?_)
  · have hE := itF hE c_7
    refine lv_iconst (v := 0) hx hb dX9_isSet_20 (by decide) ?_
    exact w_zret (v := false) hx hb hr hlocks hE dX9_isSet_21
  · have hE := itT hE c_7
    refine lv_iload_n hx hb dX9_isSet_10 rfl (lv_at hl 0 rfl) ?_
    refine lv_iconst (v := 2) hx hb dX9_isSet_11 (by decide) ?_
    refine w_irem hx hb dX9_isSet_12 (by decide +kernel) ?_
    refine lv_if_ne (tgt := 20) hx hb dX9_isSet_13 (by decide) (fun c_13 => ?_) (fun c_13 => ?_)
    · have hE := itF hE c_13
      refine lv_iconst (v := 0) hx hb dX9_isSet_20 (by decide) ?_
      exact w_zret (v := false) hx hb hr hlocks hE dX9_isSet_21
    · have hE := itT hE c_13
      refine lv_iconst (v := 1) hx hb dX9_isSet_16 (by decide) ?_
      refine lv_goto (tgt := 21) hx hb dX9_isSet_17 (by decide) ?_
      exact w_zret (v := true) hx hb hr hlocks hE dX9_isSet_21

theorem hd_X9_weightOf : yX9_weightOf.cls ≠ "java/lang/invoke/MethodHandle" ∧ yX9_weightOf.cls ≠ "java/lang/invoke/VarHandle" ∧ (parseMethodDescriptor yX9_weightOf.desc).map (fun d => d.parameters.length) = some 2 := by decide +kernel
def x_X9_weightOf_L5 (p0 : Int32) (p1 : Int32) : Nat → Int64 → Int32 → Int32
  | 0, _, _ => 0
  | n + 1, v2, v4 => (if 6 ≤ v4 then (Int64.toInt32 v2) else (if v4 = p0 then (x_X9_weightOf_L5 p0 p1 n v2 (v4 + 1)) else (if ((xShr p1 v4) &&& 1) = 1 then (x_X9_weightOf_L5 p0 p1 n (xRemL ((xRemL (v2 * (Int32.toInt64 v4)) 5003) * (x_X9_raise (Int32.toInt64 ((v4 - p0) + 5003)) 5001 5003)) 5003) (v4 + 1)) else (x_X9_weightOf_L5 p0 p1 n v2 (v4 + 1)))))
def x_X9_weightOf (p0 : Int32) (p1 : Int32) : Int32 := (x_X9_weightOf_L5 p0 p1 (7) 1 1)
def rm_X9_weightOf : Room := { frames := 1, cells := 0, slots := 0, locals := 28 }
set_option maxHeartbeats 4000000 in
set_option maxRecDepth 100000 in
theorem c_X9_weightOf (l : Launch) (D : va_G) (cI cZ cR : ClassId) (H0 : Heap) (p0 : Int32) (p1 : Int32) : Met l yX9_weightOf wsX9_weightOf rm_X9_weightOf (po_P D cI cZ cR [.int p0, .int p1] [] H0) (po_Q (some (.int (x_X9_weightOf p0 p1))) H0) 0 0 nF := by
  refine Met.ofW (cc := cX9_weightOf) (maxL := 5) (ret := (some .int)) (by decide +kernel) rfl ?_
  intro p e s m args below meth c s₁ B hml hv
  obtain ⟨rfl, rfl, hAM, hP⟩ := hv
  have hx := B.exec
  have hb := B.bytes
  have hr := B.returns
  have hts := atoms_spec (ws := wsX9_weightOf) B.pre
  have hown : s.vm.findClass RX9 = some m.cls := findClass_of_methodNamed B.named
  have hlocks := B.notSynchronized
  have hK := hAM.1
  generalize hE : (x_X9_weightOf p0 p1) = Rv
  rw [x_X9_weightOf] at hE
  have hl := lv_entry ([.int p0, .int p1]) (n := 5) (Nat.le_of_ble_eq_true rfl)
  rw [lg_entry_eq]
  generalize (lg_sl ([.int p0, .int p1]) ++ List.replicate (5 - (lg_sl ([.int p0, .int p1])).length) Slot.unset).toArray = ls at hl ⊢
  have hl : lv_has ls 5 [(0, .int p0), (1, .int p1)] := hl
  refine lv_lconst (v := 1) hx hb dX9_weightOf_0 (by decide +kernel) ?_
  refine lv_lstore_n (lv' := [(2, .long 1), (0, .int p0), (1, .int p1)]) hx hb dX9_weightOf_1 rfl hl (by decide) rfl (fun ls hl => ?_)
  refine lv_iconst (v := 1) hx hb dX9_weightOf_2 (by decide) ?_
  refine lv_istore (lv' := [(4, .int 1), (2, .long 1), (0, .int p0), (1, .int p1)]) hx hb dX9_weightOf_3 hl (by decide) rfl (fun ls hl => ?_)
  suffices loop : ∀ (n : Nat) (v2 : Int64) (v4 : Int32), (UP 1 6 n v4) → x_X9_weightOf_L5 p0 p1 n v2 v4 = Rv → ∀ ls : Array Slot, lv_has ls 5 [(4, .int v4), (2, .long v2), (0, .int p0), (1, .int p1)] → W p l e (headSpec wsX9_weightOf rm_X9_weightOf).room s m ([.int p0, .int p1] : List Value).toArray below meth c s.heap [] 0 0 (MQ below (po_Q (some (.int Rv)) s.heap) ([.int p0, .int p1] : List Value).toArray s 0 0 nF) (F0 m 5 ls []) from
    loop (7) 1 1 (UP.start 1 (by omega) (by omega)) hE ls (lv_sub hl [0, 1, 2, 3] rfl)
  clear hE hl ls
  intro n
  induction n with
  | zero =>
    intro v2 v4 hI _ _ _
    exact absurd hI (UP.zero)
  | succ n ih =>
    intro v2 v4 hI hE ls hl
    rw [x_X9_weightOf_L5] at hE
    refine lv_iload hx hb dX9_weightOf_5 (lv_at hl 0 rfl) ?_
    refine lv_bipush (v := 6) hx hb dX9_weightOf_7 (by decide +kernel) ?_
    refine lv_icmp_ge (tgt := 67) hx hb dX9_weightOf_9 (by decide) (fun c_9 => ?_) (fun c_9 => ?_)
    · have hE := itT hE c_9
      refine lv_lload_n hx hb dX9_weightOf_67 rfl (lv_at hl 1 rfl) ?_
      refine lv_l2i hx hb dX9_weightOf_68 rfl ?_
      exact w_iret hx hb hr hlocks hE dX9_weightOf_69
    · have hE := itF hE c_9
      refine lv_iload hx hb dX9_weightOf_12 (lv_at hl 0 rfl) ?_
      refine lv_iload_n hx hb dX9_weightOf_14 rfl (lv_at hl 2 rfl) ?_
      refine lv_icmp_eq (tgt := 61) hx hb dX9_weightOf_15 (by decide) (fun c_15 => ?_) (fun c_15 => ?_)
      · have hE := itT hE c_15
        refine lv_iinc (v := (v4 + 1)) (lv' := [(4, .int (v4 + 1)), (2, .long v2), (0, .int p0), (1, .int p1)]) hx hb dX9_weightOf_61 hl (k := 0) rfl rfl (by decide) rfl (fun ls hl => ?_)
        refine lv_goto (tgt := 5) hx hb dX9_weightOf_64 (by decide) ?_
        exact ih v2 (v4 + 1) ((hI.ge (by decide) rfl c_9).1) hE ls (lv_sub hl [0, 1, 2, 3] rfl)
      · have hE := itF hE c_15
        refine lv_iload_n hx hb dX9_weightOf_18 rfl (lv_at hl 3 rfl) ?_
        refine lv_iload hx hb dX9_weightOf_19 (lv_at hl 0 rfl) ?_
        refine w_ishr hx hb dX9_weightOf_21 ?_
        refine lv_iconst (v := 1) hx hb dX9_weightOf_22 (by decide) ?_
        refine lv_iand hx hb dX9_weightOf_23 ?_
        refine lv_iconst (v := 1) hx hb dX9_weightOf_24 (by decide) ?_
        refine lv_icmp_ne (tgt := 61) hx hb dX9_weightOf_25 (by decide) (fun c_25 => ?_) (fun c_25 => ?_)
        · have hE := itF hE c_25
          refine lv_iinc (v := (v4 + 1)) (lv' := [(4, .int (v4 + 1)), (2, .long v2), (0, .int p0), (1, .int p1)]) hx hb dX9_weightOf_61 hl (k := 0) rfl rfl (by decide) rfl (fun ls hl => ?_)
          refine lv_goto (tgt := 5) hx hb dX9_weightOf_64 (by decide) ?_
          exact ih v2 (v4 + 1) ((hI.ge (by decide) rfl c_9).1) hE ls (lv_sub hl [0, 1, 2, 3] rfl)
        · have hE := itT hE c_25
          refine lv_lload_n hx hb dX9_weightOf_28 rfl (lv_at hl 1 rfl) ?_
          refine lv_iload hx hb dX9_weightOf_29 (lv_at hl 0 rfl) ?_
          refine lv_i2l hx hb dX9_weightOf_31 rfl ?_
          refine lv_lmul hx hb dX9_weightOf_32 ?_
          refine lv_ldc2 hx hb hown (hts (.constantLong RX9 97 (5003)) (List.mem_of_getElem? (i := 1) rfl)) dX9_weightOf_33 ?_
          refine w_lrem hx hb dX9_weightOf_36 (by decide +kernel) ?_
          refine lv_iload hx hb dX9_weightOf_37 (lv_at hl 0 rfl) ?_
          refine lv_iload_n hx hb dX9_weightOf_39 rfl (lv_at hl 2 rfl) ?_
          refine lv_isub hx hb dX9_weightOf_40 ?_
          refine lv_sipush (v := 5003) hx hb dX9_weightOf_41 (by decide +kernel) ?_
          refine lv_iadd hx hb dX9_weightOf_44 ?_
          refine lv_i2l hx hb dX9_weightOf_45 rfl ?_
          refine lv_sipush (v := 5001) hx hb dX9_weightOf_46 (by decide +kernel) ?_
          refine lv_sipush (v := 5003) hx hb dX9_weightOf_49 (by decide +kernel) ?_
          refine ro_call (va_runS (As := [.long (Int32.toInt64 ((v4 - p0) + 5003)), .int 5001, .int 5003]) (rest := [.long (xRemL (v2 * (Int32.toInt64 v4)) 5003)]) ⟨hx, hb, hml, hown, hts⟩ (c_X9_raise l D cI cZ cR _ (Int32.toInt64 ((v4 - p0) + 5003)) 5001 5003 (by decide +kernel)) (va_cwS 3 hts gX9_weightOf_X9_raise rfl rfl rfl hd_X9_raise ⟨(Nat.le_of_ble_eq_true rfl), (Nat.le_of_ble_eq_true rfl)⟩) (po_pre hAM va_P.nil) rfl rfl hl.1 rfl (lv_room (Nat.le_of_ble_eq_true rfl)) dX9_weightOf_52 ⟨(Nat.le_of_ble_eq_true rfl), (Nat.le_of_ble_eq_true rfl)⟩) ?_
          refine lv_lmul hx hb dX9_weightOf_55 ?_
          refine lv_ldc2 hx hb hown (hts (.constantLong RX9 97 (5003)) (List.mem_of_getElem? (i := 1) rfl)) dX9_weightOf_56 ?_
          refine w_lrem hx hb dX9_weightOf_59 (by decide +kernel) ?_
          refine lv_lstore_n (lv' := [(2, .long (xRemL ((xRemL (v2 * (Int32.toInt64 v4)) 5003) * (x_X9_raise (Int32.toInt64 ((v4 - p0) + 5003)) 5001 5003)) 5003)), (4, .int v4), (0, .int p0), (1, .int p1)]) hx hb dX9_weightOf_60 rfl hl (by decide) rfl (fun ls hl => ?_)
          refine lv_iinc (v := (v4 + 1)) (lv' := [(4, .int (v4 + 1)), (2, .long (xRemL ((xRemL (v2 * (Int32.toInt64 v4)) 5003) * (x_X9_raise (Int32.toInt64 ((v4 - p0) + 5003)) 5001 5003)) 5003)), (0, .int p0), (1, .int p1)]) hx hb dX9_weightOf_61 hl (k := 1) rfl rfl (by decide) rfl (fun ls hl => ?_)
          refine lv_goto (tgt := 5) hx hb dX9_weightOf_64 (by decide) ?_
          exact ih (xRemL ((xRemL (v2 * (Int32.toInt64 v4)) 5003) * (x_X9_raise (Int32.toInt64 ((v4 - p0) + 5003)) 5001 5003)) 5003) (v4 + 1) ((hI.ge (by decide) rfl c_9).1) hE ls (lv_sub hl [0, 1, 2, 3] rfl)

theorem hd_X9_sOf : yX9_sOf.cls ≠ "java/lang/invoke/MethodHandle" ∧ yX9_sOf.cls ≠ "java/lang/invoke/VarHandle" ∧ (parseMethodDescriptor yX9_sOf.desc).map (fun d => d.parameters.length) = some 3 := by decide +kernel
def x_X9_sOf (p0 : Int32) (p1 : Int32) (p2 : Int32) : Int32 := (x_X9_by (x_X9_power 4 p2) (x_X9_power p0 p1))
def rm_X9_sOf : Room := { frames := 3, cells := 0, slots := 0, locals := 70 }
set_option maxHeartbeats 4000000 in
set_option maxRecDepth 100000 in
theorem c_X9_sOf (l : Launch) (D : va_G) (cI cZ cR : ClassId) (H0 : Heap) (p0 : Int32) (p1 : Int32) (p2 : Int32) : Met l yX9_sOf wsX9_sOf rm_X9_sOf (po_P D cI cZ cR [.int p0, .int p1, .int p2] [] H0) (po_Q (some (.int (x_X9_sOf p0 p1 p2))) H0) 0 0 nF := by
  refine Met.ofW (cc := cX9_sOf) (maxL := 3) (ret := (some .int)) (by decide +kernel) rfl ?_
  intro p e s m args below meth c s₁ B hml hv
  obtain ⟨rfl, rfl, hAM, hP⟩ := hv
  have hx := B.exec
  have hb := B.bytes
  have hr := B.returns
  have hts := atoms_spec (ws := wsX9_sOf) B.pre
  have hown : s.vm.findClass RX9 = some m.cls := findClass_of_methodNamed B.named
  have hlocks := B.notSynchronized
  have hK := hAM.1
  generalize hE : (x_X9_sOf p0 p1 p2) = Rv
  rw [x_X9_sOf] at hE
  have hl := lv_entry ([.int p0, .int p1, .int p2]) (n := 3) (Nat.le_of_ble_eq_true rfl)
  rw [lg_entry_eq]
  generalize (lg_sl ([.int p0, .int p1, .int p2]) ++ List.replicate (3 - (lg_sl ([.int p0, .int p1, .int p2])).length) Slot.unset).toArray = ls at hl ⊢
  have hl : lv_has ls 3 [(0, .int p0), (1, .int p1), (2, .int p2)] := hl
  refine lv_iconst (v := 4) hx hb dX9_sOf_0 (by decide) ?_
  refine lv_iload_n hx hb dX9_sOf_1 rfl (lv_at hl 2 rfl) ?_
  refine ro_call (va_runS (As := [.int 4, .int p2]) (rest := []) ⟨hx, hb, hml, hown, hts⟩ (c_X9_power l D cI cZ cR _ 4 p2) (va_cwS 2 hts gX9_sOf_X9_power rfl rfl rfl hd_X9_power ⟨(Nat.le_of_ble_eq_true rfl), (Nat.le_of_ble_eq_true rfl)⟩) (po_pre hAM va_P.nil) rfl rfl hl.1 rfl (lv_room (Nat.le_of_ble_eq_true rfl)) dX9_sOf_2 ⟨(Nat.le_of_ble_eq_true rfl), (Nat.le_of_ble_eq_true rfl)⟩) ?_
  refine lv_iload_n hx hb dX9_sOf_5 rfl (lv_at hl 0 rfl) ?_
  refine lv_iload_n hx hb dX9_sOf_6 rfl (lv_at hl 1 rfl) ?_
  refine ro_call (va_runS (As := [.int p0, .int p1]) (rest := [.int (x_X9_power 4 p2)]) ⟨hx, hb, hml, hown, hts⟩ (c_X9_power l D cI cZ cR _ p0 p1) (va_cwS 2 hts gX9_sOf_X9_power rfl rfl rfl hd_X9_power ⟨(Nat.le_of_ble_eq_true rfl), (Nat.le_of_ble_eq_true rfl)⟩) (po_pre hAM va_P.nil) rfl rfl hl.1 rfl (lv_room (Nat.le_of_ble_eq_true rfl)) dX9_sOf_7 ⟨(Nat.le_of_ble_eq_true rfl), (Nat.le_of_ble_eq_true rfl)⟩) ?_
  refine ro_call (va_runS (As := [.int (x_X9_power 4 p2), .int (x_X9_power p0 p1)]) (rest := []) ⟨hx, hb, hml, hown, hts⟩ (c_X9_by l D cI cZ cR _ (x_X9_power 4 p2) (x_X9_power p0 p1)) (va_cwS 2 hts gX9_sOf_X9_by rfl rfl rfl hd_X9_by ⟨(Nat.le_of_ble_eq_true rfl), (Nat.le_of_ble_eq_true rfl)⟩) (po_pre hAM va_P.nil) rfl rfl hl.1 rfl (lv_room (Nat.le_of_ble_eq_true rfl)) dX9_sOf_10 ⟨(Nat.le_of_ble_eq_true rfl), (Nat.le_of_ble_eq_true rfl)⟩) ?_
  exact w_iret hx hb hr hlocks hE dX9_sOf_13

theorem hd_X9_isVoter : yX9_isVoter.cls ≠ "java/lang/invoke/MethodHandle" ∧ yX9_isVoter.cls ≠ "java/lang/invoke/VarHandle" ∧ (parseMethodDescriptor yX9_isVoter.desc).map (fun d => d.parameters.length) = some 1 := by decide +kernel
def x_X9_isVoter (p0 : Int32) : Bool := (x_X9_in p0 0 11)
def rm_X9_isVoter : Room := { frames := 1, cells := 0, slots := 0, locals := 22 }
set_option maxHeartbeats 4000000 in
set_option maxRecDepth 100000 in
theorem c_X9_isVoter (l : Launch) (D : va_G) (cI cZ cR : ClassId) (H0 : Heap) (p0 : Int32) : Met l yX9_isVoter wsX9_isVoter rm_X9_isVoter (po_P D cI cZ cR [.int p0] [] H0) (po_Q (some (.int (bI (x_X9_isVoter p0)))) H0) 0 0 nF := by
  refine Met.ofW (cc := cX9_isVoter) (maxL := 1) (ret := (some .boolean)) (by decide +kernel) rfl ?_
  intro p e s m args below meth c s₁ B hml hv
  obtain ⟨rfl, rfl, hAM, hP⟩ := hv
  have hx := B.exec
  have hb := B.bytes
  have hr := B.returns
  have hts := atoms_spec (ws := wsX9_isVoter) B.pre
  have hown : s.vm.findClass RX9 = some m.cls := findClass_of_methodNamed B.named
  have hlocks := B.notSynchronized
  have hK := hAM.1
  generalize hE : (x_X9_isVoter p0) = Rv
  rw [x_X9_isVoter] at hE
  have hl := lv_entry ([.int p0]) (n := 1) (Nat.le_of_ble_eq_true rfl)
  rw [lg_entry_eq]
  generalize (lg_sl ([.int p0]) ++ List.replicate (1 - (lg_sl ([.int p0])).length) Slot.unset).toArray = ls at hl ⊢
  have hl : lv_has ls 1 [(0, .int p0)] := hl
  refine lv_iload_n hx hb dX9_isVoter_0 rfl (lv_at hl 0 rfl) ?_
  refine lv_iconst (v := 0) hx hb dX9_isVoter_1 (by decide) ?_
  refine lv_bipush (v := 11) hx hb dX9_isVoter_2 (by decide +kernel) ?_
  refine ro_call (va_runS (As := [.int p0, .int 0, .int 11]) (rest := []) ⟨hx, hb, hml, hown, hts⟩ (c_X9_in l D cI cZ cR _ p0 0 11) (va_cwS 3 hts gX9_isVoter_X9_in rfl rfl rfl hd_X9_in ⟨(Nat.le_of_ble_eq_true rfl), (Nat.le_of_ble_eq_true rfl)⟩) (po_pre hAM va_P.nil) rfl rfl hl.1 rfl (lv_room (Nat.le_of_ble_eq_true rfl)) dX9_isVoter_4 ⟨(Nat.le_of_ble_eq_true rfl), (Nat.le_of_ble_eq_true rfl)⟩) ?_
  exact w_zret (v := (x_X9_in p0 0 11)) hx hb hr hlocks hE dX9_isVoter_7

theorem hd_X9_isHour : yX9_isHour.cls ≠ "java/lang/invoke/MethodHandle" ∧ yX9_isHour.cls ≠ "java/lang/invoke/VarHandle" ∧ (parseMethodDescriptor yX9_isHour.desc).map (fun d => d.parameters.length) = some 1 := by decide +kernel
def x_X9_isHour (p0 : Int32) : Bool := (x_X9_in p0 0 999)
def rm_X9_isHour : Room := { frames := 1, cells := 0, slots := 0, locals := 22 }
set_option maxHeartbeats 4000000 in
set_option maxRecDepth 100000 in
theorem c_X9_isHour (l : Launch) (D : va_G) (cI cZ cR : ClassId) (H0 : Heap) (p0 : Int32) : Met l yX9_isHour wsX9_isHour rm_X9_isHour (po_P D cI cZ cR [.int p0] [] H0) (po_Q (some (.int (bI (x_X9_isHour p0)))) H0) 0 0 nF := by
  refine Met.ofW (cc := cX9_isHour) (maxL := 1) (ret := (some .boolean)) (by decide +kernel) rfl ?_
  intro p e s m args below meth c s₁ B hml hv
  obtain ⟨rfl, rfl, hAM, hP⟩ := hv
  have hx := B.exec
  have hb := B.bytes
  have hr := B.returns
  have hts := atoms_spec (ws := wsX9_isHour) B.pre
  have hown : s.vm.findClass RX9 = some m.cls := findClass_of_methodNamed B.named
  have hlocks := B.notSynchronized
  have hK := hAM.1
  generalize hE : (x_X9_isHour p0) = Rv
  rw [x_X9_isHour] at hE
  have hl := lv_entry ([.int p0]) (n := 1) (Nat.le_of_ble_eq_true rfl)
  rw [lg_entry_eq]
  generalize (lg_sl ([.int p0]) ++ List.replicate (1 - (lg_sl ([.int p0])).length) Slot.unset).toArray = ls at hl ⊢
  have hl : lv_has ls 1 [(0, .int p0)] := hl
  refine lv_iload_n hx hb dX9_isHour_0 rfl (lv_at hl 0 rfl) ?_
  refine lv_iconst (v := 0) hx hb dX9_isHour_1 (by decide) ?_
  refine lv_sipush (v := 999) hx hb dX9_isHour_2 (by decide +kernel) ?_
  refine ro_call (va_runS (As := [.int p0, .int 0, .int 999]) (rest := []) ⟨hx, hb, hml, hown, hts⟩ (c_X9_in l D cI cZ cR _ p0 0 999) (va_cwS 3 hts gX9_isHour_X9_in rfl rfl rfl hd_X9_in ⟨(Nat.le_of_ble_eq_true rfl), (Nat.le_of_ble_eq_true rfl)⟩) (po_pre hAM va_P.nil) rfl rfl hl.1 rfl (lv_room (Nat.le_of_ble_eq_true rfl)) dX9_isHour_5 ⟨(Nat.le_of_ble_eq_true rfl), (Nat.le_of_ble_eq_true rfl)⟩) ?_
  exact w_zret (v := (x_X9_in p0 0 999)) hx hb hr hlocks hE dX9_isHour_8

theorem hd_X9_isTold : yX9_isTold.cls ≠ "java/lang/invoke/MethodHandle" ∧ yX9_isTold.cls ≠ "java/lang/invoke/VarHandle" ∧ (parseMethodDescriptor yX9_isTold.desc).map (fun d => d.parameters.length) = some 1 := by decide +kernel
def x_X9_isTold (p0 : Int32) : Bool := (x_X9_in p0 0 1000000)
def rm_X9_isTold : Room := { frames := 1, cells := 0, slots := 0, locals := 22 }
set_option maxHeartbeats 4000000 in
set_option maxRecDepth 100000 in
theorem c_X9_isTold (l : Launch) (D : va_G) (cI cZ cR : ClassId) (H0 : Heap) (p0 : Int32) : Met l yX9_isTold wsX9_isTold rm_X9_isTold (po_P D cI cZ cR [.int p0] [] H0) (po_Q (some (.int (bI (x_X9_isTold p0)))) H0) 0 0 nF := by
  refine Met.ofW (cc := cX9_isTold) (maxL := 1) (ret := (some .boolean)) (by decide +kernel) rfl ?_
  intro p e s m args below meth c s₁ B hml hv
  obtain ⟨rfl, rfl, hAM, hP⟩ := hv
  have hx := B.exec
  have hb := B.bytes
  have hr := B.returns
  have hts := atoms_spec (ws := wsX9_isTold) B.pre
  have hown : s.vm.findClass RX9 = some m.cls := findClass_of_methodNamed B.named
  have hlocks := B.notSynchronized
  have hK := hAM.1
  generalize hE : (x_X9_isTold p0) = Rv
  rw [x_X9_isTold] at hE
  have hl := lv_entry ([.int p0]) (n := 1) (Nat.le_of_ble_eq_true rfl)
  rw [lg_entry_eq]
  generalize (lg_sl ([.int p0]) ++ List.replicate (1 - (lg_sl ([.int p0])).length) Slot.unset).toArray = ls at hl ⊢
  have hl : lv_has ls 1 [(0, .int p0)] := hl
  refine lv_iload_n hx hb dX9_isTold_0 rfl (lv_at hl 0 rfl) ?_
  refine lv_iconst (v := 0) hx hb dX9_isTold_1 (by decide) ?_
  refine lv_ldc hx hb hown (hts (.constant RX9 147 (1000000)) (List.mem_of_getElem? (i := 1) rfl)) dX9_isTold_2 ?_
  refine ro_call (va_runS (As := [.int p0, .int 0, .int 1000000]) (rest := []) ⟨hx, hb, hml, hown, hts⟩ (c_X9_in l D cI cZ cR _ p0 0 1000000) (va_cwS 3 hts gX9_isTold_X9_in rfl rfl rfl hd_X9_in ⟨(Nat.le_of_ble_eq_true rfl), (Nat.le_of_ble_eq_true rfl)⟩) (po_pre hAM va_P.nil) rfl rfl hl.1 rfl (lv_room (Nat.le_of_ble_eq_true rfl)) dX9_isTold_4 ⟨(Nat.le_of_ble_eq_true rfl), (Nat.le_of_ble_eq_true rfl)⟩) ?_
  exact w_zret (v := (x_X9_in p0 0 1000000)) hx hb hr hlocks hE dX9_isTold_7

theorem hd_X9_choose : yX9_choose.cls ≠ "java/lang/invoke/MethodHandle" ∧ yX9_choose.cls ≠ "java/lang/invoke/VarHandle" ∧ (parseMethodDescriptor yX9_choose.desc).map (fun d => d.parameters.length) = some 2 := by decide +kernel
def x_X9_choose_J0 (p0 : Int32) (p1 : Int32) : Int64 := (if p1 < 0 then 0 else (if p1 ≤ p0 then 1 else 0))
def x_X9_choose_L18 (p0 : Int32) (p1 : Int32) : Nat → Int64 → Int32 → Int64
  | 0, _, _ => 0
  | n + 1, v2, v4 => (if p1 ≤ v4 then v2 else (if v2 ≤ 0 then v2 else (x_X9_choose_L18 p0 p1 n ((v2 * (Int32.toInt64 (p0 - v4))) / (Int32.toInt64 (v4 + 1))) (v4 + 1))))
def x_X9_choose (p0 : Int32) (p1 : Int32) : Int64 := (x_X9_choose_L18 p0 p1 (ix p1 + 1) (x_X9_choose_J0 p0 p1) 0)
def rm_X9_choose : Room := { frames := 0, cells := 0, slots := 0, locals := 0 }
set_option maxHeartbeats 4000000 in
set_option maxRecDepth 100000 in
theorem c_X9_choose (l : Launch) (D : va_G) (cI cZ cR : ClassId) (H0 : Heap) (p0 : Int32) (p1 : Int32) : Met l yX9_choose wsX9_choose rm_X9_choose (po_P D cI cZ cR [.int p0, .int p1] [] H0) (po_Q (some (.long (x_X9_choose p0 p1))) H0) 0 0 nF := by
  refine Met.ofW (cc := cX9_choose) (maxL := 5) (ret := (some .long)) (by decide +kernel) rfl ?_
  intro p e s m args below meth c s₁ B hml hv
  obtain ⟨rfl, rfl, hAM, hP⟩ := hv
  have hx := B.exec
  have hb := B.bytes
  have hr := B.returns
  have hts := atoms_spec (ws := wsX9_choose) B.pre
  have hown : s.vm.findClass RX9 = some m.cls := findClass_of_methodNamed B.named
  have hlocks := B.notSynchronized
  have hK := hAM.1
  generalize hE : (x_X9_choose p0 p1) = Rv
  rw [x_X9_choose] at hE
  have hl := lv_entry ([.int p0, .int p1]) (n := 5) (Nat.le_of_ble_eq_true rfl)
  rw [lg_entry_eq]
  generalize (lg_sl ([.int p0, .int p1]) ++ List.replicate (5 - (lg_sl ([.int p0, .int p1])).length) Slot.unset).toArray = ls at hl ⊢
  have hl : lv_has ls 5 [(0, .int p0), (1, .int p1)] := hl
  have j0 : W p l e (headSpec wsX9_choose rm_X9_choose).room s m ([.int p0, .int p1] : List Value).toArray below meth c s.heap [] 0 0 (MQ below (po_Q (some (.long Rv)) s.heap) ([.int p0, .int p1] : List Value).toArray s 0 0 nF) (F0 m 14 ls [.long (x_X9_choose_J0 p0 p1)]) → W p l e (headSpec wsX9_choose rm_X9_choose).room s m ([.int p0, .int p1] : List Value).toArray below meth c s.heap [] 0 0 (MQ below (po_Q (some (.long Rv)) s.heap) ([.int p0, .int p1] : List Value).toArray s 0 0 nF) (F0 m 0 ls []) := by
    intro k0
    generalize hJ0 : (x_X9_choose_J0 p0 p1) = v0 at k0
    rw [x_X9_choose_J0] at hJ0
    refine lv_iload_n hx hb dX9_choose_0 rfl (lv_at hl 1 rfl) ?_
    refine lv_if_lt (tgt := 9) hx hb dX9_choose_1 (by decide) (fun c_1 => ?_) (fun c_1 => ?_)
    · have hJ0 := itT hJ0 c_1
      refine lv_lconst (v := 0) hx hb dX9_choose_9 (by decide +kernel) ?_
      refine lv_goto (tgt := 14) hx hb dX9_choose_10 (by decide) ?_
      subst hJ0
      exact k0
    · have hJ0 := itF hJ0 c_1
      refine lv_iload_n hx hb dX9_choose_4 rfl (lv_at hl 1 rfl) ?_
      refine lv_iload_n hx hb dX9_choose_5 rfl (lv_at hl 0 rfl) ?_
      refine lv_icmp_le (tgt := 13) hx hb dX9_choose_6 (by decide) (fun c_6 => ?_) (fun c_6 => ?_)
      · have hJ0 := itT hJ0 c_6
        refine lv_lconst (v := 1) hx hb dX9_choose_13 (by decide +kernel) ?_
        subst hJ0
        exact k0
      · have hJ0 := itF hJ0 c_6
        refine lv_lconst (v := 0) hx hb dX9_choose_9 (by decide +kernel) ?_
        refine lv_goto (tgt := 14) hx hb dX9_choose_10 (by decide) ?_
        subst hJ0
        exact k0
  refine j0 ?_
  refine lv_lstore_n (lv' := [(2, .long (x_X9_choose_J0 p0 p1)), (0, .int p0), (1, .int p1)]) hx hb dX9_choose_14 rfl hl (by decide) rfl (fun ls hl => ?_)
  refine lv_iconst (v := 0) hx hb dX9_choose_15 (by decide) ?_
  refine lv_istore (lv' := [(4, .int 0), (2, .long (x_X9_choose_J0 p0 p1)), (0, .int p0), (1, .int p1)]) hx hb dX9_choose_16 hl (by decide) rfl (fun ls hl => ?_)
  suffices loop : ∀ (n : Nat) (v2 : Int64) (v4 : Int32), (UP 0 (ix p1) n v4) → x_X9_choose_L18 p0 p1 n v2 v4 = Rv → ∀ ls : Array Slot, lv_has ls 5 [(4, .int v4), (2, .long v2), (0, .int p0), (1, .int p1)] → W p l e (headSpec wsX9_choose rm_X9_choose).room s m ([.int p0, .int p1] : List Value).toArray below meth c s.heap [] 0 0 (MQ below (po_Q (some (.long Rv)) s.heap) ([.int p0, .int p1] : List Value).toArray s 0 0 nF) (F0 m 18 ls []) from
    loop (ix p1 + 1) (x_X9_choose_J0 p0 p1) 0 (UP.start 0 (by omega) (by omega)) hE ls (lv_sub hl [0, 1, 2, 3] rfl)
  clear hE hl ls
  intro n
  induction n with
  | zero =>
    intro v2 v4 hI _ _ _
    exact absurd hI (UP.zero)
  | succ n ih =>
    intro v2 v4 hI hE ls hl
    rw [x_X9_choose_L18] at hE
    refine lv_iload hx hb dX9_choose_18 (lv_at hl 0 rfl) ?_
    refine lv_iload_n hx hb dX9_choose_20 rfl (lv_at hl 3 rfl) ?_
    refine lv_icmp_ge (tgt := 50) hx hb dX9_choose_21 (by decide) (fun c_21 => ?_) (fun c_21 => ?_)
    · have hE := itT hE c_21
      refine lv_lload_n hx hb dX9_choose_50 rfl (lv_at hl 1 rfl) ?_
      exact w_lret hx hb hr hlocks hE dX9_choose_51
    · have hE := itF hE c_21
      refine lv_lload_n hx hb dX9_choose_24 rfl (lv_at hl 1 rfl) ?_
      refine lv_lconst (v := 0) hx hb dX9_choose_25 (by decide +kernel) ?_
      refine w_lcmp_le (tgt := 50) hx hb dX9_choose_26 dX9_choose_27 (by decide) (fun c_26 => ?_) (fun c_26 => ?_)
      · have hE := itT hE c_26
        refine lv_lload_n hx hb dX9_choose_50 rfl (lv_at hl 1 rfl) ?_
        exact w_lret hx hb hr hlocks hE dX9_choose_51
      · have hE := itF hE c_26
        refine lv_lload_n hx hb dX9_choose_30 rfl (lv_at hl 1 rfl) ?_
        refine lv_iload_n hx hb dX9_choose_31 rfl (lv_at hl 2 rfl) ?_
        refine lv_iload hx hb dX9_choose_32 (lv_at hl 0 rfl) ?_
        refine lv_isub hx hb dX9_choose_34 ?_
        refine lv_i2l hx hb dX9_choose_35 rfl ?_
        refine lv_lmul hx hb dX9_choose_36 ?_
        refine lv_iload hx hb dX9_choose_37 (lv_at hl 0 rfl) ?_
        refine lv_iconst (v := 1) hx hb dX9_choose_39 (by decide) ?_
        refine lv_iadd hx hb dX9_choose_40 ?_
        refine lv_i2l hx hb dX9_choose_41 rfl ?_
        refine lv_ldiv hx hb dX9_choose_42 (up_neL1 (hI.gex c_21).2) ?_
        refine lv_lstore_n (lv' := [(2, .long ((v2 * (Int32.toInt64 (p0 - v4))) / (Int32.toInt64 (v4 + 1)))), (4, .int v4), (0, .int p0), (1, .int p1)]) hx hb dX9_choose_43 rfl hl (by decide) rfl (fun ls hl => ?_)
        refine lv_iinc (v := (v4 + 1)) (lv' := [(4, .int (v4 + 1)), (2, .long ((v2 * (Int32.toInt64 (p0 - v4))) / (Int32.toInt64 (v4 + 1)))), (0, .int p0), (1, .int p1)]) hx hb dX9_choose_44 hl (k := 1) rfl rfl (by decide) rfl (fun ls hl => ?_)
        refine lv_goto (tgt := 18) hx hb dX9_choose_47 (by decide) ?_
        exact ih ((v2 * (Int32.toInt64 (p0 - v4))) / (Int32.toInt64 (v4 + 1))) (v4 + 1) ((hI.gex c_21).1) hE ls (lv_sub hl [0, 1, 2, 3] rfl)

theorem hd_X9_term : yX9_term.cls ≠ "java/lang/invoke/MethodHandle" ∧ yX9_term.cls ≠ "java/lang/invoke/VarHandle" ∧ (parseMethodDescriptor yX9_term.desc).map (fun d => d.parameters.length) = some 3 := by decide +kernel
def x_X9_term_L6 (p0 : Int64) (p1 : Int64) (p2 : Int32) : Nat → Int64 → Int64 → Int64
  | 0, _, _ => 0
  | n + 1, v5, v7 => (if v7 = 0 then (if p2 = 0 then (p0 / v5) else (p1 / v5)) else (x_X9_term_L6 p0 p1 p2 n v7 (xRemL v5 v7)))
def x_X9_term (p0 : Int64) (p1 : Int64) (p2 : Int32) : Int64 := (x_X9_term_L6 p0 p1 p2 (p1.toInt.toNat + 1) p0 p1)
def rm_X9_term : Room := { frames := 0, cells := 0, slots := 0, locals := 0 }
set_option maxHeartbeats 4000000 in
set_option maxRecDepth 100000 in
theorem c_X9_term (l : Launch) (D : va_G) (cI cZ cR : ClassId) (H0 : Heap) (p0 : Int64) (p1 : Int64) (p2 : Int32) (ht : TM p0 p1) : Met l yX9_term wsX9_term rm_X9_term (po_P D cI cZ cR [.long p0, .long p1, .int p2] [] H0) (po_Q (some (.long (x_X9_term p0 p1 p2))) H0) 0 0 nF := by
  refine Met.ofW (cc := cX9_term) (maxL := 11) (ret := (some .long)) (by decide +kernel) rfl ?_
  intro p e s m args below meth c s₁ B hml hv
  obtain ⟨rfl, rfl, hAM, hP⟩ := hv
  have hx := B.exec
  have hb := B.bytes
  have hr := B.returns
  have hts := atoms_spec (ws := wsX9_term) B.pre
  have hown : s.vm.findClass RX9 = some m.cls := findClass_of_methodNamed B.named
  have hlocks := B.notSynchronized
  have hK := hAM.1
  generalize hE : (x_X9_term p0 p1 p2) = Rv
  rw [x_X9_term] at hE
  have hl := lv_entry ([.long p0, .long p1, .int p2]) (n := 11) (Nat.le_of_ble_eq_true rfl)
  rw [lg_entry_eq]
  generalize (lg_sl ([.long p0, .long p1, .int p2]) ++ List.replicate (11 - (lg_sl ([.long p0, .long p1, .int p2])).length) Slot.unset).toArray = ls at hl ⊢
  have hl : lv_has ls 11 [(0, .long p0), (2, .long p1), (4, .int p2)] := hl
  refine lv_lload_n hx hb dX9_term_0 rfl (lv_at hl 0 rfl) ?_
  refine lv_lstore (lv' := [(5, .long p0), (0, .long p0), (2, .long p1), (4, .int p2)]) hx hb dX9_term_1 hl (by decide) rfl (fun ls hl => ?_)
  refine lv_lload_n hx hb dX9_term_3 rfl (lv_at hl 2 rfl) ?_
  refine lv_lstore (lv' := [(7, .long p1), (5, .long p0), (0, .long p0), (2, .long p1), (4, .int p2)]) hx hb dX9_term_4 hl (by decide) rfl (fun ls hl => ?_)
  suffices loop : ∀ (n : Nat) (v5 : Int64) (v7 : Int64), (TN n v5 v7) → x_X9_term_L6 p0 p1 p2 n v5 v7 = Rv → ∀ ls : Array Slot, lv_has ls 11 [(0, .long p0), (2, .long p1), (4, .int p2), (5, .long v5), (7, .long v7)] → W p l e (headSpec wsX9_term rm_X9_term).room s m ([.long p0, .long p1, .int p2] : List Value).toArray below meth c s.heap [] 0 0 (MQ below (po_Q (some (.long Rv)) s.heap) ([.long p0, .long p1, .int p2] : List Value).toArray s 0 0 nF) (F0 m 6 ls []) from
    loop (p1.toInt.toNat + 1) p0 p1 (ht.start) hE ls (lv_sub hl [2, 3, 4, 1, 0] rfl)
  clear hE hl ls
  intro n
  induction n with
  | zero =>
    intro v5 v7 hI _ _ _
    exact absurd hI (TN.zero)
  | succ n ih =>
    intro v5 v7 hI hE ls hl
    rw [x_X9_term_L6] at hE
    refine lv_lload hx hb dX9_term_6 (lv_at hl 4 rfl) ?_
    refine lv_lconst (v := 0) hx hb dX9_term_8 (by decide +kernel) ?_
    refine w_lcmp_eq (tgt := 31) hx hb dX9_term_9 dX9_term_10 (by decide) (fun c_9 => ?_) (fun c_9 => ?_)
    · have hE := itT hE c_9
      refine lv_iload hx hb dX9_term_31 (lv_at hl 2 rfl) ?_
      refine lv_if_ne (tgt := 43) hx hb dX9_term_33 (by decide) (fun c_33 => ?_) (fun c_33 => ?_)
      · have hE := itF hE c_33
        refine lv_lload_n hx hb dX9_term_43 rfl (lv_at hl 1 rfl) ?_
        refine lv_lload hx hb dX9_term_44 (lv_at hl 3 rfl) ?_
        refine lv_ldiv hx hb dX9_term_46 (hI.ne c_9) ?_
        exact w_lret hx hb hr hlocks hE dX9_term_47
      · have hE := itT hE c_33
        refine lv_lload_n hx hb dX9_term_36 rfl (lv_at hl 0 rfl) ?_
        refine lv_lload hx hb dX9_term_37 (lv_at hl 3 rfl) ?_
        refine lv_ldiv hx hb dX9_term_39 (hI.ne c_9) ?_
        refine lv_goto (tgt := 47) hx hb dX9_term_40 (by decide) ?_
        exact w_lret hx hb hr hlocks hE dX9_term_47
    · have hE := itF hE c_9
      refine lv_lload hx hb dX9_term_13 (lv_at hl 3 rfl) ?_
      refine lv_lload hx hb dX9_term_15 (lv_at hl 4 rfl) ?_
      refine w_lrem hx hb dX9_term_17 c_9 ?_
      refine lv_lstore (lv' := [(9, .long (xRemL v5 v7)), (0, .long p0), (2, .long p1), (4, .int p2), (5, .long v5), (7, .long v7)]) hx hb dX9_term_18 hl (by decide) rfl (fun ls hl => ?_)
      refine lv_lload hx hb dX9_term_20 (lv_at hl 5 rfl) ?_
      refine lv_lstore (lv' := [(5, .long v7), (9, .long (xRemL v5 v7)), (0, .long p0), (2, .long p1), (4, .int p2), (7, .long v7)]) hx hb dX9_term_22 hl (by decide) rfl (fun ls hl => ?_)
      refine lv_lload hx hb dX9_term_24 (lv_at hl 1 rfl) ?_
      refine lv_lstore (lv' := [(7, .long (xRemL v5 v7)), (5, .long v7), (9, .long (xRemL v5 v7)), (0, .long p0), (2, .long p1), (4, .int p2)]) hx hb dX9_term_26 hl (by decide) rfl (fun ls hl => ?_)
      refine lv_goto (tgt := 6) hx hb dX9_term_28 (by decide) ?_
      exact ih v7 (xRemL v5 v7) (hI.step c_9) hE ls (lv_sub hl [3, 4, 5, 1, 0] rfl)

theorem hd_X9_isBooth : yX9_isBooth.cls ≠ "java/lang/invoke/MethodHandle" ∧ yX9_isBooth.cls ≠ "java/lang/invoke/VarHandle" ∧ (parseMethodDescriptor yX9_isBooth.desc).map (fun d => d.parameters.length) = some 2 := by decide +kernel
def x_X9_isBooth (p0 : Int32) (p1 : Int32) : Bool := (if (x_X9_in p0 1 40) = true then (if (x_X9_in p1 0 p0) = true then true else false) else false)
def rm_X9_isBooth : Room := { frames := 1, cells := 0, slots := 0, locals := 22 }
set_option maxHeartbeats 4000000 in
set_option maxRecDepth 100000 in
theorem c_X9_isBooth (l : Launch) (D : va_G) (cI cZ cR : ClassId) (H0 : Heap) (p0 : Int32) (p1 : Int32) : Met l yX9_isBooth wsX9_isBooth rm_X9_isBooth (po_P D cI cZ cR [.int p0, .int p1] [] H0) (po_Q (some (.int (bI (x_X9_isBooth p0 p1)))) H0) 0 0 nF := by
  refine Met.ofW (cc := cX9_isBooth) (maxL := 2) (ret := (some .boolean)) (by decide +kernel) rfl ?_
  intro p e s m args below meth c s₁ B hml hv
  obtain ⟨rfl, rfl, hAM, hP⟩ := hv
  have hx := B.exec
  have hb := B.bytes
  have hr := B.returns
  have hts := atoms_spec (ws := wsX9_isBooth) B.pre
  have hown : s.vm.findClass RX9 = some m.cls := findClass_of_methodNamed B.named
  have hlocks := B.notSynchronized
  have hK := hAM.1
  generalize hE : (x_X9_isBooth p0 p1) = Rv
  rw [x_X9_isBooth] at hE
  have hl := lv_entry ([.int p0, .int p1]) (n := 2) (Nat.le_of_ble_eq_true rfl)
  rw [lg_entry_eq]
  generalize (lg_sl ([.int p0, .int p1]) ++ List.replicate (2 - (lg_sl ([.int p0, .int p1])).length) Slot.unset).toArray = ls at hl ⊢
  have hl : lv_has ls 2 [(0, .int p0), (1, .int p1)] := hl
  refine lv_iload_n hx hb dX9_isBooth_0 rfl (lv_at hl 0 rfl) ?_
  refine lv_iconst (v := 1) hx hb dX9_isBooth_1 (by decide) ?_
  refine lv_bipush (v := 40) hx hb dX9_isBooth_2 (by decide +kernel) ?_
  refine ro_call (va_runS (As := [.int p0, .int 1, .int 40]) (rest := []) ⟨hx, hb, hml, hown, hts⟩ (c_X9_in l D cI cZ cR _ p0 1 40) (va_cwS 3 hts gX9_isBooth_X9_in rfl rfl rfl hd_X9_in ⟨(Nat.le_of_ble_eq_true rfl), (Nat.le_of_ble_eq_true rfl)⟩) (po_pre hAM va_P.nil) rfl rfl hl.1 rfl (lv_room (Nat.le_of_ble_eq_true rfl)) dX9_isBooth_4 ⟨(Nat.le_of_ble_eq_true rfl), (Nat.le_of_ble_eq_true rfl)⟩) ?_
  refine w_if_eqb (tgt := 23) hx hb dX9_isBooth_7 (by decide) (fun c_7 => ?_) (fun c_7 => ?_)
  · have hE := itF hE c_7
    refine lv_iconst (v := 0) hx hb dX9_isBooth_23 (by decide) ?_
    exact w_zret (v := false) hx hb hr hlocks hE dX9_isBooth_24
  · have hE := itT hE c_7
    refine lv_iload_n hx hb dX9_isBooth_10 rfl (lv_at hl 1 rfl) ?_
    refine lv_iconst (v := 0) hx hb dX9_isBooth_11 (by decide) ?_
    refine lv_iload_n hx hb dX9_isBooth_12 rfl (lv_at hl 0 rfl) ?_
    refine ro_call (va_runS (As := [.int p1, .int 0, .int p0]) (rest := []) ⟨hx, hb, hml, hown, hts⟩ (c_X9_in l D cI cZ cR _ p1 0 p0) (va_cwS 3 hts gX9_isBooth_X9_in rfl rfl rfl hd_X9_in ⟨(Nat.le_of_ble_eq_true rfl), (Nat.le_of_ble_eq_true rfl)⟩) (po_pre hAM va_P.nil) rfl rfl hl.1 rfl (lv_room (Nat.le_of_ble_eq_true rfl)) dX9_isBooth_13 ⟨(Nat.le_of_ble_eq_true rfl), (Nat.le_of_ble_eq_true rfl)⟩) ?_
    refine w_if_eqb (tgt := 23) hx hb dX9_isBooth_16 (by decide) (fun c_16 => ?_) (fun c_16 => ?_)
    · have hE := itF hE c_16
      refine lv_iconst (v := 0) hx hb dX9_isBooth_23 (by decide) ?_
      exact w_zret (v := false) hx hb hr hlocks hE dX9_isBooth_24
    · have hE := itT hE c_16
      refine lv_iconst (v := 1) hx hb dX9_isBooth_19 (by decide) ?_
      refine lv_goto (tgt := 24) hx hb dX9_isBooth_20 (by decide) ?_
      exact w_zret (v := true) hx hb hr hlocks hE dX9_isBooth_24

theorem hd_X9_isAll : yX9_isAll.cls ≠ "java/lang/invoke/MethodHandle" ∧ yX9_isAll.cls ≠ "java/lang/invoke/VarHandle" ∧ (parseMethodDescriptor yX9_isAll.desc).map (fun d => d.parameters.length) = some 1 := by decide +kernel
def x_X9_isAll (p0 : Int32) : Bool := (x_X9_in p0 2 40)
def rm_X9_isAll : Room := { frames := 1, cells := 0, slots := 0, locals := 22 }
set_option maxHeartbeats 4000000 in
set_option maxRecDepth 100000 in
theorem c_X9_isAll (l : Launch) (D : va_G) (cI cZ cR : ClassId) (H0 : Heap) (p0 : Int32) : Met l yX9_isAll wsX9_isAll rm_X9_isAll (po_P D cI cZ cR [.int p0] [] H0) (po_Q (some (.int (bI (x_X9_isAll p0)))) H0) 0 0 nF := by
  refine Met.ofW (cc := cX9_isAll) (maxL := 1) (ret := (some .boolean)) (by decide +kernel) rfl ?_
  intro p e s m args below meth c s₁ B hml hv
  obtain ⟨rfl, rfl, hAM, hP⟩ := hv
  have hx := B.exec
  have hb := B.bytes
  have hr := B.returns
  have hts := atoms_spec (ws := wsX9_isAll) B.pre
  have hown : s.vm.findClass RX9 = some m.cls := findClass_of_methodNamed B.named
  have hlocks := B.notSynchronized
  have hK := hAM.1
  generalize hE : (x_X9_isAll p0) = Rv
  rw [x_X9_isAll] at hE
  have hl := lv_entry ([.int p0]) (n := 1) (Nat.le_of_ble_eq_true rfl)
  rw [lg_entry_eq]
  generalize (lg_sl ([.int p0]) ++ List.replicate (1 - (lg_sl ([.int p0])).length) Slot.unset).toArray = ls at hl ⊢
  have hl : lv_has ls 1 [(0, .int p0)] := hl
  refine lv_iload_n hx hb dX9_isAll_0 rfl (lv_at hl 0 rfl) ?_
  refine lv_iconst (v := 2) hx hb dX9_isAll_1 (by decide) ?_
  refine lv_bipush (v := 40) hx hb dX9_isAll_2 (by decide +kernel) ?_
  refine ro_call (va_runS (As := [.int p0, .int 2, .int 40]) (rest := []) ⟨hx, hb, hml, hown, hts⟩ (c_X9_in l D cI cZ cR _ p0 2 40) (va_cwS 3 hts gX9_isAll_X9_in rfl rfl rfl hd_X9_in ⟨(Nat.le_of_ble_eq_true rfl), (Nat.le_of_ble_eq_true rfl)⟩) (po_pre hAM va_P.nil) rfl rfl hl.1 rfl (lv_room (Nat.le_of_ble_eq_true rfl)) dX9_isAll_4 ⟨(Nat.le_of_ble_eq_true rfl), (Nat.le_of_ble_eq_true rfl)⟩) ?_
  exact w_zret (v := (x_X9_in p0 2 40)) hx hb hr hlocks hE dX9_isAll_7

theorem hd_X9_areSums : yX9_areSums.cls ≠ "java/lang/invoke/MethodHandle" ∧ yX9_areSums.cls ≠ "java/lang/invoke/VarHandle" ∧ (parseMethodDescriptor yX9_areSums.desc).map (fun d => d.parameters.length) = some 6 := by decide +kernel
def x_X9_areSums (p0 : Int32) (p1 : Int32) (p2 : Int32) (p3 : Int32) (p4 : Int32) (p5 : Int32) : Bool := (if (x_X9_in p0 0 8) = true then (if (x_X9_in p1 0 8) = true then (if (x_X9_in p2 0 8) = true then (if (x_X9_in ((p0 + p1) + p2) 1 8) = true then (if (x_X9_in p3 0 p0) = true then (if (x_X9_in p4 0 p1) = true then (if (x_X9_in p5 0 p2) = true then true else false) else false) else false) else false) else false) else false) else false)
def rm_X9_areSums : Room := { frames := 1, cells := 0, slots := 0, locals := 22 }
set_option maxHeartbeats 4000000 in
set_option maxRecDepth 100000 in
theorem c_X9_areSums (l : Launch) (D : va_G) (cI cZ cR : ClassId) (H0 : Heap) (p0 : Int32) (p1 : Int32) (p2 : Int32) (p3 : Int32) (p4 : Int32) (p5 : Int32) : Met l yX9_areSums wsX9_areSums rm_X9_areSums (po_P D cI cZ cR [.int p0, .int p1, .int p2, .int p3, .int p4, .int p5] [] H0) (po_Q (some (.int (bI (x_X9_areSums p0 p1 p2 p3 p4 p5)))) H0) 0 0 nF := by
  refine Met.ofW (cc := cX9_areSums) (maxL := 7) (ret := (some .boolean)) (by decide +kernel) rfl ?_
  intro p e s m args below meth c s₁ B hml hv
  obtain ⟨rfl, rfl, hAM, hP⟩ := hv
  have hx := B.exec
  have hb := B.bytes
  have hr := B.returns
  have hts := atoms_spec (ws := wsX9_areSums) B.pre
  have hown : s.vm.findClass RX9 = some m.cls := findClass_of_methodNamed B.named
  have hlocks := B.notSynchronized
  have hK := hAM.1
  generalize hE : (x_X9_areSums p0 p1 p2 p3 p4 p5) = Rv
  rw [x_X9_areSums] at hE
  have hl := lv_entry ([.int p0, .int p1, .int p2, .int p3, .int p4, .int p5]) (n := 7) (Nat.le_of_ble_eq_true rfl)
  rw [lg_entry_eq]
  generalize (lg_sl ([.int p0, .int p1, .int p2, .int p3, .int p4, .int p5]) ++ List.replicate (7 - (lg_sl ([.int p0, .int p1, .int p2, .int p3, .int p4, .int p5])).length) Slot.unset).toArray = ls at hl ⊢
  have hl : lv_has ls 7 [(0, .int p0), (1, .int p1), (2, .int p2), (3, .int p3), (4, .int p4), (5, .int p5)] := hl
  refine lv_iload_n hx hb dX9_areSums_0 rfl (lv_at hl 0 rfl) ?_
  refine lv_iconst (v := 0) hx hb dX9_areSums_1 (by decide) ?_
  refine lv_bipush (v := 8) hx hb dX9_areSums_2 (by decide +kernel) ?_
  refine ro_call (va_runS (As := [.int p0, .int 0, .int 8]) (rest := []) ⟨hx, hb, hml, hown, hts⟩ (c_X9_in l D cI cZ cR _ p0 0 8) (va_cwS 3 hts gX9_areSums_X9_in rfl rfl rfl hd_X9_in ⟨(Nat.le_of_ble_eq_true rfl), (Nat.le_of_ble_eq_true rfl)⟩) (po_pre hAM va_P.nil) rfl rfl hl.1 rfl (lv_room (Nat.le_of_ble_eq_true rfl)) dX9_areSums_4 ⟨(Nat.le_of_ble_eq_true rfl), (Nat.le_of_ble_eq_true rfl)⟩) ?_
  refine w_if_eqb (tgt := 48) hx hb dX9_areSums_7 (by decide) (fun c_7 => ?_) (fun c_7 => ?_)
  · have hE := itF hE c_7
    refine lv_iconst (v := 0) hx hb dX9_areSums_48 (by decide) ?_
    refine lv_istore (lv' := [(6, .int 0), (0, .int p0), (1, .int p1), (2, .int p2), (3, .int p3), (4, .int p4), (5, .int p5)]) hx hb dX9_areSums_49 hl (by decide) rfl (fun ls hl => ?_)
    refine lv_iload hx hb dX9_areSums_51 (lv_at hl 0 rfl) ?_
    refine lv_if_eq (tgt := 89) hx hb dX9_areSums_53 (by decide) (fun _ => ?_) (fun h9 => absurd h9 (by decide +kernel))
    refine lv_iconst (v := 0) hx hb dX9_areSums_89 (by decide) ?_
    exact w_zret (v := false) hx hb hr hlocks hE dX9_areSums_90
  · have hE := itT hE c_7
    refine lv_iload_n hx hb dX9_areSums_10 rfl (lv_at hl 1 rfl) ?_
    refine lv_iconst (v := 0) hx hb dX9_areSums_11 (by decide) ?_
    refine lv_bipush (v := 8) hx hb dX9_areSums_12 (by decide +kernel) ?_
    refine ro_call (va_runS (As := [.int p1, .int 0, .int 8]) (rest := []) ⟨hx, hb, hml, hown, hts⟩ (c_X9_in l D cI cZ cR _ p1 0 8) (va_cwS 3 hts gX9_areSums_X9_in rfl rfl rfl hd_X9_in ⟨(Nat.le_of_ble_eq_true rfl), (Nat.le_of_ble_eq_true rfl)⟩) (po_pre hAM va_P.nil) rfl rfl hl.1 rfl (lv_room (Nat.le_of_ble_eq_true rfl)) dX9_areSums_14 ⟨(Nat.le_of_ble_eq_true rfl), (Nat.le_of_ble_eq_true rfl)⟩) ?_
    refine w_if_eqb (tgt := 48) hx hb dX9_areSums_17 (by decide) (fun c_17 => ?_) (fun c_17 => ?_)
    · have hE := itF hE c_17
      refine lv_iconst (v := 0) hx hb dX9_areSums_48 (by decide) ?_
      refine lv_istore (lv' := [(6, .int 0), (0, .int p0), (1, .int p1), (2, .int p2), (3, .int p3), (4, .int p4), (5, .int p5)]) hx hb dX9_areSums_49 hl (by decide) rfl (fun ls hl => ?_)
      refine lv_iload hx hb dX9_areSums_51 (lv_at hl 0 rfl) ?_
      refine lv_if_eq (tgt := 89) hx hb dX9_areSums_53 (by decide) (fun _ => ?_) (fun h9 => absurd h9 (by decide +kernel))
      refine lv_iconst (v := 0) hx hb dX9_areSums_89 (by decide) ?_
      exact w_zret (v := false) hx hb hr hlocks hE dX9_areSums_90
    · have hE := itT hE c_17
      refine lv_iload_n hx hb dX9_areSums_20 rfl (lv_at hl 2 rfl) ?_
      refine lv_iconst (v := 0) hx hb dX9_areSums_21 (by decide) ?_
      refine lv_bipush (v := 8) hx hb dX9_areSums_22 (by decide +kernel) ?_
      refine ro_call (va_runS (As := [.int p2, .int 0, .int 8]) (rest := []) ⟨hx, hb, hml, hown, hts⟩ (c_X9_in l D cI cZ cR _ p2 0 8) (va_cwS 3 hts gX9_areSums_X9_in rfl rfl rfl hd_X9_in ⟨(Nat.le_of_ble_eq_true rfl), (Nat.le_of_ble_eq_true rfl)⟩) (po_pre hAM va_P.nil) rfl rfl hl.1 rfl (lv_room (Nat.le_of_ble_eq_true rfl)) dX9_areSums_24 ⟨(Nat.le_of_ble_eq_true rfl), (Nat.le_of_ble_eq_true rfl)⟩) ?_
      refine w_if_eqb (tgt := 48) hx hb dX9_areSums_27 (by decide) (fun c_27 => ?_) (fun c_27 => ?_)
      · have hE := itF hE c_27
        refine lv_iconst (v := 0) hx hb dX9_areSums_48 (by decide) ?_
        refine lv_istore (lv' := [(6, .int 0), (0, .int p0), (1, .int p1), (2, .int p2), (3, .int p3), (4, .int p4), (5, .int p5)]) hx hb dX9_areSums_49 hl (by decide) rfl (fun ls hl => ?_)
        refine lv_iload hx hb dX9_areSums_51 (lv_at hl 0 rfl) ?_
        refine lv_if_eq (tgt := 89) hx hb dX9_areSums_53 (by decide) (fun _ => ?_) (fun h9 => absurd h9 (by decide +kernel))
        refine lv_iconst (v := 0) hx hb dX9_areSums_89 (by decide) ?_
        exact w_zret (v := false) hx hb hr hlocks hE dX9_areSums_90
      · have hE := itT hE c_27
        refine lv_iload_n hx hb dX9_areSums_30 rfl (lv_at hl 0 rfl) ?_
        refine lv_iload_n hx hb dX9_areSums_31 rfl (lv_at hl 1 rfl) ?_
        refine lv_iadd hx hb dX9_areSums_32 ?_
        refine lv_iload_n hx hb dX9_areSums_33 rfl (lv_at hl 2 rfl) ?_
        refine lv_iadd hx hb dX9_areSums_34 ?_
        refine lv_iconst (v := 1) hx hb dX9_areSums_35 (by decide) ?_
        refine lv_bipush (v := 8) hx hb dX9_areSums_36 (by decide +kernel) ?_
        refine ro_call (va_runS (As := [.int ((p0 + p1) + p2), .int 1, .int 8]) (rest := []) ⟨hx, hb, hml, hown, hts⟩ (c_X9_in l D cI cZ cR _ ((p0 + p1) + p2) 1 8) (va_cwS 3 hts gX9_areSums_X9_in rfl rfl rfl hd_X9_in ⟨(Nat.le_of_ble_eq_true rfl), (Nat.le_of_ble_eq_true rfl)⟩) (po_pre hAM va_P.nil) rfl rfl hl.1 rfl (lv_room (Nat.le_of_ble_eq_true rfl)) dX9_areSums_38 ⟨(Nat.le_of_ble_eq_true rfl), (Nat.le_of_ble_eq_true rfl)⟩) ?_
        refine w_if_eqb (tgt := 48) hx hb dX9_areSums_41 (by decide) (fun c_41 => ?_) (fun c_41 => ?_)
        · have hE := itF hE c_41
          refine lv_iconst (v := 0) hx hb dX9_areSums_48 (by decide) ?_
          refine lv_istore (lv' := [(6, .int 0), (0, .int p0), (1, .int p1), (2, .int p2), (3, .int p3), (4, .int p4), (5, .int p5)]) hx hb dX9_areSums_49 hl (by decide) rfl (fun ls hl => ?_)
          refine lv_iload hx hb dX9_areSums_51 (lv_at hl 0 rfl) ?_
          refine lv_if_eq (tgt := 89) hx hb dX9_areSums_53 (by decide) (fun _ => ?_) (fun h9 => absurd h9 (by decide +kernel))
          refine lv_iconst (v := 0) hx hb dX9_areSums_89 (by decide) ?_
          exact w_zret (v := false) hx hb hr hlocks hE dX9_areSums_90
        · have hE := itT hE c_41
          refine lv_iconst (v := 1) hx hb dX9_areSums_44 (by decide) ?_
          refine lv_goto (tgt := 49) hx hb dX9_areSums_45 (by decide) ?_
          refine lv_istore (lv' := [(6, .int 1), (0, .int p0), (1, .int p1), (2, .int p2), (3, .int p3), (4, .int p4), (5, .int p5)]) hx hb dX9_areSums_49 hl (by decide) rfl (fun ls hl => ?_)
          refine lv_iload hx hb dX9_areSums_51 (lv_at hl 0 rfl) ?_
          refine lv_if_eq (tgt := 89) hx hb dX9_areSums_53 (by decide) (fun h9 => absurd h9 (by decide +kernel)) (fun _ => ?_)
          refine lv_iload_n hx hb dX9_areSums_56 rfl (lv_at hl 4 rfl) ?_
          refine lv_iconst (v := 0) hx hb dX9_areSums_57 (by decide) ?_
          refine lv_iload_n hx hb dX9_areSums_58 rfl (lv_at hl 1 rfl) ?_
          refine ro_call (va_runS (As := [.int p3, .int 0, .int p0]) (rest := []) ⟨hx, hb, hml, hown, hts⟩ (c_X9_in l D cI cZ cR _ p3 0 p0) (va_cwS 3 hts gX9_areSums_X9_in rfl rfl rfl hd_X9_in ⟨(Nat.le_of_ble_eq_true rfl), (Nat.le_of_ble_eq_true rfl)⟩) (po_pre hAM va_P.nil) rfl rfl hl.1 rfl (lv_room (Nat.le_of_ble_eq_true rfl)) dX9_areSums_59 ⟨(Nat.le_of_ble_eq_true rfl), (Nat.le_of_ble_eq_true rfl)⟩) ?_
          refine w_if_eqb (tgt := 89) hx hb dX9_areSums_62 (by decide) (fun c_62 => ?_) (fun c_62 => ?_)
          · have hE := itF hE c_62
            refine lv_iconst (v := 0) hx hb dX9_areSums_89 (by decide) ?_
            exact w_zret (v := false) hx hb hr hlocks hE dX9_areSums_90
          · have hE := itT hE c_62
            refine lv_iload hx hb dX9_areSums_65 (lv_at hl 5 rfl) ?_
            refine lv_iconst (v := 0) hx hb dX9_areSums_67 (by decide) ?_
            refine lv_iload_n hx hb dX9_areSums_68 rfl (lv_at hl 2 rfl) ?_
            refine ro_call (va_runS (As := [.int p4, .int 0, .int p1]) (rest := []) ⟨hx, hb, hml, hown, hts⟩ (c_X9_in l D cI cZ cR _ p4 0 p1) (va_cwS 3 hts gX9_areSums_X9_in rfl rfl rfl hd_X9_in ⟨(Nat.le_of_ble_eq_true rfl), (Nat.le_of_ble_eq_true rfl)⟩) (po_pre hAM va_P.nil) rfl rfl hl.1 rfl (lv_room (Nat.le_of_ble_eq_true rfl)) dX9_areSums_69 ⟨(Nat.le_of_ble_eq_true rfl), (Nat.le_of_ble_eq_true rfl)⟩) ?_
            refine w_if_eqb (tgt := 89) hx hb dX9_areSums_72 (by decide) (fun c_72 => ?_) (fun c_72 => ?_)
            · have hE := itF hE c_72
              refine lv_iconst (v := 0) hx hb dX9_areSums_89 (by decide) ?_
              exact w_zret (v := false) hx hb hr hlocks hE dX9_areSums_90
            · have hE := itT hE c_72
              refine lv_iload hx hb dX9_areSums_75 (lv_at hl 6 rfl) ?_
              refine lv_iconst (v := 0) hx hb dX9_areSums_77 (by decide) ?_
              refine lv_iload_n hx hb dX9_areSums_78 rfl (lv_at hl 3 rfl) ?_
              refine ro_call (va_runS (As := [.int p5, .int 0, .int p2]) (rest := []) ⟨hx, hb, hml, hown, hts⟩ (c_X9_in l D cI cZ cR _ p5 0 p2) (va_cwS 3 hts gX9_areSums_X9_in rfl rfl rfl hd_X9_in ⟨(Nat.le_of_ble_eq_true rfl), (Nat.le_of_ble_eq_true rfl)⟩) (po_pre hAM va_P.nil) rfl rfl hl.1 rfl (lv_room (Nat.le_of_ble_eq_true rfl)) dX9_areSums_79 ⟨(Nat.le_of_ble_eq_true rfl), (Nat.le_of_ble_eq_true rfl)⟩) ?_
              refine w_if_eqb (tgt := 89) hx hb dX9_areSums_82 (by decide) (fun c_82 => ?_) (fun c_82 => ?_)
              · have hE := itF hE c_82
                refine lv_iconst (v := 0) hx hb dX9_areSums_89 (by decide) ?_
                exact w_zret (v := false) hx hb hr hlocks hE dX9_areSums_90
              · have hE := itT hE c_82
                refine lv_iconst (v := 1) hx hb dX9_areSums_85 (by decide) ?_
                refine lv_goto (tgt := 90) hx hb dX9_areSums_86 (by decide) ?_
                exact w_zret (v := true) hx hb hr hlocks hE dX9_areSums_90

theorem hd_X9_partOf : yX9_partOf.cls ≠ "java/lang/invoke/MethodHandle" ∧ yX9_partOf.cls ≠ "java/lang/invoke/VarHandle" ∧ (parseMethodDescriptor yX9_partOf.desc).map (fun d => d.parameters.length) = some 1 := by decide +kernel
def x_X9_partOf (fs : Nat → Int32) (p0 : Int32) : Int32 := (xRem (((fs (ix 0)) + ((fs (ix 1)) * p0)) + (((fs (ix 2)) * p0) * p0)) 5003)
def rm_X9_partOf : Room := { frames := 0, cells := 0, slots := 0, locals := 0 }
theorem in_X9_partOf_X9 : ∀ w ∈ wsX90, w ∈ wsX9_partOf := fun _ h => List.mem_cons_of_mem _ (List.mem_append_right _ h)
set_option maxHeartbeats 4000000 in
set_option maxRecDepth 100000 in
theorem c_X9_partOf (l : Launch) (D : va_G) (cI cZ cR : ClassId) (H0 : Heap) (o aS aH aG aR aV aA aB aO aP aF aC : Nat) (nd : Int32) (fs : Nat → Int32) (fh : Nat → Int32) (sg : Nat) (fg : Nat → Int32) (rq : Nat) (fq : Nat → Int32) (cl : Int32) (nr : Nat) (fV : Nat → Int32) (fA : Nat → Int32) (fB : Nat → Int32) (fO : Nat → Int32) (fP : Nat → Int32) (fF : Nat → Int32) (cn : Nat) (fC : Nat → Int32) (mx : Int32) (p0 : Int32) : Met l yX9_partOf wsX9_partOf rm_X9_partOf (po_P D cI cZ cR [.ref o, .int p0] [(o, .inr (7, [.int nd, .ref aS, .ref aH, .int (nI sg), .ref aG, .int (nI rq), .ref aR, .int cl, .int (nI nr), .ref aV, .ref aA, .ref aB, .ref aO, .ref aP, .ref aF, .int (nI cn), .ref aC, .int mx])), (aS, .inl (cI, 3, .inl fs)), (aH, .inl (cI, 36, .inl fh)), (aG, .inl (cI, 40, .inl fg)), (aR, .inl (cI, 40, .inl fq)), (aV, .inl (cI, 30, .inl fV)), (aA, .inl (cI, 30, .inl fA)), (aB, .inl (cI, 30, .inl fB)), (aO, .inl (cI, 30, .inl fO)), (aP, .inl (cZ, 30, .inl fP)), (aF, .inl (cI, 120, .inl fF)), (aC, .inl (cI, 30, .inl fC))] H0) (po_Q (some (.int (x_X9_partOf fs p0))) H0) 0 0 nF := by
  refine Met.ofW (cc := cX9_partOf) (maxL := 2) (ret := (some .int)) (by decide +kernel) rfl ?_
  intro p e s m args below meth c s₁ B hml hv
  obtain ⟨rfl, rfl, hAM, hP⟩ := hv
  have hx := B.exec
  have hb := B.bytes
  have hr := B.returns
  have hts := atoms_spec (ws := wsX9_partOf) B.pre
  have hown : s.vm.findClass RX9 = some m.cls := findClass_of_methodNamed B.named
  have hlocks := B.notSynchronized
  have hK := hAM.1
  generalize hE : (x_X9_partOf fs p0) = Rv
  rw [x_X9_partOf] at hE
  have hl := lv_entry ([.ref o, .int p0]) (n := 2) (Nat.le_of_ble_eq_true rfl)
  rw [lg_entry_eq]
  generalize (lg_sl ([.ref o, .int p0]) ++ List.replicate (2 - (lg_sl ([.ref o, .int p0])).length) Slot.unset).toArray = ls at hl ⊢
  have hl : lv_has ls 2 [(0, .ref o), (1, .int p0)] := hl
  refine lv_aload_n hx hb dX9_partOf_0 rfl (lv_at hl 0 rfl) ?_
  refine va_get (D := D) (ci := 7) (v := .ref aS) (C := RX9) (T := TX9) (N := 18) hx hb hts in_X9_partOf_X9 hown hK hP 0 rfl rfl 1 (by decide) (hts (.fieldLink RX9 13 "WallCountModel" "secret" "[I") (List.mem_of_getElem? (i := 1) rfl)) (fun _ h9 => h9) rfl dX9_partOf_1 ?_
  refine lv_iconst (v := 0) hx hb dX9_partOf_4 (by decide) ?_
  refine va_iald hx hb hK hP 1 0 rfl rfl vp3_0 dX9_partOf_5 ?_
  refine lv_aload_n hx hb dX9_partOf_6 rfl (lv_at hl 0 rfl) ?_
  refine va_get (D := D) (ci := 7) (v := .ref aS) (C := RX9) (T := TX9) (N := 18) hx hb hts in_X9_partOf_X9 hown hK hP 0 rfl rfl 1 (by decide) (hts (.fieldLink RX9 13 "WallCountModel" "secret" "[I") (List.mem_of_getElem? (i := 1) rfl)) (fun _ h9 => h9) rfl dX9_partOf_7 ?_
  refine lv_iconst (v := 1) hx hb dX9_partOf_10 (by decide) ?_
  refine va_iald hx hb hK hP 1 0 rfl rfl vp3_1 dX9_partOf_11 ?_
  refine lv_iload_n hx hb dX9_partOf_12 rfl (lv_at hl 1 rfl) ?_
  refine lv_imul hx hb dX9_partOf_13 ?_
  refine lv_iadd hx hb dX9_partOf_14 ?_
  refine lv_aload_n hx hb dX9_partOf_15 rfl (lv_at hl 0 rfl) ?_
  refine va_get (D := D) (ci := 7) (v := .ref aS) (C := RX9) (T := TX9) (N := 18) hx hb hts in_X9_partOf_X9 hown hK hP 0 rfl rfl 1 (by decide) (hts (.fieldLink RX9 13 "WallCountModel" "secret" "[I") (List.mem_of_getElem? (i := 1) rfl)) (fun _ h9 => h9) rfl dX9_partOf_16 ?_
  refine lv_iconst (v := 2) hx hb dX9_partOf_19 (by decide) ?_
  refine va_iald hx hb hK hP 1 0 rfl rfl vp3_2 dX9_partOf_20 ?_
  refine lv_iload_n hx hb dX9_partOf_21 rfl (lv_at hl 1 rfl) ?_
  refine lv_imul hx hb dX9_partOf_22 ?_
  refine lv_iload_n hx hb dX9_partOf_23 rfl (lv_at hl 1 rfl) ?_
  refine lv_imul hx hb dX9_partOf_24 ?_
  refine lv_iadd hx hb dX9_partOf_25 ?_
  refine lv_sipush (v := 5003) hx hb dX9_partOf_26 (by decide +kernel) ?_
  refine w_irem hx hb dX9_partOf_29 (by decide +kernel) ?_
  exact w_iret hx hb hr hlocks hE dX9_partOf_30

theorem hd_X9_h : yX9_h.cls ≠ "java/lang/invoke/MethodHandle" ∧ yX9_h.cls ≠ "java/lang/invoke/VarHandle" ∧ (parseMethodDescriptor yX9_h.desc).map (fun d => d.parameters.length) = some 0 := by decide +kernel
def x_X9_h (fs : Nat → Int32) : Int32 := (x_X9_power 4 (fs (ix 0)))
def rm_X9_h : Room := { frames := 2, cells := 0, slots := 0, locals := 49 }
theorem in_X9_h_X9 : ∀ w ∈ wsX90, w ∈ wsX9_h := fun _ h => List.mem_cons_of_mem _ (List.mem_append_right _ h)
set_option maxHeartbeats 4000000 in
set_option maxRecDepth 100000 in
theorem c_X9_h (l : Launch) (D : va_G) (cI cZ cR : ClassId) (H0 : Heap) (o aS aH aG aR aV aA aB aO aP aF aC : Nat) (nd : Int32) (fs : Nat → Int32) (fh : Nat → Int32) (sg : Nat) (fg : Nat → Int32) (rq : Nat) (fq : Nat → Int32) (cl : Int32) (nr : Nat) (fV : Nat → Int32) (fA : Nat → Int32) (fB : Nat → Int32) (fO : Nat → Int32) (fP : Nat → Int32) (fF : Nat → Int32) (cn : Nat) (fC : Nat → Int32) (mx : Int32) : Met l yX9_h wsX9_h rm_X9_h (po_P D cI cZ cR [.ref o] [(o, .inr (7, [.int nd, .ref aS, .ref aH, .int (nI sg), .ref aG, .int (nI rq), .ref aR, .int cl, .int (nI nr), .ref aV, .ref aA, .ref aB, .ref aO, .ref aP, .ref aF, .int (nI cn), .ref aC, .int mx])), (aS, .inl (cI, 3, .inl fs)), (aH, .inl (cI, 36, .inl fh)), (aG, .inl (cI, 40, .inl fg)), (aR, .inl (cI, 40, .inl fq)), (aV, .inl (cI, 30, .inl fV)), (aA, .inl (cI, 30, .inl fA)), (aB, .inl (cI, 30, .inl fB)), (aO, .inl (cI, 30, .inl fO)), (aP, .inl (cZ, 30, .inl fP)), (aF, .inl (cI, 120, .inl fF)), (aC, .inl (cI, 30, .inl fC))] H0) (po_Q (some (.int (x_X9_h fs))) H0) 0 0 nF := by
  refine Met.ofW (cc := cX9_h) (maxL := 1) (ret := (some .int)) (by decide +kernel) rfl ?_
  intro p e s m args below meth c s₁ B hml hv
  obtain ⟨rfl, rfl, hAM, hP⟩ := hv
  have hx := B.exec
  have hb := B.bytes
  have hr := B.returns
  have hts := atoms_spec (ws := wsX9_h) B.pre
  have hown : s.vm.findClass RX9 = some m.cls := findClass_of_methodNamed B.named
  have hlocks := B.notSynchronized
  have hK := hAM.1
  generalize hE : (x_X9_h fs) = Rv
  rw [x_X9_h] at hE
  have hl := lv_entry ([.ref o]) (n := 1) (Nat.le_of_ble_eq_true rfl)
  rw [lg_entry_eq]
  generalize (lg_sl ([.ref o]) ++ List.replicate (1 - (lg_sl ([.ref o])).length) Slot.unset).toArray = ls at hl ⊢
  have hl : lv_has ls 1 [(0, .ref o)] := hl
  refine lv_iconst (v := 4) hx hb dX9_h_0 (by decide) ?_
  refine lv_aload_n hx hb dX9_h_1 rfl (lv_at hl 0 rfl) ?_
  refine va_get (D := D) (ci := 7) (v := .ref aS) (C := RX9) (T := TX9) (N := 18) hx hb hts in_X9_h_X9 hown hK hP 0 rfl rfl 1 (by decide) (hts (.fieldLink RX9 13 "WallCountModel" "secret" "[I") (List.mem_of_getElem? (i := 1) rfl)) (fun _ h9 => h9) rfl dX9_h_2 ?_
  refine lv_iconst (v := 0) hx hb dX9_h_5 (by decide) ?_
  refine va_iald hx hb hK hP 1 0 rfl rfl vp3_0 dX9_h_6 ?_
  refine ro_call (va_runS (As := [.int 4, .int (fs (ix 0))]) (rest := []) ⟨hx, hb, hml, hown, hts⟩ (c_X9_power l D cI cZ cR _ 4 (fs (ix 0))) (va_cwS 2 hts gX9_h_X9_power rfl rfl rfl hd_X9_power ⟨(Nat.le_of_ble_eq_true rfl), (Nat.le_of_ble_eq_true rfl)⟩) (po_pre hAM va_P.nil) rfl rfl hl.1 rfl (lv_room (Nat.le_of_ble_eq_true rfl)) dX9_h_7 ⟨(Nat.le_of_ble_eq_true rfl), (Nat.le_of_ble_eq_true rfl)⟩) ?_
  exact w_iret hx hb hr hlocks hE dX9_h_10

theorem hd_X9_holder : yX9_holder.cls ≠ "java/lang/invoke/MethodHandle" ∧ yX9_holder.cls ≠ "java/lang/invoke/VarHandle" ∧ (parseMethodDescriptor yX9_holder.desc).map (fun d => d.parameters.length) = some 2 := by decide +kernel
def x_X9_holder (fs : Nat → Int32) (p0 : Int32) (p1 : Int32) : Int32 := (if (x_X9_isHolder p0) = true then (if p1 = 0 then (x_X9_partOf fs p0) else (if p1 = 1 then (x_X9_power 4 (x_X9_partOf fs p0)) else (-2))) else (-1))
def rm_X9_holder : Room := { frames := 2, cells := 0, slots := 0, locals := 49 }
theorem in_X9_holder_X9 : ∀ w ∈ wsX90, w ∈ wsX9_holder := fun _ h => List.mem_cons_of_mem _ (List.mem_append_right _ h)
set_option maxHeartbeats 4000000 in
set_option maxRecDepth 100000 in
theorem c_X9_holder (l : Launch) (D : va_G) (cI cZ cR : ClassId) (H0 : Heap) (o aS aH aG aR aV aA aB aO aP aF aC : Nat) (nd : Int32) (fs : Nat → Int32) (fh : Nat → Int32) (sg : Nat) (fg : Nat → Int32) (rq : Nat) (fq : Nat → Int32) (cl : Int32) (nr : Nat) (fV : Nat → Int32) (fA : Nat → Int32) (fB : Nat → Int32) (fO : Nat → Int32) (fP : Nat → Int32) (fF : Nat → Int32) (cn : Nat) (fC : Nat → Int32) (mx : Int32) (p0 : Int32) (p1 : Int32) : Met l yX9_holder wsX9_holder rm_X9_holder (po_P D cI cZ cR [.ref o, .int p0, .int p1] [(o, .inr (7, [.int nd, .ref aS, .ref aH, .int (nI sg), .ref aG, .int (nI rq), .ref aR, .int cl, .int (nI nr), .ref aV, .ref aA, .ref aB, .ref aO, .ref aP, .ref aF, .int (nI cn), .ref aC, .int mx])), (aS, .inl (cI, 3, .inl fs)), (aH, .inl (cI, 36, .inl fh)), (aG, .inl (cI, 40, .inl fg)), (aR, .inl (cI, 40, .inl fq)), (aV, .inl (cI, 30, .inl fV)), (aA, .inl (cI, 30, .inl fA)), (aB, .inl (cI, 30, .inl fB)), (aO, .inl (cI, 30, .inl fO)), (aP, .inl (cZ, 30, .inl fP)), (aF, .inl (cI, 120, .inl fF)), (aC, .inl (cI, 30, .inl fC))] H0) (po_Q (some (.int (x_X9_holder fs p0 p1))) H0) 0 0 nF := by
  refine Met.ofW (cc := cX9_holder) (maxL := 3) (ret := (some .int)) (by decide +kernel) rfl ?_
  intro p e s m args below meth c s₁ B hml hv
  obtain ⟨rfl, rfl, hAM, hP⟩ := hv
  have hx := B.exec
  have hb := B.bytes
  have hr := B.returns
  have hts := atoms_spec (ws := wsX9_holder) B.pre
  have hown : s.vm.findClass RX9 = some m.cls := findClass_of_methodNamed B.named
  have hlocks := B.notSynchronized
  have hK := hAM.1
  generalize hE : (x_X9_holder fs p0 p1) = Rv
  rw [x_X9_holder] at hE
  have hl := lv_entry ([.ref o, .int p0, .int p1]) (n := 3) (Nat.le_of_ble_eq_true rfl)
  rw [lg_entry_eq]
  generalize (lg_sl ([.ref o, .int p0, .int p1]) ++ List.replicate (3 - (lg_sl ([.ref o, .int p0, .int p1])).length) Slot.unset).toArray = ls at hl ⊢
  have hl : lv_has ls 3 [(0, .ref o), (1, .int p0), (2, .int p1)] := hl
  refine lv_iload_n hx hb dX9_holder_0 rfl (lv_at hl 1 rfl) ?_
  refine ro_call (va_runS (As := [.int p0]) (rest := []) ⟨hx, hb, hml, hown, hts⟩ (c_X9_isHolder l D cI cZ cR _ p0) (va_cwS 1 hts gX9_holder_X9_isHolder rfl rfl rfl hd_X9_isHolder ⟨(Nat.le_of_ble_eq_true rfl), (Nat.le_of_ble_eq_true rfl)⟩) (po_pre hAM va_P.nil) rfl rfl hl.1 rfl (lv_room (Nat.le_of_ble_eq_true rfl)) dX9_holder_1 ⟨(Nat.le_of_ble_eq_true rfl), (Nat.le_of_ble_eq_true rfl)⟩) ?_
  refine w_if_neb (tgt := 9) hx hb dX9_holder_4 (by decide) (fun c_4 => ?_) (fun c_4 => ?_)
  · have hE := itT hE c_4
    refine lv_iload_n hx hb dX9_holder_9 rfl (lv_at hl 2 rfl) ?_
    refine lv_if_ne (tgt := 21) hx hb dX9_holder_10 (by decide) (fun c_10 => ?_) (fun c_10 => ?_)
    · have hE := itF hE c_10
      refine lv_iload_n hx hb dX9_holder_21 rfl (lv_at hl 2 rfl) ?_
      refine lv_iconst (v := 1) hx hb dX9_holder_22 (by decide) ?_
      refine lv_icmp_ne (tgt := 38) hx hb dX9_holder_23 (by decide) (fun c_23 => ?_) (fun c_23 => ?_)
      · have hE := itF hE c_23
        refine lv_bipush (v := (-2)) hx hb dX9_holder_38 (by decide +kernel) ?_
        exact w_iret hx hb hr hlocks hE dX9_holder_40
      · have hE := itT hE c_23
        refine lv_iconst (v := 4) hx hb dX9_holder_26 (by decide) ?_
        refine lv_aload_n hx hb dX9_holder_27 rfl (lv_at hl 0 rfl) ?_
        refine lv_iload_n hx hb dX9_holder_28 rfl (lv_at hl 1 rfl) ?_
        refine ro_call (va_runV (As := [.int p0]) (rest := [.int 4]) ⟨hx, hb, hml, hown, hts⟩ (c_X9_partOf l D cI cZ cR _ o aS aH aG aR aV aA aB aO aP aF aC nd fs fh sg fg rq fq cl nr fV fA fB fO fP fF cn fC mx p0) (cwV 1 hts gX9_holder_X9_partOf rfl rfl rfl ⟨rfl, hd_X9_partOf⟩ ⟨(Nat.le_of_ble_eq_true rfl), (Nat.le_of_ble_eq_true rfl)⟩) (po_preV hAM (hP.sub [0, 1, 2, 3, 4, 5, 6, 7, 8, 9, 10, 11] rfl) (va_recv hK hP (ci := 7) (q0 := 0) rfl rfl)) rfl rfl hl.1 rfl (lv_room (Nat.le_of_ble_eq_true rfl)) dX9_holder_29 ⟨(Nat.le_of_ble_eq_true rfl), (Nat.le_of_ble_eq_true rfl)⟩) ?_
        refine ro_call (va_runS (As := [.int 4, .int (x_X9_partOf fs p0)]) (rest := []) ⟨hx, hb, hml, hown, hts⟩ (c_X9_power l D cI cZ cR _ 4 (x_X9_partOf fs p0)) (va_cwS 2 hts gX9_holder_X9_power rfl rfl rfl hd_X9_power ⟨(Nat.le_of_ble_eq_true rfl), (Nat.le_of_ble_eq_true rfl)⟩) (po_pre hAM va_P.nil) rfl rfl hl.1 rfl (lv_room (Nat.le_of_ble_eq_true rfl)) dX9_holder_32 ⟨(Nat.le_of_ble_eq_true rfl), (Nat.le_of_ble_eq_true rfl)⟩) ?_
        refine lv_goto (tgt := 40) hx hb dX9_holder_35 (by decide) ?_
        exact w_iret hx hb hr hlocks hE dX9_holder_40
    · have hE := itT hE c_10
      refine lv_aload_n hx hb dX9_holder_13 rfl (lv_at hl 0 rfl) ?_
      refine lv_iload_n hx hb dX9_holder_14 rfl (lv_at hl 1 rfl) ?_
      refine ro_call (va_runV (As := [.int p0]) (rest := []) ⟨hx, hb, hml, hown, hts⟩ (c_X9_partOf l D cI cZ cR _ o aS aH aG aR aV aA aB aO aP aF aC nd fs fh sg fg rq fq cl nr fV fA fB fO fP fF cn fC mx p0) (cwV 1 hts gX9_holder_X9_partOf rfl rfl rfl ⟨rfl, hd_X9_partOf⟩ ⟨(Nat.le_of_ble_eq_true rfl), (Nat.le_of_ble_eq_true rfl)⟩) (po_preV hAM (hP.sub [0, 1, 2, 3, 4, 5, 6, 7, 8, 9, 10, 11] rfl) (va_recv hK hP (ci := 7) (q0 := 0) rfl rfl)) rfl rfl hl.1 rfl (lv_room (Nat.le_of_ble_eq_true rfl)) dX9_holder_15 ⟨(Nat.le_of_ble_eq_true rfl), (Nat.le_of_ble_eq_true rfl)⟩) ?_
      refine lv_goto (tgt := 40) hx hb dX9_holder_18 (by decide) ?_
      exact w_iret hx hb hr hlocks hE dX9_holder_40
  · have hE := itF hE c_4
    refine lv_iconst (v := (-1)) hx hb dX9_holder_7 (by decide) ?_
    exact w_iret hx hb hr hlocks hE dX9_holder_8

theorem hd_X9_sealOf : yX9_sealOf.cls ≠ "java/lang/invoke/MethodHandle" ∧ yX9_sealOf.cls ≠ "java/lang/invoke/VarHandle" ∧ (parseMethodDescriptor yX9_sealOf.desc).map (fun d => d.parameters.length) = some 3 := by decide +kernel
def x_X9_sealOf (fs : Nat → Int32) (p0 : Int32) (p1 : Int32) (p2 : Int32) : Int32 := (if p2 = 0 then (x_X9_power 4 p1) else (x_X9_times (x_X9_power (x_X9_h fs) p1) (x_X9_power 4 p0)))
def rm_X9_sealOf : Room := { frames := 3, cells := 0, slots := 0, locals := 69 }
theorem in_X9_sealOf_X9 : ∀ w ∈ wsX90, w ∈ wsX9_sealOf := fun _ h => List.mem_cons_of_mem _ (List.mem_append_right _ h)
set_option maxHeartbeats 4000000 in
set_option maxRecDepth 100000 in
theorem c_X9_sealOf (l : Launch) (D : va_G) (cI cZ cR : ClassId) (H0 : Heap) (o aS aH aG aR aV aA aB aO aP aF aC : Nat) (nd : Int32) (fs : Nat → Int32) (fh : Nat → Int32) (sg : Nat) (fg : Nat → Int32) (rq : Nat) (fq : Nat → Int32) (cl : Int32) (nr : Nat) (fV : Nat → Int32) (fA : Nat → Int32) (fB : Nat → Int32) (fO : Nat → Int32) (fP : Nat → Int32) (fF : Nat → Int32) (cn : Nat) (fC : Nat → Int32) (mx : Int32) (p0 : Int32) (p1 : Int32) (p2 : Int32) : Met l yX9_sealOf wsX9_sealOf rm_X9_sealOf (po_P D cI cZ cR [.ref o, .int p0, .int p1, .int p2] [(o, .inr (7, [.int nd, .ref aS, .ref aH, .int (nI sg), .ref aG, .int (nI rq), .ref aR, .int cl, .int (nI nr), .ref aV, .ref aA, .ref aB, .ref aO, .ref aP, .ref aF, .int (nI cn), .ref aC, .int mx])), (aS, .inl (cI, 3, .inl fs)), (aH, .inl (cI, 36, .inl fh)), (aG, .inl (cI, 40, .inl fg)), (aR, .inl (cI, 40, .inl fq)), (aV, .inl (cI, 30, .inl fV)), (aA, .inl (cI, 30, .inl fA)), (aB, .inl (cI, 30, .inl fB)), (aO, .inl (cI, 30, .inl fO)), (aP, .inl (cZ, 30, .inl fP)), (aF, .inl (cI, 120, .inl fF)), (aC, .inl (cI, 30, .inl fC))] H0) (po_Q (some (.int (x_X9_sealOf fs p0 p1 p2))) H0) 0 0 nF := by
  refine Met.ofW (cc := cX9_sealOf) (maxL := 4) (ret := (some .int)) (by decide +kernel) rfl ?_
  intro p e s m args below meth c s₁ B hml hv
  obtain ⟨rfl, rfl, hAM, hP⟩ := hv
  have hx := B.exec
  have hb := B.bytes
  have hr := B.returns
  have hts := atoms_spec (ws := wsX9_sealOf) B.pre
  have hown : s.vm.findClass RX9 = some m.cls := findClass_of_methodNamed B.named
  have hlocks := B.notSynchronized
  have hK := hAM.1
  generalize hE : (x_X9_sealOf fs p0 p1 p2) = Rv
  rw [x_X9_sealOf] at hE
  have hl := lv_entry ([.ref o, .int p0, .int p1, .int p2]) (n := 4) (Nat.le_of_ble_eq_true rfl)
  rw [lg_entry_eq]
  generalize (lg_sl ([.ref o, .int p0, .int p1, .int p2]) ++ List.replicate (4 - (lg_sl ([.ref o, .int p0, .int p1, .int p2])).length) Slot.unset).toArray = ls at hl ⊢
  have hl : lv_has ls 4 [(0, .ref o), (1, .int p0), (2, .int p1), (3, .int p2)] := hl
  refine lv_iload_n hx hb dX9_sealOf_0 rfl (lv_at hl 3 rfl) ?_
  refine lv_if_ne (tgt := 12) hx hb dX9_sealOf_1 (by decide) (fun c_1 => ?_) (fun c_1 => ?_)
  · have hE := itF hE c_1
    refine lv_aload_n hx hb dX9_sealOf_12 rfl (lv_at hl 0 rfl) ?_
    refine ro_call (va_runV (As := []) (rest := []) ⟨hx, hb, hml, hown, hts⟩ (c_X9_h l D cI cZ cR _ o aS aH aG aR aV aA aB aO aP aF aC nd fs fh sg fg rq fq cl nr fV fA fB fO fP fF cn fC mx) (cwV 0 hts gX9_sealOf_X9_h rfl rfl rfl ⟨rfl, hd_X9_h⟩ ⟨(Nat.le_of_ble_eq_true rfl), (Nat.le_of_ble_eq_true rfl)⟩) (po_preV hAM (hP.sub [0, 1, 2, 3, 4, 5, 6, 7, 8, 9, 10, 11] rfl) (va_recv hK hP (ci := 7) (q0 := 0) rfl rfl)) rfl rfl hl.1 rfl (lv_room (Nat.le_of_ble_eq_true rfl)) dX9_sealOf_13 ⟨(Nat.le_of_ble_eq_true rfl), (Nat.le_of_ble_eq_true rfl)⟩) ?_
    refine lv_iload_n hx hb dX9_sealOf_16 rfl (lv_at hl 2 rfl) ?_
    refine ro_call (va_runS (As := [.int (x_X9_h fs), .int p1]) (rest := []) ⟨hx, hb, hml, hown, hts⟩ (c_X9_power l D cI cZ cR _ (x_X9_h fs) p1) (va_cwS 2 hts gX9_sealOf_X9_power rfl rfl rfl hd_X9_power ⟨(Nat.le_of_ble_eq_true rfl), (Nat.le_of_ble_eq_true rfl)⟩) (po_pre hAM va_P.nil) rfl rfl hl.1 rfl (lv_room (Nat.le_of_ble_eq_true rfl)) dX9_sealOf_17 ⟨(Nat.le_of_ble_eq_true rfl), (Nat.le_of_ble_eq_true rfl)⟩) ?_
    refine lv_iconst (v := 4) hx hb dX9_sealOf_20 (by decide) ?_
    refine lv_iload_n hx hb dX9_sealOf_21 rfl (lv_at hl 1 rfl) ?_
    refine ro_call (va_runS (As := [.int 4, .int p0]) (rest := [.int (x_X9_power (x_X9_h fs) p1)]) ⟨hx, hb, hml, hown, hts⟩ (c_X9_power l D cI cZ cR _ 4 p0) (va_cwS 2 hts gX9_sealOf_X9_power rfl rfl rfl hd_X9_power ⟨(Nat.le_of_ble_eq_true rfl), (Nat.le_of_ble_eq_true rfl)⟩) (po_pre hAM va_P.nil) rfl rfl hl.1 rfl (lv_room (Nat.le_of_ble_eq_true rfl)) dX9_sealOf_22 ⟨(Nat.le_of_ble_eq_true rfl), (Nat.le_of_ble_eq_true rfl)⟩) ?_
    refine ro_call (va_runS (As := [.int (x_X9_power (x_X9_h fs) p1), .int (x_X9_power 4 p0)]) (rest := []) ⟨hx, hb, hml, hown, hts⟩ (c_X9_times l D cI cZ cR _ (x_X9_power (x_X9_h fs) p1) (x_X9_power 4 p0)) (va_cwS 2 hts gX9_sealOf_X9_times rfl rfl rfl hd_X9_times ⟨(Nat.le_of_ble_eq_true rfl), (Nat.le_of_ble_eq_true rfl)⟩) (po_pre hAM va_P.nil) rfl rfl hl.1 rfl (lv_room (Nat.le_of_ble_eq_true rfl)) dX9_sealOf_25 ⟨(Nat.le_of_ble_eq_true rfl), (Nat.le_of_ble_eq_true rfl)⟩) ?_
    exact w_iret hx hb hr hlocks hE dX9_sealOf_28
  · have hE := itT hE c_1
    refine lv_iconst (v := 4) hx hb dX9_sealOf_4 (by decide) ?_
    refine lv_iload_n hx hb dX9_sealOf_5 rfl (lv_at hl 2 rfl) ?_
    refine ro_call (va_runS (As := [.int 4, .int p1]) (rest := []) ⟨hx, hb, hml, hown, hts⟩ (c_X9_power l D cI cZ cR _ 4 p1) (va_cwS 2 hts gX9_sealOf_X9_power rfl rfl rfl hd_X9_power ⟨(Nat.le_of_ble_eq_true rfl), (Nat.le_of_ble_eq_true rfl)⟩) (po_pre hAM va_P.nil) rfl rfl hl.1 rfl (lv_room (Nat.le_of_ble_eq_true rfl)) dX9_sealOf_6 ⟨(Nat.le_of_ble_eq_true rfl), (Nat.le_of_ble_eq_true rfl)⟩) ?_
    refine lv_goto (tgt := 28) hx hb dX9_sealOf_9 (by decide) ?_
    exact w_iret hx hb hr hlocks hE dX9_sealOf_28

theorem hd_X9_seal : yX9_seal.cls ≠ "java/lang/invoke/MethodHandle" ∧ yX9_seal.cls ≠ "java/lang/invoke/VarHandle" ∧ (parseMethodDescriptor yX9_seal.desc).map (fun d => d.parameters.length) = some 3 := by decide +kernel
def x_X9_seal (fs : Nat → Int32) (p0 : Int32) (p1 : Int32) (p2 : Int32) : Int32 := (if (x_X9_isPower p0) = true then (if (x_X9_isPower p1) = true then (if (x_X9_in p2 0 1) = true then (x_X9_sealOf fs p0 p1 p2) else (-2)) else (-2)) else (-2))
def rm_X9_seal : Room := { frames := 4, cells := 0, slots := 0, locals := 92 }
theorem in_X9_seal_X9 : ∀ w ∈ wsX90, w ∈ wsX9_seal := fun _ h => List.mem_cons_of_mem _ (List.mem_append_right _ h)
set_option maxHeartbeats 4000000 in
set_option maxRecDepth 100000 in
theorem c_X9_seal (l : Launch) (D : va_G) (cI cZ cR : ClassId) (H0 : Heap) (o aS aH aG aR aV aA aB aO aP aF aC : Nat) (nd : Int32) (fs : Nat → Int32) (fh : Nat → Int32) (sg : Nat) (fg : Nat → Int32) (rq : Nat) (fq : Nat → Int32) (cl : Int32) (nr : Nat) (fV : Nat → Int32) (fA : Nat → Int32) (fB : Nat → Int32) (fO : Nat → Int32) (fP : Nat → Int32) (fF : Nat → Int32) (cn : Nat) (fC : Nat → Int32) (mx : Int32) (p0 : Int32) (p1 : Int32) (p2 : Int32) : Met l yX9_seal wsX9_seal rm_X9_seal (po_P D cI cZ cR [.ref o, .int p0, .int p1, .int p2] [(o, .inr (7, [.int nd, .ref aS, .ref aH, .int (nI sg), .ref aG, .int (nI rq), .ref aR, .int cl, .int (nI nr), .ref aV, .ref aA, .ref aB, .ref aO, .ref aP, .ref aF, .int (nI cn), .ref aC, .int mx])), (aS, .inl (cI, 3, .inl fs)), (aH, .inl (cI, 36, .inl fh)), (aG, .inl (cI, 40, .inl fg)), (aR, .inl (cI, 40, .inl fq)), (aV, .inl (cI, 30, .inl fV)), (aA, .inl (cI, 30, .inl fA)), (aB, .inl (cI, 30, .inl fB)), (aO, .inl (cI, 30, .inl fO)), (aP, .inl (cZ, 30, .inl fP)), (aF, .inl (cI, 120, .inl fF)), (aC, .inl (cI, 30, .inl fC))] H0) (po_Q (some (.int (x_X9_seal fs p0 p1 p2))) H0) 0 0 nF := by
  refine Met.ofW (cc := cX9_seal) (maxL := 4) (ret := (some .int)) (by decide +kernel) rfl ?_
  intro p e s m args below meth c s₁ B hml hv
  obtain ⟨rfl, rfl, hAM, hP⟩ := hv
  have hx := B.exec
  have hb := B.bytes
  have hr := B.returns
  have hts := atoms_spec (ws := wsX9_seal) B.pre
  have hown : s.vm.findClass RX9 = some m.cls := findClass_of_methodNamed B.named
  have hlocks := B.notSynchronized
  have hK := hAM.1
  generalize hE : (x_X9_seal fs p0 p1 p2) = Rv
  rw [x_X9_seal] at hE
  have hl := lv_entry ([.ref o, .int p0, .int p1, .int p2]) (n := 4) (Nat.le_of_ble_eq_true rfl)
  rw [lg_entry_eq]
  generalize (lg_sl ([.ref o, .int p0, .int p1, .int p2]) ++ List.replicate (4 - (lg_sl ([.ref o, .int p0, .int p1, .int p2])).length) Slot.unset).toArray = ls at hl ⊢
  have hl : lv_has ls 4 [(0, .ref o), (1, .int p0), (2, .int p1), (3, .int p2)] := hl
  refine lv_iload_n hx hb dX9_seal_0 rfl (lv_at hl 1 rfl) ?_
  refine ro_call (va_runS (As := [.int p0]) (rest := []) ⟨hx, hb, hml, hown, hts⟩ (c_X9_isPower l D cI cZ cR _ p0) (va_cwS 1 hts gX9_seal_X9_isPower rfl rfl rfl hd_X9_isPower ⟨(Nat.le_of_ble_eq_true rfl), (Nat.le_of_ble_eq_true rfl)⟩) (po_pre hAM va_P.nil) rfl rfl hl.1 rfl (lv_room (Nat.le_of_ble_eq_true rfl)) dX9_seal_1 ⟨(Nat.le_of_ble_eq_true rfl), (Nat.le_of_ble_eq_true rfl)⟩) ?_
  refine w_if_eqb (tgt := 33) hx hb dX9_seal_4 (by decide) (fun c_4 => ?_) (fun c_4 => ?_)
  · have hE := itF hE c_4
    refine lv_bipush (v := (-2)) hx hb dX9_seal_33 (by decide +kernel) ?_
    exact w_iret hx hb hr hlocks hE dX9_seal_35
  · have hE := itT hE c_4
    refine lv_iload_n hx hb dX9_seal_7 rfl (lv_at hl 2 rfl) ?_
    refine ro_call (va_runS (As := [.int p1]) (rest := []) ⟨hx, hb, hml, hown, hts⟩ (c_X9_isPower l D cI cZ cR _ p1) (va_cwS 1 hts gX9_seal_X9_isPower rfl rfl rfl hd_X9_isPower ⟨(Nat.le_of_ble_eq_true rfl), (Nat.le_of_ble_eq_true rfl)⟩) (po_pre hAM va_P.nil) rfl rfl hl.1 rfl (lv_room (Nat.le_of_ble_eq_true rfl)) dX9_seal_8 ⟨(Nat.le_of_ble_eq_true rfl), (Nat.le_of_ble_eq_true rfl)⟩) ?_
    refine w_if_eqb (tgt := 33) hx hb dX9_seal_11 (by decide) (fun c_11 => ?_) (fun c_11 => ?_)
    · have hE := itF hE c_11
      refine lv_bipush (v := (-2)) hx hb dX9_seal_33 (by decide +kernel) ?_
      exact w_iret hx hb hr hlocks hE dX9_seal_35
    · have hE := itT hE c_11
      refine lv_iload_n hx hb dX9_seal_14 rfl (lv_at hl 3 rfl) ?_
      refine lv_iconst (v := 0) hx hb dX9_seal_15 (by decide) ?_
      refine lv_iconst (v := 1) hx hb dX9_seal_16 (by decide) ?_
      refine ro_call (va_runS (As := [.int p2, .int 0, .int 1]) (rest := []) ⟨hx, hb, hml, hown, hts⟩ (c_X9_in l D cI cZ cR _ p2 0 1) (va_cwS 3 hts gX9_seal_X9_in rfl rfl rfl hd_X9_in ⟨(Nat.le_of_ble_eq_true rfl), (Nat.le_of_ble_eq_true rfl)⟩) (po_pre hAM va_P.nil) rfl rfl hl.1 rfl (lv_room (Nat.le_of_ble_eq_true rfl)) dX9_seal_17 ⟨(Nat.le_of_ble_eq_true rfl), (Nat.le_of_ble_eq_true rfl)⟩) ?_
      refine w_if_eqb (tgt := 33) hx hb dX9_seal_20 (by decide) (fun c_20 => ?_) (fun c_20 => ?_)
      · have hE := itF hE c_20
        refine lv_bipush (v := (-2)) hx hb dX9_seal_33 (by decide +kernel) ?_
        exact w_iret hx hb hr hlocks hE dX9_seal_35
      · have hE := itT hE c_20
        refine lv_aload_n hx hb dX9_seal_23 rfl (lv_at hl 0 rfl) ?_
        refine lv_iload_n hx hb dX9_seal_24 rfl (lv_at hl 1 rfl) ?_
        refine lv_iload_n hx hb dX9_seal_25 rfl (lv_at hl 2 rfl) ?_
        refine lv_iload_n hx hb dX9_seal_26 rfl (lv_at hl 3 rfl) ?_
        refine ro_call (va_runV (As := [.int p0, .int p1, .int p2]) (rest := []) ⟨hx, hb, hml, hown, hts⟩ (c_X9_sealOf l D cI cZ cR _ o aS aH aG aR aV aA aB aO aP aF aC nd fs fh sg fg rq fq cl nr fV fA fB fO fP fF cn fC mx p0 p1 p2) (cwV 3 hts gX9_seal_X9_sealOf rfl rfl rfl ⟨rfl, hd_X9_sealOf⟩ ⟨(Nat.le_of_ble_eq_true rfl), (Nat.le_of_ble_eq_true rfl)⟩) (po_preV hAM (hP.sub [0, 1, 2, 3, 4, 5, 6, 7, 8, 9, 10, 11] rfl) (va_recv hK hP (ci := 7) (q0 := 0) rfl rfl)) rfl rfl hl.1 rfl (lv_room (Nat.le_of_ble_eq_true rfl)) dX9_seal_27 ⟨(Nat.le_of_ble_eq_true rfl), (Nat.le_of_ble_eq_true rfl)⟩) ?_
        refine lv_goto (tgt := 35) hx hb dX9_seal_30 (by decide) ?_
        exact w_iret hx hb hr hlocks hE dX9_seal_35

theorem hd_X9_right : yX9_right.cls ≠ "java/lang/invoke/MethodHandle" ∧ yX9_right.cls ≠ "java/lang/invoke/VarHandle" ∧ (parseMethodDescriptor yX9_right.desc).map (fun d => d.parameters.length) = some 2 := by decide +kernel
def x_X9_right (p0 : Int32) (p1 : Int32) : Int32 := (if (x_X9_isRight p0 p1) = true then 1 else 0)
def rm_X9_right : Room := { frames := 3, cells := 0, slots := 0, locals := 70 }
set_option maxHeartbeats 4000000 in
set_option maxRecDepth 100000 in
theorem c_X9_right (l : Launch) (D : va_G) (cI cZ cR : ClassId) (H0 : Heap) (o aS aH aG aR aV aA aB aO aP aF aC : Nat) (nd : Int32) (fs : Nat → Int32) (fh : Nat → Int32) (sg : Nat) (fg : Nat → Int32) (rq : Nat) (fq : Nat → Int32) (cl : Int32) (nr : Nat) (fV : Nat → Int32) (fA : Nat → Int32) (fB : Nat → Int32) (fO : Nat → Int32) (fP : Nat → Int32) (fF : Nat → Int32) (cn : Nat) (fC : Nat → Int32) (mx : Int32) (p0 : Int32) (p1 : Int32) : Met l yX9_right wsX9_right rm_X9_right (po_P D cI cZ cR [.ref o, .int p0, .int p1] [(o, .inr (7, [.int nd, .ref aS, .ref aH, .int (nI sg), .ref aG, .int (nI rq), .ref aR, .int cl, .int (nI nr), .ref aV, .ref aA, .ref aB, .ref aO, .ref aP, .ref aF, .int (nI cn), .ref aC, .int mx])), (aS, .inl (cI, 3, .inl fs)), (aH, .inl (cI, 36, .inl fh)), (aG, .inl (cI, 40, .inl fg)), (aR, .inl (cI, 40, .inl fq)), (aV, .inl (cI, 30, .inl fV)), (aA, .inl (cI, 30, .inl fA)), (aB, .inl (cI, 30, .inl fB)), (aO, .inl (cI, 30, .inl fO)), (aP, .inl (cZ, 30, .inl fP)), (aF, .inl (cI, 120, .inl fF)), (aC, .inl (cI, 30, .inl fC))] H0) (po_Q (some (.int (x_X9_right p0 p1))) H0) 0 0 nF := by
  refine Met.ofW (cc := cX9_right) (maxL := 3) (ret := (some .int)) (by decide +kernel) rfl ?_
  intro p e s m args below meth c s₁ B hml hv
  obtain ⟨rfl, rfl, hAM, hP⟩ := hv
  have hx := B.exec
  have hb := B.bytes
  have hr := B.returns
  have hts := atoms_spec (ws := wsX9_right) B.pre
  have hown : s.vm.findClass RX9 = some m.cls := findClass_of_methodNamed B.named
  have hlocks := B.notSynchronized
  have hK := hAM.1
  generalize hE : (x_X9_right p0 p1) = Rv
  rw [x_X9_right] at hE
  have hl := lv_entry ([.ref o, .int p0, .int p1]) (n := 3) (Nat.le_of_ble_eq_true rfl)
  rw [lg_entry_eq]
  generalize (lg_sl ([.ref o, .int p0, .int p1]) ++ List.replicate (3 - (lg_sl ([.ref o, .int p0, .int p1])).length) Slot.unset).toArray = ls at hl ⊢
  have hl : lv_has ls 3 [(0, .ref o), (1, .int p0), (2, .int p1)] := hl
  refine lv_iload_n hx hb dX9_right_0 rfl (lv_at hl 1 rfl) ?_
  refine lv_iload_n hx hb dX9_right_1 rfl (lv_at hl 2 rfl) ?_
  refine ro_call (va_runS (As := [.int p0, .int p1]) (rest := []) ⟨hx, hb, hml, hown, hts⟩ (c_X9_isRight l D cI cZ cR _ p0 p1) (va_cwS 2 hts gX9_right_X9_isRight rfl rfl rfl hd_X9_isRight ⟨(Nat.le_of_ble_eq_true rfl), (Nat.le_of_ble_eq_true rfl)⟩) (po_pre hAM va_P.nil) rfl rfl hl.1 rfl (lv_room (Nat.le_of_ble_eq_true rfl)) dX9_right_2 ⟨(Nat.le_of_ble_eq_true rfl), (Nat.le_of_ble_eq_true rfl)⟩) ?_
  refine w_if_eqb (tgt := 12) hx hb dX9_right_5 (by decide) (fun c_5 => ?_) (fun c_5 => ?_)
  · have hE := itF hE c_5
    refine lv_iconst (v := 0) hx hb dX9_right_12 (by decide) ?_
    exact w_iret hx hb hr hlocks hE dX9_right_13
  · have hE := itT hE c_5
    refine lv_iconst (v := 1) hx hb dX9_right_8 (by decide) ?_
    refine lv_goto (tgt := 13) hx hb dX9_right_9 (by decide) ?_
    exact w_iret hx hb hr hlocks hE dX9_right_13

theorem hd_X9_open : yX9_open.cls ≠ "java/lang/invoke/MethodHandle" ∧ yX9_open.cls ≠ "java/lang/invoke/VarHandle" ∧ (parseMethodDescriptor yX9_open.desc).map (fun d => d.parameters.length) = some 2 := by decide +kernel
def x_X9_open (fs : Nat → Int32) (p0 : Int32) (p1 : Int32) : Int32 := (if (x_X9_isHolder p0) = true then (if (x_X9_isNumber p1) = true then (x_X9_power p1 (x_X9_partOf fs p0)) else (-2)) else (-1))
def rm_X9_open : Room := { frames := 2, cells := 0, slots := 0, locals := 49 }
theorem in_X9_open_X9 : ∀ w ∈ wsX90, w ∈ wsX9_open := fun _ h => List.mem_cons_of_mem _ (List.mem_append_right _ h)
set_option maxHeartbeats 4000000 in
set_option maxRecDepth 100000 in
theorem c_X9_open (l : Launch) (D : va_G) (cI cZ cR : ClassId) (H0 : Heap) (o aS aH aG aR aV aA aB aO aP aF aC : Nat) (nd : Int32) (fs : Nat → Int32) (fh : Nat → Int32) (sg : Nat) (fg : Nat → Int32) (rq : Nat) (fq : Nat → Int32) (cl : Int32) (nr : Nat) (fV : Nat → Int32) (fA : Nat → Int32) (fB : Nat → Int32) (fO : Nat → Int32) (fP : Nat → Int32) (fF : Nat → Int32) (cn : Nat) (fC : Nat → Int32) (mx : Int32) (p0 : Int32) (p1 : Int32) : Met l yX9_open wsX9_open rm_X9_open (po_P D cI cZ cR [.ref o, .int p0, .int p1] [(o, .inr (7, [.int nd, .ref aS, .ref aH, .int (nI sg), .ref aG, .int (nI rq), .ref aR, .int cl, .int (nI nr), .ref aV, .ref aA, .ref aB, .ref aO, .ref aP, .ref aF, .int (nI cn), .ref aC, .int mx])), (aS, .inl (cI, 3, .inl fs)), (aH, .inl (cI, 36, .inl fh)), (aG, .inl (cI, 40, .inl fg)), (aR, .inl (cI, 40, .inl fq)), (aV, .inl (cI, 30, .inl fV)), (aA, .inl (cI, 30, .inl fA)), (aB, .inl (cI, 30, .inl fB)), (aO, .inl (cI, 30, .inl fO)), (aP, .inl (cZ, 30, .inl fP)), (aF, .inl (cI, 120, .inl fF)), (aC, .inl (cI, 30, .inl fC))] H0) (po_Q (some (.int (x_X9_open fs p0 p1))) H0) 0 0 nF := by
  refine Met.ofW (cc := cX9_open) (maxL := 3) (ret := (some .int)) (by decide +kernel) rfl ?_
  intro p e s m args below meth c s₁ B hml hv
  obtain ⟨rfl, rfl, hAM, hP⟩ := hv
  have hx := B.exec
  have hb := B.bytes
  have hr := B.returns
  have hts := atoms_spec (ws := wsX9_open) B.pre
  have hown : s.vm.findClass RX9 = some m.cls := findClass_of_methodNamed B.named
  have hlocks := B.notSynchronized
  have hK := hAM.1
  generalize hE : (x_X9_open fs p0 p1) = Rv
  rw [x_X9_open] at hE
  have hl := lv_entry ([.ref o, .int p0, .int p1]) (n := 3) (Nat.le_of_ble_eq_true rfl)
  rw [lg_entry_eq]
  generalize (lg_sl ([.ref o, .int p0, .int p1]) ++ List.replicate (3 - (lg_sl ([.ref o, .int p0, .int p1])).length) Slot.unset).toArray = ls at hl ⊢
  have hl : lv_has ls 3 [(0, .ref o), (1, .int p0), (2, .int p1)] := hl
  refine lv_iload_n hx hb dX9_open_0 rfl (lv_at hl 1 rfl) ?_
  refine ro_call (va_runS (As := [.int p0]) (rest := []) ⟨hx, hb, hml, hown, hts⟩ (c_X9_isHolder l D cI cZ cR _ p0) (va_cwS 1 hts gX9_open_X9_isHolder rfl rfl rfl hd_X9_isHolder ⟨(Nat.le_of_ble_eq_true rfl), (Nat.le_of_ble_eq_true rfl)⟩) (po_pre hAM va_P.nil) rfl rfl hl.1 rfl (lv_room (Nat.le_of_ble_eq_true rfl)) dX9_open_1 ⟨(Nat.le_of_ble_eq_true rfl), (Nat.le_of_ble_eq_true rfl)⟩) ?_
  refine w_if_neb (tgt := 9) hx hb dX9_open_4 (by decide) (fun c_4 => ?_) (fun c_4 => ?_)
  · have hE := itT hE c_4
    refine lv_iload_n hx hb dX9_open_9 rfl (lv_at hl 2 rfl) ?_
    refine ro_call (va_runS (As := [.int p1]) (rest := []) ⟨hx, hb, hml, hown, hts⟩ (c_X9_isNumber l D cI cZ cR _ p1) (va_cwS 1 hts gX9_open_X9_isNumber rfl rfl rfl hd_X9_isNumber ⟨(Nat.le_of_ble_eq_true rfl), (Nat.le_of_ble_eq_true rfl)⟩) (po_pre hAM va_P.nil) rfl rfl hl.1 rfl (lv_room (Nat.le_of_ble_eq_true rfl)) dX9_open_10 ⟨(Nat.le_of_ble_eq_true rfl), (Nat.le_of_ble_eq_true rfl)⟩) ?_
    refine w_if_eqb (tgt := 28) hx hb dX9_open_13 (by decide) (fun c_13 => ?_) (fun c_13 => ?_)
    · have hE := itF hE c_13
      refine lv_bipush (v := (-2)) hx hb dX9_open_28 (by decide +kernel) ?_
      exact w_iret hx hb hr hlocks hE dX9_open_30
    · have hE := itT hE c_13
      refine lv_iload_n hx hb dX9_open_16 rfl (lv_at hl 2 rfl) ?_
      refine lv_aload_n hx hb dX9_open_17 rfl (lv_at hl 0 rfl) ?_
      refine lv_iload_n hx hb dX9_open_18 rfl (lv_at hl 1 rfl) ?_
      refine ro_call (va_runV (As := [.int p0]) (rest := [.int p1]) ⟨hx, hb, hml, hown, hts⟩ (c_X9_partOf l D cI cZ cR _ o aS aH aG aR aV aA aB aO aP aF aC nd fs fh sg fg rq fq cl nr fV fA fB fO fP fF cn fC mx p0) (cwV 1 hts gX9_open_X9_partOf rfl rfl rfl ⟨rfl, hd_X9_partOf⟩ ⟨(Nat.le_of_ble_eq_true rfl), (Nat.le_of_ble_eq_true rfl)⟩) (po_preV hAM (hP.sub [0, 1, 2, 3, 4, 5, 6, 7, 8, 9, 10, 11] rfl) (va_recv hK hP (ci := 7) (q0 := 0) rfl rfl)) rfl rfl hl.1 rfl (lv_room (Nat.le_of_ble_eq_true rfl)) dX9_open_19 ⟨(Nat.le_of_ble_eq_true rfl), (Nat.le_of_ble_eq_true rfl)⟩) ?_
      refine ro_call (va_runS (As := [.int p1, .int (x_X9_partOf fs p0)]) (rest := []) ⟨hx, hb, hml, hown, hts⟩ (c_X9_power l D cI cZ cR _ p1 (x_X9_partOf fs p0)) (va_cwS 2 hts gX9_open_X9_power rfl rfl rfl hd_X9_power ⟨(Nat.le_of_ble_eq_true rfl), (Nat.le_of_ble_eq_true rfl)⟩) (po_pre hAM va_P.nil) rfl rfl hl.1 rfl (lv_room (Nat.le_of_ble_eq_true rfl)) dX9_open_22 ⟨(Nat.le_of_ble_eq_true rfl), (Nat.le_of_ble_eq_true rfl)⟩) ?_
      refine lv_goto (tgt := 30) hx hb dX9_open_25 (by decide) ?_
      exact w_iret hx hb hr hlocks hE dX9_open_30
  · have hE := itF hE c_4
    refine lv_iconst (v := (-1)) hx hb dX9_open_7 (by decide) ?_
    exact w_iret hx hb hr hlocks hE dX9_open_8

theorem hd_X9_weight : yX9_weight.cls ≠ "java/lang/invoke/MethodHandle" ∧ yX9_weight.cls ≠ "java/lang/invoke/VarHandle" ∧ (parseMethodDescriptor yX9_weight.desc).map (fun d => d.parameters.length) = some 2 := by decide +kernel
def x_X9_weight (p0 : Int32) (p1 : Int32) : Int32 := (if (x_X9_isHolder p0) = true then (if ((xShr p1 p0) &&& 1) = 0 then (-1) else (if (x_X9_isSet p1) = true then (x_X9_weightOf p0 p1) else (-2))) else (-1))
def rm_X9_weight : Room := { frames := 2, cells := 0, slots := 0, locals := 52 }
set_option maxHeartbeats 4000000 in
set_option maxRecDepth 100000 in
theorem c_X9_weight (l : Launch) (D : va_G) (cI cZ cR : ClassId) (H0 : Heap) (o aS aH aG aR aV aA aB aO aP aF aC : Nat) (nd : Int32) (fs : Nat → Int32) (fh : Nat → Int32) (sg : Nat) (fg : Nat → Int32) (rq : Nat) (fq : Nat → Int32) (cl : Int32) (nr : Nat) (fV : Nat → Int32) (fA : Nat → Int32) (fB : Nat → Int32) (fO : Nat → Int32) (fP : Nat → Int32) (fF : Nat → Int32) (cn : Nat) (fC : Nat → Int32) (mx : Int32) (p0 : Int32) (p1 : Int32) : Met l yX9_weight wsX9_weight rm_X9_weight (po_P D cI cZ cR [.ref o, .int p0, .int p1] [(o, .inr (7, [.int nd, .ref aS, .ref aH, .int (nI sg), .ref aG, .int (nI rq), .ref aR, .int cl, .int (nI nr), .ref aV, .ref aA, .ref aB, .ref aO, .ref aP, .ref aF, .int (nI cn), .ref aC, .int mx])), (aS, .inl (cI, 3, .inl fs)), (aH, .inl (cI, 36, .inl fh)), (aG, .inl (cI, 40, .inl fg)), (aR, .inl (cI, 40, .inl fq)), (aV, .inl (cI, 30, .inl fV)), (aA, .inl (cI, 30, .inl fA)), (aB, .inl (cI, 30, .inl fB)), (aO, .inl (cI, 30, .inl fO)), (aP, .inl (cZ, 30, .inl fP)), (aF, .inl (cI, 120, .inl fF)), (aC, .inl (cI, 30, .inl fC))] H0) (po_Q (some (.int (x_X9_weight p0 p1))) H0) 0 0 nF := by
  refine Met.ofW (cc := cX9_weight) (maxL := 3) (ret := (some .int)) (by decide +kernel) rfl ?_
  intro p e s m args below meth c s₁ B hml hv
  obtain ⟨rfl, rfl, hAM, hP⟩ := hv
  have hx := B.exec
  have hb := B.bytes
  have hr := B.returns
  have hts := atoms_spec (ws := wsX9_weight) B.pre
  have hown : s.vm.findClass RX9 = some m.cls := findClass_of_methodNamed B.named
  have hlocks := B.notSynchronized
  have hK := hAM.1
  generalize hE : (x_X9_weight p0 p1) = Rv
  rw [x_X9_weight] at hE
  have hl := lv_entry ([.ref o, .int p0, .int p1]) (n := 3) (Nat.le_of_ble_eq_true rfl)
  rw [lg_entry_eq]
  generalize (lg_sl ([.ref o, .int p0, .int p1]) ++ List.replicate (3 - (lg_sl ([.ref o, .int p0, .int p1])).length) Slot.unset).toArray = ls at hl ⊢
  have hl : lv_has ls 3 [(0, .ref o), (1, .int p0), (2, .int p1)] := hl
  refine lv_iload_n hx hb dX9_weight_0 rfl (lv_at hl 1 rfl) ?_
  refine ro_call (va_runS (As := [.int p0]) (rest := []) ⟨hx, hb, hml, hown, hts⟩ (c_X9_isHolder l D cI cZ cR _ p0) (va_cwS 1 hts gX9_weight_X9_isHolder rfl rfl rfl hd_X9_isHolder ⟨(Nat.le_of_ble_eq_true rfl), (Nat.le_of_ble_eq_true rfl)⟩) (po_pre hAM va_P.nil) rfl rfl hl.1 rfl (lv_room (Nat.le_of_ble_eq_true rfl)) dX9_weight_1 ⟨(Nat.le_of_ble_eq_true rfl), (Nat.le_of_ble_eq_true rfl)⟩) ?_
  refine w_if_eqb (tgt := 15) hx hb dX9_weight_4 (by decide) (fun c_4 => ?_) (fun c_4 => ?_)
  · have hE := itF hE c_4
    refine lv_iconst (v := (-1)) hx hb dX9_weight_15 (by decide) ?_
    exact w_iret hx hb hr hlocks hE dX9_weight_16
  · have hE := itT hE c_4
    refine lv_iload_n hx hb dX9_weight_7 rfl (lv_at hl 2 rfl) ?_
    refine lv_iload_n hx hb dX9_weight_8 rfl (lv_at hl 1 rfl) ?_
    refine w_ishr hx hb dX9_weight_9 ?_
    refine lv_iconst (v := 1) hx hb dX9_weight_10 (by decide) ?_
    refine lv_iand hx hb dX9_weight_11 ?_
    refine lv_if_ne (tgt := 17) hx hb dX9_weight_12 (by decide) (fun c_12 => ?_) (fun c_12 => ?_)
    · have hE := itF hE c_12
      refine lv_iload_n hx hb dX9_weight_17 rfl (lv_at hl 2 rfl) ?_
      refine ro_call (va_runS (As := [.int p1]) (rest := []) ⟨hx, hb, hml, hown, hts⟩ (c_X9_isSet l D cI cZ cR _ p1) (va_cwS 1 hts gX9_weight_X9_isSet rfl rfl rfl hd_X9_isSet ⟨(Nat.le_of_ble_eq_true rfl), (Nat.le_of_ble_eq_true rfl)⟩) (po_pre hAM va_P.nil) rfl rfl hl.1 rfl (lv_room (Nat.le_of_ble_eq_true rfl)) dX9_weight_18 ⟨(Nat.le_of_ble_eq_true rfl), (Nat.le_of_ble_eq_true rfl)⟩) ?_
      refine w_if_eqb (tgt := 32) hx hb dX9_weight_21 (by decide) (fun c_21 => ?_) (fun c_21 => ?_)
      · have hE := itF hE c_21
        refine lv_bipush (v := (-2)) hx hb dX9_weight_32 (by decide +kernel) ?_
        exact w_iret hx hb hr hlocks hE dX9_weight_34
      · have hE := itT hE c_21
        refine lv_iload_n hx hb dX9_weight_24 rfl (lv_at hl 1 rfl) ?_
        refine lv_iload_n hx hb dX9_weight_25 rfl (lv_at hl 2 rfl) ?_
        refine ro_call (va_runS (As := [.int p0, .int p1]) (rest := []) ⟨hx, hb, hml, hown, hts⟩ (c_X9_weightOf l D cI cZ cR _ p0 p1) (va_cwS 2 hts gX9_weight_X9_weightOf rfl rfl rfl hd_X9_weightOf ⟨(Nat.le_of_ble_eq_true rfl), (Nat.le_of_ble_eq_true rfl)⟩) (po_pre hAM va_P.nil) rfl rfl hl.1 rfl (lv_room (Nat.le_of_ble_eq_true rfl)) dX9_weight_26 ⟨(Nat.le_of_ble_eq_true rfl), (Nat.le_of_ble_eq_true rfl)⟩) ?_
        refine lv_goto (tgt := 34) hx hb dX9_weight_29 (by decide) ?_
        exact w_iret hx hb hr hlocks hE dX9_weight_34
    · have hE := itT hE c_12
      refine lv_iconst (v := (-1)) hx hb dX9_weight_15 (by decide) ?_
      exact w_iret hx hb hr hlocks hE dX9_weight_16

theorem hd_X9_opened : yX9_opened.cls ≠ "java/lang/invoke/MethodHandle" ∧ yX9_opened.cls ≠ "java/lang/invoke/VarHandle" ∧ (parseMethodDescriptor yX9_opened.desc).map (fun d => d.parameters.length) = some 4 := by decide +kernel
def x_X9_opened_L129 (nd : Int32) (fs : Nat → Int32) (p0 : Int32) (p1 : Int32) (p2 : Int32) (p3 : Int32) : Nat → Int32 → Int32 → Int32 → Int32
  | 0, _, _, _ => 0
  | n + 1, w7, w8, w9 => (if 200 < w8 then (-6) else (if w9 = w7 then w8 else (x_X9_opened_L129 nd fs p0 p1 p2 p3 n w7 (w8 + 1) (x_X9_times w9 4))))
def x_X9_opened_L43 (nd : Int32) (fs : Nat → Int32) (p0 : Int32) (p1 : Int32) (p2 : Int32) (p3 : Int32) : Nat → Int32 → Int32 → Int32 → Int32
  | 0, _, _, _ => 0
  | n + 1, v5, v6, v7 => (if 6 ≤ v7 then (if nd ≤ v5 then (if p3 = 0 then (x_X9_by p1 v6) else (x_X9_opened_L129 nd fs p0 p1 p2 p3 (202) (x_X9_by p1 v6) 0 1)) else (-5)) else (if ((xShr p2 v7) &&& 1) = 1 then (x_X9_opened_L43 nd fs p0 p1 p2 p3 n (v5 + 1) (x_X9_times v6 (x_X9_power (x_X9_power p0 (x_X9_partOf fs v7)) (x_X9_weightOf v7 p2))) (v7 + 1)) else (x_X9_opened_L43 nd fs p0 p1 p2 p3 n v5 v6 (v7 + 1))))
def x_X9_opened (nd : Int32) (fs : Nat → Int32) (p0 : Int32) (p1 : Int32) (p2 : Int32) (p3 : Int32) : Int32 := (if (x_X9_isNumber p0) = true then (if (x_X9_isNumber p1) = true then (if (x_X9_isSet p2) = true then (if (x_X9_in p3 0 1) = true then (x_X9_opened_L43 nd fs p0 p1 p2 p3 (7) 0 1 1) else (-2)) else (-2)) else (-2)) else (-2))
def rm_X9_opened : Room := { frames := 3, cells := 0, slots := 0, locals := 70 }
theorem in_X9_opened_X9 : ∀ w ∈ wsX90, w ∈ wsX9_opened := fun _ h => List.mem_cons_of_mem _ (List.mem_append_right _ h)
set_option maxHeartbeats 4000000 in
set_option maxRecDepth 100000 in
theorem c_X9_opened (l : Launch) (D : va_G) (cI cZ cR : ClassId) (H0 : Heap) (o aS aH aG aR aV aA aB aO aP aF aC : Nat) (nd : Int32) (fs : Nat → Int32) (fh : Nat → Int32) (sg : Nat) (fg : Nat → Int32) (rq : Nat) (fq : Nat → Int32) (cl : Int32) (nr : Nat) (fV : Nat → Int32) (fA : Nat → Int32) (fB : Nat → Int32) (fO : Nat → Int32) (fP : Nat → Int32) (fF : Nat → Int32) (cn : Nat) (fC : Nat → Int32) (mx : Int32) (p0 : Int32) (p1 : Int32) (p2 : Int32) (p3 : Int32) : Met l yX9_opened wsX9_opened rm_X9_opened (po_P D cI cZ cR [.ref o, .int p0, .int p1, .int p2, .int p3] [(o, .inr (7, [.int nd, .ref aS, .ref aH, .int (nI sg), .ref aG, .int (nI rq), .ref aR, .int cl, .int (nI nr), .ref aV, .ref aA, .ref aB, .ref aO, .ref aP, .ref aF, .int (nI cn), .ref aC, .int mx])), (aS, .inl (cI, 3, .inl fs)), (aH, .inl (cI, 36, .inl fh)), (aG, .inl (cI, 40, .inl fg)), (aR, .inl (cI, 40, .inl fq)), (aV, .inl (cI, 30, .inl fV)), (aA, .inl (cI, 30, .inl fA)), (aB, .inl (cI, 30, .inl fB)), (aO, .inl (cI, 30, .inl fO)), (aP, .inl (cZ, 30, .inl fP)), (aF, .inl (cI, 120, .inl fF)), (aC, .inl (cI, 30, .inl fC))] H0) (po_Q (some (.int (x_X9_opened nd fs p0 p1 p2 p3))) H0) 0 0 nF := by
  refine Met.ofW (cc := cX9_opened) (maxL := 10) (ret := (some .int)) (by decide +kernel) rfl ?_
  intro p e s m args below meth c s₁ B hml hv
  obtain ⟨rfl, rfl, hAM, hP⟩ := hv
  have hx := B.exec
  have hb := B.bytes
  have hr := B.returns
  have hts := atoms_spec (ws := wsX9_opened) B.pre
  have hown : s.vm.findClass RX9 = some m.cls := findClass_of_methodNamed B.named
  have hlocks := B.notSynchronized
  have hK := hAM.1
  generalize hE : (x_X9_opened nd fs p0 p1 p2 p3) = Rv
  rw [x_X9_opened] at hE
  have hl := lv_entry ([.ref o, .int p0, .int p1, .int p2, .int p3]) (n := 10) (Nat.le_of_ble_eq_true rfl)
  rw [lg_entry_eq]
  generalize (lg_sl ([.ref o, .int p0, .int p1, .int p2, .int p3]) ++ List.replicate (10 - (lg_sl ([.ref o, .int p0, .int p1, .int p2, .int p3])).length) Slot.unset).toArray = ls at hl ⊢
  have hl : lv_has ls 10 [(0, .ref o), (1, .int p0), (2, .int p1), (3, .int p2), (4, .int p3)] := hl
  refine lv_iload_n hx hb dX9_opened_0 rfl (lv_at hl 1 rfl) ?_
  refine ro_call (va_runS (As := [.int p0]) (rest := []) ⟨hx, hb, hml, hown, hts⟩ (c_X9_isNumber l D cI cZ cR _ p0) (va_cwS 1 hts gX9_opened_X9_isNumber rfl rfl rfl hd_X9_isNumber ⟨(Nat.le_of_ble_eq_true rfl), (Nat.le_of_ble_eq_true rfl)⟩) (po_pre hAM va_P.nil) rfl rfl hl.1 rfl (lv_room (Nat.le_of_ble_eq_true rfl)) dX9_opened_1 ⟨(Nat.le_of_ble_eq_true rfl), (Nat.le_of_ble_eq_true rfl)⟩) ?_
  refine w_if_eqb (tgt := 31) hx hb dX9_opened_4 (by decide) (fun c_4 => ?_) (fun c_4 => ?_)
  · have hE := itF hE c_4
    refine lv_bipush (v := (-2)) hx hb dX9_opened_31 (by decide +kernel) ?_
    exact w_iret hx hb hr hlocks hE dX9_opened_33
  · have hE := itT hE c_4
    refine lv_iload_n hx hb dX9_opened_7 rfl (lv_at hl 2 rfl) ?_
    refine ro_call (va_runS (As := [.int p1]) (rest := []) ⟨hx, hb, hml, hown, hts⟩ (c_X9_isNumber l D cI cZ cR _ p1) (va_cwS 1 hts gX9_opened_X9_isNumber rfl rfl rfl hd_X9_isNumber ⟨(Nat.le_of_ble_eq_true rfl), (Nat.le_of_ble_eq_true rfl)⟩) (po_pre hAM va_P.nil) rfl rfl hl.1 rfl (lv_room (Nat.le_of_ble_eq_true rfl)) dX9_opened_8 ⟨(Nat.le_of_ble_eq_true rfl), (Nat.le_of_ble_eq_true rfl)⟩) ?_
    refine w_if_eqb (tgt := 31) hx hb dX9_opened_11 (by decide) (fun c_11 => ?_) (fun c_11 => ?_)
    · have hE := itF hE c_11
      refine lv_bipush (v := (-2)) hx hb dX9_opened_31 (by decide +kernel) ?_
      exact w_iret hx hb hr hlocks hE dX9_opened_33
    · have hE := itT hE c_11
      refine lv_iload_n hx hb dX9_opened_14 rfl (lv_at hl 3 rfl) ?_
      refine ro_call (va_runS (As := [.int p2]) (rest := []) ⟨hx, hb, hml, hown, hts⟩ (c_X9_isSet l D cI cZ cR _ p2) (va_cwS 1 hts gX9_opened_X9_isSet rfl rfl rfl hd_X9_isSet ⟨(Nat.le_of_ble_eq_true rfl), (Nat.le_of_ble_eq_true rfl)⟩) (po_pre hAM va_P.nil) rfl rfl hl.1 rfl (lv_room (Nat.le_of_ble_eq_true rfl)) dX9_opened_15 ⟨(Nat.le_of_ble_eq_true rfl), (Nat.le_of_ble_eq_true rfl)⟩) ?_
      refine w_if_eqb (tgt := 31) hx hb dX9_opened_18 (by decide) (fun c_18 => ?_) (fun c_18 => ?_)
      · have hE := itF hE c_18
        refine lv_bipush (v := (-2)) hx hb dX9_opened_31 (by decide +kernel) ?_
        exact w_iret hx hb hr hlocks hE dX9_opened_33
      · have hE := itT hE c_18
        refine lv_iload hx hb dX9_opened_21 (lv_at hl 4 rfl) ?_
        refine lv_iconst (v := 0) hx hb dX9_opened_23 (by decide) ?_
        refine lv_iconst (v := 1) hx hb dX9_opened_24 (by decide) ?_
        refine ro_call (va_runS (As := [.int p3, .int 0, .int 1]) (rest := []) ⟨hx, hb, hml, hown, hts⟩ (c_X9_in l D cI cZ cR _ p3 0 1) (va_cwS 3 hts gX9_opened_X9_in rfl rfl rfl hd_X9_in ⟨(Nat.le_of_ble_eq_true rfl), (Nat.le_of_ble_eq_true rfl)⟩) (po_pre hAM va_P.nil) rfl rfl hl.1 rfl (lv_room (Nat.le_of_ble_eq_true rfl)) dX9_opened_25 ⟨(Nat.le_of_ble_eq_true rfl), (Nat.le_of_ble_eq_true rfl)⟩) ?_
        refine w_if_neb (tgt := 34) hx hb dX9_opened_28 (by decide) (fun c_28 => ?_) (fun c_28 => ?_)
        · have hE := itT hE c_28
          refine lv_iconst (v := 0) hx hb dX9_opened_34 (by decide) ?_
          refine lv_istore (lv' := [(5, .int 0), (0, .ref o), (1, .int p0), (2, .int p1), (3, .int p2), (4, .int p3)]) hx hb dX9_opened_35 hl (by decide) rfl (fun ls hl => ?_)
          refine lv_iconst (v := 1) hx hb dX9_opened_37 (by decide) ?_
          refine lv_istore (lv' := [(6, .int 1), (5, .int 0), (0, .ref o), (1, .int p0), (2, .int p1), (3, .int p2), (4, .int p3)]) hx hb dX9_opened_38 hl (by decide) rfl (fun ls hl => ?_)
          refine lv_iconst (v := 1) hx hb dX9_opened_40 (by decide) ?_
          refine lv_istore (lv' := [(7, .int 1), (6, .int 1), (5, .int 0), (0, .ref o), (1, .int p0), (2, .int p1), (3, .int p2), (4, .int p3)]) hx hb dX9_opened_41 hl (by decide) rfl (fun ls hl => ?_)
          suffices loop : ∀ (n : Nat) (v5 : Int32) (v6 : Int32) (v7 : Int32), (UP 1 6 n v7) → x_X9_opened_L43 nd fs p0 p1 p2 p3 n v5 v6 v7 = Rv → ∀ ls : Array Slot, lv_has ls 10 [(7, .int v7), (6, .int v6), (5, .int v5), (0, .ref o), (1, .int p0), (2, .int p1), (3, .int p2), (4, .int p3)] → W p l e (headSpec wsX9_opened rm_X9_opened).room s m ([.ref o, .int p0, .int p1, .int p2, .int p3] : List Value).toArray below meth c s.heap [] 0 0 (MQ below (po_Q (some (.int Rv)) s.heap) ([.ref o, .int p0, .int p1, .int p2, .int p3] : List Value).toArray s 0 0 nF) (F0 m 43 ls []) from
            loop (7) 0 1 1 (UP.start 1 (by omega) (by omega)) hE ls (lv_sub hl [0, 1, 2, 3, 4, 5, 6, 7] rfl)
          clear hE hl ls
          intro n
          induction n with
          | zero =>
            intro v5 v6 v7 hI _ _ _
            exact absurd hI (UP.zero)
          | succ n ih =>
            intro v5 v6 v7 hI hE ls hl
            rw [x_X9_opened_L43] at hE
            refine lv_iload hx hb dX9_opened_43 (lv_at hl 0 rfl) ?_
            refine lv_bipush (v := 6) hx hb dX9_opened_45 (by decide +kernel) ?_
            refine lv_icmp_ge (tgt := 95) hx hb dX9_opened_47 (by decide) (fun c_47 => ?_) (fun c_47 => ?_)
            · have hE := itT hE c_47
              refine lv_iload hx hb dX9_opened_95 (lv_at hl 2 rfl) ?_
              refine lv_aload_n hx hb dX9_opened_97 rfl (lv_at hl 3 rfl) ?_
              refine va_get (D := D) (ci := 7) (v := .int nd) (C := RX9) (T := TX9) (N := 18) hx hb hts in_X9_opened_X9 hown hK hP 0 rfl rfl 0 (by decide) (hts (.fieldLink RX9 7 "WallCountModel" "need" "I") (List.mem_of_getElem? (i := 1) rfl)) (fun _ h9 => h9) rfl dX9_opened_98 ?_
              refine lv_icmp_ge (tgt := 107) hx hb dX9_opened_101 (by decide) (fun c_101 => ?_) (fun c_101 => ?_)
              · have hE := itT hE c_101
                refine lv_iload_n hx hb dX9_opened_107 rfl (lv_at hl 5 rfl) ?_
                refine lv_iload hx hb dX9_opened_108 (lv_at hl 1 rfl) ?_
                refine ro_call (va_runS (As := [.int p1, .int v6]) (rest := []) ⟨hx, hb, hml, hown, hts⟩ (c_X9_by l D cI cZ cR _ p1 v6) (va_cwS 2 hts gX9_opened_X9_by rfl rfl rfl hd_X9_by ⟨(Nat.le_of_ble_eq_true rfl), (Nat.le_of_ble_eq_true rfl)⟩) (po_pre hAM va_P.nil) rfl rfl hl.1 rfl (lv_room (Nat.le_of_ble_eq_true rfl)) dX9_opened_110 ⟨(Nat.le_of_ble_eq_true rfl), (Nat.le_of_ble_eq_true rfl)⟩) ?_
                refine lv_istore (lv' := [(7, .int (x_X9_by p1 v6)), (6, .int v6), (5, .int v5), (0, .ref o), (1, .int p0), (2, .int p1), (3, .int p2), (4, .int p3)]) hx hb dX9_opened_113 hl (by decide) rfl (fun ls hl => ?_)
                refine lv_iload hx hb dX9_opened_115 (lv_at hl 7 rfl) ?_
                refine lv_if_ne (tgt := 123) hx hb dX9_opened_117 (by decide) (fun c_117 => ?_) (fun c_117 => ?_)
                · have hE := itF hE c_117
                  refine lv_iconst (v := 0) hx hb dX9_opened_123 (by decide) ?_
                  refine lv_istore (lv' := [(8, .int 0), (7, .int (x_X9_by p1 v6)), (6, .int v6), (5, .int v5), (0, .ref o), (1, .int p0), (2, .int p1), (3, .int p2), (4, .int p3)]) hx hb dX9_opened_124 hl (by decide) rfl (fun ls hl => ?_)
                  refine lv_iconst (v := 1) hx hb dX9_opened_126 (by decide) ?_
                  refine lv_istore (lv' := [(9, .int 1), (8, .int 0), (7, .int (x_X9_by p1 v6)), (6, .int v6), (5, .int v5), (0, .ref o), (1, .int p0), (2, .int p1), (3, .int p2), (4, .int p3)]) hx hb dX9_opened_127 hl (by decide) rfl (fun ls hl => ?_)
                  suffices loop : ∀ (n : Nat) (w7 : Int32) (w8 : Int32) (w9 : Int32), (UP 0 201 n w8) → x_X9_opened_L129 nd fs p0 p1 p2 p3 n w7 w8 w9 = Rv → ∀ ls : Array Slot, lv_has ls 10 [(0, .ref o), (1, .int p0), (2, .int p1), (3, .int p2), (4, .int p3), (7, .int w7), (8, .int w8), (9, .int w9)] → W p l e (headSpec wsX9_opened rm_X9_opened).room s m ([.ref o, .int p0, .int p1, .int p2, .int p3] : List Value).toArray below meth c s.heap [] 0 0 (MQ below (po_Q (some (.int Rv)) s.heap) ([.ref o, .int p0, .int p1, .int p2, .int p3] : List Value).toArray s 0 0 nF) (F0 m 129 ls []) from
                    loop (202) (x_X9_by p1 v6) 0 1 (UP.start 0 (by omega) (by omega)) hE ls (lv_sub hl [5, 6, 7, 8, 9, 2, 1, 0] rfl)
                  clear hE hl ls
                  intro n
                  induction n with
                  | zero =>
                    intro w7 w8 w9 hI _ _ _
                    exact absurd hI (UP.zero)
                  | succ n ih =>
                    intro w7 w8 w9 hI hE ls hl
                    rw [x_X9_opened_L129] at hE
                    refine lv_iload hx hb dX9_opened_129 (lv_at hl 6 rfl) ?_
                    refine lv_sipush (v := 200) hx hb dX9_opened_131 (by decide +kernel) ?_
                    refine lv_icmp_gt (tgt := 158) hx hb dX9_opened_134 (by decide) (fun c_134 => ?_) (fun c_134 => ?_)
                    · have hE := itT hE c_134
                      refine lv_iload hx hb dX9_opened_158 (lv_at hl 6 rfl) ?_
                      refine lv_sipush (v := 200) hx hb dX9_opened_160 (by decide +kernel) ?_
                      refine lv_icmp_gt (tgt := 171) hx hb dX9_opened_163 (by decide) (fun _ => ?_) (fun h9 => absurd c_134 h9)
                      refine lv_bipush (v := (-6)) hx hb dX9_opened_171 (by decide +kernel) ?_
                      exact w_iret hx hb hr hlocks hE dX9_opened_173
                    · have hE := itF hE c_134
                      refine lv_iload hx hb dX9_opened_137 (lv_at hl 7 rfl) ?_
                      refine lv_iload hx hb dX9_opened_139 (lv_at hl 5 rfl) ?_
                      refine lv_icmp_eq (tgt := 158) hx hb dX9_opened_141 (by decide) (fun c_141 => ?_) (fun c_141 => ?_)
                      · have hE := itT hE c_141
                        refine lv_iload hx hb dX9_opened_158 (lv_at hl 6 rfl) ?_
                        refine lv_sipush (v := 200) hx hb dX9_opened_160 (by decide +kernel) ?_
                        refine lv_icmp_gt (tgt := 171) hx hb dX9_opened_163 (by decide) (fun h9 => absurd h9 c_134) (fun _ => ?_)
                        refine lv_iload hx hb dX9_opened_166 (lv_at hl 6 rfl) ?_
                        refine lv_goto (tgt := 173) hx hb dX9_opened_168 (by decide) ?_
                        exact w_iret hx hb hr hlocks hE dX9_opened_173
                      · have hE := itF hE c_141
                        refine lv_iload hx hb dX9_opened_144 (lv_at hl 7 rfl) ?_
                        refine lv_iconst (v := 4) hx hb dX9_opened_146 (by decide) ?_
                        refine ro_call (va_runS (As := [.int w9, .int 4]) (rest := []) ⟨hx, hb, hml, hown, hts⟩ (c_X9_times l D cI cZ cR _ w9 4) (va_cwS 2 hts gX9_opened_X9_times rfl rfl rfl hd_X9_times ⟨(Nat.le_of_ble_eq_true rfl), (Nat.le_of_ble_eq_true rfl)⟩) (po_pre hAM va_P.nil) rfl rfl hl.1 rfl (lv_room (Nat.le_of_ble_eq_true rfl)) dX9_opened_147 ⟨(Nat.le_of_ble_eq_true rfl), (Nat.le_of_ble_eq_true rfl)⟩) ?_
                        refine lv_istore (lv' := [(9, .int (x_X9_times w9 4)), (0, .ref o), (1, .int p0), (2, .int p1), (3, .int p2), (4, .int p3), (7, .int w7), (8, .int w8)]) hx hb dX9_opened_150 hl (by decide) rfl (fun ls hl => ?_)
                        refine lv_iinc (v := (w8 + 1)) (lv' := [(8, .int (w8 + 1)), (9, .int (x_X9_times w9 4)), (0, .ref o), (1, .int p0), (2, .int p1), (3, .int p2), (4, .int p3), (7, .int w7)]) hx hb dX9_opened_152 hl (k := 7) rfl rfl (by decide) rfl (fun ls hl => ?_)
                        refine lv_goto (tgt := 129) hx hb dX9_opened_155 (by decide) ?_
                        exact ih w7 (w8 + 1) (x_X9_times w9 4) ((hI.gt (by decide) rfl c_134).1) hE ls (lv_sub hl [2, 3, 4, 5, 6, 7, 0, 1] rfl)
                · have hE := itT hE c_117
                  refine lv_iload hx hb dX9_opened_120 (lv_at hl 0 rfl) ?_
                  exact w_iret hx hb hr hlocks hE dX9_opened_122
              · have hE := itF hE c_101
                refine lv_bipush (v := (-5)) hx hb dX9_opened_104 (by decide +kernel) ?_
                exact w_iret hx hb hr hlocks hE dX9_opened_106
            · have hE := itF hE c_47
              refine lv_iload_n hx hb dX9_opened_50 rfl (lv_at hl 6 rfl) ?_
              refine lv_iload hx hb dX9_opened_51 (lv_at hl 0 rfl) ?_
              refine w_ishr hx hb dX9_opened_53 ?_
              refine lv_iconst (v := 1) hx hb dX9_opened_54 (by decide) ?_
              refine lv_iand hx hb dX9_opened_55 ?_
              refine lv_iconst (v := 1) hx hb dX9_opened_56 (by decide) ?_
              refine lv_icmp_ne (tgt := 89) hx hb dX9_opened_57 (by decide) (fun c_57 => ?_) (fun c_57 => ?_)
              · have hE := itF hE c_57
                refine lv_iinc (v := (v7 + 1)) (lv' := [(7, .int (v7 + 1)), (6, .int v6), (5, .int v5), (0, .ref o), (1, .int p0), (2, .int p1), (3, .int p2), (4, .int p3)]) hx hb dX9_opened_89 hl (k := 0) rfl rfl (by decide) rfl (fun ls hl => ?_)
                refine lv_goto (tgt := 43) hx hb dX9_opened_92 (by decide) ?_
                exact ih v5 v6 (v7 + 1) ((hI.ge (by decide) rfl c_47).1) hE ls (lv_sub hl [0, 1, 2, 3, 4, 5, 6, 7] rfl)
              · have hE := itT hE c_57
                refine lv_iinc (v := (v5 + 1)) (lv' := [(5, .int (v5 + 1)), (7, .int v7), (6, .int v6), (0, .ref o), (1, .int p0), (2, .int p1), (3, .int p2), (4, .int p3)]) hx hb dX9_opened_60 hl (k := 2) rfl rfl (by decide) rfl (fun ls hl => ?_)
                refine lv_iload hx hb dX9_opened_63 (lv_at hl 2 rfl) ?_
                refine lv_iload_n hx hb dX9_opened_65 rfl (lv_at hl 4 rfl) ?_
                refine lv_aload_n hx hb dX9_opened_66 rfl (lv_at hl 3 rfl) ?_
                refine lv_iload hx hb dX9_opened_67 (lv_at hl 1 rfl) ?_
                refine ro_call (va_runV (As := [.int v7]) (rest := [.int p0, .int v6]) ⟨hx, hb, hml, hown, hts⟩ (c_X9_partOf l D cI cZ cR _ o aS aH aG aR aV aA aB aO aP aF aC nd fs fh sg fg rq fq cl nr fV fA fB fO fP fF cn fC mx v7) (cwV 1 hts gX9_opened_X9_partOf rfl rfl rfl ⟨rfl, hd_X9_partOf⟩ ⟨(Nat.le_of_ble_eq_true rfl), (Nat.le_of_ble_eq_true rfl)⟩) (po_preV hAM (hP.sub [0, 1, 2, 3, 4, 5, 6, 7, 8, 9, 10, 11] rfl) (va_recv hK hP (ci := 7) (q0 := 0) rfl rfl)) rfl rfl hl.1 rfl (lv_room (Nat.le_of_ble_eq_true rfl)) dX9_opened_69 ⟨(Nat.le_of_ble_eq_true rfl), (Nat.le_of_ble_eq_true rfl)⟩) ?_
                refine ro_call (va_runS (As := [.int p0, .int (x_X9_partOf fs v7)]) (rest := [.int v6]) ⟨hx, hb, hml, hown, hts⟩ (c_X9_power l D cI cZ cR _ p0 (x_X9_partOf fs v7)) (va_cwS 2 hts gX9_opened_X9_power rfl rfl rfl hd_X9_power ⟨(Nat.le_of_ble_eq_true rfl), (Nat.le_of_ble_eq_true rfl)⟩) (po_pre hAM va_P.nil) rfl rfl hl.1 rfl (lv_room (Nat.le_of_ble_eq_true rfl)) dX9_opened_72 ⟨(Nat.le_of_ble_eq_true rfl), (Nat.le_of_ble_eq_true rfl)⟩) ?_
                refine lv_iload hx hb dX9_opened_75 (lv_at hl 1 rfl) ?_
                refine lv_iload_n hx hb dX9_opened_77 rfl (lv_at hl 6 rfl) ?_
                refine ro_call (va_runS (As := [.int v7, .int p2]) (rest := [.int (x_X9_power p0 (x_X9_partOf fs v7)), .int v6]) ⟨hx, hb, hml, hown, hts⟩ (c_X9_weightOf l D cI cZ cR _ v7 p2) (va_cwS 2 hts gX9_opened_X9_weightOf rfl rfl rfl hd_X9_weightOf ⟨(Nat.le_of_ble_eq_true rfl), (Nat.le_of_ble_eq_true rfl)⟩) (po_pre hAM va_P.nil) rfl rfl hl.1 rfl (lv_room (Nat.le_of_ble_eq_true rfl)) dX9_opened_78 ⟨(Nat.le_of_ble_eq_true rfl), (Nat.le_of_ble_eq_true rfl)⟩) ?_
                refine ro_call (va_runS (As := [.int (x_X9_power p0 (x_X9_partOf fs v7)), .int (x_X9_weightOf v7 p2)]) (rest := [.int v6]) ⟨hx, hb, hml, hown, hts⟩ (c_X9_power l D cI cZ cR _ (x_X9_power p0 (x_X9_partOf fs v7)) (x_X9_weightOf v7 p2)) (va_cwS 2 hts gX9_opened_X9_power rfl rfl rfl hd_X9_power ⟨(Nat.le_of_ble_eq_true rfl), (Nat.le_of_ble_eq_true rfl)⟩) (po_pre hAM va_P.nil) rfl rfl hl.1 rfl (lv_room (Nat.le_of_ble_eq_true rfl)) dX9_opened_81 ⟨(Nat.le_of_ble_eq_true rfl), (Nat.le_of_ble_eq_true rfl)⟩) ?_
                refine ro_call (va_runS (As := [.int v6, .int (x_X9_power (x_X9_power p0 (x_X9_partOf fs v7)) (x_X9_weightOf v7 p2))]) (rest := []) ⟨hx, hb, hml, hown, hts⟩ (c_X9_times l D cI cZ cR _ v6 (x_X9_power (x_X9_power p0 (x_X9_partOf fs v7)) (x_X9_weightOf v7 p2))) (va_cwS 2 hts gX9_opened_X9_times rfl rfl rfl hd_X9_times ⟨(Nat.le_of_ble_eq_true rfl), (Nat.le_of_ble_eq_true rfl)⟩) (po_pre hAM va_P.nil) rfl rfl hl.1 rfl (lv_room (Nat.le_of_ble_eq_true rfl)) dX9_opened_84 ⟨(Nat.le_of_ble_eq_true rfl), (Nat.le_of_ble_eq_true rfl)⟩) ?_
                refine lv_istore (lv' := [(6, .int (x_X9_times v6 (x_X9_power (x_X9_power p0 (x_X9_partOf fs v7)) (x_X9_weightOf v7 p2)))), (5, .int (v5 + 1)), (7, .int v7), (0, .ref o), (1, .int p0), (2, .int p1), (3, .int p2), (4, .int p3)]) hx hb dX9_opened_87 hl (by decide) rfl (fun ls hl => ?_)
                refine lv_iinc (v := (v7 + 1)) (lv' := [(7, .int (v7 + 1)), (6, .int (x_X9_times v6 (x_X9_power (x_X9_power p0 (x_X9_partOf fs v7)) (x_X9_weightOf v7 p2)))), (5, .int (v5 + 1)), (0, .ref o), (1, .int p0), (2, .int p1), (3, .int p2), (4, .int p3)]) hx hb dX9_opened_89 hl (k := 2) rfl rfl (by decide) rfl (fun ls hl => ?_)
                refine lv_goto (tgt := 43) hx hb dX9_opened_92 (by decide) ?_
                exact ih (v5 + 1) (x_X9_times v6 (x_X9_power (x_X9_power p0 (x_X9_partOf fs v7)) (x_X9_weightOf v7 p2))) (v7 + 1) ((hI.ge (by decide) rfl c_47).1) hE ls (lv_sub hl [0, 1, 2, 3, 4, 5, 6, 7] rfl)
        · have hE := itF hE c_28
          refine lv_bipush (v := (-2)) hx hb dX9_opened_31 (by decide +kernel) ?_
          exact w_iret hx hb hr hlocks hE dX9_opened_33

theorem hd_X9_tOf : yX9_tOf.cls ≠ "java/lang/invoke/MethodHandle" ∧ yX9_tOf.cls ≠ "java/lang/invoke/VarHandle" ∧ (parseMethodDescriptor yX9_tOf.desc).map (fun d => d.parameters.length) = some 4 := by decide +kernel
def x_X9_tOf (fs : Nat → Int32) (p0 : Int32) (p1 : Int32) (p2 : Int32) (p3 : Int32) : Int32 := (x_X9_by (x_X9_power (x_X9_h fs) p3) (x_X9_power (x_X9_by p0 (x_X9_power 4 p1)) p2))
def rm_X9_tOf : Room := { frames := 3, cells := 0, slots := 0, locals := 70 }
theorem in_X9_tOf_X9 : ∀ w ∈ wsX90, w ∈ wsX9_tOf := fun _ h => List.mem_cons_of_mem _ (List.mem_append_right _ h)
set_option maxHeartbeats 4000000 in
set_option maxRecDepth 100000 in
theorem c_X9_tOf (l : Launch) (D : va_G) (cI cZ cR : ClassId) (H0 : Heap) (o aS aH aG aR aV aA aB aO aP aF aC : Nat) (nd : Int32) (fs : Nat → Int32) (fh : Nat → Int32) (sg : Nat) (fg : Nat → Int32) (rq : Nat) (fq : Nat → Int32) (cl : Int32) (nr : Nat) (fV : Nat → Int32) (fA : Nat → Int32) (fB : Nat → Int32) (fO : Nat → Int32) (fP : Nat → Int32) (fF : Nat → Int32) (cn : Nat) (fC : Nat → Int32) (mx : Int32) (p0 : Int32) (p1 : Int32) (p2 : Int32) (p3 : Int32) : Met l yX9_tOf wsX9_tOf rm_X9_tOf (po_P D cI cZ cR [.ref o, .int p0, .int p1, .int p2, .int p3] [(o, .inr (7, [.int nd, .ref aS, .ref aH, .int (nI sg), .ref aG, .int (nI rq), .ref aR, .int cl, .int (nI nr), .ref aV, .ref aA, .ref aB, .ref aO, .ref aP, .ref aF, .int (nI cn), .ref aC, .int mx])), (aS, .inl (cI, 3, .inl fs)), (aH, .inl (cI, 36, .inl fh)), (aG, .inl (cI, 40, .inl fg)), (aR, .inl (cI, 40, .inl fq)), (aV, .inl (cI, 30, .inl fV)), (aA, .inl (cI, 30, .inl fA)), (aB, .inl (cI, 30, .inl fB)), (aO, .inl (cI, 30, .inl fO)), (aP, .inl (cZ, 30, .inl fP)), (aF, .inl (cI, 120, .inl fF)), (aC, .inl (cI, 30, .inl fC))] H0) (po_Q (some (.int (x_X9_tOf fs p0 p1 p2 p3))) H0) 0 0 nF := by
  refine Met.ofW (cc := cX9_tOf) (maxL := 5) (ret := (some .int)) (by decide +kernel) rfl ?_
  intro p e s m args below meth c s₁ B hml hv
  obtain ⟨rfl, rfl, hAM, hP⟩ := hv
  have hx := B.exec
  have hb := B.bytes
  have hr := B.returns
  have hts := atoms_spec (ws := wsX9_tOf) B.pre
  have hown : s.vm.findClass RX9 = some m.cls := findClass_of_methodNamed B.named
  have hlocks := B.notSynchronized
  have hK := hAM.1
  generalize hE : (x_X9_tOf fs p0 p1 p2 p3) = Rv
  rw [x_X9_tOf] at hE
  have hl := lv_entry ([.ref o, .int p0, .int p1, .int p2, .int p3]) (n := 5) (Nat.le_of_ble_eq_true rfl)
  rw [lg_entry_eq]
  generalize (lg_sl ([.ref o, .int p0, .int p1, .int p2, .int p3]) ++ List.replicate (5 - (lg_sl ([.ref o, .int p0, .int p1, .int p2, .int p3])).length) Slot.unset).toArray = ls at hl ⊢
  have hl : lv_has ls 5 [(0, .ref o), (1, .int p0), (2, .int p1), (3, .int p2), (4, .int p3)] := hl
  refine lv_aload_n hx hb dX9_tOf_0 rfl (lv_at hl 0 rfl) ?_
  refine ro_call (va_runV (As := []) (rest := []) ⟨hx, hb, hml, hown, hts⟩ (c_X9_h l D cI cZ cR _ o aS aH aG aR aV aA aB aO aP aF aC nd fs fh sg fg rq fq cl nr fV fA fB fO fP fF cn fC mx) (cwV 0 hts gX9_tOf_X9_h rfl rfl rfl ⟨rfl, hd_X9_h⟩ ⟨(Nat.le_of_ble_eq_true rfl), (Nat.le_of_ble_eq_true rfl)⟩) (po_preV hAM (hP.sub [0, 1, 2, 3, 4, 5, 6, 7, 8, 9, 10, 11] rfl) (va_recv hK hP (ci := 7) (q0 := 0) rfl rfl)) rfl rfl hl.1 rfl (lv_room (Nat.le_of_ble_eq_true rfl)) dX9_tOf_1 ⟨(Nat.le_of_ble_eq_true rfl), (Nat.le_of_ble_eq_true rfl)⟩) ?_
  refine lv_iload hx hb dX9_tOf_4 (lv_at hl 4 rfl) ?_
  refine ro_call (va_runS (As := [.int (x_X9_h fs), .int p3]) (rest := []) ⟨hx, hb, hml, hown, hts⟩ (c_X9_power l D cI cZ cR _ (x_X9_h fs) p3) (va_cwS 2 hts gX9_tOf_X9_power rfl rfl rfl hd_X9_power ⟨(Nat.le_of_ble_eq_true rfl), (Nat.le_of_ble_eq_true rfl)⟩) (po_pre hAM va_P.nil) rfl rfl hl.1 rfl (lv_room (Nat.le_of_ble_eq_true rfl)) dX9_tOf_6 ⟨(Nat.le_of_ble_eq_true rfl), (Nat.le_of_ble_eq_true rfl)⟩) ?_
  refine lv_iload_n hx hb dX9_tOf_9 rfl (lv_at hl 1 rfl) ?_
  refine lv_iconst (v := 4) hx hb dX9_tOf_10 (by decide) ?_
  refine lv_iload_n hx hb dX9_tOf_11 rfl (lv_at hl 2 rfl) ?_
  refine ro_call (va_runS (As := [.int 4, .int p1]) (rest := [.int p0, .int (x_X9_power (x_X9_h fs) p3)]) ⟨hx, hb, hml, hown, hts⟩ (c_X9_power l D cI cZ cR _ 4 p1) (va_cwS 2 hts gX9_tOf_X9_power rfl rfl rfl hd_X9_power ⟨(Nat.le_of_ble_eq_true rfl), (Nat.le_of_ble_eq_true rfl)⟩) (po_pre hAM va_P.nil) rfl rfl hl.1 rfl (lv_room (Nat.le_of_ble_eq_true rfl)) dX9_tOf_12 ⟨(Nat.le_of_ble_eq_true rfl), (Nat.le_of_ble_eq_true rfl)⟩) ?_
  refine ro_call (va_runS (As := [.int p0, .int (x_X9_power 4 p1)]) (rest := [.int (x_X9_power (x_X9_h fs) p3)]) ⟨hx, hb, hml, hown, hts⟩ (c_X9_by l D cI cZ cR _ p0 (x_X9_power 4 p1)) (va_cwS 2 hts gX9_tOf_X9_by rfl rfl rfl hd_X9_by ⟨(Nat.le_of_ble_eq_true rfl), (Nat.le_of_ble_eq_true rfl)⟩) (po_pre hAM va_P.nil) rfl rfl hl.1 rfl (lv_room (Nat.le_of_ble_eq_true rfl)) dX9_tOf_15 ⟨(Nat.le_of_ble_eq_true rfl), (Nat.le_of_ble_eq_true rfl)⟩) ?_
  refine lv_iload_n hx hb dX9_tOf_18 rfl (lv_at hl 3 rfl) ?_
  refine ro_call (va_runS (As := [.int (x_X9_by p0 (x_X9_power 4 p1)), .int p2]) (rest := [.int (x_X9_power (x_X9_h fs) p3)]) ⟨hx, hb, hml, hown, hts⟩ (c_X9_power l D cI cZ cR _ (x_X9_by p0 (x_X9_power 4 p1)) p2) (va_cwS 2 hts gX9_tOf_X9_power rfl rfl rfl hd_X9_power ⟨(Nat.le_of_ble_eq_true rfl), (Nat.le_of_ble_eq_true rfl)⟩) (po_pre hAM va_P.nil) rfl rfl hl.1 rfl (lv_room (Nat.le_of_ble_eq_true rfl)) dX9_tOf_19 ⟨(Nat.le_of_ble_eq_true rfl), (Nat.le_of_ble_eq_true rfl)⟩) ?_
  refine ro_call (va_runS (As := [.int (x_X9_power (x_X9_h fs) p3), .int (x_X9_power (x_X9_by p0 (x_X9_power 4 p1)) p2)]) (rest := []) ⟨hx, hb, hml, hown, hts⟩ (c_X9_by l D cI cZ cR _ (x_X9_power (x_X9_h fs) p3) (x_X9_power (x_X9_by p0 (x_X9_power 4 p1)) p2)) (va_cwS 2 hts gX9_tOf_X9_by rfl rfl rfl hd_X9_by ⟨(Nat.le_of_ble_eq_true rfl), (Nat.le_of_ble_eq_true rfl)⟩) (po_pre hAM va_P.nil) rfl rfl hl.1 rfl (lv_room (Nat.le_of_ble_eq_true rfl)) dX9_tOf_22 ⟨(Nat.le_of_ble_eq_true rfl), (Nat.le_of_ble_eq_true rfl)⟩) ?_
  exact w_iret hx hb hr hlocks hE dX9_tOf_25

theorem hd_X9_faultOf : yX9_faultOf.cls ≠ "java/lang/invoke/MethodHandle" ∧ yX9_faultOf.cls ≠ "java/lang/invoke/VarHandle" ∧ (parseMethodDescriptor yX9_faultOf.desc).map (fun d => d.parameters.length) = some 0 := by decide +kernel
def x_X9_faultOf_btw (fg : Nat → Int32) (v2 : Int32) : Bool := (if (fg (ix v2)) = 38 then true else (if (fg (ix v2)) = 124 then true else false))
def x_X9_faultOf_fits (fg : Nat → Int32) (v1 : Int32) (v2 : Int32) : Bool := (if v1 = 0 then (if (fg (ix v2)) = 97 then true else (if (fg (ix v2)) = 121 then true else (if (fg (ix v2)) = 98 then true else false))) else (if v1 = 1 then (if (fg (ix v2)) = 60 then true else (if (fg (ix v2)) = 62 then true else (if (fg (ix v2)) = 61 then true else false))) else (if (x_X9_in (fg (ix v2)) 48 57) = true then (if 5 ≤ v1 then false else true) else (if (x_X9_faultOf_btw fg v2) = true then (if v1 ≤ 2 then false else true) else false))))
def x_X9_faultOf_next (fg : Nat → Int32) (v1 : Int32) (v2 : Int32) : Int32 := (if v1 ≤ 2 then (v1 + 1) else (if (x_X9_faultOf_btw fg v2) = true then 0 else (v1 + 1)))
def x_X9_faultOf_L4 (sg : Nat) (fg : Nat → Int32) : Nat → Int32 → Int32 → Int32
  | 0, _, _ => 0
  | n + 1, v1, v2 => (if (nI sg) ≤ v2 then (if v1 ≤ 2 then (nI sg) else (-6)) else (if (x_X9_faultOf_fits fg v1 v2) = true then (x_X9_faultOf_L4 sg fg n (x_X9_faultOf_next fg v1 v2) (v2 + 1)) else v2))
def x_X9_faultOf (sg : Nat) (fg : Nat → Int32) : Int32 := (x_X9_faultOf_L4 sg fg (sg + 1) 0 0)
def rm_X9_faultOf : Room := { frames := 1, cells := 0, slots := 0, locals := 22 }
theorem in_X9_faultOf_X9 : ∀ w ∈ wsX90, w ∈ wsX9_faultOf := fun _ h => List.mem_cons_of_mem _ (List.mem_append_right _ h)
set_option maxHeartbeats 4000000 in
set_option maxRecDepth 100000 in
theorem c_X9_faultOf (l : Launch) (D : va_G) (cI cZ cR : ClassId) (H0 : Heap) (o aS aH aG aR aV aA aB aO aP aF aC : Nat) (nd : Int32) (fs : Nat → Int32) (fh : Nat → Int32) (sg : Nat) (fg : Nat → Int32) (rq : Nat) (fq : Nat → Int32) (cl : Int32) (nr : Nat) (fV : Nat → Int32) (fA : Nat → Int32) (fB : Nat → Int32) (fO : Nat → Int32) (fP : Nat → Int32) (fF : Nat → Int32) (cn : Nat) (fC : Nat → Int32) (mx : Int32) (hsg : sg ≤ 40) : Met l yX9_faultOf wsX9_faultOf rm_X9_faultOf (po_P D cI cZ cR [.ref o] [(o, .inr (7, [.int nd, .ref aS, .ref aH, .int (nI sg), .ref aG, .int (nI rq), .ref aR, .int cl, .int (nI nr), .ref aV, .ref aA, .ref aB, .ref aO, .ref aP, .ref aF, .int (nI cn), .ref aC, .int mx])), (aS, .inl (cI, 3, .inl fs)), (aH, .inl (cI, 36, .inl fh)), (aG, .inl (cI, 40, .inl fg)), (aR, .inl (cI, 40, .inl fq)), (aV, .inl (cI, 30, .inl fV)), (aA, .inl (cI, 30, .inl fA)), (aB, .inl (cI, 30, .inl fB)), (aO, .inl (cI, 30, .inl fO)), (aP, .inl (cZ, 30, .inl fP)), (aF, .inl (cI, 120, .inl fF)), (aC, .inl (cI, 30, .inl fC))] H0) (po_Q (some (.int (x_X9_faultOf sg fg))) H0) 0 0 nF := by
  refine Met.ofW (cc := cX9_faultOf) (maxL := 7) (ret := (some .int)) (by decide +kernel) rfl ?_
  intro p e s m args below meth c s₁ B hml hv
  obtain ⟨rfl, rfl, hAM, hP⟩ := hv
  have hx := B.exec
  have hb := B.bytes
  have hr := B.returns
  have hts := atoms_spec (ws := wsX9_faultOf) B.pre
  have hown : s.vm.findClass RX9 = some m.cls := findClass_of_methodNamed B.named
  have hlocks := B.notSynchronized
  have hK := hAM.1
  generalize hE : (x_X9_faultOf sg fg) = Rv
  rw [x_X9_faultOf] at hE
  have hl := lv_entry ([.ref o]) (n := 7) (Nat.le_of_ble_eq_true rfl)
  rw [lg_entry_eq]
  generalize (lg_sl ([.ref o]) ++ List.replicate (7 - (lg_sl ([.ref o])).length) Slot.unset).toArray = ls at hl ⊢
  have hl : lv_has ls 7 [(0, .ref o)] := hl
  refine lv_iconst (v := 0) hx hb dX9_faultOf_0 (by decide) ?_
  refine lv_istore_n (lv' := [(1, .int 0), (0, .ref o)]) hx hb dX9_faultOf_1 rfl hl (by decide) rfl (fun ls hl => ?_)
  refine lv_iconst (v := 0) hx hb dX9_faultOf_2 (by decide) ?_
  refine lv_istore_n (lv' := [(2, .int 0), (1, .int 0), (0, .ref o)]) hx hb dX9_faultOf_3 rfl hl (by decide) rfl (fun ls hl => ?_)
  suffices loop : ∀ (n : Nat) (v1 : Int32) (v2 : Int32), (UP 0 sg n v2) → x_X9_faultOf_L4 sg fg n v1 v2 = Rv → ∀ ls : Array Slot, lv_has ls 7 [(0, .ref o), (1, .int v1), (2, .int v2)] → W p l e (headSpec wsX9_faultOf rm_X9_faultOf).room s m ([.ref o] : List Value).toArray below meth c s.heap [] 0 0 (MQ below (po_Q (some (.int Rv)) s.heap) ([.ref o] : List Value).toArray s 0 0 nF) (F0 m 4 ls []) from
    loop (sg + 1) 0 0 (UP.start 0 (by omega) (by omega)) hE ls (lv_sub hl [2, 1, 0] rfl)
  clear hE hl ls
  intro n
  induction n with
  | zero =>
    intro v1 v2 hI _ _ _
    exact absurd hI (UP.zero)
  | succ n ih =>
    intro v1 v2 hI hE ls hl
    rw [x_X9_faultOf_L4] at hE
    refine lv_iload_n hx hb dX9_faultOf_4 rfl (lv_at hl 2 rfl) ?_
    refine lv_aload_n hx hb dX9_faultOf_5 rfl (lv_at hl 0 rfl) ?_
    refine va_get (D := D) (ci := 7) (v := .int (nI sg)) (C := RX9) (T := TX9) (N := 18) hx hb hts in_X9_faultOf_X9 hown hK hP 0 rfl rfl 3 (by decide) (hts (.fieldLink RX9 135 "WallCountModel" "signs" "I") (List.mem_of_getElem? (i := 1) rfl)) (fun _ h9 => h9) rfl dX9_faultOf_6 ?_
    refine lv_icmp_ge (tgt := 175) hx hb dX9_faultOf_9 (by decide) (fun c_9 => ?_) (fun c_9 => ?_)
    · have hE := itT hE c_9
      refine lv_iload_n hx hb dX9_faultOf_175 rfl (lv_at hl 1 rfl) ?_
      refine lv_iconst (v := 2) hx hb dX9_faultOf_176 (by decide) ?_
      refine lv_icmp_le (tgt := 185) hx hb dX9_faultOf_177 (by decide) (fun c_177 => ?_) (fun c_177 => ?_)
      · have hE := itT hE c_177
        refine lv_aload_n hx hb dX9_faultOf_185 rfl (lv_at hl 0 rfl) ?_
        refine va_get (D := D) (ci := 7) (v := .int (nI sg)) (C := RX9) (T := TX9) (N := 18) hx hb hts in_X9_faultOf_X9 hown hK hP 0 rfl rfl 3 (by decide) (hts (.fieldLink RX9 135 "WallCountModel" "signs" "I") (List.mem_of_getElem? (i := 1) rfl)) (fun _ h9 => h9) rfl dX9_faultOf_186 ?_
        exact w_iret hx hb hr hlocks hE dX9_faultOf_189
      · have hE := itF hE c_177
        refine lv_bipush (v := (-6)) hx hb dX9_faultOf_180 (by decide +kernel) ?_
        refine lv_goto (tgt := 189) hx hb dX9_faultOf_182 (by decide) ?_
        exact w_iret hx hb hr hlocks hE dX9_faultOf_189
    · have hE := itF hE c_9
      refine lv_aload_n hx hb dX9_faultOf_12 rfl (lv_at hl 0 rfl) ?_
      refine va_get (D := D) (ci := 7) (v := .ref aG) (C := RX9) (T := TX9) (N := 18) hx hb hts in_X9_faultOf_X9 hown hK hP 0 rfl rfl 4 (by decide) (hts (.fieldLink RX9 20 "WallCountModel" "sign" "[I") (List.mem_of_getElem? (i := 2) rfl)) (fun _ h9 => h9) rfl dX9_faultOf_13 ?_
      refine lv_iload_n hx hb dX9_faultOf_16 rfl (lv_at hl 2 rfl) ?_
      refine va_iald hx hb hK hP 3 0 rfl rfl (up_in2 hI (by omega) hsg (by decide) c_9) dX9_faultOf_17 ?_
      refine lv_istore_n (lv' := [(3, .int (fg (ix v2))), (0, .ref o), (1, .int v1), (2, .int v2)]) hx hb dX9_faultOf_18 rfl hl (by decide) rfl (fun ls hl => ?_)
      refine lv_iload_n hx hb dX9_faultOf_19 rfl (lv_at hl 0 rfl) ?_
      refine lv_bipush (v := 48) hx hb dX9_faultOf_20 (by decide +kernel) ?_
      refine lv_bipush (v := 57) hx hb dX9_faultOf_22 (by decide +kernel) ?_
      refine ro_call (va_runS (As := [.int (fg (ix v2)), .int 48, .int 57]) (rest := []) ⟨hx, hb, hml, hown, hts⟩ (c_X9_in l D cI cZ cR _ (fg (ix v2)) 48 57) (va_cwS 3 hts gX9_faultOf_X9_in rfl rfl rfl hd_X9_in ⟨(Nat.le_of_ble_eq_true rfl), (Nat.le_of_ble_eq_true rfl)⟩) (po_pre hAM va_P.nil) rfl rfl hl.1 rfl (lv_room (Nat.le_of_ble_eq_true rfl)) dX9_faultOf_24 ⟨(Nat.le_of_ble_eq_true rfl), (Nat.le_of_ble_eq_true rfl)⟩) ?_
      refine lv_istore (lv' := [(4, .int (bI (x_X9_in (fg (ix v2)) 48 57))), (3, .int (fg (ix v2))), (0, .ref o), (1, .int v1), (2, .int v2)]) hx hb dX9_faultOf_27 hl (by decide) rfl (fun ls hl => ?_)
      have j29 : W p l e (headSpec wsX9_faultOf rm_X9_faultOf).room s m ([.ref o] : List Value).toArray below meth c s.heap [] 0 0 (MQ below (po_Q (some (.int Rv)) s.heap) ([.ref o] : List Value).toArray s 0 0 nF) (F0 m 46 ls [.int (bI (x_X9_faultOf_btw fg v2))]) → W p l e (headSpec wsX9_faultOf rm_X9_faultOf).room s m ([.ref o] : List Value).toArray below meth c s.heap [] 0 0 (MQ below (po_Q (some (.int Rv)) s.heap) ([.ref o] : List Value).toArray s 0 0 nF) (F0 m 29 ls []) := by
        intro k29
        generalize hJ29 : (x_X9_faultOf_btw fg v2) = v29 at k29
        rw [x_X9_faultOf_btw] at hJ29
        refine lv_iload_n hx hb dX9_faultOf_29 rfl (lv_at hl 1 rfl) ?_
        refine lv_bipush (v := 38) hx hb dX9_faultOf_30 (by decide +kernel) ?_
        refine lv_icmp_eq (tgt := 41) hx hb dX9_faultOf_32 (by decide) (fun c_32 => ?_) (fun c_32 => ?_)
        · have hJ29 := itT hJ29 c_32
          refine lv_iconst (v := 1) hx hb dX9_faultOf_41 (by decide) ?_
          refine lv_goto (tgt := 46) hx hb dX9_faultOf_42 (by decide) ?_
          subst hJ29
          exact k29
        · have hJ29 := itF hJ29 c_32
          refine lv_iload_n hx hb dX9_faultOf_35 rfl (lv_at hl 1 rfl) ?_
          refine lv_bipush (v := 124) hx hb dX9_faultOf_36 (by decide +kernel) ?_
          refine lv_icmp_ne (tgt := 45) hx hb dX9_faultOf_38 (by decide) (fun c_38 => ?_) (fun c_38 => ?_)
          · have hJ29 := itF hJ29 c_38
            refine lv_iconst (v := 0) hx hb dX9_faultOf_45 (by decide) ?_
            subst hJ29
            exact k29
          · have hJ29 := itT hJ29 c_38
            refine lv_iconst (v := 1) hx hb dX9_faultOf_41 (by decide) ?_
            refine lv_goto (tgt := 46) hx hb dX9_faultOf_42 (by decide) ?_
            subst hJ29
            exact k29
      refine j29 ?_
      refine lv_istore (lv' := [(5, .int (bI (x_X9_faultOf_btw fg v2))), (4, .int (bI (x_X9_in (fg (ix v2)) 48 57))), (3, .int (fg (ix v2))), (0, .ref o), (1, .int v1), (2, .int v2)]) hx hb dX9_faultOf_46 hl (by decide) rfl (fun ls hl => ?_)
      have j48 : W p l e (headSpec wsX9_faultOf rm_X9_faultOf).room s m ([.ref o] : List Value).toArray below meth c s.heap [] 0 0 (MQ below (po_Q (some (.int Rv)) s.heap) ([.ref o] : List Value).toArray s 0 0 nF) (F0 m 142 ls [.int (bI (x_X9_faultOf_fits fg v1 v2))]) → W p l e (headSpec wsX9_faultOf rm_X9_faultOf).room s m ([.ref o] : List Value).toArray below meth c s.heap [] 0 0 (MQ below (po_Q (some (.int Rv)) s.heap) ([.ref o] : List Value).toArray s 0 0 nF) (F0 m 48 ls []) := by
        intro k48
        generalize hJ48 : (x_X9_faultOf_fits fg v1 v2) = v48 at k48
        rw [x_X9_faultOf_fits] at hJ48
        refine lv_iload_n hx hb dX9_faultOf_48 rfl (lv_at hl 4 rfl) ?_
        refine lv_if_ne (tgt := 78) hx hb dX9_faultOf_49 (by decide) (fun c_49 => ?_) (fun c_49 => ?_)
        · have hJ48 := itF hJ48 c_49
          refine lv_iload_n hx hb dX9_faultOf_78 rfl (lv_at hl 4 rfl) ?_
          refine lv_iconst (v := 1) hx hb dX9_faultOf_79 (by decide) ?_
          refine lv_icmp_ne (tgt := 109) hx hb dX9_faultOf_80 (by decide) (fun c_80 => ?_) (fun c_80 => ?_)
          · have hJ48 := itF hJ48 c_80
            refine lv_iload hx hb dX9_faultOf_109 (lv_at hl 1 rfl) ?_
            refine w_if_eqb (tgt := 127) hx hb dX9_faultOf_111 (by decide) (fun c_111 => ?_) (fun c_111 => ?_)
            · have hJ48 := itF hJ48 c_111
              refine lv_iload hx hb dX9_faultOf_127 (lv_at hl 0 rfl) ?_
              refine w_if_eqb (tgt := 141) hx hb dX9_faultOf_129 (by decide) (fun c_129 => ?_) (fun c_129 => ?_)
              · have hJ48 := itF hJ48 c_129
                refine lv_iconst (v := 0) hx hb dX9_faultOf_141 (by decide) ?_
                subst hJ48
                exact k48
              · have hJ48 := itT hJ48 c_129
                refine lv_iload_n hx hb dX9_faultOf_132 rfl (lv_at hl 4 rfl) ?_
                refine lv_iconst (v := 2) hx hb dX9_faultOf_133 (by decide) ?_
                refine lv_icmp_le (tgt := 141) hx hb dX9_faultOf_134 (by decide) (fun c_134 => ?_) (fun c_134 => ?_)
                · have hJ48 := itT hJ48 c_134
                  refine lv_iconst (v := 0) hx hb dX9_faultOf_141 (by decide) ?_
                  subst hJ48
                  exact k48
                · have hJ48 := itF hJ48 c_134
                  refine lv_iconst (v := 1) hx hb dX9_faultOf_137 (by decide) ?_
                  refine lv_goto (tgt := 142) hx hb dX9_faultOf_138 (by decide) ?_
                  subst hJ48
                  exact k48
            · have hJ48 := itT hJ48 c_111
              refine lv_iload_n hx hb dX9_faultOf_114 rfl (lv_at hl 4 rfl) ?_
              refine lv_iconst (v := 5) hx hb dX9_faultOf_115 (by decide) ?_
              refine lv_icmp_ge (tgt := 123) hx hb dX9_faultOf_116 (by decide) (fun c_116 => ?_) (fun c_116 => ?_)
              · have hJ48 := itT hJ48 c_116
                refine lv_iconst (v := 0) hx hb dX9_faultOf_123 (by decide) ?_
                refine lv_goto (tgt := 142) hx hb dX9_faultOf_124 (by decide) ?_
                subst hJ48
                exact k48
              · have hJ48 := itF hJ48 c_116
                refine lv_iconst (v := 1) hx hb dX9_faultOf_119 (by decide) ?_
                refine lv_goto (tgt := 142) hx hb dX9_faultOf_120 (by decide) ?_
                subst hJ48
                exact k48
          · have hJ48 := itT hJ48 c_80
            refine lv_iload_n hx hb dX9_faultOf_83 rfl (lv_at hl 2 rfl) ?_
            refine lv_bipush (v := 60) hx hb dX9_faultOf_84 (by decide +kernel) ?_
            refine lv_icmp_eq (tgt := 101) hx hb dX9_faultOf_86 (by decide) (fun c_86 => ?_) (fun c_86 => ?_)
            · have hJ48 := itT hJ48 c_86
              refine lv_iconst (v := 1) hx hb dX9_faultOf_101 (by decide) ?_
              refine lv_goto (tgt := 142) hx hb dX9_faultOf_102 (by decide) ?_
              subst hJ48
              exact k48
            · have hJ48 := itF hJ48 c_86
              refine lv_iload_n hx hb dX9_faultOf_89 rfl (lv_at hl 2 rfl) ?_
              refine lv_bipush (v := 62) hx hb dX9_faultOf_90 (by decide +kernel) ?_
              refine lv_icmp_eq (tgt := 101) hx hb dX9_faultOf_92 (by decide) (fun c_92 => ?_) (fun c_92 => ?_)
              · have hJ48 := itT hJ48 c_92
                refine lv_iconst (v := 1) hx hb dX9_faultOf_101 (by decide) ?_
                refine lv_goto (tgt := 142) hx hb dX9_faultOf_102 (by decide) ?_
                subst hJ48
                exact k48
              · have hJ48 := itF hJ48 c_92
                refine lv_iload_n hx hb dX9_faultOf_95 rfl (lv_at hl 2 rfl) ?_
                refine lv_bipush (v := 61) hx hb dX9_faultOf_96 (by decide +kernel) ?_
                refine lv_icmp_ne (tgt := 105) hx hb dX9_faultOf_98 (by decide) (fun c_98 => ?_) (fun c_98 => ?_)
                · have hJ48 := itF hJ48 c_98
                  refine lv_iconst (v := 0) hx hb dX9_faultOf_105 (by decide) ?_
                  refine lv_goto (tgt := 142) hx hb dX9_faultOf_106 (by decide) ?_
                  subst hJ48
                  exact k48
                · have hJ48 := itT hJ48 c_98
                  refine lv_iconst (v := 1) hx hb dX9_faultOf_101 (by decide) ?_
                  refine lv_goto (tgt := 142) hx hb dX9_faultOf_102 (by decide) ?_
                  subst hJ48
                  exact k48
        · have hJ48 := itT hJ48 c_49
          refine lv_iload_n hx hb dX9_faultOf_52 rfl (lv_at hl 2 rfl) ?_
          refine lv_bipush (v := 97) hx hb dX9_faultOf_53 (by decide +kernel) ?_
          refine lv_icmp_eq (tgt := 70) hx hb dX9_faultOf_55 (by decide) (fun c_55 => ?_) (fun c_55 => ?_)
          · have hJ48 := itT hJ48 c_55
            refine lv_iconst (v := 1) hx hb dX9_faultOf_70 (by decide) ?_
            refine lv_goto (tgt := 142) hx hb dX9_faultOf_71 (by decide) ?_
            subst hJ48
            exact k48
          · have hJ48 := itF hJ48 c_55
            refine lv_iload_n hx hb dX9_faultOf_58 rfl (lv_at hl 2 rfl) ?_
            refine lv_bipush (v := 121) hx hb dX9_faultOf_59 (by decide +kernel) ?_
            refine lv_icmp_eq (tgt := 70) hx hb dX9_faultOf_61 (by decide) (fun c_61 => ?_) (fun c_61 => ?_)
            · have hJ48 := itT hJ48 c_61
              refine lv_iconst (v := 1) hx hb dX9_faultOf_70 (by decide) ?_
              refine lv_goto (tgt := 142) hx hb dX9_faultOf_71 (by decide) ?_
              subst hJ48
              exact k48
            · have hJ48 := itF hJ48 c_61
              refine lv_iload_n hx hb dX9_faultOf_64 rfl (lv_at hl 2 rfl) ?_
              refine lv_bipush (v := 98) hx hb dX9_faultOf_65 (by decide +kernel) ?_
              refine lv_icmp_ne (tgt := 74) hx hb dX9_faultOf_67 (by decide) (fun c_67 => ?_) (fun c_67 => ?_)
              · have hJ48 := itF hJ48 c_67
                refine lv_iconst (v := 0) hx hb dX9_faultOf_74 (by decide) ?_
                refine lv_goto (tgt := 142) hx hb dX9_faultOf_75 (by decide) ?_
                subst hJ48
                exact k48
              · have hJ48 := itT hJ48 c_67
                refine lv_iconst (v := 1) hx hb dX9_faultOf_70 (by decide) ?_
                refine lv_goto (tgt := 142) hx hb dX9_faultOf_71 (by decide) ?_
                subst hJ48
                exact k48
      refine j48 ?_
      refine lv_istore (lv' := [(6, .int (bI (x_X9_faultOf_fits fg v1 v2))), (5, .int (bI (x_X9_faultOf_btw fg v2))), (4, .int (bI (x_X9_in (fg (ix v2)) 48 57))), (3, .int (fg (ix v2))), (0, .ref o), (1, .int v1), (2, .int v2)]) hx hb dX9_faultOf_142 hl (by decide) rfl (fun ls hl => ?_)
      refine lv_iload hx hb dX9_faultOf_144 (lv_at hl 0 rfl) ?_
      refine w_if_neb (tgt := 151) hx hb dX9_faultOf_146 (by decide) (fun c_146 => ?_) (fun c_146 => ?_)
      · have hE := itT hE c_146
        have j151 : W p l e (headSpec wsX9_faultOf rm_X9_faultOf).room s m ([.ref o] : List Value).toArray below meth c s.heap [] 0 0 (MQ below (po_Q (some (.int Rv)) s.heap) ([.ref o] : List Value).toArray s 0 0 nF) (F0 m 168 ls [.int (x_X9_faultOf_next fg v1 v2)]) → W p l e (headSpec wsX9_faultOf rm_X9_faultOf).room s m ([.ref o] : List Value).toArray below meth c s.heap [] 0 0 (MQ below (po_Q (some (.int Rv)) s.heap) ([.ref o] : List Value).toArray s 0 0 nF) (F0 m 151 ls []) := by
          intro k151
          generalize hJ151 : (x_X9_faultOf_next fg v1 v2) = v151 at k151
          rw [x_X9_faultOf_next] at hJ151
          refine lv_iload_n hx hb dX9_faultOf_151 rfl (lv_at hl 5 rfl) ?_
          refine lv_iconst (v := 2) hx hb dX9_faultOf_152 (by decide) ?_
          refine lv_icmp_le (tgt := 165) hx hb dX9_faultOf_153 (by decide) (fun c_153 => ?_) (fun c_153 => ?_)
          · have hJ151 := itT hJ151 c_153
            refine lv_iload_n hx hb dX9_faultOf_165 rfl (lv_at hl 5 rfl) ?_
            refine lv_iconst (v := 1) hx hb dX9_faultOf_166 (by decide) ?_
            refine lv_iadd hx hb dX9_faultOf_167 ?_
            subst hJ151
            exact k151
          · have hJ151 := itF hJ151 c_153
            refine lv_iload hx hb dX9_faultOf_156 (lv_at hl 1 rfl) ?_
            refine w_if_eqb (tgt := 165) hx hb dX9_faultOf_158 (by decide) (fun c_158 => ?_) (fun c_158 => ?_)
            · have hJ151 := itF hJ151 c_158
              refine lv_iload_n hx hb dX9_faultOf_165 rfl (lv_at hl 5 rfl) ?_
              refine lv_iconst (v := 1) hx hb dX9_faultOf_166 (by decide) ?_
              refine lv_iadd hx hb dX9_faultOf_167 ?_
              subst hJ151
              exact k151
            · have hJ151 := itT hJ151 c_158
              refine lv_iconst (v := 0) hx hb dX9_faultOf_161 (by decide) ?_
              refine lv_goto (tgt := 168) hx hb dX9_faultOf_162 (by decide) ?_
              subst hJ151
              exact k151
        refine j151 ?_
        refine lv_istore_n (lv' := [(1, .int (x_X9_faultOf_next fg v1 v2)), (6, .int (bI (x_X9_faultOf_fits fg v1 v2))), (5, .int (bI (x_X9_faultOf_btw fg v2))), (4, .int (bI (x_X9_in (fg (ix v2)) 48 57))), (3, .int (fg (ix v2))), (0, .ref o), (2, .int v2)]) hx hb dX9_faultOf_168 rfl hl (by decide) rfl (fun ls hl => ?_)
        refine lv_iinc (v := (v2 + 1)) (lv' := [(2, .int (v2 + 1)), (1, .int (x_X9_faultOf_next fg v1 v2)), (6, .int (bI (x_X9_faultOf_fits fg v1 v2))), (5, .int (bI (x_X9_faultOf_btw fg v2))), (4, .int (bI (x_X9_in (fg (ix v2)) 48 57))), (3, .int (fg (ix v2))), (0, .ref o)]) hx hb dX9_faultOf_169 hl (k := 6) rfl rfl (by decide) rfl (fun ls hl => ?_)
        refine lv_goto (tgt := 4) hx hb dX9_faultOf_172 (by decide) ?_
        exact ih (x_X9_faultOf_next fg v1 v2) (v2 + 1) ((hI.ge (by omega) rfl c_9).1) hE ls (lv_sub hl [6, 1, 0] rfl)
      · have hE := itF hE c_146
        refine lv_iload_n hx hb dX9_faultOf_149 rfl (lv_at hl 6 rfl) ?_
        exact w_iret hx hb hr hlocks hE dX9_faultOf_150

theorem hd_X9_fault : yX9_fault.cls ≠ "java/lang/invoke/MethodHandle" ∧ yX9_fault.cls ≠ "java/lang/invoke/VarHandle" ∧ (parseMethodDescriptor yX9_fault.desc).map (fun d => d.parameters.length) = some 0 := by decide +kernel
def x_X9_fault (sg : Nat) (fg : Nat → Int32) : Int32 := (x_X9_faultOf sg fg)
def rm_X9_fault : Room := { frames := 2, cells := 0, slots := 0, locals := 48 }
theorem in_X9_fault_X9 : ∀ w ∈ wsX90, w ∈ wsX9_fault := fun _ h => List.mem_cons_of_mem _ (List.mem_append_right _ h)
set_option maxHeartbeats 4000000 in
set_option maxRecDepth 100000 in
theorem c_X9_fault (l : Launch) (D : va_G) (cI cZ cR : ClassId) (H0 : Heap) (o aS aH aG aR aV aA aB aO aP aF aC : Nat) (nd : Int32) (fs : Nat → Int32) (fh : Nat → Int32) (sg : Nat) (fg : Nat → Int32) (rq : Nat) (fq : Nat → Int32) (cl : Int32) (nr : Nat) (fV : Nat → Int32) (fA : Nat → Int32) (fB : Nat → Int32) (fO : Nat → Int32) (fP : Nat → Int32) (fF : Nat → Int32) (cn : Nat) (fC : Nat → Int32) (mx : Int32) (hsg : sg ≤ 40) : Met l yX9_fault wsX9_fault rm_X9_fault (po_P D cI cZ cR [.ref o] [(o, .inr (7, [.int nd, .ref aS, .ref aH, .int (nI sg), .ref aG, .int (nI rq), .ref aR, .int cl, .int (nI nr), .ref aV, .ref aA, .ref aB, .ref aO, .ref aP, .ref aF, .int (nI cn), .ref aC, .int mx])), (aS, .inl (cI, 3, .inl fs)), (aH, .inl (cI, 36, .inl fh)), (aG, .inl (cI, 40, .inl fg)), (aR, .inl (cI, 40, .inl fq)), (aV, .inl (cI, 30, .inl fV)), (aA, .inl (cI, 30, .inl fA)), (aB, .inl (cI, 30, .inl fB)), (aO, .inl (cI, 30, .inl fO)), (aP, .inl (cZ, 30, .inl fP)), (aF, .inl (cI, 120, .inl fF)), (aC, .inl (cI, 30, .inl fC))] H0) (po_Q (some (.int (x_X9_fault sg fg))) H0) 0 0 nF := by
  refine Met.ofW (cc := cX9_fault) (maxL := 1) (ret := (some .int)) (by decide +kernel) rfl ?_
  intro p e s m args below meth c s₁ B hml hv
  obtain ⟨rfl, rfl, hAM, hP⟩ := hv
  have hx := B.exec
  have hb := B.bytes
  have hr := B.returns
  have hts := atoms_spec (ws := wsX9_fault) B.pre
  have hown : s.vm.findClass RX9 = some m.cls := findClass_of_methodNamed B.named
  have hlocks := B.notSynchronized
  have hK := hAM.1
  generalize hE : (x_X9_fault sg fg) = Rv
  rw [x_X9_fault] at hE
  have hl := lv_entry ([.ref o]) (n := 1) (Nat.le_of_ble_eq_true rfl)
  rw [lg_entry_eq]
  generalize (lg_sl ([.ref o]) ++ List.replicate (1 - (lg_sl ([.ref o])).length) Slot.unset).toArray = ls at hl ⊢
  have hl : lv_has ls 1 [(0, .ref o)] := hl
  refine lv_aload_n hx hb dX9_fault_0 rfl (lv_at hl 0 rfl) ?_
  refine ro_call (va_runV (As := []) (rest := []) ⟨hx, hb, hml, hown, hts⟩ (c_X9_faultOf l D cI cZ cR _ o aS aH aG aR aV aA aB aO aP aF aC nd fs fh sg fg rq fq cl nr fV fA fB fO fP fF cn fC mx hsg) (cwV 0 hts gX9_fault_X9_faultOf rfl rfl rfl ⟨rfl, hd_X9_faultOf⟩ ⟨(Nat.le_of_ble_eq_true rfl), (Nat.le_of_ble_eq_true rfl)⟩) (po_preV hAM (hP.sub [0, 1, 2, 3, 4, 5, 6, 7, 8, 9, 10, 11] rfl) (va_recv hK hP (ci := 7) (q0 := 0) rfl rfl)) rfl rfl hl.1 rfl (lv_room (Nat.le_of_ble_eq_true rfl)) dX9_fault_1 ⟨(Nat.le_of_ble_eq_true rfl), (Nat.le_of_ble_eq_true rfl)⟩) ?_
  exact w_iret hx hb hr hlocks hE dX9_fault_4

theorem hd_X9_mayVote : yX9_mayVote.cls ≠ "java/lang/invoke/MethodHandle" ∧ yX9_mayVote.cls ≠ "java/lang/invoke/VarHandle" ∧ (parseMethodDescriptor yX9_mayVote.desc).map (fun d => d.parameters.length) = some 1 := by decide +kernel
def x_X9_mayVote_what (fq : Nat → Int32) (v4 : Int32) : Int32 := (if (fq (ix v4)) = 97 then 0 else (if (fq (ix v4)) = 121 then 1 else 2))
def x_X9_mayVote_num (rq : Nat) (fq : Nat → Int32) : Nat → Int32 → Int32 → Int32 × Int32
  | 0, u8, u4 => (u8, u4)
  | n + 1, u8, u4 => (if (nI rq) ≤ u4 then (u8, u4) else (if (x_X9_in (fq (ix u4)) 48 57) = true then (x_X9_mayVote_num rq fq n (((10 * u8) + (fq (ix u4))) - 48) (u4 + 1)) else (u8, u4)))
def x_X9_mayVote_all (rq : Nat) (fq : Nat → Int32) (fh : Nat → Int32) (p0 : Int32) (v3 : Bool) (v4 : Int32) : Bool := (if v3 = true then (if (fq (ix (v4 + 1))) = 60 then (if (x_X9_mayVote_num rq fq (41) 0 (v4 + 2)).1 ≤ (fh (ix ((3 * p0) + (x_X9_mayVote_what fq v4)))) then false else true) else (if (fq (ix (v4 + 1))) = 62 then (if (fh (ix ((3 * p0) + (x_X9_mayVote_what fq v4)))) ≤ (x_X9_mayVote_num rq fq (41) 0 (v4 + 2)).1 then false else true) else (if (fh (ix ((3 * p0) + (x_X9_mayVote_what fq v4)))) = (x_X9_mayVote_num rq fq (41) 0 (v4 + 2)).1 then true else false))) else false)
def x_X9_mayVote_any (rq : Nat) (fq : Nat → Int32) (fh : Nat → Int32) (p0 : Int32) (v2 : Bool) (v3 : Bool) (v4 : Int32) : Bool := (if v2 = true then true else (if (x_X9_mayVote_all rq fq fh p0 v3 v4) = true then true else false))
def x_X9_mayVote_L16 (rq : Nat) (fq : Nat → Int32) (fh : Nat → Int32) (p0 : Int32) : Nat → Bool → Bool → Int32 → Bool
  | 0, _, _, _ => false
  | n + 1, v2, v3, v4 => (if (nI rq) ≤ v4 then v2 else (if (x_X9_mayVote_num rq fq (41) 0 (v4 + 2)).2 = (nI rq) then (x_X9_mayVote_L16 rq fq fh p0 n (x_X9_mayVote_any rq fq fh p0 v2 v3 v4) true ((x_X9_mayVote_num rq fq (41) 0 (v4 + 2)).2 + 1)) else (if (fq (ix (x_X9_mayVote_num rq fq (41) 0 (v4 + 2)).2)) = 124 then (x_X9_mayVote_L16 rq fq fh p0 n (x_X9_mayVote_any rq fq fh p0 v2 v3 v4) true ((x_X9_mayVote_num rq fq (41) 0 (v4 + 2)).2 + 1)) else (x_X9_mayVote_L16 rq fq fh p0 n v2 (x_X9_mayVote_all rq fq fh p0 v3 v4) ((x_X9_mayVote_num rq fq (41) 0 (v4 + 2)).2 + 1)))))
def x_X9_mayVote (rq : Nat) (fq : Nat → Int32) (fh : Nat → Int32) (p0 : Int32) : Bool := (if (nI rq) = 0 then true else (x_X9_mayVote_L16 rq fq fh p0 (43) false true 0))
theorem what_in (fq : Nat → Int32) (v4 : Int32) : x_X9_mayVote_what fq v4 = 0 ∨ x_X9_mayVote_what fq v4 = 1 ∨ x_X9_mayVote_what fq v4 = 2 := by
  rw [x_X9_mayVote_what]
  split
  · exact Or.inl rfl
  · split
    · exact Or.inr (Or.inl rfl)
    · exact Or.inr (Or.inr rfl)
theorem voter_of {p : Int32} (h : x_X9_isVoter p = true) : ∃ j : Nat, p = nI j ∧ j ≤ 11 := by
  rw [x_X9_isVoter, x_X9_in] at h
  by_cases h0 : p < 0
  · rw [if_pos h0] at h
    cases h
  · rw [if_neg h0] at h
    by_cases h1 : (11 : Int32) < p
    · rw [if_pos h1] at h
      cases h
    · obtain ⟨j, hj, rfl⟩ := nI_of h0
      refine ⟨j, rfl, ?_⟩
      rcases Nat.lt_or_ge 11 j with q | q
      · exact absurd (nI_lt q hj) h1
      · exact q
theorem has_in {p w : Int32} (h : x_X9_isVoter p = true) (hw : w = 0 ∨ w = 1 ∨ w = 2) : vp_in (3 * p + w) 36 := by
  obtain ⟨j, rfl, hj⟩ := voter_of h
  rw [show (3 : Int32) = nI 3 from rfl, pk_mul]
  rcases hw with e | e | e <;> subst e
  · rw [show (0 : Int32) = nI 0 from rfl, nI_add]
    exact vp_in_nI (by omega) (by decide)
  · rw [show (1 : Int32) = nI 1 from rfl, nI_add]
    exact vp_in_nI (by omega) (by decide)
  · rw [show (2 : Int32) = nI 2 from rfl, nI_add]
    exact vp_in_nI (by omega) (by decide)
theorem dig_eq (x : Int32) : x_X9_in x 48 57 = x_X6_isDigit x := rfl
theorem IV.step {rq : Nat} {f : Nat → Int32} {n : Nat} {v : Int32} (hI : IV rq f (n + 1) v) (hV : VT rq f) (hc : ¬ nI rq ≤ v) (hd : x_X9_in (f (ix v)) 48 57 = true) : IV rq f n (v + 1) := by
  obtain ⟨i, rfl, hq, h1, h2, h3⟩ := hI.lt hc
  rw [ix_nI (by omega), dig_eq] at hd
  exact ⟨i + 1, nI_1 i, hq, h1, ps_digit h2 (hV.1 i h1) hd, by omega⟩
theorem num_out {rq : Nat} {f : Nat → Int32} (hV : VT rq f) : ∀ (n : Nat) (u8 : Int32) (i0 : Nat), IV rq f n (nI i0) → i0 < 2 ^ 31 → ∃ i : Nat, (x_X9_mayVote_num rq f n u8 (nI i0)).2 = nI i ∧ i0 ≤ i ∧ i ≤ rq ∧ rq ≤ 40 ∧ (i < rq → tau f (i + 1) = 0) := by
  intro n
  induction n with
  | zero => exact fun _ _ h => absurd h IV.zero
  | succ n ih =>
    intro u8 i0 hI h0
    rw [x_X9_mayVote_num]
    by_cases hc : nI rq ≤ nI i0
    · rw [if_pos hc]
      obtain ⟨i, e, hq, h1, h2, h3⟩ := hI
      have e : i0 = i := (nI_eq h0 (by omega)).mp e
      have e2 : rq ≤ i0 := (nI_leI (by omega) h0).mp hc
      exact ⟨i0, rfl, by omega, by omega, hq, fun q => by omega⟩
    · rw [if_neg hc]
      obtain ⟨i, e, hq, h1, h2, h3⟩ := hI.lt hc
      have e : i0 = i := (nI_eq h0 (by omega)).mp e
      subst e
      by_cases hd : x_X9_in (f (ix (nI i0))) 48 57 = true
      · rw [if_pos hd]
        have hs := hI.step hV hc hd
        rw [nI_1] at hs ⊢
        obtain ⟨k, e1, e2, e3⟩ := ih (10 * u8 + f (ix (nI i0)) - 48) (i0 + 1) hs (by omega)
        exact ⟨k, e1, by omega, e3⟩
      · rw [if_neg hd]
        rw [ix_nI h0, dig_eq] at hd
        exact ⟨i0, rfl, by omega, by omega, hq, fun q => (ps_other h2 (hV.1 i0 q) hd).2⟩
theorem num_ov {rq : Nat} {f : Nat → Int32} {n : Nat} {v : Int32} (hV : VT rq f) (u8 : Int32) (hI : OV rq f (n + 1) v) (hc : ¬ nI rq ≤ v) : (¬ (x_X9_mayVote_num rq f 41 u8 (v + 2)).2 = nI rq → vp_in (x_X9_mayVote_num rq f 41 u8 (v + 2)).2 40) ∧ OV rq f n ((x_X9_mayVote_num rq f 41 u8 (v + 2)).2 + 1) := by
  have hi := hI.inner hV hc
  obtain ⟨j, rfl, hq, h1, t0, t1, t2, -, -, hn⟩ := hI.here hV hc
  rw [show (2 : Int32) = nI 2 from rfl, nI_add] at hi ⊢
  obtain ⟨i, e, h2, h3, -, h5⟩ := num_out hV 41 u8 (j + 2) hi (by omega)
  rw [e]
  refine ⟨fun q => vp_in_nI (by
    rcases Nat.lt_or_ge i rq with r | r
    · omega
    · exact absurd (by rw [show i = rq by omega]) q) (by decide), i + 1, nI_1 i, hq, ?_, by omega⟩
  rcases Nat.lt_or_ge i rq with r | r
  · left
    refine ⟨?_, h5 r⟩
    rcases Nat.lt_or_ge (i + 1) rq with r2 | r2
    · exact r2
    · have h9 := hV.2 (by omega)
      rw [show rq = i + 1 by omega, h5 r] at h9
      exact absurd (by decide +kernel) h9
  · right
    omega
def rm_X9_mayVote : Room := { frames := 1, cells := 0, slots := 0, locals := 22 }
theorem in_X9_mayVote_X9 : ∀ w ∈ wsX90, w ∈ wsX9_mayVote := fun _ h => List.mem_cons_of_mem _ (List.mem_append_right _ h)
set_option maxHeartbeats 4000000 in
set_option maxRecDepth 100000 in
theorem c_X9_mayVote (l : Launch) (D : va_G) (cI cZ cR : ClassId) (H0 : Heap) (o aS aH aG aR aV aA aB aO aP aF aC : Nat) (nd : Int32) (fs : Nat → Int32) (fh : Nat → Int32) (sg : Nat) (fg : Nat → Int32) (rq : Nat) (fq : Nat → Int32) (cl : Int32) (nr : Nat) (fV : Nat → Int32) (fA : Nat → Int32) (fB : Nat → Int32) (fO : Nat → Int32) (fP : Nat → Int32) (fF : Nat → Int32) (cn : Nat) (fC : Nat → Int32) (mx : Int32) (p0 : Int32) (hσ : VT rq fq) (hq : rq ≤ 40) (hv : x_X9_isVoter p0 = true) : Met l yX9_mayVote wsX9_mayVote rm_X9_mayVote (po_P D cI cZ cR [.ref o, .int p0] [(o, .inr (7, [.int nd, .ref aS, .ref aH, .int (nI sg), .ref aG, .int (nI rq), .ref aR, .int cl, .int (nI nr), .ref aV, .ref aA, .ref aB, .ref aO, .ref aP, .ref aF, .int (nI cn), .ref aC, .int mx])), (aS, .inl (cI, 3, .inl fs)), (aH, .inl (cI, 36, .inl fh)), (aG, .inl (cI, 40, .inl fg)), (aR, .inl (cI, 40, .inl fq)), (aV, .inl (cI, 30, .inl fV)), (aA, .inl (cI, 30, .inl fA)), (aB, .inl (cI, 30, .inl fB)), (aO, .inl (cI, 30, .inl fO)), (aP, .inl (cZ, 30, .inl fP)), (aF, .inl (cI, 120, .inl fF)), (aC, .inl (cI, 30, .inl fC))] H0) (po_Q (some (.int (bI (x_X9_mayVote rq fq fh p0)))) H0) 0 0 nF := by
  refine Met.ofW (cc := cX9_mayVote) (maxL := 9) (ret := (some .boolean)) (by decide +kernel) rfl ?_
  intro p e s m args below meth c s₁ B hml hv
  obtain ⟨rfl, rfl, hAM, hP⟩ := hv
  have hx := B.exec
  have hb := B.bytes
  have hr := B.returns
  have hts := atoms_spec (ws := wsX9_mayVote) B.pre
  have hown : s.vm.findClass RX9 = some m.cls := findClass_of_methodNamed B.named
  have hlocks := B.notSynchronized
  have hK := hAM.1
  generalize hE : (x_X9_mayVote rq fq fh p0) = Rv
  rw [x_X9_mayVote] at hE
  have hl := lv_entry ([.ref o, .int p0]) (n := 9) (Nat.le_of_ble_eq_true rfl)
  rw [lg_entry_eq]
  generalize (lg_sl ([.ref o, .int p0]) ++ List.replicate (9 - (lg_sl ([.ref o, .int p0])).length) Slot.unset).toArray = ls at hl ⊢
  have hl : lv_has ls 9 [(0, .ref o), (1, .int p0)] := hl
  refine lv_aload_n hx hb dX9_mayVote_0 rfl (lv_at hl 0 rfl) ?_
  refine va_get (D := D) (ci := 7) (v := .int (nI rq)) (C := RX9) (T := TX9) (N := 18) hx hb hts in_X9_mayVote_X9 hown hK hP 0 rfl rfl 5 (by decide) (hts (.fieldLink RX9 141 "WallCountModel" "ruleMany" "I") (List.mem_of_getElem? (i := 1) rfl)) (fun _ h9 => h9) rfl dX9_mayVote_1 ?_
  refine lv_if_ne (tgt := 9) hx hb dX9_mayVote_4 (by decide) (fun c_4 => ?_) (fun c_4 => ?_)
  · have hE := itF hE c_4
    refine lv_iconst (v := 0) hx hb dX9_mayVote_9 (by decide) ?_
    refine lv_istore_n (lv' := [(2, .int 0), (0, .ref o), (1, .int p0)]) hx hb dX9_mayVote_10 rfl hl (by decide) rfl (fun ls hl => ?_)
    refine lv_iconst (v := 1) hx hb dX9_mayVote_11 (by decide) ?_
    refine lv_istore_n (lv' := [(3, .int 1), (2, .int 0), (0, .ref o), (1, .int p0)]) hx hb dX9_mayVote_12 rfl hl (by decide) rfl (fun ls hl => ?_)
    refine lv_iconst (v := 0) hx hb dX9_mayVote_13 (by decide) ?_
    refine lv_istore (lv' := [(4, .int 0), (3, .int 1), (2, .int 0), (0, .ref o), (1, .int p0)]) hx hb dX9_mayVote_14 hl (by decide) rfl (fun ls hl => ?_)
    suffices loop : ∀ (n : Nat) (v2 : Bool) (v3 : Bool) (v4 : Int32), (OV rq fq n v4) → x_X9_mayVote_L16 rq fq fh p0 n v2 v3 v4 = Rv → ∀ ls : Array Slot, lv_has ls 9 [(0, .ref o), (1, .int p0), (2, .int (bI v2)), (3, .int (bI v3)), (4, .int v4)] → W p l e (headSpec wsX9_mayVote rm_X9_mayVote).room s m ([.ref o, .int p0] : List Value).toArray below meth c s.heap [] 0 0 (MQ below (po_Q (some (.int (bI Rv))) s.heap) ([.ref o, .int p0] : List Value).toArray s 0 0 nF) (F0 m 16 ls []) from
      loop (43) false true 0 (OV.start hq c_4) hE ls (lv_sub hl [3, 4, 2, 1, 0] rfl)
    clear hE hl ls
    intro n
    induction n with
    | zero =>
      intro v2 v3 v4 hI _ _ _
      exact absurd hI (OV.zero)
    | succ n ih =>
      intro v2 v3 v4 hI hE ls hl
      rw [x_X9_mayVote_L16] at hE
      refine lv_iload hx hb dX9_mayVote_16 (lv_at hl 4 rfl) ?_
      refine lv_aload_n hx hb dX9_mayVote_18 rfl (lv_at hl 0 rfl) ?_
      refine va_get (D := D) (ci := 7) (v := .int (nI rq)) (C := RX9) (T := TX9) (N := 18) hx hb hts in_X9_mayVote_X9 hown hK hP 0 rfl rfl 5 (by decide) (hts (.fieldLink RX9 141 "WallCountModel" "ruleMany" "I") (List.mem_of_getElem? (i := 1) rfl)) (fun _ h9 => h9) rfl dX9_mayVote_19 ?_
      refine lv_icmp_ge (tgt := 234) hx hb dX9_mayVote_22 (by decide) (fun c_22 => ?_) (fun c_22 => ?_)
      · have hE := itT hE c_22
        refine lv_iload_n hx hb dX9_mayVote_234 rfl (lv_at hl 2 rfl) ?_
        exact w_zret (v := v2) hx hb hr hlocks hE dX9_mayVote_235
      · have hE := itF hE c_22
        have j25 : W p l e (headSpec wsX9_mayVote rm_X9_mayVote).room s m ([.ref o, .int p0] : List Value).toArray below meth c s.heap [] 0 0 (MQ below (po_Q (some (.int (bI Rv))) s.heap) ([.ref o, .int p0] : List Value).toArray s 0 0 nF) (F0 m 58 ls [.int (x_X9_mayVote_what fq v4)]) → W p l e (headSpec wsX9_mayVote rm_X9_mayVote).room s m ([.ref o, .int p0] : List Value).toArray below meth c s.heap [] 0 0 (MQ below (po_Q (some (.int (bI Rv))) s.heap) ([.ref o, .int p0] : List Value).toArray s 0 0 nF) (F0 m 25 ls []) := by
          intro k25
          generalize hJ25 : (x_X9_mayVote_what fq v4) = v25 at k25
          rw [x_X9_mayVote_what] at hJ25
          refine lv_aload_n hx hb dX9_mayVote_25 rfl (lv_at hl 0 rfl) ?_
          refine va_get (D := D) (ci := 7) (v := .ref aR) (C := RX9) (T := TX9) (N := 18) hx hb hts in_X9_mayVote_X9 hown hK hP 0 rfl rfl 6 (by decide) (hts (.fieldLink RX9 23 "WallCountModel" "ruleSign" "[I") (List.mem_of_getElem? (i := 2) rfl)) (fun _ h9 => h9) rfl dX9_mayVote_26 ?_
          refine lv_iload hx hb dX9_mayVote_29 (lv_at hl 4 rfl) ?_
          refine va_iald hx hb hK hP 4 0 rfl rfl (hI.in0 hσ c_22) dX9_mayVote_31 ?_
          refine lv_bipush (v := 97) hx hb dX9_mayVote_32 (by decide +kernel) ?_
          refine lv_icmp_ne (tgt := 41) hx hb dX9_mayVote_34 (by decide) (fun c_34 => ?_) (fun c_34 => ?_)
          · have hJ25 := itF hJ25 c_34
            refine lv_aload_n hx hb dX9_mayVote_41 rfl (lv_at hl 0 rfl) ?_
            refine va_get (D := D) (ci := 7) (v := .ref aR) (C := RX9) (T := TX9) (N := 18) hx hb hts in_X9_mayVote_X9 hown hK hP 0 rfl rfl 6 (by decide) (hts (.fieldLink RX9 23 "WallCountModel" "ruleSign" "[I") (List.mem_of_getElem? (i := 2) rfl)) (fun _ h9 => h9) rfl dX9_mayVote_42 ?_
            refine lv_iload hx hb dX9_mayVote_45 (lv_at hl 4 rfl) ?_
            refine va_iald hx hb hK hP 4 0 rfl rfl (hI.in0 hσ c_22) dX9_mayVote_47 ?_
            refine lv_bipush (v := 121) hx hb dX9_mayVote_48 (by decide +kernel) ?_
            refine lv_icmp_ne (tgt := 57) hx hb dX9_mayVote_50 (by decide) (fun c_50 => ?_) (fun c_50 => ?_)
            · have hJ25 := itF hJ25 c_50
              refine lv_iconst (v := 2) hx hb dX9_mayVote_57 (by decide) ?_
              subst hJ25
              exact k25
            · have hJ25 := itT hJ25 c_50
              refine lv_iconst (v := 1) hx hb dX9_mayVote_53 (by decide) ?_
              refine lv_goto (tgt := 58) hx hb dX9_mayVote_54 (by decide) ?_
              subst hJ25
              exact k25
          · have hJ25 := itT hJ25 c_34
            refine lv_iconst (v := 0) hx hb dX9_mayVote_37 (by decide) ?_
            refine lv_goto (tgt := 58) hx hb dX9_mayVote_38 (by decide) ?_
            subst hJ25
            exact k25
        refine j25 ?_
        refine lv_istore (lv' := [(5, .int (x_X9_mayVote_what fq v4)), (0, .ref o), (1, .int p0), (2, .int (bI v2)), (3, .int (bI v3)), (4, .int v4)]) hx hb dX9_mayVote_58 hl (by decide) rfl (fun ls hl => ?_)
        refine lv_aload_n hx hb dX9_mayVote_60 rfl (lv_at hl 1 rfl) ?_
        refine va_get (D := D) (ci := 7) (v := .ref aH) (C := RX9) (T := TX9) (N := 18) hx hb hts in_X9_mayVote_X9 hown hK hP 0 rfl rfl 2 (by decide) (hts (.fieldLink RX9 17 "WallCountModel" "has" "[I") (List.mem_of_getElem? (i := 3) rfl)) (fun _ h9 => h9) rfl dX9_mayVote_61 ?_
        refine lv_iconst (v := 3) hx hb dX9_mayVote_64 (by decide) ?_
        refine lv_iload_n hx hb dX9_mayVote_65 rfl (lv_at hl 2 rfl) ?_
        refine lv_imul hx hb dX9_mayVote_66 ?_
        refine lv_iload hx hb dX9_mayVote_67 (lv_at hl 0 rfl) ?_
        refine lv_iadd hx hb dX9_mayVote_69 ?_
        refine va_iald hx hb hK hP 2 0 rfl rfl (has_in hv (what_in _ _)) dX9_mayVote_70 ?_
        refine lv_istore (lv' := [(6, .int (fh (ix ((3 * p0) + (x_X9_mayVote_what fq v4))))), (5, .int (x_X9_mayVote_what fq v4)), (0, .ref o), (1, .int p0), (2, .int (bI v2)), (3, .int (bI v3)), (4, .int v4)]) hx hb dX9_mayVote_71 hl (by decide) rfl (fun ls hl => ?_)
        refine lv_aload_n hx hb dX9_mayVote_73 rfl (lv_at hl 2 rfl) ?_
        refine va_get (D := D) (ci := 7) (v := .ref aR) (C := RX9) (T := TX9) (N := 18) hx hb hts in_X9_mayVote_X9 hown hK hP 0 rfl rfl 6 (by decide) (hts (.fieldLink RX9 23 "WallCountModel" "ruleSign" "[I") (List.mem_of_getElem? (i := 2) rfl)) (fun _ h9 => h9) rfl dX9_mayVote_74 ?_
        refine lv_iload hx hb dX9_mayVote_77 (lv_at hl 6 rfl) ?_
        refine lv_iconst (v := 1) hx hb dX9_mayVote_79 (by decide) ?_
        refine lv_iadd hx hb dX9_mayVote_80 ?_
        refine va_iald hx hb hK hP 4 0 rfl rfl (hI.in1 hσ c_22) dX9_mayVote_81 ?_
        refine lv_istore (lv' := [(7, .int (fq (ix (v4 + 1)))), (6, .int (fh (ix ((3 * p0) + (x_X9_mayVote_what fq v4))))), (5, .int (x_X9_mayVote_what fq v4)), (0, .ref o), (1, .int p0), (2, .int (bI v2)), (3, .int (bI v3)), (4, .int v4)]) hx hb dX9_mayVote_82 hl (by decide) rfl (fun ls hl => ?_)
        refine lv_iconst (v := 0) hx hb dX9_mayVote_84 (by decide) ?_
        refine lv_istore (lv' := [(8, .int 0), (7, .int (fq (ix (v4 + 1)))), (6, .int (fh (ix ((3 * p0) + (x_X9_mayVote_what fq v4))))), (5, .int (x_X9_mayVote_what fq v4)), (0, .ref o), (1, .int p0), (2, .int (bI v2)), (3, .int (bI v3)), (4, .int v4)]) hx hb dX9_mayVote_85 hl (by decide) rfl (fun ls hl => ?_)
        refine lv_iinc (v := (v4 + 2)) (lv' := [(4, .int (v4 + 2)), (8, .int 0), (7, .int (fq (ix (v4 + 1)))), (6, .int (fh (ix ((3 * p0) + (x_X9_mayVote_what fq v4))))), (5, .int (x_X9_mayVote_what fq v4)), (0, .ref o), (1, .int p0), (2, .int (bI v2)), (3, .int (bI v3))]) hx hb dX9_mayVote_87 hl (k := 8) rfl rfl (by decide) rfl (fun ls hl => ?_)
        have inner90 : ∀ (n : Nat) (u8 : Int32) (u4 : Int32) (RV : Int32 × Int32), (IV rq fq n u4) → x_X9_mayVote_num rq fq n u8 u4 = RV → (∀ ls : Array Slot, lv_has ls 9 [(0, .ref o), (1, .int p0), (2, .int (bI v2)), (3, .int (bI v3)), (4, .int RV.2), (6, .int (fh (ix ((3 * p0) + (x_X9_mayVote_what fq v4))))), (7, .int (fq (ix (v4 + 1)))), (8, .int RV.1)] → W p l e (headSpec wsX9_mayVote rm_X9_mayVote).room s m ([.ref o, .int p0] : List Value).toArray below meth c s.heap [] 0 0 (MQ below (po_Q (some (.int (bI Rv))) s.heap) ([.ref o, .int p0] : List Value).toArray s 0 0 nF) (F0 m 140 ls [])) → ∀ ls : Array Slot, lv_has ls 9 [(0, .ref o), (1, .int p0), (2, .int (bI v2)), (3, .int (bI v3)), (4, .int u4), (6, .int (fh (ix ((3 * p0) + (x_X9_mayVote_what fq v4))))), (7, .int (fq (ix (v4 + 1)))), (8, .int u8)] → W p l e (headSpec wsX9_mayVote rm_X9_mayVote).room s m ([.ref o, .int p0] : List Value).toArray below meth c s.heap [] 0 0 (MQ below (po_Q (some (.int (bI Rv))) s.heap) ([.ref o, .int p0] : List Value).toArray s 0 0 nF) (F0 m 90 ls []) := by
          clear hl hE ls
          intro n
          induction n with
          | zero =>
            intro u8 u4 RV hI _ _ _ _
            exact absurd hI (IV.zero)
          | succ n ih90 =>
            intro u8 u4 RV hI hE90 kx90 ls hl
            rw [x_X9_mayVote_num] at hE90
            refine lv_iload hx hb dX9_mayVote_90 (lv_at hl 4 rfl) ?_
            refine lv_aload_n hx hb dX9_mayVote_92 rfl (lv_at hl 0 rfl) ?_
            refine va_get (D := D) (ci := 7) (v := .int (nI rq)) (C := RX9) (T := TX9) (N := 18) hx hb hts in_X9_mayVote_X9 hown hK hP 0 rfl rfl 5 (by decide) (hts (.fieldLink RX9 141 "WallCountModel" "ruleMany" "I") (List.mem_of_getElem? (i := 1) rfl)) (fun _ h9 => h9) rfl dX9_mayVote_93 ?_
            refine lv_icmp_ge (tgt := 140) hx hb dX9_mayVote_96 (by decide) (fun c_96 => ?_) (fun c_96 => ?_)
            · have hE90 := itT hE90 c_96
              subst hE90
              exact kx90 ls (lv_sub hl [0, 1, 2, 3, 4, 5, 6, 7] rfl)
            · have hE90 := itF hE90 c_96
              refine lv_aload_n hx hb dX9_mayVote_99 rfl (lv_at hl 0 rfl) ?_
              refine va_get (D := D) (ci := 7) (v := .ref aR) (C := RX9) (T := TX9) (N := 18) hx hb hts in_X9_mayVote_X9 hown hK hP 0 rfl rfl 6 (by decide) (hts (.fieldLink RX9 23 "WallCountModel" "ruleSign" "[I") (List.mem_of_getElem? (i := 2) rfl)) (fun _ h9 => h9) rfl dX9_mayVote_100 ?_
              refine lv_iload hx hb dX9_mayVote_103 (lv_at hl 4 rfl) ?_
              refine va_iald hx hb hK hP 4 0 rfl rfl (hI.inn c_96) dX9_mayVote_105 ?_
              refine lv_bipush (v := 48) hx hb dX9_mayVote_106 (by decide +kernel) ?_
              refine lv_bipush (v := 57) hx hb dX9_mayVote_108 (by decide +kernel) ?_
              refine ro_call (va_runS (As := [.int (fq (ix u4)), .int 48, .int 57]) (rest := []) ⟨hx, hb, hml, hown, hts⟩ (c_X9_in l D cI cZ cR _ (fq (ix u4)) 48 57) (va_cwS 3 hts gX9_mayVote_X9_in rfl rfl rfl hd_X9_in ⟨(Nat.le_of_ble_eq_true rfl), (Nat.le_of_ble_eq_true rfl)⟩) (po_pre hAM va_P.nil) rfl rfl hl.1 rfl (lv_room (Nat.le_of_ble_eq_true rfl)) dX9_mayVote_110 ⟨(Nat.le_of_ble_eq_true rfl), (Nat.le_of_ble_eq_true rfl)⟩) ?_
              refine w_if_eqb (tgt := 140) hx hb dX9_mayVote_113 (by decide) (fun c_113 => ?_) (fun c_113 => ?_)
              · have hE90 := itF hE90 c_113
                subst hE90
                exact kx90 ls (lv_sub hl [0, 1, 2, 3, 4, 5, 6, 7] rfl)
              · have hE90 := itT hE90 c_113
                refine lv_bipush (v := 10) hx hb dX9_mayVote_116 (by decide +kernel) ?_
                refine lv_iload hx hb dX9_mayVote_118 (lv_at hl 7 rfl) ?_
                refine lv_imul hx hb dX9_mayVote_120 ?_
                refine lv_aload_n hx hb dX9_mayVote_121 rfl (lv_at hl 0 rfl) ?_
                refine va_get (D := D) (ci := 7) (v := .ref aR) (C := RX9) (T := TX9) (N := 18) hx hb hts in_X9_mayVote_X9 hown hK hP 0 rfl rfl 6 (by decide) (hts (.fieldLink RX9 23 "WallCountModel" "ruleSign" "[I") (List.mem_of_getElem? (i := 2) rfl)) (fun _ h9 => h9) rfl dX9_mayVote_122 ?_
                refine lv_iload hx hb dX9_mayVote_125 (lv_at hl 4 rfl) ?_
                refine va_iald hx hb hK hP 4 0 rfl rfl (hI.inn c_96) dX9_mayVote_127 ?_
                refine lv_iadd hx hb dX9_mayVote_128 ?_
                refine lv_bipush (v := 48) hx hb dX9_mayVote_129 (by decide +kernel) ?_
                refine lv_isub hx hb dX9_mayVote_131 ?_
                refine lv_istore (lv' := [(8, .int (((10 * u8) + (fq (ix u4))) - 48)), (0, .ref o), (1, .int p0), (2, .int (bI v2)), (3, .int (bI v3)), (4, .int u4), (6, .int (fh (ix ((3 * p0) + (x_X9_mayVote_what fq v4))))), (7, .int (fq (ix (v4 + 1))))]) hx hb dX9_mayVote_132 hl (by decide) rfl (fun ls hl => ?_)
                refine lv_iinc (v := (u4 + 1)) (lv' := [(4, .int (u4 + 1)), (8, .int (((10 * u8) + (fq (ix u4))) - 48)), (0, .ref o), (1, .int p0), (2, .int (bI v2)), (3, .int (bI v3)), (6, .int (fh (ix ((3 * p0) + (x_X9_mayVote_what fq v4))))), (7, .int (fq (ix (v4 + 1))))]) hx hb dX9_mayVote_134 hl (k := 5) rfl rfl (by decide) rfl (fun ls hl => ?_)
                refine lv_goto (tgt := 90) hx hb dX9_mayVote_137 (by decide) ?_
                exact ih90 (((10 * u8) + (fq (ix u4))) - 48) (u4 + 1) RV (hI.step hσ c_96 c_113) hE90 kx90 ls (lv_sub hl [2, 3, 4, 5, 0, 6, 7, 1] rfl)
        refine inner90 (41) 0 (v4 + 2) _ (hI.inner hσ c_22) rfl (fun ls hl => ?_) ls (lv_sub hl [5, 6, 7, 8, 0, 3, 2, 1] rfl)
        have hO := num_ov hσ 0 hI c_22
        have j140 : W p l e (headSpec wsX9_mayVote rm_X9_mayVote).room s m ([.ref o, .int p0] : List Value).toArray below meth c s.heap [] 0 0 (MQ below (po_Q (some (.int (bI Rv))) s.heap) ([.ref o, .int p0] : List Value).toArray s 0 0 nF) (F0 m 190 ls [.int (bI (x_X9_mayVote_all rq fq fh p0 v3 v4))]) → W p l e (headSpec wsX9_mayVote rm_X9_mayVote).room s m ([.ref o, .int p0] : List Value).toArray below meth c s.heap [] 0 0 (MQ below (po_Q (some (.int (bI Rv))) s.heap) ([.ref o, .int p0] : List Value).toArray s 0 0 nF) (F0 m 140 ls []) := by
          intro k140
          generalize hJ140 : (x_X9_mayVote_all rq fq fh p0 v3 v4) = v140 at k140
          rw [x_X9_mayVote_all] at hJ140
          refine lv_iload_n hx hb dX9_mayVote_140 rfl (lv_at hl 3 rfl) ?_
          refine w_if_eqb (tgt := 189) hx hb dX9_mayVote_141 (by decide) (fun c_141 => ?_) (fun c_141 => ?_)
          · have hJ140 := itF hJ140 c_141
            refine lv_iconst (v := 0) hx hb dX9_mayVote_189 (by decide) ?_
            subst hJ140
            exact k140
          · have hJ140 := itT hJ140 c_141
            refine lv_iload hx hb dX9_mayVote_144 (lv_at hl 6 rfl) ?_
            refine lv_bipush (v := 60) hx hb dX9_mayVote_146 (by decide +kernel) ?_
            refine lv_icmp_ne (tgt := 161) hx hb dX9_mayVote_148 (by decide) (fun c_148 => ?_) (fun c_148 => ?_)
            · have hJ140 := itF hJ140 c_148
              refine lv_iload hx hb dX9_mayVote_161 (lv_at hl 6 rfl) ?_
              refine lv_bipush (v := 62) hx hb dX9_mayVote_163 (by decide +kernel) ?_
              refine lv_icmp_ne (tgt := 178) hx hb dX9_mayVote_165 (by decide) (fun c_165 => ?_) (fun c_165 => ?_)
              · have hJ140 := itF hJ140 c_165
                refine lv_iload hx hb dX9_mayVote_178 (lv_at hl 5 rfl) ?_
                refine lv_iload hx hb dX9_mayVote_180 (lv_at hl 7 rfl) ?_
                refine lv_icmp_ne (tgt := 189) hx hb dX9_mayVote_182 (by decide) (fun c_182 => ?_) (fun c_182 => ?_)
                · have hJ140 := itF hJ140 c_182
                  refine lv_iconst (v := 0) hx hb dX9_mayVote_189 (by decide) ?_
                  subst hJ140
                  exact k140
                · have hJ140 := itT hJ140 c_182
                  refine lv_iconst (v := 1) hx hb dX9_mayVote_185 (by decide) ?_
                  refine lv_goto (tgt := 190) hx hb dX9_mayVote_186 (by decide) ?_
                  subst hJ140
                  exact k140
              · have hJ140 := itT hJ140 c_165
                refine lv_iload hx hb dX9_mayVote_168 (lv_at hl 5 rfl) ?_
                refine lv_iload hx hb dX9_mayVote_170 (lv_at hl 7 rfl) ?_
                refine lv_icmp_le (tgt := 189) hx hb dX9_mayVote_172 (by decide) (fun c_172 => ?_) (fun c_172 => ?_)
                · have hJ140 := itT hJ140 c_172
                  refine lv_iconst (v := 0) hx hb dX9_mayVote_189 (by decide) ?_
                  subst hJ140
                  exact k140
                · have hJ140 := itF hJ140 c_172
                  refine lv_goto (tgt := 185) hx hb dX9_mayVote_175 (by decide) ?_
                  refine lv_iconst (v := 1) hx hb dX9_mayVote_185 (by decide) ?_
                  refine lv_goto (tgt := 190) hx hb dX9_mayVote_186 (by decide) ?_
                  subst hJ140
                  exact k140
            · have hJ140 := itT hJ140 c_148
              refine lv_iload hx hb dX9_mayVote_151 (lv_at hl 5 rfl) ?_
              refine lv_iload hx hb dX9_mayVote_153 (lv_at hl 7 rfl) ?_
              refine lv_icmp_ge (tgt := 189) hx hb dX9_mayVote_155 (by decide) (fun c_155 => ?_) (fun c_155 => ?_)
              · have hJ140 := itT hJ140 c_155
                refine lv_iconst (v := 0) hx hb dX9_mayVote_189 (by decide) ?_
                subst hJ140
                exact k140
              · have hJ140 := itF hJ140 c_155
                refine lv_goto (tgt := 185) hx hb dX9_mayVote_158 (by decide) ?_
                refine lv_iconst (v := 1) hx hb dX9_mayVote_185 (by decide) ?_
                refine lv_goto (tgt := 190) hx hb dX9_mayVote_186 (by decide) ?_
                subst hJ140
                exact k140
        refine j140 ?_
        refine lv_istore_n (lv' := [(3, .int (bI (x_X9_mayVote_all rq fq fh p0 v3 v4))), (0, .ref o), (1, .int p0), (2, .int (bI v2)), (4, .int (x_X9_mayVote_num rq fq (41) 0 (v4 + 2)).2), (6, .int (fh (ix ((3 * p0) + (x_X9_mayVote_what fq v4))))), (7, .int (fq (ix (v4 + 1)))), (8, .int (x_X9_mayVote_num rq fq (41) 0 (v4 + 2)).1)]) hx hb dX9_mayVote_190 rfl hl (by decide) rfl (fun ls hl => ?_)
        refine lv_iload hx hb dX9_mayVote_191 (lv_at hl 4 rfl) ?_
        refine lv_aload_n hx hb dX9_mayVote_193 rfl (lv_at hl 1 rfl) ?_
        refine va_get (D := D) (ci := 7) (v := .int (nI rq)) (C := RX9) (T := TX9) (N := 18) hx hb hts in_X9_mayVote_X9 hown hK hP 0 rfl rfl 5 (by decide) (hts (.fieldLink RX9 141 "WallCountModel" "ruleMany" "I") (List.mem_of_getElem? (i := 1) rfl)) (fun _ h9 => h9) rfl dX9_mayVote_194 ?_
        refine lv_icmp_eq (tgt := 212) hx hb dX9_mayVote_197 (by decide) (fun c_197 => ?_) (fun c_197 => ?_)
        · have hE := itT hE c_197
          have j212 : W p l e (headSpec wsX9_mayVote rm_X9_mayVote).room s m ([.ref o, .int p0] : List Value).toArray below meth c s.heap [] 0 0 (MQ below (po_Q (some (.int (bI Rv))) s.heap) ([.ref o, .int p0] : List Value).toArray s 0 0 nF) (F0 m 225 ls [.int (bI (x_X9_mayVote_any rq fq fh p0 v2 v3 v4))]) → W p l e (headSpec wsX9_mayVote rm_X9_mayVote).room s m ([.ref o, .int p0] : List Value).toArray below meth c s.heap [] 0 0 (MQ below (po_Q (some (.int (bI Rv))) s.heap) ([.ref o, .int p0] : List Value).toArray s 0 0 nF) (F0 m 212 ls []) := by
            intro k212
            generalize hJ212 : (x_X9_mayVote_any rq fq fh p0 v2 v3 v4) = v212 at k212
            rw [x_X9_mayVote_any] at hJ212
            refine lv_iload_n hx hb dX9_mayVote_212 rfl (lv_at hl 3 rfl) ?_
            refine w_if_neb (tgt := 220) hx hb dX9_mayVote_213 (by decide) (fun c_213 => ?_) (fun c_213 => ?_)
            · have hJ212 := itT hJ212 c_213
              refine lv_iconst (v := 1) hx hb dX9_mayVote_220 (by decide) ?_
              refine lv_goto (tgt := 225) hx hb dX9_mayVote_221 (by decide) ?_
              subst hJ212
              exact k212
            · have hJ212 := itF hJ212 c_213
              refine lv_iload_n hx hb dX9_mayVote_216 rfl (lv_at hl 0 rfl) ?_
              refine w_if_eqb (tgt := 224) hx hb dX9_mayVote_217 (by decide) (fun c_217 => ?_) (fun c_217 => ?_)
              · have hJ212 := itF hJ212 c_217
                refine lv_iconst (v := 0) hx hb dX9_mayVote_224 (by decide) ?_
                subst hJ212
                exact k212
              · have hJ212 := itT hJ212 c_217
                refine lv_iconst (v := 1) hx hb dX9_mayVote_220 (by decide) ?_
                refine lv_goto (tgt := 225) hx hb dX9_mayVote_221 (by decide) ?_
                subst hJ212
                exact k212
          refine j212 ?_
          refine lv_istore_n (lv' := [(2, .int (bI (x_X9_mayVote_any rq fq fh p0 v2 v3 v4))), (3, .int (bI (x_X9_mayVote_all rq fq fh p0 v3 v4))), (0, .ref o), (1, .int p0), (4, .int (x_X9_mayVote_num rq fq (41) 0 (v4 + 2)).2), (6, .int (fh (ix ((3 * p0) + (x_X9_mayVote_what fq v4))))), (7, .int (fq (ix (v4 + 1)))), (8, .int (x_X9_mayVote_num rq fq (41) 0 (v4 + 2)).1)]) hx hb dX9_mayVote_225 rfl hl (by decide) rfl (fun ls hl => ?_)
          refine lv_iconst (v := 1) hx hb dX9_mayVote_226 (by decide) ?_
          refine lv_istore_n (lv' := [(3, .int 1), (2, .int (bI (x_X9_mayVote_any rq fq fh p0 v2 v3 v4))), (0, .ref o), (1, .int p0), (4, .int (x_X9_mayVote_num rq fq (41) 0 (v4 + 2)).2), (6, .int (fh (ix ((3 * p0) + (x_X9_mayVote_what fq v4))))), (7, .int (fq (ix (v4 + 1)))), (8, .int (x_X9_mayVote_num rq fq (41) 0 (v4 + 2)).1)]) hx hb dX9_mayVote_227 rfl hl (by decide) rfl (fun ls hl => ?_)
          refine lv_iinc (v := ((x_X9_mayVote_num rq fq (41) 0 (v4 + 2)).2 + 1)) (lv' := [(4, .int ((x_X9_mayVote_num rq fq (41) 0 (v4 + 2)).2 + 1)), (3, .int 1), (2, .int (bI (x_X9_mayVote_any rq fq fh p0 v2 v3 v4))), (0, .ref o), (1, .int p0), (6, .int (fh (ix ((3 * p0) + (x_X9_mayVote_what fq v4))))), (7, .int (fq (ix (v4 + 1)))), (8, .int (x_X9_mayVote_num rq fq (41) 0 (v4 + 2)).1)]) hx hb dX9_mayVote_228 hl (k := 4) rfl rfl (by decide) rfl (fun ls hl => ?_)
          refine lv_goto (tgt := 16) hx hb dX9_mayVote_231 (by decide) ?_
          exact ih (x_X9_mayVote_any rq fq fh p0 v2 v3 v4) true ((x_X9_mayVote_num rq fq (41) 0 (v4 + 2)).2 + 1) (hO.2) hE ls (lv_sub hl [3, 4, 2, 1, 0] rfl)
        · have hE := itF hE c_197
          refine lv_aload_n hx hb dX9_mayVote_200 rfl (lv_at hl 1 rfl) ?_
          refine va_get (D := D) (ci := 7) (v := .ref aR) (C := RX9) (T := TX9) (N := 18) hx hb hts in_X9_mayVote_X9 hown hK hP 0 rfl rfl 6 (by decide) (hts (.fieldLink RX9 23 "WallCountModel" "ruleSign" "[I") (List.mem_of_getElem? (i := 2) rfl)) (fun _ h9 => h9) rfl dX9_mayVote_201 ?_
          refine lv_iload hx hb dX9_mayVote_204 (lv_at hl 4 rfl) ?_
          refine va_iald hx hb hK hP 4 0 rfl rfl (hO.1 c_197) dX9_mayVote_206 ?_
          refine lv_bipush (v := 124) hx hb dX9_mayVote_207 (by decide +kernel) ?_
          refine lv_icmp_ne (tgt := 228) hx hb dX9_mayVote_209 (by decide) (fun c_209 => ?_) (fun c_209 => ?_)
          · have hE := itF hE c_209
            refine lv_iinc (v := ((x_X9_mayVote_num rq fq (41) 0 (v4 + 2)).2 + 1)) (lv' := [(4, .int ((x_X9_mayVote_num rq fq (41) 0 (v4 + 2)).2 + 1)), (3, .int (bI (x_X9_mayVote_all rq fq fh p0 v3 v4))), (0, .ref o), (1, .int p0), (2, .int (bI v2)), (6, .int (fh (ix ((3 * p0) + (x_X9_mayVote_what fq v4))))), (7, .int (fq (ix (v4 + 1)))), (8, .int (x_X9_mayVote_num rq fq (41) 0 (v4 + 2)).1)]) hx hb dX9_mayVote_228 hl (k := 4) rfl rfl (by decide) rfl (fun ls hl => ?_)
            refine lv_goto (tgt := 16) hx hb dX9_mayVote_231 (by decide) ?_
            exact ih v2 (x_X9_mayVote_all rq fq fh p0 v3 v4) ((x_X9_mayVote_num rq fq (41) 0 (v4 + 2)).2 + 1) (hO.2) hE ls (lv_sub hl [2, 3, 4, 1, 0] rfl)
          · have hE := itT hE c_209
            have j212 : W p l e (headSpec wsX9_mayVote rm_X9_mayVote).room s m ([.ref o, .int p0] : List Value).toArray below meth c s.heap [] 0 0 (MQ below (po_Q (some (.int (bI Rv))) s.heap) ([.ref o, .int p0] : List Value).toArray s 0 0 nF) (F0 m 225 ls [.int (bI (x_X9_mayVote_any rq fq fh p0 v2 v3 v4))]) → W p l e (headSpec wsX9_mayVote rm_X9_mayVote).room s m ([.ref o, .int p0] : List Value).toArray below meth c s.heap [] 0 0 (MQ below (po_Q (some (.int (bI Rv))) s.heap) ([.ref o, .int p0] : List Value).toArray s 0 0 nF) (F0 m 212 ls []) := by
              intro k212
              generalize hJ212 : (x_X9_mayVote_any rq fq fh p0 v2 v3 v4) = v212 at k212
              rw [x_X9_mayVote_any] at hJ212
              refine lv_iload_n hx hb dX9_mayVote_212 rfl (lv_at hl 3 rfl) ?_
              refine w_if_neb (tgt := 220) hx hb dX9_mayVote_213 (by decide) (fun c_213 => ?_) (fun c_213 => ?_)
              · have hJ212 := itT hJ212 c_213
                refine lv_iconst (v := 1) hx hb dX9_mayVote_220 (by decide) ?_
                refine lv_goto (tgt := 225) hx hb dX9_mayVote_221 (by decide) ?_
                subst hJ212
                exact k212
              · have hJ212 := itF hJ212 c_213
                refine lv_iload_n hx hb dX9_mayVote_216 rfl (lv_at hl 0 rfl) ?_
                refine w_if_eqb (tgt := 224) hx hb dX9_mayVote_217 (by decide) (fun c_217 => ?_) (fun c_217 => ?_)
                · have hJ212 := itF hJ212 c_217
                  refine lv_iconst (v := 0) hx hb dX9_mayVote_224 (by decide) ?_
                  subst hJ212
                  exact k212
                · have hJ212 := itT hJ212 c_217
                  refine lv_iconst (v := 1) hx hb dX9_mayVote_220 (by decide) ?_
                  refine lv_goto (tgt := 225) hx hb dX9_mayVote_221 (by decide) ?_
                  subst hJ212
                  exact k212
            refine j212 ?_
            refine lv_istore_n (lv' := [(2, .int (bI (x_X9_mayVote_any rq fq fh p0 v2 v3 v4))), (3, .int (bI (x_X9_mayVote_all rq fq fh p0 v3 v4))), (0, .ref o), (1, .int p0), (4, .int (x_X9_mayVote_num rq fq (41) 0 (v4 + 2)).2), (6, .int (fh (ix ((3 * p0) + (x_X9_mayVote_what fq v4))))), (7, .int (fq (ix (v4 + 1)))), (8, .int (x_X9_mayVote_num rq fq (41) 0 (v4 + 2)).1)]) hx hb dX9_mayVote_225 rfl hl (by decide) rfl (fun ls hl => ?_)
            refine lv_iconst (v := 1) hx hb dX9_mayVote_226 (by decide) ?_
            refine lv_istore_n (lv' := [(3, .int 1), (2, .int (bI (x_X9_mayVote_any rq fq fh p0 v2 v3 v4))), (0, .ref o), (1, .int p0), (4, .int (x_X9_mayVote_num rq fq (41) 0 (v4 + 2)).2), (6, .int (fh (ix ((3 * p0) + (x_X9_mayVote_what fq v4))))), (7, .int (fq (ix (v4 + 1)))), (8, .int (x_X9_mayVote_num rq fq (41) 0 (v4 + 2)).1)]) hx hb dX9_mayVote_227 rfl hl (by decide) rfl (fun ls hl => ?_)
            refine lv_iinc (v := ((x_X9_mayVote_num rq fq (41) 0 (v4 + 2)).2 + 1)) (lv' := [(4, .int ((x_X9_mayVote_num rq fq (41) 0 (v4 + 2)).2 + 1)), (3, .int 1), (2, .int (bI (x_X9_mayVote_any rq fq fh p0 v2 v3 v4))), (0, .ref o), (1, .int p0), (6, .int (fh (ix ((3 * p0) + (x_X9_mayVote_what fq v4))))), (7, .int (fq (ix (v4 + 1)))), (8, .int (x_X9_mayVote_num rq fq (41) 0 (v4 + 2)).1)]) hx hb dX9_mayVote_228 hl (k := 4) rfl rfl (by decide) rfl (fun ls hl => ?_)
            refine lv_goto (tgt := 16) hx hb dX9_mayVote_231 (by decide) ?_
            exact ih (x_X9_mayVote_any rq fq fh p0 v2 v3 v4) true ((x_X9_mayVote_num rq fq (41) 0 (v4 + 2)).2 + 1) (hO.2) hE ls (lv_sub hl [3, 4, 2, 1, 0] rfl)
  · have hE := itT hE c_4
    refine lv_iconst (v := 1) hx hb dX9_mayVote_7 (by decide) ?_
    exact w_zret (v := true) hx hb hr hlocks hE dX9_mayVote_8
