theorem hd_J6_bitCount_0f7a4 : yJ6_bitCount_0f7a4.cls ≠ "java/lang/invoke/MethodHandle" ∧ yJ6_bitCount_0f7a4.cls ≠ "java/lang/invoke/VarHandle" ∧ (parseMethodDescriptor yJ6_bitCount_0f7a4.desc).map (fun d => d.parameters.length) = some 1 := by decide +kernel
def x_J6_bitCount_0f7a4 (p0 : Int32) : Int32 := ((((((((p0 - ((xUsr p0 1) &&& 1431655765)) &&& 858993459) + ((xUsr (p0 - ((xUsr p0 1) &&& 1431655765)) 2) &&& 858993459)) + (xUsr (((p0 - ((xUsr p0 1) &&& 1431655765)) &&& 858993459) + ((xUsr (p0 - ((xUsr p0 1) &&& 1431655765)) 2) &&& 858993459)) 4)) &&& 252645135) + (xUsr (((((p0 - ((xUsr p0 1) &&& 1431655765)) &&& 858993459) + ((xUsr (p0 - ((xUsr p0 1) &&& 1431655765)) 2) &&& 858993459)) + (xUsr (((p0 - ((xUsr p0 1) &&& 1431655765)) &&& 858993459) + ((xUsr (p0 - ((xUsr p0 1) &&& 1431655765)) 2) &&& 858993459)) 4)) &&& 252645135) 8)) + (xUsr ((((((p0 - ((xUsr p0 1) &&& 1431655765)) &&& 858993459) + ((xUsr (p0 - ((xUsr p0 1) &&& 1431655765)) 2) &&& 858993459)) + (xUsr (((p0 - ((xUsr p0 1) &&& 1431655765)) &&& 858993459) + ((xUsr (p0 - ((xUsr p0 1) &&& 1431655765)) 2) &&& 858993459)) 4)) &&& 252645135) + (xUsr (((((p0 - ((xUsr p0 1) &&& 1431655765)) &&& 858993459) + ((xUsr (p0 - ((xUsr p0 1) &&& 1431655765)) 2) &&& 858993459)) + (xUsr (((p0 - ((xUsr p0 1) &&& 1431655765)) &&& 858993459) + ((xUsr (p0 - ((xUsr p0 1) &&& 1431655765)) 2) &&& 858993459)) 4)) &&& 252645135) 8)) 16)) &&& 63)
def rm_J6_bitCount_0f7a4 : Room := { frames := 0, cells := 0, slots := 0, locals := 0 }
set_option maxHeartbeats 4000000 in
set_option maxRecDepth 100000 in
theorem c_J6_bitCount_0f7a4 (l : Launch) (D : va_G) (cI cZ cR : ClassId) (H0 : Heap) (p0 : Int32) : Met l yJ6_bitCount_0f7a4 wsJ6_bitCount_0f7a4 rm_J6_bitCount_0f7a4 (po_P D cI cZ cR [.int p0] [] H0) (po_Q (some (.int (x_J6_bitCount_0f7a4 p0))) H0) 0 0 nF := by
  refine Met.ofW (cc := cJ6_bitCount_0f7a4) (maxL := 1) (ret := (some .int)) (by decide +kernel) rfl ?_
  intro p e s m args below meth c s₁ B hml hv
  obtain ⟨rfl, rfl, hAM, hP⟩ := hv
  have hx := B.exec
  have hb := B.bytes
  have hr := B.returns
  have hts := atoms_spec (ws := wsJ6_bitCount_0f7a4) B.pre
  have hown : s.vm.findClass RJ6 = some m.cls := findClass_of_methodNamed B.named
  have hlocks := B.notSynchronized
  have hK := hAM.1
  generalize hE : (x_J6_bitCount_0f7a4 p0) = Rv
  rw [x_J6_bitCount_0f7a4] at hE
  have hl := lv_entry ([.int p0]) (n := 1) (Nat.le_of_ble_eq_true rfl)
  rw [lg_entry_eq]
  generalize (lg_sl ([.int p0]) ++ List.replicate (1 - (lg_sl ([.int p0])).length) Slot.unset).toArray = ls at hl ⊢
  have hl : lv_has ls 1 [(0, .int p0)] := hl
  refine lv_iload_n hx hb dJ6_bitCount_0f7a4_0 rfl (lv_at hl 0 rfl) ?_
  refine lv_iload_n hx hb dJ6_bitCount_0f7a4_1 rfl (lv_at hl 0 rfl) ?_
  refine lv_iconst (v := 1) hx hb dJ6_bitCount_0f7a4_2 (by decide) ?_
  refine w_iushr hx hb dJ6_bitCount_0f7a4_3 ?_
  refine lv_ldcw hx hb hown (hts (.constant RJ6 265 (1431655765)) (List.mem_of_getElem? (i := 1) rfl)) dJ6_bitCount_0f7a4_4 ?_
  refine lv_iand hx hb dJ6_bitCount_0f7a4_7 ?_
  refine lv_isub hx hb dJ6_bitCount_0f7a4_8 ?_
  refine lv_istore_n (lv' := [(0, .int (p0 - ((xUsr p0 1) &&& 1431655765)))]) hx hb dJ6_bitCount_0f7a4_9 rfl hl (by decide) rfl (fun ls hl => ?_)
  refine lv_iload_n hx hb dJ6_bitCount_0f7a4_10 rfl (lv_at hl 0 rfl) ?_
  refine lv_ldcw hx hb hown (hts (.constant RJ6 266 (858993459)) (List.mem_of_getElem? (i := 2) rfl)) dJ6_bitCount_0f7a4_11 ?_
  refine lv_iand hx hb dJ6_bitCount_0f7a4_14 ?_
  refine lv_iload_n hx hb dJ6_bitCount_0f7a4_15 rfl (lv_at hl 0 rfl) ?_
  refine lv_iconst (v := 2) hx hb dJ6_bitCount_0f7a4_16 (by decide) ?_
  refine w_iushr hx hb dJ6_bitCount_0f7a4_17 ?_
  refine lv_ldcw hx hb hown (hts (.constant RJ6 266 (858993459)) (List.mem_of_getElem? (i := 2) rfl)) dJ6_bitCount_0f7a4_18 ?_
  refine lv_iand hx hb dJ6_bitCount_0f7a4_21 ?_
  refine lv_iadd hx hb dJ6_bitCount_0f7a4_22 ?_
  refine lv_istore_n (lv' := [(0, .int (((p0 - ((xUsr p0 1) &&& 1431655765)) &&& 858993459) + ((xUsr (p0 - ((xUsr p0 1) &&& 1431655765)) 2) &&& 858993459)))]) hx hb dJ6_bitCount_0f7a4_23 rfl hl (by decide) rfl (fun ls hl => ?_)
  refine lv_iload_n hx hb dJ6_bitCount_0f7a4_24 rfl (lv_at hl 0 rfl) ?_
  refine lv_iload_n hx hb dJ6_bitCount_0f7a4_25 rfl (lv_at hl 0 rfl) ?_
  refine lv_iconst (v := 4) hx hb dJ6_bitCount_0f7a4_26 (by decide) ?_
  refine w_iushr hx hb dJ6_bitCount_0f7a4_27 ?_
  refine lv_iadd hx hb dJ6_bitCount_0f7a4_28 ?_
  refine lv_ldcw hx hb hown (hts (.constant RJ6 267 (252645135)) (List.mem_of_getElem? (i := 3) rfl)) dJ6_bitCount_0f7a4_29 ?_
  refine lv_iand hx hb dJ6_bitCount_0f7a4_32 ?_
  refine lv_istore_n (lv' := [(0, .int (((((p0 - ((xUsr p0 1) &&& 1431655765)) &&& 858993459) + ((xUsr (p0 - ((xUsr p0 1) &&& 1431655765)) 2) &&& 858993459)) + (xUsr (((p0 - ((xUsr p0 1) &&& 1431655765)) &&& 858993459) + ((xUsr (p0 - ((xUsr p0 1) &&& 1431655765)) 2) &&& 858993459)) 4)) &&& 252645135))]) hx hb dJ6_bitCount_0f7a4_33 rfl hl (by decide) rfl (fun ls hl => ?_)
  refine lv_iload_n hx hb dJ6_bitCount_0f7a4_34 rfl (lv_at hl 0 rfl) ?_
  refine lv_iload_n hx hb dJ6_bitCount_0f7a4_35 rfl (lv_at hl 0 rfl) ?_
  refine lv_bipush (v := 8) hx hb dJ6_bitCount_0f7a4_36 (by decide +kernel) ?_
  refine w_iushr hx hb dJ6_bitCount_0f7a4_38 ?_
  refine lv_iadd hx hb dJ6_bitCount_0f7a4_39 ?_
  refine lv_istore_n (lv' := [(0, .int ((((((p0 - ((xUsr p0 1) &&& 1431655765)) &&& 858993459) + ((xUsr (p0 - ((xUsr p0 1) &&& 1431655765)) 2) &&& 858993459)) + (xUsr (((p0 - ((xUsr p0 1) &&& 1431655765)) &&& 858993459) + ((xUsr (p0 - ((xUsr p0 1) &&& 1431655765)) 2) &&& 858993459)) 4)) &&& 252645135) + (xUsr (((((p0 - ((xUsr p0 1) &&& 1431655765)) &&& 858993459) + ((xUsr (p0 - ((xUsr p0 1) &&& 1431655765)) 2) &&& 858993459)) + (xUsr (((p0 - ((xUsr p0 1) &&& 1431655765)) &&& 858993459) + ((xUsr (p0 - ((xUsr p0 1) &&& 1431655765)) 2) &&& 858993459)) 4)) &&& 252645135) 8)))]) hx hb dJ6_bitCount_0f7a4_40 rfl hl (by decide) rfl (fun ls hl => ?_)
  refine lv_iload_n hx hb dJ6_bitCount_0f7a4_41 rfl (lv_at hl 0 rfl) ?_
  refine lv_iload_n hx hb dJ6_bitCount_0f7a4_42 rfl (lv_at hl 0 rfl) ?_
  refine lv_bipush (v := 16) hx hb dJ6_bitCount_0f7a4_43 (by decide +kernel) ?_
  refine w_iushr hx hb dJ6_bitCount_0f7a4_45 ?_
  refine lv_iadd hx hb dJ6_bitCount_0f7a4_46 ?_
  refine lv_istore_n (lv' := [(0, .int (((((((p0 - ((xUsr p0 1) &&& 1431655765)) &&& 858993459) + ((xUsr (p0 - ((xUsr p0 1) &&& 1431655765)) 2) &&& 858993459)) + (xUsr (((p0 - ((xUsr p0 1) &&& 1431655765)) &&& 858993459) + ((xUsr (p0 - ((xUsr p0 1) &&& 1431655765)) 2) &&& 858993459)) 4)) &&& 252645135) + (xUsr (((((p0 - ((xUsr p0 1) &&& 1431655765)) &&& 858993459) + ((xUsr (p0 - ((xUsr p0 1) &&& 1431655765)) 2) &&& 858993459)) + (xUsr (((p0 - ((xUsr p0 1) &&& 1431655765)) &&& 858993459) + ((xUsr (p0 - ((xUsr p0 1) &&& 1431655765)) 2) &&& 858993459)) 4)) &&& 252645135) 8)) + (xUsr ((((((p0 - ((xUsr p0 1) &&& 1431655765)) &&& 858993459) + ((xUsr (p0 - ((xUsr p0 1) &&& 1431655765)) 2) &&& 858993459)) + (xUsr (((p0 - ((xUsr p0 1) &&& 1431655765)) &&& 858993459) + ((xUsr (p0 - ((xUsr p0 1) &&& 1431655765)) 2) &&& 858993459)) 4)) &&& 252645135) + (xUsr (((((p0 - ((xUsr p0 1) &&& 1431655765)) &&& 858993459) + ((xUsr (p0 - ((xUsr p0 1) &&& 1431655765)) 2) &&& 858993459)) + (xUsr (((p0 - ((xUsr p0 1) &&& 1431655765)) &&& 858993459) + ((xUsr (p0 - ((xUsr p0 1) &&& 1431655765)) 2) &&& 858993459)) 4)) &&& 252645135) 8)) 16)))]) hx hb dJ6_bitCount_0f7a4_47 rfl hl (by decide) rfl (fun ls hl => ?_)
  refine lv_iload_n hx hb dJ6_bitCount_0f7a4_48 rfl (lv_at hl 0 rfl) ?_
  refine lv_bipush (v := 63) hx hb dJ6_bitCount_0f7a4_49 (by decide +kernel) ?_
  refine lv_iand hx hb dJ6_bitCount_0f7a4_51 ?_
  exact w_iret hx hb hr hlocks hE dJ6_bitCount_0f7a4_52

theorem hd_X8_holder : yX8_holder.cls ≠ "java/lang/invoke/MethodHandle" ∧ yX8_holder.cls ≠ "java/lang/invoke/VarHandle" ∧ (parseMethodDescriptor yX8_holder.desc).map (fun d => d.parameters.length) = some 2 := by decide +kernel
def x_X8_holder (c0 : Int32) (c1 : Int32) (c2 : Int32) (p0 : Int32) (p1 : Int32) : Int32 := (if (x_X8_isHolder p0) = true then (if (x_X8_within p1 0 1) = true then (if p1 = 0 then (x_X0_part c0 c1 c2 p0) else (x_X2_ofG (x_X0_part c0 c1 c2 p0))) else (-2)) else (-1))
def rm_X8_holder : Room := { frames := 2, cells := 0, slots := 0, locals := 45 }
theorem in_X8_holder_X0 : ∀ w ∈ wsX00, w ∈ wsX8_holder := fun _ h => List.mem_cons_of_mem _ (List.mem_append_right _ h)
theorem in_X8_holder_X8 : ∀ w ∈ wsX80, w ∈ wsX8_holder := fun _ h => List.mem_cons_of_mem _ (List.mem_append_left _ (List.mem_append_right _ h))
set_option maxHeartbeats 4000000 in
set_option maxRecDepth 100000 in
theorem c_X8_holder (l : Launch) (D : va_G) (cI cZ cR : ClassId) (H0 : Heap) (x kk pr dr sd w wr wc ro wt tw sw : Nat) (need : Int32) (c0 : Int32) (c1 : Int32) (c2 : Int32) (hh : Int32) (pc0 : Int32) (pz0 : Int32) (pc1 : Int32) (pz1 : Int32) (dr : Nat) (sd : Nat) (ds : Nat) (fd : Nat → Int32) (tw : Nat) (sw : Nat) (wn : Nat) (fw : Nat → Int32) (fr : Nat → Int32) (nr : Nat) (ra : Nat → Nat) (rd : Nat → R6) (cc : Nat) (ch : Int32) (cp : Nat → Int32) (p0 : Int32) (p1 : Int32) : Met l yX8_holder wsX8_holder rm_X8_holder (po_P D cI cZ cR [.ref x, .int p0, .int p1] (cW cI cR x kk pr w wr wc ro wt need c0 c1 c2 hh pc0 pz0 pc1 pz1 dr sd ds fd tw sw wn fw fr nr ra rd cc ch cp) H0) (po_Q (some (.int (x_X8_holder c0 c1 c2 p0 p1))) H0) 0 0 nF := by
  refine Met.ofW (cc := cX8_holder) (maxL := 3) (ret := (some .int)) (by decide +kernel) rfl ?_
  intro p e s m args below meth c s₁ B hml hv
  obtain ⟨rfl, rfl, hAM, hP⟩ := hv
  have hx := B.exec
  have hb := B.bytes
  have hr := B.returns
  have hts := atoms_spec (ws := wsX8_holder) B.pre
  have hown : s.vm.findClass RX8 = some m.cls := findClass_of_methodNamed B.named
  have hlocks := B.notSynchronized
  have hK := hAM.1
  generalize hE : (x_X8_holder c0 c1 c2 p0 p1) = Rv
  rw [x_X8_holder] at hE
  have hl := lv_entry ([.ref x, .int p0, .int p1]) (n := 3) (Nat.le_of_ble_eq_true rfl)
  rw [lg_entry_eq]
  generalize (lg_sl ([.ref x, .int p0, .int p1]) ++ List.replicate (3 - (lg_sl ([.ref x, .int p0, .int p1])).length) Slot.unset).toArray = ls at hl ⊢
  have hl : lv_has ls 3 [(0, .ref x), (1, .int p0), (2, .int p1)] := hl
  refine lv_iload_n hx hb dX8_holder_0 rfl (lv_at hl 1 rfl) ?_
  refine ro_call (va_runS (As := [.int p0]) (rest := []) ⟨hx, hb, hml, hown, hts⟩ (c_X8_isHolder l D cI cZ cR _ p0) (va_cwS 1 hts gX8_holder_X8_isHolder rfl rfl rfl hd_X8_isHolder ⟨(Nat.le_of_ble_eq_true rfl), (Nat.le_of_ble_eq_true rfl)⟩) (po_pre hAM va_P.nil) rfl rfl hl.1 rfl (lv_room (Nat.le_of_ble_eq_true rfl)) dX8_holder_1 ⟨(Nat.le_of_ble_eq_true rfl), (Nat.le_of_ble_eq_true rfl)⟩) ?_
  refine w_if_neb (tgt := 9) hx hb dX8_holder_4 (by decide) (fun c_4 => ?_) (fun c_4 => ?_)
  · have hE := itT hE c_4
    refine lv_iload_n hx hb dX8_holder_9 rfl (lv_at hl 2 rfl) ?_
    refine lv_iconst (v := 0) hx hb dX8_holder_10 (by decide) ?_
    refine lv_iconst (v := 1) hx hb dX8_holder_11 (by decide) ?_
    refine ro_call (va_runS (As := [.int p1, .int 0, .int 1]) (rest := []) ⟨hx, hb, hml, hown, hts⟩ (c_X8_within l D cI cZ cR _ p1 0 1) (va_cwS 3 hts gX8_holder_X8_within rfl rfl rfl hd_X8_within ⟨(Nat.le_of_ble_eq_true rfl), (Nat.le_of_ble_eq_true rfl)⟩) (po_pre hAM va_P.nil) rfl rfl hl.1 rfl (lv_room (Nat.le_of_ble_eq_true rfl)) dX8_holder_12 ⟨(Nat.le_of_ble_eq_true rfl), (Nat.le_of_ble_eq_true rfl)⟩) ?_
    refine w_if_neb (tgt := 21) hx hb dX8_holder_15 (by decide) (fun c_15 => ?_) (fun c_15 => ?_)
    · have hE := itT hE c_15
      refine lv_iload_n hx hb dX8_holder_21 rfl (lv_at hl 2 rfl) ?_
      refine lv_if_ne (tgt := 36) hx hb dX8_holder_22 (by decide) (fun c_22 => ?_) (fun c_22 => ?_)
      · have hE := itF hE c_22
        refine lv_aload_n hx hb dX8_holder_36 rfl (lv_at hl 0 rfl) ?_
        refine va_get (D := D) (ci := 6) (v := .ref kk) (C := RX8) (T := TX8) (N := 4) hx hb hts in_X8_holder_X8 hown hK hP 0 rfl rfl 0 (by decide) (hts (.fieldLink RX8 10 "WallCount" "secret" "LWallCount$Key;") (List.mem_of_getElem? (i := 1) rfl)) (fun _ h9 => h9) rfl dX8_holder_37 ?_
        refine lv_iload_n hx hb dX8_holder_40 rfl (lv_at hl 1 rfl) ?_
        refine ro_call (va_runV (As := [.int p0]) (rest := []) ⟨hx, hb, hml, hown, hts⟩ (c_X0_part l D cI cZ cR _ kk need c0 c1 c2 hh p0) (cwV 1 hts gX8_holder_X0_part rfl rfl rfl ⟨rfl, hd_X0_part⟩ ⟨(Nat.le_of_ble_eq_true rfl), (Nat.le_of_ble_eq_true rfl)⟩) (po_preV hAM (hP.sub [1] rfl) (va_recv hK hP (ci := 0) (q0 := 1) rfl rfl)) rfl rfl hl.1 rfl (lv_room (Nat.le_of_ble_eq_true rfl)) dX8_holder_41 ⟨(Nat.le_of_ble_eq_true rfl), (Nat.le_of_ble_eq_true rfl)⟩) ?_
        refine ro_call (va_runS (As := [.int (x_X0_part c0 c1 c2 p0)]) (rest := []) ⟨hx, hb, hml, hown, hts⟩ (c_X2_ofG l D cI cZ cR _ (x_X0_part c0 c1 c2 p0)) (va_cwS 1 hts gX8_holder_X2_ofG rfl rfl rfl hd_X2_ofG ⟨(Nat.le_of_ble_eq_true rfl), (Nat.le_of_ble_eq_true rfl)⟩) (po_pre hAM va_P.nil) rfl rfl hl.1 rfl (lv_room (Nat.le_of_ble_eq_true rfl)) dX8_holder_44 ⟨(Nat.le_of_ble_eq_true rfl), (Nat.le_of_ble_eq_true rfl)⟩) ?_
        exact w_iret hx hb hr hlocks hE dX8_holder_47
      · have hE := itT hE c_22
        refine lv_aload_n hx hb dX8_holder_25 rfl (lv_at hl 0 rfl) ?_
        refine va_get (D := D) (ci := 6) (v := .ref kk) (C := RX8) (T := TX8) (N := 4) hx hb hts in_X8_holder_X8 hown hK hP 0 rfl rfl 0 (by decide) (hts (.fieldLink RX8 10 "WallCount" "secret" "LWallCount$Key;") (List.mem_of_getElem? (i := 1) rfl)) (fun _ h9 => h9) rfl dX8_holder_26 ?_
        refine lv_iload_n hx hb dX8_holder_29 rfl (lv_at hl 1 rfl) ?_
        refine ro_call (va_runV (As := [.int p0]) (rest := []) ⟨hx, hb, hml, hown, hts⟩ (c_X0_part l D cI cZ cR _ kk need c0 c1 c2 hh p0) (cwV 1 hts gX8_holder_X0_part rfl rfl rfl ⟨rfl, hd_X0_part⟩ ⟨(Nat.le_of_ble_eq_true rfl), (Nat.le_of_ble_eq_true rfl)⟩) (po_preV hAM (hP.sub [1] rfl) (va_recv hK hP (ci := 0) (q0 := 1) rfl rfl)) rfl rfl hl.1 rfl (lv_room (Nat.le_of_ble_eq_true rfl)) dX8_holder_30 ⟨(Nat.le_of_ble_eq_true rfl), (Nat.le_of_ble_eq_true rfl)⟩) ?_
        refine lv_goto (tgt := 47) hx hb dX8_holder_33 (by decide) ?_
        exact w_iret hx hb hr hlocks hE dX8_holder_47
    · have hE := itF hE c_15
      refine lv_bipush (v := (-2)) hx hb dX8_holder_18 (by decide +kernel) ?_
      exact w_iret hx hb hr hlocks hE dX8_holder_20
  · have hE := itF hE c_4
    refine lv_iconst (v := (-1)) hx hb dX8_holder_7 (by decide) ?_
    exact w_iret hx hb hr hlocks hE dX8_holder_8

theorem hd_X8_seal : yX8_seal.cls ≠ "java/lang/invoke/MethodHandle" ∧ yX8_seal.cls ≠ "java/lang/invoke/VarHandle" ∧ (parseMethodDescriptor yX8_seal.desc).map (fun d => d.parameters.length) = some 3 := by decide +kernel
def x_X8_seal (hh : Int32) (p0 : Int32) (p1 : Int32) (p2 : Int32) : Int32 := (if (x_X8_isExponent p0) = true then (if (x_X8_isExponent p1) = true then (if (x_X8_within p2 0 1) = true then (if p2 = 0 then (x_X2_ofG p1) else (x_X0_sealedB hh p0 p1)) else (-2)) else (-2)) else (-2))
def rm_X8_seal : Room := { frames := 3, cells := 0, slots := 0, locals := 68 }
theorem in_X8_seal_X0 : ∀ w ∈ wsX00, w ∈ wsX8_seal := fun _ h => List.mem_cons_of_mem _ (List.mem_append_right _ h)
theorem in_X8_seal_X8 : ∀ w ∈ wsX80, w ∈ wsX8_seal := fun _ h => List.mem_cons_of_mem _ (List.mem_append_left _ (List.mem_append_right _ h))
set_option maxHeartbeats 4000000 in
set_option maxRecDepth 100000 in
theorem c_X8_seal (l : Launch) (D : va_G) (cI cZ cR : ClassId) (H0 : Heap) (x kk pr dr sd w wr wc ro wt tw sw : Nat) (need : Int32) (c0 : Int32) (c1 : Int32) (c2 : Int32) (hh : Int32) (pc0 : Int32) (pz0 : Int32) (pc1 : Int32) (pz1 : Int32) (dr : Nat) (sd : Nat) (ds : Nat) (fd : Nat → Int32) (tw : Nat) (sw : Nat) (wn : Nat) (fw : Nat → Int32) (fr : Nat → Int32) (nr : Nat) (ra : Nat → Nat) (rd : Nat → R6) (cc : Nat) (ch : Int32) (cp : Nat → Int32) (p0 : Int32) (p1 : Int32) (p2 : Int32) : Met l yX8_seal wsX8_seal rm_X8_seal (po_P D cI cZ cR [.ref x, .int p0, .int p1, .int p2] (cW cI cR x kk pr w wr wc ro wt need c0 c1 c2 hh pc0 pz0 pc1 pz1 dr sd ds fd tw sw wn fw fr nr ra rd cc ch cp) H0) (po_Q (some (.int (x_X8_seal hh p0 p1 p2))) H0) 0 0 nF := by
  refine Met.ofW (cc := cX8_seal) (maxL := 4) (ret := (some .int)) (by decide +kernel) rfl ?_
  intro p e s m args below meth c s₁ B hml hv
  obtain ⟨rfl, rfl, hAM, hP⟩ := hv
  have hx := B.exec
  have hb := B.bytes
  have hr := B.returns
  have hts := atoms_spec (ws := wsX8_seal) B.pre
  have hown : s.vm.findClass RX8 = some m.cls := findClass_of_methodNamed B.named
  have hlocks := B.notSynchronized
  have hK := hAM.1
  generalize hE : (x_X8_seal hh p0 p1 p2) = Rv
  rw [x_X8_seal] at hE
  have hl := lv_entry ([.ref x, .int p0, .int p1, .int p2]) (n := 4) (Nat.le_of_ble_eq_true rfl)
  rw [lg_entry_eq]
  generalize (lg_sl ([.ref x, .int p0, .int p1, .int p2]) ++ List.replicate (4 - (lg_sl ([.ref x, .int p0, .int p1, .int p2])).length) Slot.unset).toArray = ls at hl ⊢
  have hl : lv_has ls 4 [(0, .ref x), (1, .int p0), (2, .int p1), (3, .int p2)] := hl
  refine lv_iload_n hx hb dX8_seal_0 rfl (lv_at hl 1 rfl) ?_
  refine ro_call (va_runS (As := [.int p0]) (rest := []) ⟨hx, hb, hml, hown, hts⟩ (c_X8_isExponent l D cI cZ cR _ p0) (va_cwS 1 hts gX8_seal_X8_isExponent rfl rfl rfl hd_X8_isExponent ⟨(Nat.le_of_ble_eq_true rfl), (Nat.le_of_ble_eq_true rfl)⟩) (po_pre hAM va_P.nil) rfl rfl hl.1 rfl (lv_room (Nat.le_of_ble_eq_true rfl)) dX8_seal_1 ⟨(Nat.le_of_ble_eq_true rfl), (Nat.le_of_ble_eq_true rfl)⟩) ?_
  refine w_if_eqb (tgt := 23) hx hb dX8_seal_4 (by decide) (fun c_4 => ?_) (fun c_4 => ?_)
  · have hE := itF hE c_4
    refine lv_bipush (v := (-2)) hx hb dX8_seal_23 (by decide +kernel) ?_
    exact w_iret hx hb hr hlocks hE dX8_seal_25
  · have hE := itT hE c_4
    refine lv_iload_n hx hb dX8_seal_7 rfl (lv_at hl 2 rfl) ?_
    refine ro_call (va_runS (As := [.int p1]) (rest := []) ⟨hx, hb, hml, hown, hts⟩ (c_X8_isExponent l D cI cZ cR _ p1) (va_cwS 1 hts gX8_seal_X8_isExponent rfl rfl rfl hd_X8_isExponent ⟨(Nat.le_of_ble_eq_true rfl), (Nat.le_of_ble_eq_true rfl)⟩) (po_pre hAM va_P.nil) rfl rfl hl.1 rfl (lv_room (Nat.le_of_ble_eq_true rfl)) dX8_seal_8 ⟨(Nat.le_of_ble_eq_true rfl), (Nat.le_of_ble_eq_true rfl)⟩) ?_
    refine w_if_eqb (tgt := 23) hx hb dX8_seal_11 (by decide) (fun c_11 => ?_) (fun c_11 => ?_)
    · have hE := itF hE c_11
      refine lv_bipush (v := (-2)) hx hb dX8_seal_23 (by decide +kernel) ?_
      exact w_iret hx hb hr hlocks hE dX8_seal_25
    · have hE := itT hE c_11
      refine lv_iload_n hx hb dX8_seal_14 rfl (lv_at hl 3 rfl) ?_
      refine lv_iconst (v := 0) hx hb dX8_seal_15 (by decide) ?_
      refine lv_iconst (v := 1) hx hb dX8_seal_16 (by decide) ?_
      refine ro_call (va_runS (As := [.int p2, .int 0, .int 1]) (rest := []) ⟨hx, hb, hml, hown, hts⟩ (c_X8_within l D cI cZ cR _ p2 0 1) (va_cwS 3 hts gX8_seal_X8_within rfl rfl rfl hd_X8_within ⟨(Nat.le_of_ble_eq_true rfl), (Nat.le_of_ble_eq_true rfl)⟩) (po_pre hAM va_P.nil) rfl rfl hl.1 rfl (lv_room (Nat.le_of_ble_eq_true rfl)) dX8_seal_17 ⟨(Nat.le_of_ble_eq_true rfl), (Nat.le_of_ble_eq_true rfl)⟩) ?_
      refine w_if_neb (tgt := 26) hx hb dX8_seal_20 (by decide) (fun c_20 => ?_) (fun c_20 => ?_)
      · have hE := itT hE c_20
        refine lv_iload_n hx hb dX8_seal_26 rfl (lv_at hl 3 rfl) ?_
        refine lv_if_ne (tgt := 37) hx hb dX8_seal_27 (by decide) (fun c_27 => ?_) (fun c_27 => ?_)
        · have hE := itF hE c_27
          refine lv_aload_n hx hb dX8_seal_37 rfl (lv_at hl 0 rfl) ?_
          refine va_get (D := D) (ci := 6) (v := .ref kk) (C := RX8) (T := TX8) (N := 4) hx hb hts in_X8_seal_X8 hown hK hP 0 rfl rfl 0 (by decide) (hts (.fieldLink RX8 10 "WallCount" "secret" "LWallCount$Key;") (List.mem_of_getElem? (i := 1) rfl)) (fun _ h9 => h9) rfl dX8_seal_38 ?_
          refine lv_iload_n hx hb dX8_seal_41 rfl (lv_at hl 1 rfl) ?_
          refine lv_iload_n hx hb dX8_seal_42 rfl (lv_at hl 2 rfl) ?_
          refine ro_call (va_runV (As := [.int p0, .int p1]) (rest := []) ⟨hx, hb, hml, hown, hts⟩ (c_X0_sealedB l D cI cZ cR _ kk need c0 c1 c2 hh p0 p1) (cwV 2 hts gX8_seal_X0_sealedB rfl rfl rfl ⟨rfl, hd_X0_sealedB⟩ ⟨(Nat.le_of_ble_eq_true rfl), (Nat.le_of_ble_eq_true rfl)⟩) (po_preV hAM (hP.sub [1] rfl) (va_recv hK hP (ci := 0) (q0 := 1) rfl rfl)) rfl rfl hl.1 rfl (lv_room (Nat.le_of_ble_eq_true rfl)) dX8_seal_43 ⟨(Nat.le_of_ble_eq_true rfl), (Nat.le_of_ble_eq_true rfl)⟩) ?_
          exact w_iret hx hb hr hlocks hE dX8_seal_46
        · have hE := itT hE c_27
          refine lv_iload_n hx hb dX8_seal_30 rfl (lv_at hl 2 rfl) ?_
          refine ro_call (va_runS (As := [.int p1]) (rest := []) ⟨hx, hb, hml, hown, hts⟩ (c_X2_ofG l D cI cZ cR _ p1) (va_cwS 1 hts gX8_seal_X2_ofG rfl rfl rfl hd_X2_ofG ⟨(Nat.le_of_ble_eq_true rfl), (Nat.le_of_ble_eq_true rfl)⟩) (po_pre hAM va_P.nil) rfl rfl hl.1 rfl (lv_room (Nat.le_of_ble_eq_true rfl)) dX8_seal_31 ⟨(Nat.le_of_ble_eq_true rfl), (Nat.le_of_ble_eq_true rfl)⟩) ?_
          refine lv_goto (tgt := 46) hx hb dX8_seal_34 (by decide) ?_
          exact w_iret hx hb hr hlocks hE dX8_seal_46
      · have hE := itF hE c_20
        refine lv_bipush (v := (-2)) hx hb dX8_seal_23 (by decide +kernel) ?_
        exact w_iret hx hb hr hlocks hE dX8_seal_25

theorem hd_X8_right : yX8_right.cls ≠ "java/lang/invoke/MethodHandle" ∧ yX8_right.cls ≠ "java/lang/invoke/VarHandle" ∧ (parseMethodDescriptor yX8_right.desc).map (fun d => d.parameters.length) = some 2 := by decide +kernel
def x_X8_right (p0 : Int32) (p1 : Int32) : Int32 := (if (x_X2_isRight p0 p1) = true then 1 else 0)
def rm_X8_right : Room := { frames := 3, cells := 0, slots := 0, locals := 67 }
set_option maxHeartbeats 4000000 in
set_option maxRecDepth 100000 in
theorem c_X8_right (l : Launch) (D : va_G) (cI cZ cR : ClassId) (H0 : Heap) (x kk pr dr sd w wr wc ro wt tw sw : Nat) (need : Int32) (c0 : Int32) (c1 : Int32) (c2 : Int32) (hh : Int32) (pc0 : Int32) (pz0 : Int32) (pc1 : Int32) (pz1 : Int32) (dr : Nat) (sd : Nat) (ds : Nat) (fd : Nat → Int32) (tw : Nat) (sw : Nat) (wn : Nat) (fw : Nat → Int32) (fr : Nat → Int32) (nr : Nat) (ra : Nat → Nat) (rd : Nat → R6) (cc : Nat) (ch : Int32) (cp : Nat → Int32) (p0 : Int32) (p1 : Int32) : Met l yX8_right wsX8_right rm_X8_right (po_P D cI cZ cR [.ref x, .int p0, .int p1] (cW cI cR x kk pr w wr wc ro wt need c0 c1 c2 hh pc0 pz0 pc1 pz1 dr sd ds fd tw sw wn fw fr nr ra rd cc ch cp) H0) (po_Q (some (.int (x_X8_right p0 p1))) H0) 0 0 nF := by
  refine Met.ofW (cc := cX8_right) (maxL := 3) (ret := (some .int)) (by decide +kernel) rfl ?_
  intro p e s m args below meth c s₁ B hml hv
  obtain ⟨rfl, rfl, hAM, hP⟩ := hv
  have hx := B.exec
  have hb := B.bytes
  have hr := B.returns
  have hts := atoms_spec (ws := wsX8_right) B.pre
  have hown : s.vm.findClass RX8 = some m.cls := findClass_of_methodNamed B.named
  have hlocks := B.notSynchronized
  have hK := hAM.1
  generalize hE : (x_X8_right p0 p1) = Rv
  rw [x_X8_right] at hE
  have hl := lv_entry ([.ref x, .int p0, .int p1]) (n := 3) (Nat.le_of_ble_eq_true rfl)
  rw [lg_entry_eq]
  generalize (lg_sl ([.ref x, .int p0, .int p1]) ++ List.replicate (3 - (lg_sl ([.ref x, .int p0, .int p1])).length) Slot.unset).toArray = ls at hl ⊢
  have hl : lv_has ls 3 [(0, .ref x), (1, .int p0), (2, .int p1)] := hl
  refine lv_iload_n hx hb dX8_right_0 rfl (lv_at hl 1 rfl) ?_
  refine lv_iload_n hx hb dX8_right_1 rfl (lv_at hl 2 rfl) ?_
  refine ro_call (va_runS (As := [.int p0, .int p1]) (rest := []) ⟨hx, hb, hml, hown, hts⟩ (c_X2_isRight l D cI cZ cR _ p0 p1) (va_cwS 2 hts gX8_right_X2_isRight rfl rfl rfl hd_X2_isRight ⟨(Nat.le_of_ble_eq_true rfl), (Nat.le_of_ble_eq_true rfl)⟩) (po_pre hAM va_P.nil) rfl rfl hl.1 rfl (lv_room (Nat.le_of_ble_eq_true rfl)) dX8_right_2 ⟨(Nat.le_of_ble_eq_true rfl), (Nat.le_of_ble_eq_true rfl)⟩) ?_
  refine w_if_eqb (tgt := 12) hx hb dX8_right_5 (by decide) (fun c_5 => ?_) (fun c_5 => ?_)
  · have hE := itF hE c_5
    refine lv_iconst (v := 0) hx hb dX8_right_12 (by decide) ?_
    exact w_iret hx hb hr hlocks hE dX8_right_13
  · have hE := itT hE c_5
    refine lv_iconst (v := 1) hx hb dX8_right_8 (by decide) ?_
    refine lv_goto (tgt := 13) hx hb dX8_right_9 (by decide) ?_
    exact w_iret hx hb hr hlocks hE dX8_right_13

theorem hd_X8_open : yX8_open.cls ≠ "java/lang/invoke/MethodHandle" ∧ yX8_open.cls ≠ "java/lang/invoke/VarHandle" ∧ (parseMethodDescriptor yX8_open.desc).map (fun d => d.parameters.length) = some 2 := by decide +kernel
def x_X8_open (c0 : Int32) (c1 : Int32) (c2 : Int32) (p0 : Int32) (p1 : Int32) : Int32 := (if (x_X8_isHolder p0) = true then (if (x_X8_isResidue p1) = true then (x_X0_share c0 c1 c2 p0 p1) else (-2)) else (-1))
def rm_X8_open : Room := { frames := 3, cells := 0, slots := 0, locals := 68 }
theorem in_X8_open_X0 : ∀ w ∈ wsX00, w ∈ wsX8_open := fun _ h => List.mem_cons_of_mem _ (List.mem_append_right _ h)
theorem in_X8_open_X8 : ∀ w ∈ wsX80, w ∈ wsX8_open := fun _ h => List.mem_cons_of_mem _ (List.mem_append_left _ (List.mem_append_right _ h))
set_option maxHeartbeats 4000000 in
set_option maxRecDepth 100000 in
theorem c_X8_open (l : Launch) (D : va_G) (cI cZ cR : ClassId) (H0 : Heap) (x kk pr dr sd w wr wc ro wt tw sw : Nat) (need : Int32) (c0 : Int32) (c1 : Int32) (c2 : Int32) (hh : Int32) (pc0 : Int32) (pz0 : Int32) (pc1 : Int32) (pz1 : Int32) (dr : Nat) (sd : Nat) (ds : Nat) (fd : Nat → Int32) (tw : Nat) (sw : Nat) (wn : Nat) (fw : Nat → Int32) (fr : Nat → Int32) (nr : Nat) (ra : Nat → Nat) (rd : Nat → R6) (cc : Nat) (ch : Int32) (cp : Nat → Int32) (p0 : Int32) (p1 : Int32) : Met l yX8_open wsX8_open rm_X8_open (po_P D cI cZ cR [.ref x, .int p0, .int p1] (cW cI cR x kk pr w wr wc ro wt need c0 c1 c2 hh pc0 pz0 pc1 pz1 dr sd ds fd tw sw wn fw fr nr ra rd cc ch cp) H0) (po_Q (some (.int (x_X8_open c0 c1 c2 p0 p1))) H0) 0 0 nF := by
  refine Met.ofW (cc := cX8_open) (maxL := 3) (ret := (some .int)) (by decide +kernel) rfl ?_
  intro p e s m args below meth c s₁ B hml hv
  obtain ⟨rfl, rfl, hAM, hP⟩ := hv
  have hx := B.exec
  have hb := B.bytes
  have hr := B.returns
  have hts := atoms_spec (ws := wsX8_open) B.pre
  have hown : s.vm.findClass RX8 = some m.cls := findClass_of_methodNamed B.named
  have hlocks := B.notSynchronized
  have hK := hAM.1
  generalize hE : (x_X8_open c0 c1 c2 p0 p1) = Rv
  rw [x_X8_open] at hE
  have hl := lv_entry ([.ref x, .int p0, .int p1]) (n := 3) (Nat.le_of_ble_eq_true rfl)
  rw [lg_entry_eq]
  generalize (lg_sl ([.ref x, .int p0, .int p1]) ++ List.replicate (3 - (lg_sl ([.ref x, .int p0, .int p1])).length) Slot.unset).toArray = ls at hl ⊢
  have hl : lv_has ls 3 [(0, .ref x), (1, .int p0), (2, .int p1)] := hl
  refine lv_iload_n hx hb dX8_open_0 rfl (lv_at hl 1 rfl) ?_
  refine ro_call (va_runS (As := [.int p0]) (rest := []) ⟨hx, hb, hml, hown, hts⟩ (c_X8_isHolder l D cI cZ cR _ p0) (va_cwS 1 hts gX8_open_X8_isHolder rfl rfl rfl hd_X8_isHolder ⟨(Nat.le_of_ble_eq_true rfl), (Nat.le_of_ble_eq_true rfl)⟩) (po_pre hAM va_P.nil) rfl rfl hl.1 rfl (lv_room (Nat.le_of_ble_eq_true rfl)) dX8_open_1 ⟨(Nat.le_of_ble_eq_true rfl), (Nat.le_of_ble_eq_true rfl)⟩) ?_
  refine w_if_neb (tgt := 9) hx hb dX8_open_4 (by decide) (fun c_4 => ?_) (fun c_4 => ?_)
  · have hE := itT hE c_4
    refine lv_iload_n hx hb dX8_open_9 rfl (lv_at hl 2 rfl) ?_
    refine ro_call (va_runS (As := [.int p1]) (rest := []) ⟨hx, hb, hml, hown, hts⟩ (c_X8_isResidue l D cI cZ cR _ p1) (va_cwS 1 hts gX8_open_X8_isResidue rfl rfl rfl hd_X8_isResidue ⟨(Nat.le_of_ble_eq_true rfl), (Nat.le_of_ble_eq_true rfl)⟩) (po_pre hAM va_P.nil) rfl rfl hl.1 rfl (lv_room (Nat.le_of_ble_eq_true rfl)) dX8_open_10 ⟨(Nat.le_of_ble_eq_true rfl), (Nat.le_of_ble_eq_true rfl)⟩) ?_
    refine w_if_neb (tgt := 19) hx hb dX8_open_13 (by decide) (fun c_13 => ?_) (fun c_13 => ?_)
    · have hE := itT hE c_13
      refine lv_aload_n hx hb dX8_open_19 rfl (lv_at hl 0 rfl) ?_
      refine va_get (D := D) (ci := 6) (v := .ref kk) (C := RX8) (T := TX8) (N := 4) hx hb hts in_X8_open_X8 hown hK hP 0 rfl rfl 0 (by decide) (hts (.fieldLink RX8 10 "WallCount" "secret" "LWallCount$Key;") (List.mem_of_getElem? (i := 1) rfl)) (fun _ h9 => h9) rfl dX8_open_20 ?_
      refine lv_iload_n hx hb dX8_open_23 rfl (lv_at hl 1 rfl) ?_
      refine lv_iload_n hx hb dX8_open_24 rfl (lv_at hl 2 rfl) ?_
      refine ro_call (va_runV (As := [.int p0, .int p1]) (rest := []) ⟨hx, hb, hml, hown, hts⟩ (c_X0_share l D cI cZ cR _ kk need c0 c1 c2 hh p0 p1) (cwV 2 hts gX8_open_X0_share rfl rfl rfl ⟨rfl, hd_X0_share⟩ ⟨(Nat.le_of_ble_eq_true rfl), (Nat.le_of_ble_eq_true rfl)⟩) (po_preV hAM (hP.sub [1] rfl) (va_recv hK hP (ci := 0) (q0 := 1) rfl rfl)) rfl rfl hl.1 rfl (lv_room (Nat.le_of_ble_eq_true rfl)) dX8_open_25 ⟨(Nat.le_of_ble_eq_true rfl), (Nat.le_of_ble_eq_true rfl)⟩) ?_
      exact w_iret hx hb hr hlocks hE dX8_open_28
    · have hE := itF hE c_13
      refine lv_bipush (v := (-2)) hx hb dX8_open_16 (by decide +kernel) ?_
      exact w_iret hx hb hr hlocks hE dX8_open_18
  · have hE := itF hE c_4
    refine lv_iconst (v := (-1)) hx hb dX8_open_7 (by decide) ?_
    exact w_iret hx hb hr hlocks hE dX8_open_8

theorem hd_X8_weight : yX8_weight.cls ≠ "java/lang/invoke/MethodHandle" ∧ yX8_weight.cls ≠ "java/lang/invoke/VarHandle" ∧ (parseMethodDescriptor yX8_weight.desc).map (fun d => d.parameters.length) = some 2 := by decide +kernel
def x_X8_weight (p0 : Int32) (p1 : Int32) : Int32 := (if (x_X8_isHolder p0) = true then (if (x_X8_isIn p0 p1) = true then (if (x_X8_isSet p1) = true then (x_X0_weightIn p0 p1) else (-2)) else (-1)) else (-1))
def rm_X8_weight : Room := { frames := 3, cells := 0, slots := 0, locals := 69 }
set_option maxHeartbeats 4000000 in
set_option maxRecDepth 100000 in
theorem c_X8_weight (l : Launch) (D : va_G) (cI cZ cR : ClassId) (H0 : Heap) (x kk pr dr sd w wr wc ro wt tw sw : Nat) (need : Int32) (c0 : Int32) (c1 : Int32) (c2 : Int32) (hh : Int32) (pc0 : Int32) (pz0 : Int32) (pc1 : Int32) (pz1 : Int32) (dr : Nat) (sd : Nat) (ds : Nat) (fd : Nat → Int32) (tw : Nat) (sw : Nat) (wn : Nat) (fw : Nat → Int32) (fr : Nat → Int32) (nr : Nat) (ra : Nat → Nat) (rd : Nat → R6) (cc : Nat) (ch : Int32) (cp : Nat → Int32) (p0 : Int32) (p1 : Int32) : Met l yX8_weight wsX8_weight rm_X8_weight (po_P D cI cZ cR [.ref x, .int p0, .int p1] (cW cI cR x kk pr w wr wc ro wt need c0 c1 c2 hh pc0 pz0 pc1 pz1 dr sd ds fd tw sw wn fw fr nr ra rd cc ch cp) H0) (po_Q (some (.int (x_X8_weight p0 p1))) H0) 0 0 nF := by
  refine Met.ofW (cc := cX8_weight) (maxL := 3) (ret := (some .int)) (by decide +kernel) rfl ?_
  intro p e s m args below meth c s₁ B hml hv
  obtain ⟨rfl, rfl, hAM, hP⟩ := hv
  have hx := B.exec
  have hb := B.bytes
  have hr := B.returns
  have hts := atoms_spec (ws := wsX8_weight) B.pre
  have hown : s.vm.findClass RX8 = some m.cls := findClass_of_methodNamed B.named
  have hlocks := B.notSynchronized
  have hK := hAM.1
  generalize hE : (x_X8_weight p0 p1) = Rv
  rw [x_X8_weight] at hE
  have hl := lv_entry ([.ref x, .int p0, .int p1]) (n := 3) (Nat.le_of_ble_eq_true rfl)
  rw [lg_entry_eq]
  generalize (lg_sl ([.ref x, .int p0, .int p1]) ++ List.replicate (3 - (lg_sl ([.ref x, .int p0, .int p1])).length) Slot.unset).toArray = ls at hl ⊢
  have hl : lv_has ls 3 [(0, .ref x), (1, .int p0), (2, .int p1)] := hl
  refine lv_iload_n hx hb dX8_weight_0 rfl (lv_at hl 1 rfl) ?_
  refine ro_call (va_runS (As := [.int p0]) (rest := []) ⟨hx, hb, hml, hown, hts⟩ (c_X8_isHolder l D cI cZ cR _ p0) (va_cwS 1 hts gX8_weight_X8_isHolder rfl rfl rfl hd_X8_isHolder ⟨(Nat.le_of_ble_eq_true rfl), (Nat.le_of_ble_eq_true rfl)⟩) (po_pre hAM va_P.nil) rfl rfl hl.1 rfl (lv_room (Nat.le_of_ble_eq_true rfl)) dX8_weight_1 ⟨(Nat.le_of_ble_eq_true rfl), (Nat.le_of_ble_eq_true rfl)⟩) ?_
  refine w_if_eqb (tgt := 15) hx hb dX8_weight_4 (by decide) (fun c_4 => ?_) (fun c_4 => ?_)
  · have hE := itF hE c_4
    refine lv_iconst (v := (-1)) hx hb dX8_weight_15 (by decide) ?_
    exact w_iret hx hb hr hlocks hE dX8_weight_16
  · have hE := itT hE c_4
    refine lv_iload_n hx hb dX8_weight_7 rfl (lv_at hl 1 rfl) ?_
    refine lv_iload_n hx hb dX8_weight_8 rfl (lv_at hl 2 rfl) ?_
    refine ro_call (va_runS (As := [.int p0, .int p1]) (rest := []) ⟨hx, hb, hml, hown, hts⟩ (c_X8_isIn l D cI cZ cR _ p0 p1) (va_cwS 2 hts gX8_weight_X8_isIn rfl rfl rfl hd_X8_isIn ⟨(Nat.le_of_ble_eq_true rfl), (Nat.le_of_ble_eq_true rfl)⟩) (po_pre hAM va_P.nil) rfl rfl hl.1 rfl (lv_room (Nat.le_of_ble_eq_true rfl)) dX8_weight_9 ⟨(Nat.le_of_ble_eq_true rfl), (Nat.le_of_ble_eq_true rfl)⟩) ?_
    refine w_if_neb (tgt := 17) hx hb dX8_weight_12 (by decide) (fun c_12 => ?_) (fun c_12 => ?_)
    · have hE := itT hE c_12
      refine lv_iload_n hx hb dX8_weight_17 rfl (lv_at hl 2 rfl) ?_
      refine ro_call (va_runS (As := [.int p1]) (rest := []) ⟨hx, hb, hml, hown, hts⟩ (c_X8_isSet l D cI cZ cR _ p1) (va_cwS 1 hts gX8_weight_X8_isSet rfl rfl rfl hd_X8_isSet ⟨(Nat.le_of_ble_eq_true rfl), (Nat.le_of_ble_eq_true rfl)⟩) (po_pre hAM va_P.nil) rfl rfl hl.1 rfl (lv_room (Nat.le_of_ble_eq_true rfl)) dX8_weight_18 ⟨(Nat.le_of_ble_eq_true rfl), (Nat.le_of_ble_eq_true rfl)⟩) ?_
      refine w_if_neb (tgt := 27) hx hb dX8_weight_21 (by decide) (fun c_21 => ?_) (fun c_21 => ?_)
      · have hE := itT hE c_21
        refine lv_iload_n hx hb dX8_weight_27 rfl (lv_at hl 1 rfl) ?_
        refine lv_iload_n hx hb dX8_weight_28 rfl (lv_at hl 2 rfl) ?_
        refine ro_call (va_runS (As := [.int p0, .int p1]) (rest := []) ⟨hx, hb, hml, hown, hts⟩ (c_X0_weightIn l D cI cZ cR _ p0 p1) (va_cwS 2 hts gX8_weight_X0_weightIn rfl rfl rfl hd_X0_weightIn ⟨(Nat.le_of_ble_eq_true rfl), (Nat.le_of_ble_eq_true rfl)⟩) (po_pre hAM va_P.nil) rfl rfl hl.1 rfl (lv_room (Nat.le_of_ble_eq_true rfl)) dX8_weight_29 ⟨(Nat.le_of_ble_eq_true rfl), (Nat.le_of_ble_eq_true rfl)⟩) ?_
        exact w_iret hx hb hr hlocks hE dX8_weight_32
      · have hE := itF hE c_21
        refine lv_bipush (v := (-2)) hx hb dX8_weight_24 (by decide +kernel) ?_
        exact w_iret hx hb hr hlocks hE dX8_weight_26
    · have hE := itF hE c_12
      refine lv_iconst (v := (-1)) hx hb dX8_weight_15 (by decide) ?_
      exact w_iret hx hb hr hlocks hE dX8_weight_16

theorem hd_X8_opened : yX8_opened.cls ≠ "java/lang/invoke/MethodHandle" ∧ yX8_opened.cls ≠ "java/lang/invoke/VarHandle" ∧ (parseMethodDescriptor yX8_opened.desc).map (fun d => d.parameters.length) = some 4 := by decide +kernel
def x_X8_opened (need : Int32) (c0 : Int32) (c1 : Int32) (c2 : Int32) (p0 : Int32) (p1 : Int32) (p2 : Int32) (p3 : Int32) : Int32 := (if (x_X8_isResidue p0) = true then (if (x_X8_isResidue p1) = true then (if (x_X8_isSet p2) = true then (if (x_X8_within p3 0 1) = true then (if (x_X0_need need) ≤ (x_J6_bitCount_0f7a4 p2) then (if p3 = 0 then (x_X0_unsealed c0 c1 c2 p0 p1 p2) else (x_X2_exponentOf (x_X0_unsealed c0 c1 c2 p0 p1 p2))) else (-5)) else (-2)) else (-2)) else (-2)) else (-2))
def rm_X8_opened : Room := { frames := 4, cells := 0, slots := 0, locals := 94 }
theorem in_X8_opened_X0 : ∀ w ∈ wsX00, w ∈ wsX8_opened := fun _ h => List.mem_cons_of_mem _ (List.mem_append_right _ h)
theorem in_X8_opened_X8 : ∀ w ∈ wsX80, w ∈ wsX8_opened := fun _ h => List.mem_cons_of_mem _ (List.mem_append_left _ (List.mem_append_right _ h))
set_option maxHeartbeats 4000000 in
set_option maxRecDepth 100000 in
theorem c_X8_opened (l : Launch) (D : va_G) (cI cZ cR : ClassId) (H0 : Heap) (x kk pr dr sd w wr wc ro wt tw sw : Nat) (need : Int32) (c0 : Int32) (c1 : Int32) (c2 : Int32) (hh : Int32) (pc0 : Int32) (pz0 : Int32) (pc1 : Int32) (pz1 : Int32) (dr : Nat) (sd : Nat) (ds : Nat) (fd : Nat → Int32) (tw : Nat) (sw : Nat) (wn : Nat) (fw : Nat → Int32) (fr : Nat → Int32) (nr : Nat) (ra : Nat → Nat) (rd : Nat → R6) (cc : Nat) (ch : Int32) (cp : Nat → Int32) (p0 : Int32) (p1 : Int32) (p2 : Int32) (p3 : Int32) : Met l yX8_opened wsX8_opened rm_X8_opened (po_P D cI cZ cR [.ref x, .int p0, .int p1, .int p2, .int p3] (cW cI cR x kk pr w wr wc ro wt need c0 c1 c2 hh pc0 pz0 pc1 pz1 dr sd ds fd tw sw wn fw fr nr ra rd cc ch cp) H0) (po_Q (some (.int (x_X8_opened need c0 c1 c2 p0 p1 p2 p3))) H0) 0 0 nF := by
  refine Met.ofW (cc := cX8_opened) (maxL := 6) (ret := (some .int)) (by decide +kernel) rfl ?_
  intro p e s m args below meth c s₁ B hml hv
  obtain ⟨rfl, rfl, hAM, hP⟩ := hv
  have hx := B.exec
  have hb := B.bytes
  have hr := B.returns
  have hts := atoms_spec (ws := wsX8_opened) B.pre
  have hown : s.vm.findClass RX8 = some m.cls := findClass_of_methodNamed B.named
  have hlocks := B.notSynchronized
  have hK := hAM.1
  generalize hE : (x_X8_opened need c0 c1 c2 p0 p1 p2 p3) = Rv
  rw [x_X8_opened] at hE
  have hl := lv_entry ([.ref x, .int p0, .int p1, .int p2, .int p3]) (n := 6) (Nat.le_of_ble_eq_true rfl)
  rw [lg_entry_eq]
  generalize (lg_sl ([.ref x, .int p0, .int p1, .int p2, .int p3]) ++ List.replicate (6 - (lg_sl ([.ref x, .int p0, .int p1, .int p2, .int p3])).length) Slot.unset).toArray = ls at hl ⊢
  have hl : lv_has ls 6 [(0, .ref x), (1, .int p0), (2, .int p1), (3, .int p2), (4, .int p3)] := hl
  refine lv_iload_n hx hb dX8_opened_0 rfl (lv_at hl 1 rfl) ?_
  refine ro_call (va_runS (As := [.int p0]) (rest := []) ⟨hx, hb, hml, hown, hts⟩ (c_X8_isResidue l D cI cZ cR _ p0) (va_cwS 1 hts gX8_opened_X8_isResidue rfl rfl rfl hd_X8_isResidue ⟨(Nat.le_of_ble_eq_true rfl), (Nat.le_of_ble_eq_true rfl)⟩) (po_pre hAM va_P.nil) rfl rfl hl.1 rfl (lv_room (Nat.le_of_ble_eq_true rfl)) dX8_opened_1 ⟨(Nat.le_of_ble_eq_true rfl), (Nat.le_of_ble_eq_true rfl)⟩) ?_
  refine w_if_eqb (tgt := 31) hx hb dX8_opened_4 (by decide) (fun c_4 => ?_) (fun c_4 => ?_)
  · have hE := itF hE c_4
    refine lv_bipush (v := (-2)) hx hb dX8_opened_31 (by decide +kernel) ?_
    exact w_iret hx hb hr hlocks hE dX8_opened_33
  · have hE := itT hE c_4
    refine lv_iload_n hx hb dX8_opened_7 rfl (lv_at hl 2 rfl) ?_
    refine ro_call (va_runS (As := [.int p1]) (rest := []) ⟨hx, hb, hml, hown, hts⟩ (c_X8_isResidue l D cI cZ cR _ p1) (va_cwS 1 hts gX8_opened_X8_isResidue rfl rfl rfl hd_X8_isResidue ⟨(Nat.le_of_ble_eq_true rfl), (Nat.le_of_ble_eq_true rfl)⟩) (po_pre hAM va_P.nil) rfl rfl hl.1 rfl (lv_room (Nat.le_of_ble_eq_true rfl)) dX8_opened_8 ⟨(Nat.le_of_ble_eq_true rfl), (Nat.le_of_ble_eq_true rfl)⟩) ?_
    refine w_if_eqb (tgt := 31) hx hb dX8_opened_11 (by decide) (fun c_11 => ?_) (fun c_11 => ?_)
    · have hE := itF hE c_11
      refine lv_bipush (v := (-2)) hx hb dX8_opened_31 (by decide +kernel) ?_
      exact w_iret hx hb hr hlocks hE dX8_opened_33
    · have hE := itT hE c_11
      refine lv_iload_n hx hb dX8_opened_14 rfl (lv_at hl 3 rfl) ?_
      refine ro_call (va_runS (As := [.int p2]) (rest := []) ⟨hx, hb, hml, hown, hts⟩ (c_X8_isSet l D cI cZ cR _ p2) (va_cwS 1 hts gX8_opened_X8_isSet rfl rfl rfl hd_X8_isSet ⟨(Nat.le_of_ble_eq_true rfl), (Nat.le_of_ble_eq_true rfl)⟩) (po_pre hAM va_P.nil) rfl rfl hl.1 rfl (lv_room (Nat.le_of_ble_eq_true rfl)) dX8_opened_15 ⟨(Nat.le_of_ble_eq_true rfl), (Nat.le_of_ble_eq_true rfl)⟩) ?_
      refine w_if_eqb (tgt := 31) hx hb dX8_opened_18 (by decide) (fun c_18 => ?_) (fun c_18 => ?_)
      · have hE := itF hE c_18
        refine lv_bipush (v := (-2)) hx hb dX8_opened_31 (by decide +kernel) ?_
        exact w_iret hx hb hr hlocks hE dX8_opened_33
      · have hE := itT hE c_18
        refine lv_iload hx hb dX8_opened_21 (lv_at hl 4 rfl) ?_
        refine lv_iconst (v := 0) hx hb dX8_opened_23 (by decide) ?_
        refine lv_iconst (v := 1) hx hb dX8_opened_24 (by decide) ?_
        refine ro_call (va_runS (As := [.int p3, .int 0, .int 1]) (rest := []) ⟨hx, hb, hml, hown, hts⟩ (c_X8_within l D cI cZ cR _ p3 0 1) (va_cwS 3 hts gX8_opened_X8_within rfl rfl rfl hd_X8_within ⟨(Nat.le_of_ble_eq_true rfl), (Nat.le_of_ble_eq_true rfl)⟩) (po_pre hAM va_P.nil) rfl rfl hl.1 rfl (lv_room (Nat.le_of_ble_eq_true rfl)) dX8_opened_25 ⟨(Nat.le_of_ble_eq_true rfl), (Nat.le_of_ble_eq_true rfl)⟩) ?_
        refine w_if_neb (tgt := 34) hx hb dX8_opened_28 (by decide) (fun c_28 => ?_) (fun c_28 => ?_)
        · have hE := itT hE c_28
          refine lv_iload_n hx hb dX8_opened_34 rfl (lv_at hl 3 rfl) ?_
          refine ro_call (va_runS (As := [.int p2]) (rest := []) ⟨hx, hb, hml, hown, hts⟩ (c_J6_bitCount_0f7a4 l D cI cZ cR _ p2) (va_cwS 1 hts gX8_opened_J6_bitCount_0f7a4 rfl rfl rfl hd_J6_bitCount_0f7a4 ⟨(Nat.le_of_ble_eq_true rfl), (Nat.le_of_ble_eq_true rfl)⟩) (po_pre hAM va_P.nil) rfl rfl hl.1 rfl (lv_room (Nat.le_of_ble_eq_true rfl)) dX8_opened_35 ⟨(Nat.le_of_ble_eq_true rfl), (Nat.le_of_ble_eq_true rfl)⟩) ?_
          refine lv_aload_n hx hb dX8_opened_38 rfl (lv_at hl 0 rfl) ?_
          refine va_get (D := D) (ci := 6) (v := .ref kk) (C := RX8) (T := TX8) (N := 4) hx hb hts in_X8_opened_X8 hown hK hP 0 rfl rfl 0 (by decide) (hts (.fieldLink RX8 10 "WallCount" "secret" "LWallCount$Key;") (List.mem_of_getElem? (i := 1) rfl)) (fun _ h9 => h9) rfl dX8_opened_39 ?_
          refine ro_call (va_runV (As := []) (rest := [.int (x_J6_bitCount_0f7a4 p2)]) ⟨hx, hb, hml, hown, hts⟩ (c_X0_need l D cI cZ cR _ kk need c0 c1 c2 hh) (cwV 0 hts gX8_opened_X0_need rfl rfl rfl ⟨rfl, hd_X0_need⟩ ⟨(Nat.le_of_ble_eq_true rfl), (Nat.le_of_ble_eq_true rfl)⟩) (po_preV hAM (hP.sub [1] rfl) (va_recv hK hP (ci := 0) (q0 := 1) rfl rfl)) rfl rfl hl.1 rfl (lv_room (Nat.le_of_ble_eq_true rfl)) dX8_opened_42 ⟨(Nat.le_of_ble_eq_true rfl), (Nat.le_of_ble_eq_true rfl)⟩) ?_
          refine lv_icmp_ge (tgt := 51) hx hb dX8_opened_45 (by decide) (fun c_45 => ?_) (fun c_45 => ?_)
          · have hE := itT hE c_45
            refine lv_aload_n hx hb dX8_opened_51 rfl (lv_at hl 0 rfl) ?_
            refine va_get (D := D) (ci := 6) (v := .ref kk) (C := RX8) (T := TX8) (N := 4) hx hb hts in_X8_opened_X8 hown hK hP 0 rfl rfl 0 (by decide) (hts (.fieldLink RX8 10 "WallCount" "secret" "LWallCount$Key;") (List.mem_of_getElem? (i := 1) rfl)) (fun _ h9 => h9) rfl dX8_opened_52 ?_
            refine lv_iload_n hx hb dX8_opened_55 rfl (lv_at hl 1 rfl) ?_
            refine lv_iload_n hx hb dX8_opened_56 rfl (lv_at hl 2 rfl) ?_
            refine lv_iload_n hx hb dX8_opened_57 rfl (lv_at hl 3 rfl) ?_
            refine ro_call (va_runV (As := [.int p0, .int p1, .int p2]) (rest := []) ⟨hx, hb, hml, hown, hts⟩ (c_X0_unsealed l D cI cZ cR _ kk need c0 c1 c2 hh p0 p1 p2) (cwV 3 hts gX8_opened_X0_unsealed rfl rfl rfl ⟨rfl, hd_X0_unsealed⟩ ⟨(Nat.le_of_ble_eq_true rfl), (Nat.le_of_ble_eq_true rfl)⟩) (po_preV hAM (hP.sub [1] rfl) (va_recv hK hP (ci := 0) (q0 := 1) rfl rfl)) rfl rfl hl.1 rfl (lv_room (Nat.le_of_ble_eq_true rfl)) dX8_opened_58 ⟨(Nat.le_of_ble_eq_true rfl), (Nat.le_of_ble_eq_true rfl)⟩) ?_
            refine lv_istore (lv' := [(5, .int (x_X0_unsealed c0 c1 c2 p0 p1 p2)), (0, .ref x), (1, .int p0), (2, .int p1), (3, .int p2), (4, .int p3)]) hx hb dX8_opened_61 hl (by decide) rfl (fun ls hl => ?_)
            refine lv_iload hx hb dX8_opened_63 (lv_at hl 5 rfl) ?_
            refine lv_if_ne (tgt := 73) hx hb dX8_opened_65 (by decide) (fun c_65 => ?_) (fun c_65 => ?_)
            · have hE := itF hE c_65
              refine lv_iload hx hb dX8_opened_73 (lv_at hl 0 rfl) ?_
              refine ro_call (va_runS (As := [.int (x_X0_unsealed c0 c1 c2 p0 p1 p2)]) (rest := []) ⟨hx, hb, hml, hown, hts⟩ (c_X2_exponentOf l D cI cZ cR _ (x_X0_unsealed c0 c1 c2 p0 p1 p2)) (va_cwS 1 hts gX8_opened_X2_exponentOf rfl rfl rfl hd_X2_exponentOf ⟨(Nat.le_of_ble_eq_true rfl), (Nat.le_of_ble_eq_true rfl)⟩) (po_pre hAM va_P.nil) rfl rfl hl.1 rfl (lv_room (Nat.le_of_ble_eq_true rfl)) dX8_opened_75 ⟨(Nat.le_of_ble_eq_true rfl), (Nat.le_of_ble_eq_true rfl)⟩) ?_
              exact w_iret hx hb hr hlocks hE dX8_opened_78
            · have hE := itT hE c_65
              refine lv_iload hx hb dX8_opened_68 (lv_at hl 0 rfl) ?_
              refine lv_goto (tgt := 78) hx hb dX8_opened_70 (by decide) ?_
              exact w_iret hx hb hr hlocks hE dX8_opened_78
          · have hE := itF hE c_45
            refine lv_bipush (v := (-5)) hx hb dX8_opened_48 (by decide +kernel) ?_
            exact w_iret hx hb hr hlocks hE dX8_opened_50
        · have hE := itF hE c_28
          refine lv_bipush (v := (-2)) hx hb dX8_opened_31 (by decide +kernel) ?_
          exact w_iret hx hb hr hlocks hE dX8_opened_33

theorem hd_X8_fault : yX8_fault.cls ≠ "java/lang/invoke/MethodHandle" ∧ yX8_fault.cls ≠ "java/lang/invoke/VarHandle" ∧ (parseMethodDescriptor yX8_fault.desc).map (fun d => d.parameters.length) = some 0 := by decide +kernel
def x_X8_fault (ds : Nat) (fd : Nat → Int32) : Int32 := (x_X6_faultPlace (nI ds) fd)
def rm_X8_fault : Room := { frames := 3, cells := 0, slots := 0, locals := 63 }
theorem in_X8_fault_X4 : ∀ w ∈ wsX40, w ∈ wsX8_fault := fun _ h => List.mem_cons_of_mem _ (List.mem_append_left _ (List.mem_append_right _ h))
theorem in_X8_fault_X6 : ∀ w ∈ wsX60, w ∈ wsX8_fault := fun _ h => List.mem_cons_of_mem _ (List.mem_append_right _ h)
theorem in_X8_fault_X8 : ∀ w ∈ wsX80, w ∈ wsX8_fault := fun _ h => List.mem_cons_of_mem _ (List.mem_append_left _ (List.mem_append_left _ (List.mem_append_right _ h)))
set_option maxHeartbeats 4000000 in
set_option maxRecDepth 100000 in
theorem c_X8_fault (l : Launch) (D : va_G) (cI cZ cR : ClassId) (H0 : Heap) (x kk pr dr sd w wr wc ro wt tw sw : Nat) (need : Int32) (c0 : Int32) (c1 : Int32) (c2 : Int32) (hh : Int32) (pc0 : Int32) (pz0 : Int32) (pc1 : Int32) (pz1 : Int32) (dr : Nat) (sd : Nat) (ds : Nat) (fd : Nat → Int32) (tw : Nat) (sw : Nat) (wn : Nat) (fw : Nat → Int32) (fr : Nat → Int32) (nr : Nat) (ra : Nat → Nat) (rd : Nat → R6) (cc : Nat) (ch : Int32) (cp : Nat → Int32) : Met l yX8_fault wsX8_fault rm_X8_fault (po_P D cI cZ cR [.ref x] (cW cI cR x kk pr w wr wc ro wt need c0 c1 c2 hh pc0 pz0 pc1 pz1 dr sd ds fd tw sw wn fw fr nr ra rd cc ch cp) H0) (po_Q (some (.int (x_X8_fault ds fd))) H0) 0 0 nF := by
  refine Met.ofW (cc := cX8_fault) (maxL := 1) (ret := (some .int)) (by decide +kernel) rfl ?_
  intro p e s m args below meth c s₁ B hml hv
  obtain ⟨rfl, rfl, hAM, hP⟩ := hv
  have hx := B.exec
  have hb := B.bytes
  have hr := B.returns
  have hts := atoms_spec (ws := wsX8_fault) B.pre
  have hown : s.vm.findClass RX8 = some m.cls := findClass_of_methodNamed B.named
  have hlocks := B.notSynchronized
  have hK := hAM.1
  generalize hE : (x_X8_fault ds fd) = Rv
  rw [x_X8_fault] at hE
  have hl := lv_entry ([.ref x]) (n := 1) (Nat.le_of_ble_eq_true rfl)
  rw [lg_entry_eq]
  generalize (lg_sl ([.ref x]) ++ List.replicate (1 - (lg_sl ([.ref x])).length) Slot.unset).toArray = ls at hl ⊢
  have hl : lv_has ls 1 [(0, .ref x)] := hl
  refine lv_aload_n hx hb dX8_fault_0 rfl (lv_at hl 0 rfl) ?_
  refine va_get (D := D) (ci := 6) (v := .ref ro) (C := RX8) (T := TX8) (N := 4) hx hb hts in_X8_fault_X8 hown hK hP 0 rfl rfl 2 (by decide) (hts (.fieldLink RX8 26 "WallCount" "roll" "LWallCount$Roll;") (List.mem_of_getElem? (i := 1) rfl)) (fun _ h9 => h9) rfl dX8_fault_1 ?_
  refine ro_call (va_runV (As := []) (rest := []) ⟨hx, hb, hml, hown, hts⟩ (c_X4_draft l D cI cZ cR _ ro wt tw dr fr) (cwV 0 hts gX8_fault_X4_draft rfl rfl rfl ⟨rfl, hd_X4_draft⟩ ⟨(Nat.le_of_ble_eq_true rfl), (Nat.le_of_ble_eq_true rfl)⟩) (po_preV hAM (hP.sub [8, 9] rfl) (va_recv hK hP (ci := 2) (q0 := 8) rfl rfl)) rfl rfl hl.1 rfl (lv_room (Nat.le_of_ble_eq_true rfl)) dX8_fault_4 ⟨(Nat.le_of_ble_eq_true rfl), (Nat.le_of_ble_eq_true rfl)⟩) ?_
  refine ro_call (va_runV (As := []) (rest := []) ⟨hx, hb, hml, hown, hts⟩ (c_X6_faultPlace l D cI cZ cR _ dr sd (nI ds) fd) (cwV 0 hts gX8_fault_X6_faultPlace rfl rfl rfl ⟨rfl, hd_X6_faultPlace⟩ ⟨(Nat.le_of_ble_eq_true rfl), (Nat.le_of_ble_eq_true rfl)⟩) (po_preV hAM (hP.sub [3, 4] rfl) (va_recv hK hP (ci := 4) (q0 := 3) rfl rfl)) rfl rfl hl.1 rfl (lv_room (Nat.le_of_ble_eq_true rfl)) dX8_fault_7 ⟨(Nat.le_of_ble_eq_true rfl), (Nat.le_of_ble_eq_true rfl)⟩) ?_
  exact w_iret hx hb hr hlocks hE dX8_fault_10

theorem hd_X8_may : yX8_may.cls ≠ "java/lang/invoke/MethodHandle" ∧ yX8_may.cls ≠ "java/lang/invoke/VarHandle" ∧ (parseMethodDescriptor yX8_may.desc).map (fun d => d.parameters.length) = some 1 := by decide +kernel
def x_X8_may (fr : Nat → Int32) (wn : Nat) (fw : Nat → Int32) (p0 : Int32) : Int32 := (if (x_X8_isVoter p0) = true then (if (x_X4_allows fr (nI wn) fw p0) = true then 1 else 0) else (-1))
def rm_X8_may : Room := { frames := 3, cells := 0, slots := 0, locals := 73 }
theorem in_X8_may_X4 : ∀ w ∈ wsX40, w ∈ wsX8_may := fun _ h => List.mem_cons_of_mem _ (List.mem_append_left _ (List.mem_append_right _ h))
theorem in_X8_may_X6 : ∀ w ∈ wsX60, w ∈ wsX8_may := fun _ h => List.mem_cons_of_mem _ (List.mem_append_right _ h)
theorem in_X8_may_X8 : ∀ w ∈ wsX80, w ∈ wsX8_may := fun _ h => List.mem_cons_of_mem _ (List.mem_append_left _ (List.mem_append_left _ (List.mem_append_right _ h)))
set_option maxHeartbeats 4000000 in
set_option maxRecDepth 100000 in
theorem c_X8_may (l : Launch) (D : va_G) (cI cZ cR : ClassId) (H0 : Heap) (x kk pr dr sd w wr wc ro wt tw sw : Nat) (need : Int32) (c0 : Int32) (c1 : Int32) (c2 : Int32) (hh : Int32) (pc0 : Int32) (pz0 : Int32) (pc1 : Int32) (pz1 : Int32) (dr : Nat) (sd : Nat) (ds : Nat) (fd : Nat → Int32) (tw : Nat) (sw : Nat) (wn : Nat) (fw : Nat → Int32) (fr : Nat → Int32) (nr : Nat) (ra : Nat → Nat) (rd : Nat → R6) (cc : Nat) (ch : Int32) (cp : Nat → Int32) (p0 : Int32) : Met l yX8_may wsX8_may rm_X8_may (po_P D cI cZ cR [.ref x, .int p0] (cW cI cR x kk pr w wr wc ro wt need c0 c1 c2 hh pc0 pz0 pc1 pz1 dr sd ds fd tw sw wn fw fr nr ra rd cc ch cp) H0) (po_Q (some (.int (x_X8_may fr wn fw p0))) H0) 0 0 nF := by
  refine Met.ofW (cc := cX8_may) (maxL := 2) (ret := (some .int)) (by decide +kernel) rfl ?_
  intro p e s m args below meth c s₁ B hml hv
  obtain ⟨rfl, rfl, hAM, hP⟩ := hv
  have hx := B.exec
  have hb := B.bytes
  have hr := B.returns
  have hts := atoms_spec (ws := wsX8_may) B.pre
  have hown : s.vm.findClass RX8 = some m.cls := findClass_of_methodNamed B.named
  have hlocks := B.notSynchronized
  have hK := hAM.1
  generalize hE : (x_X8_may fr wn fw p0) = Rv
  rw [x_X8_may] at hE
  have hl := lv_entry ([.ref x, .int p0]) (n := 2) (Nat.le_of_ble_eq_true rfl)
  rw [lg_entry_eq]
  generalize (lg_sl ([.ref x, .int p0]) ++ List.replicate (2 - (lg_sl ([.ref x, .int p0])).length) Slot.unset).toArray = ls at hl ⊢
  have hl : lv_has ls 2 [(0, .ref x), (1, .int p0)] := hl
  refine lv_iload_n hx hb dX8_may_0 rfl (lv_at hl 1 rfl) ?_
  refine ro_call (va_runS (As := [.int p0]) (rest := []) ⟨hx, hb, hml, hown, hts⟩ (c_X8_isVoter l D cI cZ cR _ p0) (va_cwS 1 hts gX8_may_X8_isVoter rfl rfl rfl hd_X8_isVoter ⟨(Nat.le_of_ble_eq_true rfl), (Nat.le_of_ble_eq_true rfl)⟩) (po_pre hAM va_P.nil) rfl rfl hl.1 rfl (lv_room (Nat.le_of_ble_eq_true rfl)) dX8_may_1 ⟨(Nat.le_of_ble_eq_true rfl), (Nat.le_of_ble_eq_true rfl)⟩) ?_
  refine w_if_neb (tgt := 9) hx hb dX8_may_4 (by decide) (fun c_4 => ?_) (fun c_4 => ?_)
  · have hE := itT hE c_4
    refine lv_aload_n hx hb dX8_may_9 rfl (lv_at hl 0 rfl) ?_
    refine va_get (D := D) (ci := 6) (v := .ref ro) (C := RX8) (T := TX8) (N := 4) hx hb hts in_X8_may_X8 hown hK hP 0 rfl rfl 2 (by decide) (hts (.fieldLink RX8 26 "WallCount" "roll" "LWallCount$Roll;") (List.mem_of_getElem? (i := 1) rfl)) (fun _ h9 => h9) rfl dX8_may_10 ?_
    refine lv_iload_n hx hb dX8_may_13 rfl (lv_at hl 1 rfl) ?_
    refine ro_call (va_runV (As := [.int p0]) (rest := []) ⟨hx, hb, hml, hown, hts⟩ (c_X4_allows l D cI cZ cR _ ro wt tw sw dr fr (nI wn) fw p0) (cwV 1 hts gX8_may_X4_allows rfl rfl rfl ⟨rfl, hd_X4_allows⟩ ⟨(Nat.le_of_ble_eq_true rfl), (Nat.le_of_ble_eq_true rfl)⟩) (po_preV hAM (hP.sub [8, 9, 10, 11] rfl) (va_recv hK hP (ci := 2) (q0 := 8) rfl rfl)) rfl rfl hl.1 rfl (lv_room (Nat.le_of_ble_eq_true rfl)) dX8_may_14 ⟨(Nat.le_of_ble_eq_true rfl), (Nat.le_of_ble_eq_true rfl)⟩) ?_
    refine w_if_eqb (tgt := 24) hx hb dX8_may_17 (by decide) (fun c_17 => ?_) (fun c_17 => ?_)
    · have hE := itF hE c_17
      refine lv_iconst (v := 0) hx hb dX8_may_24 (by decide) ?_
      exact w_iret hx hb hr hlocks hE dX8_may_25
    · have hE := itT hE c_17
      refine lv_iconst (v := 1) hx hb dX8_may_20 (by decide) ?_
      refine lv_goto (tgt := 25) hx hb dX8_may_21 (by decide) ?_
      exact w_iret hx hb hr hlocks hE dX8_may_25
  · have hE := itF hE c_4
    refine lv_iconst (v := (-1)) hx hb dX8_may_7 (by decide) ?_
    exact w_iret hx hb hr hlocks hE dX8_may_8

theorem hd_X8_find : yX8_find.cls ≠ "java/lang/invoke/MethodHandle" ∧ yX8_find.cls ≠ "java/lang/invoke/VarHandle" ∧ (parseMethodDescriptor yX8_find.desc).map (fun d => d.parameters.length) = some 2 := by decide +kernel
def x_X8_find (nr : Nat) (rd : Nat → R6) (p0 : Int32) (p1 : Int32) : Int32 := (if (x_X8_within p1 0 30) = true then (x_X7_firstWithWord nr rd p0 p1) else (-2))
def rm_X8_find : Room := { frames := 4, cells := 0, slots := 0, locals := 87 }
theorem in_X8_find_X5 : ∀ w ∈ wsX50, w ∈ wsX8_find := fun _ h => List.mem_cons_of_mem _ (List.mem_append_right _ h)
theorem in_X8_find_X7 : ∀ w ∈ wsX70, w ∈ wsX8_find := fun _ h => List.mem_cons_of_mem _ (List.mem_append_left _ (List.mem_append_right _ h))
theorem in_X8_find_X8 : ∀ w ∈ wsX80, w ∈ wsX8_find := fun _ h => List.mem_cons_of_mem _ (List.mem_append_left _ (List.mem_append_left _ (List.mem_append_right _ h)))
set_option maxHeartbeats 4000000 in
set_option maxRecDepth 100000 in
theorem c_X8_find (l : Launch) (D : va_G) (cI cZ cR : ClassId) (H0 : Heap) (x kk pr dr sd w wr wc ro wt tw sw : Nat) (need : Int32) (c0 : Int32) (c1 : Int32) (c2 : Int32) (hh : Int32) (pc0 : Int32) (pz0 : Int32) (pc1 : Int32) (pz1 : Int32) (dr : Nat) (sd : Nat) (ds : Nat) (fd : Nat → Int32) (tw : Nat) (sw : Nat) (wn : Nat) (fw : Nat → Int32) (fr : Nat → Int32) (nr : Nat) (ra : Nat → Nat) (rd : Nat → R6) (cc : Nat) (ch : Int32) (cp : Nat → Int32) (p0 : Int32) (p1 : Int32) (hn30 : nr ≤ 30) : Met l yX8_find wsX8_find rm_X8_find (po_P D cI cZ cR [.ref x, .int p0, .int p1] (cW cI cR x kk pr w wr wc ro wt need c0 c1 c2 hh pc0 pz0 pc1 pz1 dr sd ds fd tw sw wn fw fr nr ra rd cc ch cp) H0) (po_Q (some (.int (x_X8_find nr rd p0 p1))) H0) 0 0 nF := by
  refine Met.ofW (cc := cX8_find) (maxL := 3) (ret := (some .int)) (by decide +kernel) rfl ?_
  intro p e s m args below meth c s₁ B hml hv
  obtain ⟨rfl, rfl, hAM, hP⟩ := hv
  have hx := B.exec
  have hb := B.bytes
  have hr := B.returns
  have hts := atoms_spec (ws := wsX8_find) B.pre
  have hown : s.vm.findClass RX8 = some m.cls := findClass_of_methodNamed B.named
  have hlocks := B.notSynchronized
  have hK := hAM.1
  generalize hE : (x_X8_find nr rd p0 p1) = Rv
  rw [x_X8_find] at hE
  have hl := lv_entry ([.ref x, .int p0, .int p1]) (n := 3) (Nat.le_of_ble_eq_true rfl)
  rw [lg_entry_eq]
  generalize (lg_sl ([.ref x, .int p0, .int p1]) ++ List.replicate (3 - (lg_sl ([.ref x, .int p0, .int p1])).length) Slot.unset).toArray = ls at hl ⊢
  have hl : lv_has ls 3 [(0, .ref x), (1, .int p0), (2, .int p1)] := hl
  refine lv_iload_n hx hb dX8_find_0 rfl (lv_at hl 2 rfl) ?_
  refine lv_iconst (v := 0) hx hb dX8_find_1 (by decide) ?_
  refine lv_bipush (v := 30) hx hb dX8_find_2 (by decide +kernel) ?_
  refine ro_call (va_runS (As := [.int p1, .int 0, .int 30]) (rest := []) ⟨hx, hb, hml, hown, hts⟩ (c_X8_within l D cI cZ cR _ p1 0 30) (va_cwS 3 hts gX8_find_X8_within rfl rfl rfl hd_X8_within ⟨(Nat.le_of_ble_eq_true rfl), (Nat.le_of_ble_eq_true rfl)⟩) (po_pre hAM va_P.nil) rfl rfl hl.1 rfl (lv_room (Nat.le_of_ble_eq_true rfl)) dX8_find_4 ⟨(Nat.le_of_ble_eq_true rfl), (Nat.le_of_ble_eq_true rfl)⟩) ?_
  refine w_if_neb (tgt := 13) hx hb dX8_find_7 (by decide) (fun c_7 => ?_) (fun c_7 => ?_)
  · have hE := itT hE c_7
    refine lv_aload_n hx hb dX8_find_13 rfl (lv_at hl 0 rfl) ?_
    refine va_get (D := D) (ci := 6) (v := .ref w) (C := RX8) (T := TX8) (N := 4) hx hb hts in_X8_find_X8 hown hK hP 0 rfl rfl 3 (by decide) (hts (.fieldLink RX8 33 "WallCount" "wall" "LWallCount$Wall;") (List.mem_of_getElem? (i := 1) rfl)) (fun _ h9 => h9) rfl dX8_find_14 ?_
    refine lv_iload_n hx hb dX8_find_17 rfl (lv_at hl 1 rfl) ?_
    refine lv_iload_n hx hb dX8_find_18 rfl (lv_at hl 2 rfl) ?_
    refine ro_call (va_runV (As := [.int p0, .int p1]) (rest := []) ⟨hx, hb, hml, hown, hts⟩ (c_X7_firstWithWord l D cI cZ cR _ w wr wc ro wt tw sw dr nr ra rd (nI cc) ch cp fr (nI wn) fw p0 p1 hn30 (low_k c_7) (high_k c_7)) (cwV 2 hts gX8_find_X7_firstWithWord rfl rfl rfl ⟨rfl, hd_X7_firstWithWord⟩ ⟨(Nat.le_of_ble_eq_true rfl), (Nat.le_of_ble_eq_true rfl)⟩) (po_preV hAM hP.tail.tail.tail.tail.tail (va_recv hK hP (ci := 5) (q0 := 5) rfl rfl)) rfl rfl hl.1 rfl (lv_room (Nat.le_of_ble_eq_true rfl)) dX8_find_19 ⟨(Nat.le_of_ble_eq_true rfl), (Nat.le_of_ble_eq_true rfl)⟩) ?_
    exact w_iret hx hb hr hlocks hE dX8_find_22
  · have hE := itF hE c_7
    refine lv_bipush (v := (-2)) hx hb dX8_find_10 (by decide +kernel) ?_
    exact w_iret hx hb hr hlocks hE dX8_find_12

theorem hd_X8_tally : yX8_tally.cls ≠ "java/lang/invoke/MethodHandle" ∧ yX8_tally.cls ≠ "java/lang/invoke/VarHandle" ∧ (parseMethodDescriptor yX8_tally.desc).map (fun d => d.parameters.length) = some 1 := by decide +kernel
def x_X8_tally (nr : Nat) (rd : Nat → R6) (ch : Int32) (fr : Nat → Int32) (wn : Nat) (fw : Nat → Int32) (p0 : Int32) : Int32 := (if p0 = 0 then (x_X7_product nr rd ch fr (nI wn) fw 0) else (if p0 = 1 then (x_X7_product nr rd ch fr (nI wn) fw 1) else (if p0 = 2 then (x_X7_howManyAre nr rd ch fr (nI wn) fw 0) else (-2))))
def rm_X8_tally : Room := { frames := 5, cells := 0, slots := 0, locals := 121 }
theorem in_X8_tally_X4 : ∀ w ∈ wsX40, w ∈ wsX8_tally := fun _ h => List.mem_cons_of_mem _ (List.mem_append_left _ (List.mem_append_right _ h))
theorem in_X8_tally_X5 : ∀ w ∈ wsX50, w ∈ wsX8_tally := fun _ h => List.mem_cons_of_mem _ (List.mem_append_left _ (List.mem_append_left _ (List.mem_append_right _ h)))
theorem in_X8_tally_X6 : ∀ w ∈ wsX60, w ∈ wsX8_tally := fun _ h => List.mem_cons_of_mem _ (List.mem_append_right _ h)
theorem in_X8_tally_X7 : ∀ w ∈ wsX70, w ∈ wsX8_tally := fun _ h => List.mem_cons_of_mem _ (List.mem_append_left _ (List.mem_append_left _ (List.mem_append_left _ (List.mem_append_right _ h))))
theorem in_X8_tally_X8 : ∀ w ∈ wsX80, w ∈ wsX8_tally := fun _ h => List.mem_cons_of_mem _ (List.mem_append_left _ (List.mem_append_left _ (List.mem_append_left _ (List.mem_append_left _ (List.mem_append_right _ h)))))
set_option maxHeartbeats 4000000 in
set_option maxRecDepth 100000 in
theorem c_X8_tally (l : Launch) (D : va_G) (cI cZ cR : ClassId) (H0 : Heap) (x kk pr dr sd w wr wc ro wt tw sw : Nat) (need : Int32) (c0 : Int32) (c1 : Int32) (c2 : Int32) (hh : Int32) (pc0 : Int32) (pz0 : Int32) (pc1 : Int32) (pz1 : Int32) (dr : Nat) (sd : Nat) (ds : Nat) (fd : Nat → Int32) (tw : Nat) (sw : Nat) (wn : Nat) (fw : Nat → Int32) (fr : Nat → Int32) (nr : Nat) (ra : Nat → Nat) (rd : Nat → R6) (cc : Nat) (ch : Int32) (cp : Nat → Int32) (p0 : Int32) (hn30 : nr ≤ 30) : Met l yX8_tally wsX8_tally rm_X8_tally (po_P D cI cZ cR [.ref x, .int p0] (cW cI cR x kk pr w wr wc ro wt need c0 c1 c2 hh pc0 pz0 pc1 pz1 dr sd ds fd tw sw wn fw fr nr ra rd cc ch cp) H0) (po_Q (some (.int (x_X8_tally nr rd ch fr wn fw p0))) H0) 0 0 nF := by
  refine Met.ofW (cc := cX8_tally) (maxL := 2) (ret := (some .int)) (by decide +kernel) rfl ?_
  intro p e s m args below meth c s₁ B hml hv
  obtain ⟨rfl, rfl, hAM, hP⟩ := hv
  have hx := B.exec
  have hb := B.bytes
  have hr := B.returns
  have hts := atoms_spec (ws := wsX8_tally) B.pre
  have hown : s.vm.findClass RX8 = some m.cls := findClass_of_methodNamed B.named
  have hlocks := B.notSynchronized
  have hK := hAM.1
  generalize hE : (x_X8_tally nr rd ch fr wn fw p0) = Rv
  rw [x_X8_tally] at hE
  have hl := lv_entry ([.ref x, .int p0]) (n := 2) (Nat.le_of_ble_eq_true rfl)
  rw [lg_entry_eq]
  generalize (lg_sl ([.ref x, .int p0]) ++ List.replicate (2 - (lg_sl ([.ref x, .int p0])).length) Slot.unset).toArray = ls at hl ⊢
  have hl : lv_has ls 2 [(0, .ref x), (1, .int p0)] := hl
  refine lv_iload_n hx hb dX8_tally_0 rfl (lv_at hl 1 rfl) ?_
  by_cases c_1_0 : p0 = 0
  · have hE := itT hE c_1_0
    refine lv_tableIn (tgt := 28) hx hb dX8_tally_1 (by rw [c_1_0]; decide +kernel) (by rw [c_1_0]; decide +kernel) (off := 27) (by rw [c_1_0]; decide +kernel) (by decide) ?_
    refine lv_aload_n hx hb dX8_tally_28 rfl (lv_at hl 0 rfl) ?_
    refine va_get (D := D) (ci := 6) (v := .ref w) (C := RX8) (T := TX8) (N := 4) hx hb hts in_X8_tally_X8 hown hK hP 0 rfl rfl 3 (by decide) (hts (.fieldLink RX8 33 "WallCount" "wall" "LWallCount$Wall;") (List.mem_of_getElem? (i := 1) rfl)) (fun _ h9 => h9) rfl dX8_tally_29 ?_
    refine lv_iconst (v := 0) hx hb dX8_tally_32 (by decide) ?_
    refine lv_aload_n hx hb dX8_tally_33 rfl (lv_at hl 0 rfl) ?_
    refine va_get (D := D) (ci := 6) (v := .ref ro) (C := RX8) (T := TX8) (N := 4) hx hb hts in_X8_tally_X8 hown hK hP 0 rfl rfl 2 (by decide) (hts (.fieldLink RX8 26 "WallCount" "roll" "LWallCount$Roll;") (List.mem_of_getElem? (i := 2) rfl)) (fun _ h9 => h9) rfl dX8_tally_34 ?_
    refine ro_call (va_runV (As := [.int 0, .ref ro]) (rest := []) ⟨hx, hb, hml, hown, hts⟩ (c_X7_product l D cI cZ cR _ w wr wc ro wt tw sw dr nr ra rd (nI cc) ch cp fr (nI wn) fw 0 hn30) (cwV 2 hts gX8_tally_X7_product rfl rfl rfl ⟨rfl, hd_X7_product⟩ ⟨(Nat.le_of_ble_eq_true rfl), (Nat.le_of_ble_eq_true rfl)⟩) (po_preV hAM hP.tail.tail.tail.tail.tail (va_recv hK hP (ci := 5) (q0 := 5) rfl rfl)) rfl rfl hl.1 rfl (lv_room (Nat.le_of_ble_eq_true rfl)) dX8_tally_37 ⟨(Nat.le_of_ble_eq_true rfl), (Nat.le_of_ble_eq_true rfl)⟩) ?_
    exact w_iret hx hb hr hlocks hE dX8_tally_40
  · have hE := itF hE c_1_0
    by_cases c_1_1 : p0 = 1
    · have hE := itT hE c_1_1
      refine lv_tableIn (tgt := 41) hx hb dX8_tally_1 (by rw [c_1_1]; decide +kernel) (by rw [c_1_1]; decide +kernel) (off := 40) (by rw [c_1_1]; decide +kernel) (by decide) ?_
      refine lv_aload_n hx hb dX8_tally_41 rfl (lv_at hl 0 rfl) ?_
      refine va_get (D := D) (ci := 6) (v := .ref w) (C := RX8) (T := TX8) (N := 4) hx hb hts in_X8_tally_X8 hown hK hP 0 rfl rfl 3 (by decide) (hts (.fieldLink RX8 33 "WallCount" "wall" "LWallCount$Wall;") (List.mem_of_getElem? (i := 1) rfl)) (fun _ h9 => h9) rfl dX8_tally_42 ?_
      refine lv_iconst (v := 1) hx hb dX8_tally_45 (by decide) ?_
      refine lv_aload_n hx hb dX8_tally_46 rfl (lv_at hl 0 rfl) ?_
      refine va_get (D := D) (ci := 6) (v := .ref ro) (C := RX8) (T := TX8) (N := 4) hx hb hts in_X8_tally_X8 hown hK hP 0 rfl rfl 2 (by decide) (hts (.fieldLink RX8 26 "WallCount" "roll" "LWallCount$Roll;") (List.mem_of_getElem? (i := 2) rfl)) (fun _ h9 => h9) rfl dX8_tally_47 ?_
      refine ro_call (va_runV (As := [.int 1, .ref ro]) (rest := []) ⟨hx, hb, hml, hown, hts⟩ (c_X7_product l D cI cZ cR _ w wr wc ro wt tw sw dr nr ra rd (nI cc) ch cp fr (nI wn) fw 1 hn30) (cwV 2 hts gX8_tally_X7_product rfl rfl rfl ⟨rfl, hd_X7_product⟩ ⟨(Nat.le_of_ble_eq_true rfl), (Nat.le_of_ble_eq_true rfl)⟩) (po_preV hAM hP.tail.tail.tail.tail.tail (va_recv hK hP (ci := 5) (q0 := 5) rfl rfl)) rfl rfl hl.1 rfl (lv_room (Nat.le_of_ble_eq_true rfl)) dX8_tally_50 ⟨(Nat.le_of_ble_eq_true rfl), (Nat.le_of_ble_eq_true rfl)⟩) ?_
      exact w_iret hx hb hr hlocks hE dX8_tally_53
    · have hE := itF hE c_1_1
      by_cases c_1_2 : p0 = 2
      · have hE := itT hE c_1_2
        refine lv_tableIn (tgt := 54) hx hb dX8_tally_1 (by rw [c_1_2]; decide +kernel) (by rw [c_1_2]; decide +kernel) (off := 53) (by rw [c_1_2]; decide +kernel) (by decide) ?_
        refine lv_aload_n hx hb dX8_tally_54 rfl (lv_at hl 0 rfl) ?_
        refine va_get (D := D) (ci := 6) (v := .ref w) (C := RX8) (T := TX8) (N := 4) hx hb hts in_X8_tally_X8 hown hK hP 0 rfl rfl 3 (by decide) (hts (.fieldLink RX8 33 "WallCount" "wall" "LWallCount$Wall;") (List.mem_of_getElem? (i := 1) rfl)) (fun _ h9 => h9) rfl dX8_tally_55 ?_
        refine lv_iconst (v := 0) hx hb dX8_tally_58 (by decide) ?_
        refine lv_aload_n hx hb dX8_tally_59 rfl (lv_at hl 0 rfl) ?_
        refine va_get (D := D) (ci := 6) (v := .ref ro) (C := RX8) (T := TX8) (N := 4) hx hb hts in_X8_tally_X8 hown hK hP 0 rfl rfl 2 (by decide) (hts (.fieldLink RX8 26 "WallCount" "roll" "LWallCount$Roll;") (List.mem_of_getElem? (i := 2) rfl)) (fun _ h9 => h9) rfl dX8_tally_60 ?_
        refine ro_call (va_runV (As := [.int 0, .ref ro]) (rest := []) ⟨hx, hb, hml, hown, hts⟩ (c_X7_howManyAre l D cI cZ cR _ w wr wc ro wt tw sw dr nr ra rd (nI cc) ch cp fr (nI wn) fw 0 hn30) (cwV 2 hts gX8_tally_X7_howManyAre rfl rfl rfl ⟨rfl, hd_X7_howManyAre⟩ ⟨(Nat.le_of_ble_eq_true rfl), (Nat.le_of_ble_eq_true rfl)⟩) (po_preV hAM hP.tail.tail.tail.tail.tail (va_recv hK hP (ci := 5) (q0 := 5) rfl rfl)) rfl rfl hl.1 rfl (lv_room (Nat.le_of_ble_eq_true rfl)) dX8_tally_63 ⟨(Nat.le_of_ble_eq_true rfl), (Nat.le_of_ble_eq_true rfl)⟩) ?_
        exact w_iret hx hb hr hlocks hE dX8_tally_66
      · have hE := itF hE c_1_2
        refine lv_tableOut (tgt := 67) hx hb dX8_tally_1 (sw_out3 c_1_0 c_1_1 c_1_2) (by decide) ?_
        refine lv_bipush (v := (-2)) hx hb dX8_tally_67 (by decide +kernel) ?_
        exact w_iret hx hb hr hlocks hE dX8_tally_69

theorem hd_X8_parted : yX8_parted.cls ≠ "java/lang/invoke/MethodHandle" ∧ yX8_parted.cls ≠ "java/lang/invoke/VarHandle" ∧ (parseMethodDescriptor yX8_parted.desc).map (fun d => d.parameters.length) = some 0 := by decide +kernel
def x_X8_parted (nr : Nat) (rd : Nat → R6) (cc : Nat) (cp : Nat → Int32) : Int32 := (x_X7_firstUnlike nr rd (nI cc) cp)
def rm_X8_parted : Room := { frames := 4, cells := 0, slots := 0, locals := 85 }
theorem in_X8_parted_X5 : ∀ w ∈ wsX50, w ∈ wsX8_parted := fun _ h => List.mem_cons_of_mem _ (List.mem_append_right _ h)
theorem in_X8_parted_X7 : ∀ w ∈ wsX70, w ∈ wsX8_parted := fun _ h => List.mem_cons_of_mem _ (List.mem_append_left _ (List.mem_append_right _ h))
theorem in_X8_parted_X8 : ∀ w ∈ wsX80, w ∈ wsX8_parted := fun _ h => List.mem_cons_of_mem _ (List.mem_append_left _ (List.mem_append_left _ (List.mem_append_right _ h)))
set_option maxHeartbeats 4000000 in
set_option maxRecDepth 100000 in
theorem c_X8_parted (l : Launch) (D : va_G) (cI cZ cR : ClassId) (H0 : Heap) (x kk pr dr sd w wr wc ro wt tw sw : Nat) (need : Int32) (c0 : Int32) (c1 : Int32) (c2 : Int32) (hh : Int32) (pc0 : Int32) (pz0 : Int32) (pc1 : Int32) (pz1 : Int32) (dr : Nat) (sd : Nat) (ds : Nat) (fd : Nat → Int32) (tw : Nat) (sw : Nat) (wn : Nat) (fw : Nat → Int32) (fr : Nat → Int32) (nr : Nat) (ra : Nat → Nat) (rd : Nat → R6) (cc : Nat) (ch : Int32) (cp : Nat → Int32) (hn30 : nr ≤ 30) : Met l yX8_parted wsX8_parted rm_X8_parted (po_P D cI cZ cR [.ref x] (cW cI cR x kk pr w wr wc ro wt need c0 c1 c2 hh pc0 pz0 pc1 pz1 dr sd ds fd tw sw wn fw fr nr ra rd cc ch cp) H0) (po_Q (some (.int (x_X8_parted nr rd cc cp))) H0) 0 0 nF := by
  refine Met.ofW (cc := cX8_parted) (maxL := 1) (ret := (some .int)) (by decide +kernel) rfl ?_
  intro p e s m args below meth c s₁ B hml hv
  obtain ⟨rfl, rfl, hAM, hP⟩ := hv
  have hx := B.exec
  have hb := B.bytes
  have hr := B.returns
  have hts := atoms_spec (ws := wsX8_parted) B.pre
  have hown : s.vm.findClass RX8 = some m.cls := findClass_of_methodNamed B.named
  have hlocks := B.notSynchronized
  have hK := hAM.1
  generalize hE : (x_X8_parted nr rd cc cp) = Rv
  rw [x_X8_parted] at hE
  have hl := lv_entry ([.ref x]) (n := 1) (Nat.le_of_ble_eq_true rfl)
  rw [lg_entry_eq]
  generalize (lg_sl ([.ref x]) ++ List.replicate (1 - (lg_sl ([.ref x])).length) Slot.unset).toArray = ls at hl ⊢
  have hl : lv_has ls 1 [(0, .ref x)] := hl
  refine lv_aload_n hx hb dX8_parted_0 rfl (lv_at hl 0 rfl) ?_
  refine va_get (D := D) (ci := 6) (v := .ref w) (C := RX8) (T := TX8) (N := 4) hx hb hts in_X8_parted_X8 hown hK hP 0 rfl rfl 3 (by decide) (hts (.fieldLink RX8 33 "WallCount" "wall" "LWallCount$Wall;") (List.mem_of_getElem? (i := 1) rfl)) (fun _ h9 => h9) rfl dX8_parted_1 ?_
  refine ro_call (va_runV (As := []) (rest := []) ⟨hx, hb, hml, hown, hts⟩ (c_X7_firstUnlike l D cI cZ cR _ w wr wc ro wt tw sw dr nr ra rd (nI cc) ch cp fr (nI wn) fw hn30) (cwV 0 hts gX8_parted_X7_firstUnlike rfl rfl rfl ⟨rfl, hd_X7_firstUnlike⟩ ⟨(Nat.le_of_ble_eq_true rfl), (Nat.le_of_ble_eq_true rfl)⟩) (po_preV hAM hP.tail.tail.tail.tail.tail (va_recv hK hP (ci := 5) (q0 := 5) rfl rfl)) rfl rfl hl.1 rfl (lv_room (Nat.le_of_ble_eq_true rfl)) dX8_parted_4 ⟨(Nat.le_of_ble_eq_true rfl), (Nat.le_of_ble_eq_true rfl)⟩) ?_
  exact w_iret hx hb hr hlocks hE dX8_parted_7

theorem hd_X8_lies : yX8_lies.cls ≠ "java/lang/invoke/MethodHandle" ∧ yX8_lies.cls ≠ "java/lang/invoke/VarHandle" ∧ (parseMethodDescriptor yX8_lies.desc).map (fun d => d.parameters.length) = some 4 := by decide +kernel
def x_X8_lies (p0 : Int32) (p1 : Int32) (p2 : Int32) (p3 : Int32) : Int64 := (if (x_X8_areBooth p0 p1) = true then (if (x_X8_within p2 0 p0) = true then (if (x_X8_within p3 0 1) = true then (x_X1_inLowestTerms (x_X1_choose (p0 - p1) p2) (x_X1_choose p0 p2) p3) else (-1000000000000000002)) else (-1000000000000000002)) else (-1000000000000000002))
def rm_X8_lies : Room := { frames := 2, cells := 0, slots := 0, locals := 56 }
set_option maxHeartbeats 4000000 in
set_option maxRecDepth 100000 in
theorem c_X8_lies (l : Launch) (D : va_G) (cI cZ cR : ClassId) (H0 : Heap) (x kk pr dr sd w wr wc ro wt tw sw : Nat) (need : Int32) (c0 : Int32) (c1 : Int32) (c2 : Int32) (hh : Int32) (pc0 : Int32) (pz0 : Int32) (pc1 : Int32) (pz1 : Int32) (dr : Nat) (sd : Nat) (ds : Nat) (fd : Nat → Int32) (tw : Nat) (sw : Nat) (wn : Nat) (fw : Nat → Int32) (fr : Nat → Int32) (nr : Nat) (ra : Nat → Nat) (rd : Nat → R6) (cc : Nat) (ch : Int32) (cp : Nat → Int32) (p0 : Int32) (p1 : Int32) (p2 : Int32) (p3 : Int32) : Met l yX8_lies wsX8_lies rm_X8_lies (po_P D cI cZ cR [.ref x, .int p0, .int p1, .int p2, .int p3] (cW cI cR x kk pr w wr wc ro wt need c0 c1 c2 hh pc0 pz0 pc1 pz1 dr sd ds fd tw sw wn fw fr nr ra rd cc ch cp) H0) (po_Q (some (.long (x_X8_lies p0 p1 p2 p3))) H0) 0 0 nF := by
  refine Met.ofW (cc := cX8_lies) (maxL := 5) (ret := (some .long)) (by decide +kernel) rfl ?_
  intro p e s m args below meth c s₁ B hml hv
  obtain ⟨rfl, rfl, hAM, hP⟩ := hv
  have hx := B.exec
  have hb := B.bytes
  have hr := B.returns
  have hts := atoms_spec (ws := wsX8_lies) B.pre
  have hown : s.vm.findClass RX8 = some m.cls := findClass_of_methodNamed B.named
  have hlocks := B.notSynchronized
  have hK := hAM.1
  generalize hE : (x_X8_lies p0 p1 p2 p3) = Rv
  rw [x_X8_lies] at hE
  have hl := lv_entry ([.ref x, .int p0, .int p1, .int p2, .int p3]) (n := 5) (Nat.le_of_ble_eq_true rfl)
  rw [lg_entry_eq]
  generalize (lg_sl ([.ref x, .int p0, .int p1, .int p2, .int p3]) ++ List.replicate (5 - (lg_sl ([.ref x, .int p0, .int p1, .int p2, .int p3])).length) Slot.unset).toArray = ls at hl ⊢
  have hl : lv_has ls 5 [(0, .ref x), (1, .int p0), (2, .int p1), (3, .int p2), (4, .int p3)] := hl
  refine lv_iload_n hx hb dX8_lies_0 rfl (lv_at hl 1 rfl) ?_
  refine lv_iload_n hx hb dX8_lies_1 rfl (lv_at hl 2 rfl) ?_
  refine ro_call (va_runS (As := [.int p0, .int p1]) (rest := []) ⟨hx, hb, hml, hown, hts⟩ (c_X8_areBooth l D cI cZ cR _ p0 p1) (va_cwS 2 hts gX8_lies_X8_areBooth rfl rfl rfl hd_X8_areBooth ⟨(Nat.le_of_ble_eq_true rfl), (Nat.le_of_ble_eq_true rfl)⟩) (po_pre hAM va_P.nil) rfl rfl hl.1 rfl (lv_room (Nat.le_of_ble_eq_true rfl)) dX8_lies_2 ⟨(Nat.le_of_ble_eq_true rfl), (Nat.le_of_ble_eq_true rfl)⟩) ?_
  refine w_if_eqb (tgt := 27) hx hb dX8_lies_5 (by decide) (fun c_5 => ?_) (fun c_5 => ?_)
  · have hE := itF hE c_5
    refine lv_ldc2 hx hb hown (hts (.constantLong RX8 223 (-1000000000000000002)) (List.mem_of_getElem? (i := 1) rfl)) dX8_lies_27 ?_
    exact w_lret hx hb hr hlocks hE dX8_lies_30
  · have hE := itT hE c_5
    refine lv_iload_n hx hb dX8_lies_8 rfl (lv_at hl 3 rfl) ?_
    refine lv_iconst (v := 0) hx hb dX8_lies_9 (by decide) ?_
    refine lv_iload_n hx hb dX8_lies_10 rfl (lv_at hl 1 rfl) ?_
    refine ro_call (va_runS (As := [.int p2, .int 0, .int p0]) (rest := []) ⟨hx, hb, hml, hown, hts⟩ (c_X8_within l D cI cZ cR _ p2 0 p0) (va_cwS 3 hts gX8_lies_X8_within rfl rfl rfl hd_X8_within ⟨(Nat.le_of_ble_eq_true rfl), (Nat.le_of_ble_eq_true rfl)⟩) (po_pre hAM va_P.nil) rfl rfl hl.1 rfl (lv_room (Nat.le_of_ble_eq_true rfl)) dX8_lies_11 ⟨(Nat.le_of_ble_eq_true rfl), (Nat.le_of_ble_eq_true rfl)⟩) ?_
    refine w_if_eqb (tgt := 27) hx hb dX8_lies_14 (by decide) (fun c_14 => ?_) (fun c_14 => ?_)
    · have hE := itF hE c_14
      refine lv_ldc2 hx hb hown (hts (.constantLong RX8 223 (-1000000000000000002)) (List.mem_of_getElem? (i := 1) rfl)) dX8_lies_27 ?_
      exact w_lret hx hb hr hlocks hE dX8_lies_30
    · have hE := itT hE c_14
      refine lv_iload hx hb dX8_lies_17 (lv_at hl 4 rfl) ?_
      refine lv_iconst (v := 0) hx hb dX8_lies_19 (by decide) ?_
      refine lv_iconst (v := 1) hx hb dX8_lies_20 (by decide) ?_
      refine ro_call (va_runS (As := [.int p3, .int 0, .int 1]) (rest := []) ⟨hx, hb, hml, hown, hts⟩ (c_X8_within l D cI cZ cR _ p3 0 1) (va_cwS 3 hts gX8_lies_X8_within rfl rfl rfl hd_X8_within ⟨(Nat.le_of_ble_eq_true rfl), (Nat.le_of_ble_eq_true rfl)⟩) (po_pre hAM va_P.nil) rfl rfl hl.1 rfl (lv_room (Nat.le_of_ble_eq_true rfl)) dX8_lies_21 ⟨(Nat.le_of_ble_eq_true rfl), (Nat.le_of_ble_eq_true rfl)⟩) ?_
      refine w_if_neb (tgt := 31) hx hb dX8_lies_24 (by decide) (fun c_24 => ?_) (fun c_24 => ?_)
      · have hE := itT hE c_24
        refine lv_iload_n hx hb dX8_lies_31 rfl (lv_at hl 1 rfl) ?_
        refine lv_iload_n hx hb dX8_lies_32 rfl (lv_at hl 2 rfl) ?_
        refine lv_isub hx hb dX8_lies_33 ?_
        refine lv_iload_n hx hb dX8_lies_34 rfl (lv_at hl 3 rfl) ?_
        refine ro_call (va_runS (As := [.int (p0 - p1), .int p2]) (rest := []) ⟨hx, hb, hml, hown, hts⟩ (c_X1_choose l D cI cZ cR _ (p0 - p1) p2 (lie_k c_5 c_14)) (va_cwS 2 hts gX8_lies_X1_choose rfl rfl rfl hd_X1_choose ⟨(Nat.le_of_ble_eq_true rfl), (Nat.le_of_ble_eq_true rfl)⟩) (po_pre hAM va_P.nil) rfl rfl hl.1 rfl (lv_room (Nat.le_of_ble_eq_true rfl)) dX8_lies_35 ⟨(Nat.le_of_ble_eq_true rfl), (Nat.le_of_ble_eq_true rfl)⟩) ?_
        refine lv_iload_n hx hb dX8_lies_38 rfl (lv_at hl 1 rfl) ?_
        refine lv_iload_n hx hb dX8_lies_39 rfl (lv_at hl 3 rfl) ?_
        refine ro_call (va_runS (As := [.int p0, .int p2]) (rest := [.long (x_X1_choose (p0 - p1) p2)]) ⟨hx, hb, hml, hown, hts⟩ (c_X1_choose l D cI cZ cR _ p0 p2 (lie_k c_5 c_14)) (va_cwS 2 hts gX8_lies_X1_choose rfl rfl rfl hd_X1_choose ⟨(Nat.le_of_ble_eq_true rfl), (Nat.le_of_ble_eq_true rfl)⟩) (po_pre hAM va_P.nil) rfl rfl hl.1 rfl (lv_room (Nat.le_of_ble_eq_true rfl)) dX8_lies_40 ⟨(Nat.le_of_ble_eq_true rfl), (Nat.le_of_ble_eq_true rfl)⟩) ?_
        refine lv_iload hx hb dX8_lies_43 (lv_at hl 4 rfl) ?_
        refine ro_call (va_runS (As := [.long (x_X1_choose (p0 - p1) p2), .long (x_X1_choose p0 p2), .int p3]) (rest := []) ⟨hx, hb, hml, hown, hts⟩ (c_X1_inLowestTerms l D cI cZ cR _ (x_X1_choose (p0 - p1) p2) (x_X1_choose p0 p2) p3) (va_cwS 3 hts gX8_lies_X1_inLowestTerms rfl rfl rfl hd_X1_inLowestTerms ⟨(Nat.le_of_ble_eq_true rfl), (Nat.le_of_ble_eq_true rfl)⟩) (po_pre hAM va_P.nil) rfl rfl hl.1 rfl (lv_room (Nat.le_of_ble_eq_true rfl)) dX8_lies_45 ⟨(Nat.le_of_ble_eq_true rfl), (Nat.le_of_ble_eq_true rfl)⟩) ?_
        exact w_lret hx hb hr hlocks hE dX8_lies_48
      · have hE := itF hE c_24
        refine lv_ldc2 hx hb hown (hts (.constantLong RX8 223 (-1000000000000000002)) (List.mem_of_getElem? (i := 1) rfl)) dX8_lies_27 ?_
        exact w_lret hx hb hr hlocks hE dX8_lies_30

theorem hd_X8_ask : yX8_ask.cls ≠ "java/lang/invoke/MethodHandle" ∧ yX8_ask.cls ≠ "java/lang/invoke/VarHandle" ∧ (parseMethodDescriptor yX8_ask.desc).map (fun d => d.parameters.length) = some 3 := by decide +kernel
def x_X8_ask (p0 : Int32) (p1 : Int32) (p2 : Int32) : Int32 := (if (x_X8_areBooth p0 p1) = true then (if (x_X8_within p2 0 100) = true then (x_X1_leastDrawn (p0 - p1) p0 0 p2) else (-2)) else (-2))
def rm_X8_ask : Room := { frames := 2, cells := 0, slots := 0, locals := 48 }
set_option maxHeartbeats 4000000 in
set_option maxRecDepth 100000 in
theorem c_X8_ask (l : Launch) (D : va_G) (cI cZ cR : ClassId) (H0 : Heap) (x kk pr dr sd w wr wc ro wt tw sw : Nat) (need : Int32) (c0 : Int32) (c1 : Int32) (c2 : Int32) (hh : Int32) (pc0 : Int32) (pz0 : Int32) (pc1 : Int32) (pz1 : Int32) (dr : Nat) (sd : Nat) (ds : Nat) (fd : Nat → Int32) (tw : Nat) (sw : Nat) (wn : Nat) (fw : Nat → Int32) (fr : Nat → Int32) (nr : Nat) (ra : Nat → Nat) (rd : Nat → R6) (cc : Nat) (ch : Int32) (cp : Nat → Int32) (p0 : Int32) (p1 : Int32) (p2 : Int32) : Met l yX8_ask wsX8_ask rm_X8_ask (po_P D cI cZ cR [.ref x, .int p0, .int p1, .int p2] (cW cI cR x kk pr w wr wc ro wt need c0 c1 c2 hh pc0 pz0 pc1 pz1 dr sd ds fd tw sw wn fw fr nr ra rd cc ch cp) H0) (po_Q (some (.int (x_X8_ask p0 p1 p2))) H0) 0 0 nF := by
  refine Met.ofW (cc := cX8_ask) (maxL := 4) (ret := (some .int)) (by decide +kernel) rfl ?_
  intro p e s m args below meth c s₁ B hml hv
  obtain ⟨rfl, rfl, hAM, hP⟩ := hv
  have hx := B.exec
  have hb := B.bytes
  have hr := B.returns
  have hts := atoms_spec (ws := wsX8_ask) B.pre
  have hown : s.vm.findClass RX8 = some m.cls := findClass_of_methodNamed B.named
  have hlocks := B.notSynchronized
  have hK := hAM.1
  generalize hE : (x_X8_ask p0 p1 p2) = Rv
  rw [x_X8_ask] at hE
  have hl := lv_entry ([.ref x, .int p0, .int p1, .int p2]) (n := 4) (Nat.le_of_ble_eq_true rfl)
  rw [lg_entry_eq]
  generalize (lg_sl ([.ref x, .int p0, .int p1, .int p2]) ++ List.replicate (4 - (lg_sl ([.ref x, .int p0, .int p1, .int p2])).length) Slot.unset).toArray = ls at hl ⊢
  have hl : lv_has ls 4 [(0, .ref x), (1, .int p0), (2, .int p1), (3, .int p2)] := hl
  refine lv_iload_n hx hb dX8_ask_0 rfl (lv_at hl 1 rfl) ?_
  refine lv_iload_n hx hb dX8_ask_1 rfl (lv_at hl 2 rfl) ?_
  refine ro_call (va_runS (As := [.int p0, .int p1]) (rest := []) ⟨hx, hb, hml, hown, hts⟩ (c_X8_areBooth l D cI cZ cR _ p0 p1) (va_cwS 2 hts gX8_ask_X8_areBooth rfl rfl rfl hd_X8_areBooth ⟨(Nat.le_of_ble_eq_true rfl), (Nat.le_of_ble_eq_true rfl)⟩) (po_pre hAM va_P.nil) rfl rfl hl.1 rfl (lv_room (Nat.le_of_ble_eq_true rfl)) dX8_ask_2 ⟨(Nat.le_of_ble_eq_true rfl), (Nat.le_of_ble_eq_true rfl)⟩) ?_
  refine w_if_eqb (tgt := 18) hx hb dX8_ask_5 (by decide) (fun c_5 => ?_) (fun c_5 => ?_)
  · have hE := itF hE c_5
    refine lv_bipush (v := (-2)) hx hb dX8_ask_18 (by decide +kernel) ?_
    exact w_iret hx hb hr hlocks hE dX8_ask_20
  · have hE := itT hE c_5
    refine lv_iload_n hx hb dX8_ask_8 rfl (lv_at hl 3 rfl) ?_
    refine lv_iconst (v := 0) hx hb dX8_ask_9 (by decide) ?_
    refine lv_bipush (v := 100) hx hb dX8_ask_10 (by decide +kernel) ?_
    refine ro_call (va_runS (As := [.int p2, .int 0, .int 100]) (rest := []) ⟨hx, hb, hml, hown, hts⟩ (c_X8_within l D cI cZ cR _ p2 0 100) (va_cwS 3 hts gX8_ask_X8_within rfl rfl rfl hd_X8_within ⟨(Nat.le_of_ble_eq_true rfl), (Nat.le_of_ble_eq_true rfl)⟩) (po_pre hAM va_P.nil) rfl rfl hl.1 rfl (lv_room (Nat.le_of_ble_eq_true rfl)) dX8_ask_12 ⟨(Nat.le_of_ble_eq_true rfl), (Nat.le_of_ble_eq_true rfl)⟩) ?_
    refine w_if_neb (tgt := 21) hx hb dX8_ask_15 (by decide) (fun c_15 => ?_) (fun c_15 => ?_)
    · have hE := itT hE c_15
      refine lv_iload_n hx hb dX8_ask_21 rfl (lv_at hl 1 rfl) ?_
      refine lv_iload_n hx hb dX8_ask_22 rfl (lv_at hl 2 rfl) ?_
      refine lv_isub hx hb dX8_ask_23 ?_
      refine lv_iload_n hx hb dX8_ask_24 rfl (lv_at hl 1 rfl) ?_
      refine lv_iconst (v := 0) hx hb dX8_ask_25 (by decide) ?_
      refine lv_iload_n hx hb dX8_ask_26 rfl (lv_at hl 3 rfl) ?_
      refine ro_call (va_runS (As := [.int (p0 - p1), .int p0, .int 0, .int p2]) (rest := []) ⟨hx, hb, hml, hown, hts⟩ (c_X1_leastDrawn l D cI cZ cR _ (p0 - p1) p0 0 p2 (ask_k c_5).1 (ask_k c_5).2.1 (ask_k c_5).2.2.1 (ask_k c_5).2.2.2) (va_cwS 4 hts gX8_ask_X1_leastDrawn rfl rfl rfl hd_X1_leastDrawn ⟨(Nat.le_of_ble_eq_true rfl), (Nat.le_of_ble_eq_true rfl)⟩) (po_pre hAM va_P.nil) rfl rfl hl.1 rfl (lv_room (Nat.le_of_ble_eq_true rfl)) dX8_ask_27 ⟨(Nat.le_of_ble_eq_true rfl), (Nat.le_of_ble_eq_true rfl)⟩) ?_
      exact w_iret hx hb hr hlocks hE dX8_ask_30
    · have hE := itF hE c_15
      refine lv_bipush (v := (-2)) hx hb dX8_ask_18 (by decide +kernel) ?_
      exact w_iret hx hb hr hlocks hE dX8_ask_20

theorem hd_X8_slips : yX8_slips.cls ≠ "java/lang/invoke/MethodHandle" ∧ yX8_slips.cls ≠ "java/lang/invoke/VarHandle" ∧ (parseMethodDescriptor yX8_slips.desc).map (fun d => d.parameters.length) = some 4 := by decide +kernel
def x_X8_slips (p0 : Int32) (p1 : Int32) (p2 : Int32) (p3 : Int32) : Int64 := (if (x_X8_within p0 2 40) = true then (if (x_X8_within p1 0 p0) = true then (if (x_X8_within p2 0 p1) = true then (if (x_X8_within p3 0 1) = true then (x_X1_inLowestTerms (x_X1_waysForOne p0 p1 p2) (x_X1_choose p0 p1) p3) else (-1000000000000000002)) else (-1000000000000000002)) else (-1000000000000000002)) else (-1000000000000000002))
def rm_X8_slips : Room := { frames := 2, cells := 0, slots := 0, locals := 56 }
set_option maxHeartbeats 4000000 in
set_option maxRecDepth 100000 in
theorem c_X8_slips (l : Launch) (D : va_G) (cI cZ cR : ClassId) (H0 : Heap) (x kk pr dr sd w wr wc ro wt tw sw : Nat) (need : Int32) (c0 : Int32) (c1 : Int32) (c2 : Int32) (hh : Int32) (pc0 : Int32) (pz0 : Int32) (pc1 : Int32) (pz1 : Int32) (dr : Nat) (sd : Nat) (ds : Nat) (fd : Nat → Int32) (tw : Nat) (sw : Nat) (wn : Nat) (fw : Nat → Int32) (fr : Nat → Int32) (nr : Nat) (ra : Nat → Nat) (rd : Nat → R6) (cc : Nat) (ch : Int32) (cp : Nat → Int32) (p0 : Int32) (p1 : Int32) (p2 : Int32) (p3 : Int32) : Met l yX8_slips wsX8_slips rm_X8_slips (po_P D cI cZ cR [.ref x, .int p0, .int p1, .int p2, .int p3] (cW cI cR x kk pr w wr wc ro wt need c0 c1 c2 hh pc0 pz0 pc1 pz1 dr sd ds fd tw sw wn fw fr nr ra rd cc ch cp) H0) (po_Q (some (.long (x_X8_slips p0 p1 p2 p3))) H0) 0 0 nF := by
  refine Met.ofW (cc := cX8_slips) (maxL := 5) (ret := (some .long)) (by decide +kernel) rfl ?_
  intro p e s m args below meth c s₁ B hml hv
  obtain ⟨rfl, rfl, hAM, hP⟩ := hv
  have hx := B.exec
  have hb := B.bytes
  have hr := B.returns
  have hts := atoms_spec (ws := wsX8_slips) B.pre
  have hown : s.vm.findClass RX8 = some m.cls := findClass_of_methodNamed B.named
  have hlocks := B.notSynchronized
  have hK := hAM.1
  generalize hE : (x_X8_slips p0 p1 p2 p3) = Rv
  rw [x_X8_slips] at hE
  have hl := lv_entry ([.ref x, .int p0, .int p1, .int p2, .int p3]) (n := 5) (Nat.le_of_ble_eq_true rfl)
  rw [lg_entry_eq]
  generalize (lg_sl ([.ref x, .int p0, .int p1, .int p2, .int p3]) ++ List.replicate (5 - (lg_sl ([.ref x, .int p0, .int p1, .int p2, .int p3])).length) Slot.unset).toArray = ls at hl ⊢
  have hl : lv_has ls 5 [(0, .ref x), (1, .int p0), (2, .int p1), (3, .int p2), (4, .int p3)] := hl
  refine lv_iload_n hx hb dX8_slips_0 rfl (lv_at hl 1 rfl) ?_
  refine lv_iconst (v := 2) hx hb dX8_slips_1 (by decide) ?_
  refine lv_bipush (v := 40) hx hb dX8_slips_2 (by decide +kernel) ?_
  refine ro_call (va_runS (As := [.int p0, .int 2, .int 40]) (rest := []) ⟨hx, hb, hml, hown, hts⟩ (c_X8_within l D cI cZ cR _ p0 2 40) (va_cwS 3 hts gX8_slips_X8_within rfl rfl rfl hd_X8_within ⟨(Nat.le_of_ble_eq_true rfl), (Nat.le_of_ble_eq_true rfl)⟩) (po_pre hAM va_P.nil) rfl rfl hl.1 rfl (lv_room (Nat.le_of_ble_eq_true rfl)) dX8_slips_4 ⟨(Nat.le_of_ble_eq_true rfl), (Nat.le_of_ble_eq_true rfl)⟩) ?_
  refine w_if_eqb (tgt := 38) hx hb dX8_slips_7 (by decide) (fun c_7 => ?_) (fun c_7 => ?_)
  · have hE := itF hE c_7
    refine lv_ldc2 hx hb hown (hts (.constantLong RX8 223 (-1000000000000000002)) (List.mem_of_getElem? (i := 1) rfl)) dX8_slips_38 ?_
    exact w_lret hx hb hr hlocks hE dX8_slips_41
  · have hE := itT hE c_7
    refine lv_iload_n hx hb dX8_slips_10 rfl (lv_at hl 2 rfl) ?_
    refine lv_iconst (v := 0) hx hb dX8_slips_11 (by decide) ?_
    refine lv_iload_n hx hb dX8_slips_12 rfl (lv_at hl 1 rfl) ?_
    refine ro_call (va_runS (As := [.int p1, .int 0, .int p0]) (rest := []) ⟨hx, hb, hml, hown, hts⟩ (c_X8_within l D cI cZ cR _ p1 0 p0) (va_cwS 3 hts gX8_slips_X8_within rfl rfl rfl hd_X8_within ⟨(Nat.le_of_ble_eq_true rfl), (Nat.le_of_ble_eq_true rfl)⟩) (po_pre hAM va_P.nil) rfl rfl hl.1 rfl (lv_room (Nat.le_of_ble_eq_true rfl)) dX8_slips_13 ⟨(Nat.le_of_ble_eq_true rfl), (Nat.le_of_ble_eq_true rfl)⟩) ?_
    refine w_if_eqb (tgt := 38) hx hb dX8_slips_16 (by decide) (fun c_16 => ?_) (fun c_16 => ?_)
    · have hE := itF hE c_16
      refine lv_ldc2 hx hb hown (hts (.constantLong RX8 223 (-1000000000000000002)) (List.mem_of_getElem? (i := 1) rfl)) dX8_slips_38 ?_
      exact w_lret hx hb hr hlocks hE dX8_slips_41
    · have hE := itT hE c_16
      refine lv_iload_n hx hb dX8_slips_19 rfl (lv_at hl 3 rfl) ?_
      refine lv_iconst (v := 0) hx hb dX8_slips_20 (by decide) ?_
      refine lv_iload_n hx hb dX8_slips_21 rfl (lv_at hl 2 rfl) ?_
      refine ro_call (va_runS (As := [.int p2, .int 0, .int p1]) (rest := []) ⟨hx, hb, hml, hown, hts⟩ (c_X8_within l D cI cZ cR _ p2 0 p1) (va_cwS 3 hts gX8_slips_X8_within rfl rfl rfl hd_X8_within ⟨(Nat.le_of_ble_eq_true rfl), (Nat.le_of_ble_eq_true rfl)⟩) (po_pre hAM va_P.nil) rfl rfl hl.1 rfl (lv_room (Nat.le_of_ble_eq_true rfl)) dX8_slips_22 ⟨(Nat.le_of_ble_eq_true rfl), (Nat.le_of_ble_eq_true rfl)⟩) ?_
      refine w_if_eqb (tgt := 38) hx hb dX8_slips_25 (by decide) (fun c_25 => ?_) (fun c_25 => ?_)
      · have hE := itF hE c_25
        refine lv_ldc2 hx hb hown (hts (.constantLong RX8 223 (-1000000000000000002)) (List.mem_of_getElem? (i := 1) rfl)) dX8_slips_38 ?_
        exact w_lret hx hb hr hlocks hE dX8_slips_41
      · have hE := itT hE c_25
        refine lv_iload hx hb dX8_slips_28 (lv_at hl 4 rfl) ?_
        refine lv_iconst (v := 0) hx hb dX8_slips_30 (by decide) ?_
        refine lv_iconst (v := 1) hx hb dX8_slips_31 (by decide) ?_
        refine ro_call (va_runS (As := [.int p3, .int 0, .int 1]) (rest := []) ⟨hx, hb, hml, hown, hts⟩ (c_X8_within l D cI cZ cR _ p3 0 1) (va_cwS 3 hts gX8_slips_X8_within rfl rfl rfl hd_X8_within ⟨(Nat.le_of_ble_eq_true rfl), (Nat.le_of_ble_eq_true rfl)⟩) (po_pre hAM va_P.nil) rfl rfl hl.1 rfl (lv_room (Nat.le_of_ble_eq_true rfl)) dX8_slips_32 ⟨(Nat.le_of_ble_eq_true rfl), (Nat.le_of_ble_eq_true rfl)⟩) ?_
        refine w_if_neb (tgt := 42) hx hb dX8_slips_35 (by decide) (fun c_35 => ?_) (fun c_35 => ?_)
        · have hE := itT hE c_35
          refine lv_iload_n hx hb dX8_slips_42 rfl (lv_at hl 1 rfl) ?_
          refine lv_iload_n hx hb dX8_slips_43 rfl (lv_at hl 2 rfl) ?_
          refine lv_iload_n hx hb dX8_slips_44 rfl (lv_at hl 3 rfl) ?_
          refine ro_call (va_runS (As := [.int p0, .int p1, .int p2]) (rest := []) ⟨hx, hb, hml, hown, hts⟩ (c_X1_waysForOne l D cI cZ cR _ p0 p1 p2 (slip_k c_7 c_16 c_25).1 (slip_k c_7 c_16 c_25).2.1 (slip_k c_7 c_16 c_25).2.2.1 (slip_k c_7 c_16 c_25).2.2.2) (va_cwS 3 hts gX8_slips_X1_waysForOne rfl rfl rfl hd_X1_waysForOne ⟨(Nat.le_of_ble_eq_true rfl), (Nat.le_of_ble_eq_true rfl)⟩) (po_pre hAM va_P.nil) rfl rfl hl.1 rfl (lv_room (Nat.le_of_ble_eq_true rfl)) dX8_slips_45 ⟨(Nat.le_of_ble_eq_true rfl), (Nat.le_of_ble_eq_true rfl)⟩) ?_
          refine lv_iload_n hx hb dX8_slips_48 rfl (lv_at hl 1 rfl) ?_
          refine lv_iload_n hx hb dX8_slips_49 rfl (lv_at hl 2 rfl) ?_
          refine ro_call (va_runS (As := [.int p0, .int p1]) (rest := [.long (x_X1_waysForOne p0 p1 p2)]) ⟨hx, hb, hml, hown, hts⟩ (c_X1_choose l D cI cZ cR _ p0 p1 (slip_k c_7 c_16 c_25).2.1) (va_cwS 2 hts gX8_slips_X1_choose rfl rfl rfl hd_X1_choose ⟨(Nat.le_of_ble_eq_true rfl), (Nat.le_of_ble_eq_true rfl)⟩) (po_pre hAM va_P.nil) rfl rfl hl.1 rfl (lv_room (Nat.le_of_ble_eq_true rfl)) dX8_slips_50 ⟨(Nat.le_of_ble_eq_true rfl), (Nat.le_of_ble_eq_true rfl)⟩) ?_
          refine lv_iload hx hb dX8_slips_53 (lv_at hl 4 rfl) ?_
          refine ro_call (va_runS (As := [.long (x_X1_waysForOne p0 p1 p2), .long (x_X1_choose p0 p1), .int p3]) (rest := []) ⟨hx, hb, hml, hown, hts⟩ (c_X1_inLowestTerms l D cI cZ cR _ (x_X1_waysForOne p0 p1 p2) (x_X1_choose p0 p1) p3) (va_cwS 3 hts gX8_slips_X1_inLowestTerms rfl rfl rfl hd_X1_inLowestTerms ⟨(Nat.le_of_ble_eq_true rfl), (Nat.le_of_ble_eq_true rfl)⟩) (po_pre hAM va_P.nil) rfl rfl hl.1 rfl (lv_room (Nat.le_of_ble_eq_true rfl)) dX8_slips_55 ⟨(Nat.le_of_ble_eq_true rfl), (Nat.le_of_ble_eq_true rfl)⟩) ?_
          exact w_lret hx hb hr hlocks hE dX8_slips_58
        · have hE := itF hE c_35
          refine lv_ldc2 hx hb hown (hts (.constantLong RX8 223 (-1000000000000000002)) (List.mem_of_getElem? (i := 1) rfl)) dX8_slips_38 ?_
          exact w_lret hx hb hr hlocks hE dX8_slips_41

theorem hd_X8_drawn : yX8_drawn.cls ≠ "java/lang/invoke/MethodHandle" ∧ yX8_drawn.cls ≠ "java/lang/invoke/VarHandle" ∧ (parseMethodDescriptor yX8_drawn.desc).map (fun d => d.parameters.length) = some 3 := by decide +kernel
def x_X8_drawn (p0 : Int32) (p1 : Int32) (p2 : Int32) : Int32 := (if (x_X8_within p0 1 1000000) = true then (if (x_X8_within p1 2 40) = true then (if (x_X8_within p2 1 40) = true then (x_X1_slipDrawn p0 p1 p2) else (-2)) else (-2)) else (-2))
def rm_X8_drawn : Room := { frames := 1, cells := 0, slots := 0, locals := 25 }
set_option maxHeartbeats 4000000 in
set_option maxRecDepth 100000 in
theorem c_X8_drawn (l : Launch) (D : va_G) (cI cZ cR : ClassId) (H0 : Heap) (x kk pr dr sd w wr wc ro wt tw sw : Nat) (need : Int32) (c0 : Int32) (c1 : Int32) (c2 : Int32) (hh : Int32) (pc0 : Int32) (pz0 : Int32) (pc1 : Int32) (pz1 : Int32) (dr : Nat) (sd : Nat) (ds : Nat) (fd : Nat → Int32) (tw : Nat) (sw : Nat) (wn : Nat) (fw : Nat → Int32) (fr : Nat → Int32) (nr : Nat) (ra : Nat → Nat) (rd : Nat → R6) (cc : Nat) (ch : Int32) (cp : Nat → Int32) (p0 : Int32) (p1 : Int32) (p2 : Int32) : Met l yX8_drawn wsX8_drawn rm_X8_drawn (po_P D cI cZ cR [.ref x, .int p0, .int p1, .int p2] (cW cI cR x kk pr w wr wc ro wt need c0 c1 c2 hh pc0 pz0 pc1 pz1 dr sd ds fd tw sw wn fw fr nr ra rd cc ch cp) H0) (po_Q (some (.int (x_X8_drawn p0 p1 p2))) H0) 0 0 nF := by
  refine Met.ofW (cc := cX8_drawn) (maxL := 4) (ret := (some .int)) (by decide +kernel) rfl ?_
  intro p e s m args below meth c s₁ B hml hv
  obtain ⟨rfl, rfl, hAM, hP⟩ := hv
  have hx := B.exec
  have hb := B.bytes
  have hr := B.returns
  have hts := atoms_spec (ws := wsX8_drawn) B.pre
  have hown : s.vm.findClass RX8 = some m.cls := findClass_of_methodNamed B.named
  have hlocks := B.notSynchronized
  have hK := hAM.1
  generalize hE : (x_X8_drawn p0 p1 p2) = Rv
  rw [x_X8_drawn] at hE
  have hl := lv_entry ([.ref x, .int p0, .int p1, .int p2]) (n := 4) (Nat.le_of_ble_eq_true rfl)
  rw [lg_entry_eq]
  generalize (lg_sl ([.ref x, .int p0, .int p1, .int p2]) ++ List.replicate (4 - (lg_sl ([.ref x, .int p0, .int p1, .int p2])).length) Slot.unset).toArray = ls at hl ⊢
  have hl : lv_has ls 4 [(0, .ref x), (1, .int p0), (2, .int p1), (3, .int p2)] := hl
  refine lv_iload_n hx hb dX8_drawn_0 rfl (lv_at hl 1 rfl) ?_
  refine lv_iconst (v := 1) hx hb dX8_drawn_1 (by decide) ?_
  refine lv_ldc hx hb hown (hts (.constant RX8 243 (1000000)) (List.mem_of_getElem? (i := 1) rfl)) dX8_drawn_2 ?_
  refine ro_call (va_runS (As := [.int p0, .int 1, .int 1000000]) (rest := []) ⟨hx, hb, hml, hown, hts⟩ (c_X8_within l D cI cZ cR _ p0 1 1000000) (va_cwS 3 hts gX8_drawn_X8_within rfl rfl rfl hd_X8_within ⟨(Nat.le_of_ble_eq_true rfl), (Nat.le_of_ble_eq_true rfl)⟩) (po_pre hAM va_P.nil) rfl rfl hl.1 rfl (lv_room (Nat.le_of_ble_eq_true rfl)) dX8_drawn_4 ⟨(Nat.le_of_ble_eq_true rfl), (Nat.le_of_ble_eq_true rfl)⟩) ?_
  refine w_if_eqb (tgt := 30) hx hb dX8_drawn_7 (by decide) (fun c_7 => ?_) (fun c_7 => ?_)
  · have hE := itF hE c_7
    refine lv_bipush (v := (-2)) hx hb dX8_drawn_30 (by decide +kernel) ?_
    exact w_iret hx hb hr hlocks hE dX8_drawn_32
  · have hE := itT hE c_7
    refine lv_iload_n hx hb dX8_drawn_10 rfl (lv_at hl 2 rfl) ?_
    refine lv_iconst (v := 2) hx hb dX8_drawn_11 (by decide) ?_
    refine lv_bipush (v := 40) hx hb dX8_drawn_12 (by decide +kernel) ?_
    refine ro_call (va_runS (As := [.int p1, .int 2, .int 40]) (rest := []) ⟨hx, hb, hml, hown, hts⟩ (c_X8_within l D cI cZ cR _ p1 2 40) (va_cwS 3 hts gX8_drawn_X8_within rfl rfl rfl hd_X8_within ⟨(Nat.le_of_ble_eq_true rfl), (Nat.le_of_ble_eq_true rfl)⟩) (po_pre hAM va_P.nil) rfl rfl hl.1 rfl (lv_room (Nat.le_of_ble_eq_true rfl)) dX8_drawn_14 ⟨(Nat.le_of_ble_eq_true rfl), (Nat.le_of_ble_eq_true rfl)⟩) ?_
    refine w_if_eqb (tgt := 30) hx hb dX8_drawn_17 (by decide) (fun c_17 => ?_) (fun c_17 => ?_)
    · have hE := itF hE c_17
      refine lv_bipush (v := (-2)) hx hb dX8_drawn_30 (by decide +kernel) ?_
      exact w_iret hx hb hr hlocks hE dX8_drawn_32
    · have hE := itT hE c_17
      refine lv_iload_n hx hb dX8_drawn_20 rfl (lv_at hl 3 rfl) ?_
      refine lv_iconst (v := 1) hx hb dX8_drawn_21 (by decide) ?_
      refine lv_bipush (v := 40) hx hb dX8_drawn_22 (by decide +kernel) ?_
      refine ro_call (va_runS (As := [.int p2, .int 1, .int 40]) (rest := []) ⟨hx, hb, hml, hown, hts⟩ (c_X8_within l D cI cZ cR _ p2 1 40) (va_cwS 3 hts gX8_drawn_X8_within rfl rfl rfl hd_X8_within ⟨(Nat.le_of_ble_eq_true rfl), (Nat.le_of_ble_eq_true rfl)⟩) (po_pre hAM va_P.nil) rfl rfl hl.1 rfl (lv_room (Nat.le_of_ble_eq_true rfl)) dX8_drawn_24 ⟨(Nat.le_of_ble_eq_true rfl), (Nat.le_of_ble_eq_true rfl)⟩) ?_
      refine w_if_neb (tgt := 33) hx hb dX8_drawn_27 (by decide) (fun c_27 => ?_) (fun c_27 => ?_)
      · have hE := itT hE c_27
        refine lv_iload_n hx hb dX8_drawn_33 rfl (lv_at hl 1 rfl) ?_
        refine lv_iload_n hx hb dX8_drawn_34 rfl (lv_at hl 2 rfl) ?_
        refine lv_iload_n hx hb dX8_drawn_35 rfl (lv_at hl 3 rfl) ?_
        refine ro_call (va_runS (As := [.int p0, .int p1, .int p2]) (rest := []) ⟨hx, hb, hml, hown, hts⟩ (c_X1_slipDrawn l D cI cZ cR _ p0 p1 p2 (pos_k c_27)) (va_cwS 3 hts gX8_drawn_X1_slipDrawn rfl rfl rfl hd_X1_slipDrawn ⟨(Nat.le_of_ble_eq_true rfl), (Nat.le_of_ble_eq_true rfl)⟩) (po_pre hAM va_P.nil) rfl rfl hl.1 rfl (lv_room (Nat.le_of_ble_eq_true rfl)) dX8_drawn_36 ⟨(Nat.le_of_ble_eq_true rfl), (Nat.le_of_ble_eq_true rfl)⟩) ?_
        exact w_iret hx hb hr hlocks hE dX8_drawn_39
      · have hE := itF hE c_27
        refine lv_bipush (v := (-2)) hx hb dX8_drawn_30 (by decide +kernel) ?_
        exact w_iret hx hb hr hlocks hE dX8_drawn_32

theorem hd_X8_sure : yX8_sure.cls ≠ "java/lang/invoke/MethodHandle" ∧ yX8_sure.cls ≠ "java/lang/invoke/VarHandle" ∧ (parseMethodDescriptor yX8_sure.desc).map (fun d => d.parameters.length) = some 2 := by decide +kernel
def x_X8_sure (p0 : Int32) (p1 : Int32) : Int32 := (if (x_X8_within p0 2 40) = true then (if (x_X8_within p1 0 100) = true then (x_X1_leastDrawn (x_X1_forOne p0) p0 1 p1) else (-2)) else (-2))
def rm_X8_sure : Room := { frames := 2, cells := 0, slots := 0, locals := 48 }
set_option maxHeartbeats 4000000 in
set_option maxRecDepth 100000 in
theorem c_X8_sure (l : Launch) (D : va_G) (cI cZ cR : ClassId) (H0 : Heap) (x kk pr dr sd w wr wc ro wt tw sw : Nat) (need : Int32) (c0 : Int32) (c1 : Int32) (c2 : Int32) (hh : Int32) (pc0 : Int32) (pz0 : Int32) (pc1 : Int32) (pz1 : Int32) (dr : Nat) (sd : Nat) (ds : Nat) (fd : Nat → Int32) (tw : Nat) (sw : Nat) (wn : Nat) (fw : Nat → Int32) (fr : Nat → Int32) (nr : Nat) (ra : Nat → Nat) (rd : Nat → R6) (cc : Nat) (ch : Int32) (cp : Nat → Int32) (p0 : Int32) (p1 : Int32) : Met l yX8_sure wsX8_sure rm_X8_sure (po_P D cI cZ cR [.ref x, .int p0, .int p1] (cW cI cR x kk pr w wr wc ro wt need c0 c1 c2 hh pc0 pz0 pc1 pz1 dr sd ds fd tw sw wn fw fr nr ra rd cc ch cp) H0) (po_Q (some (.int (x_X8_sure p0 p1))) H0) 0 0 nF := by
  refine Met.ofW (cc := cX8_sure) (maxL := 3) (ret := (some .int)) (by decide +kernel) rfl ?_
  intro p e s m args below meth c s₁ B hml hv
  obtain ⟨rfl, rfl, hAM, hP⟩ := hv
  have hx := B.exec
  have hb := B.bytes
  have hr := B.returns
  have hts := atoms_spec (ws := wsX8_sure) B.pre
  have hown : s.vm.findClass RX8 = some m.cls := findClass_of_methodNamed B.named
  have hlocks := B.notSynchronized
  have hK := hAM.1
  generalize hE : (x_X8_sure p0 p1) = Rv
  rw [x_X8_sure] at hE
  have hl := lv_entry ([.ref x, .int p0, .int p1]) (n := 3) (Nat.le_of_ble_eq_true rfl)
  rw [lg_entry_eq]
  generalize (lg_sl ([.ref x, .int p0, .int p1]) ++ List.replicate (3 - (lg_sl ([.ref x, .int p0, .int p1])).length) Slot.unset).toArray = ls at hl ⊢
  have hl : lv_has ls 3 [(0, .ref x), (1, .int p0), (2, .int p1)] := hl
  refine lv_iload_n hx hb dX8_sure_0 rfl (lv_at hl 1 rfl) ?_
  refine lv_iconst (v := 2) hx hb dX8_sure_1 (by decide) ?_
  refine lv_bipush (v := 40) hx hb dX8_sure_2 (by decide +kernel) ?_
  refine ro_call (va_runS (As := [.int p0, .int 2, .int 40]) (rest := []) ⟨hx, hb, hml, hown, hts⟩ (c_X8_within l D cI cZ cR _ p0 2 40) (va_cwS 3 hts gX8_sure_X8_within rfl rfl rfl hd_X8_within ⟨(Nat.le_of_ble_eq_true rfl), (Nat.le_of_ble_eq_true rfl)⟩) (po_pre hAM va_P.nil) rfl rfl hl.1 rfl (lv_room (Nat.le_of_ble_eq_true rfl)) dX8_sure_4 ⟨(Nat.le_of_ble_eq_true rfl), (Nat.le_of_ble_eq_true rfl)⟩) ?_
  refine w_if_eqb (tgt := 20) hx hb dX8_sure_7 (by decide) (fun c_7 => ?_) (fun c_7 => ?_)
  · have hE := itF hE c_7
    refine lv_bipush (v := (-2)) hx hb dX8_sure_20 (by decide +kernel) ?_
    exact w_iret hx hb hr hlocks hE dX8_sure_22
  · have hE := itT hE c_7
    refine lv_iload_n hx hb dX8_sure_10 rfl (lv_at hl 2 rfl) ?_
    refine lv_iconst (v := 0) hx hb dX8_sure_11 (by decide) ?_
    refine lv_bipush (v := 100) hx hb dX8_sure_12 (by decide +kernel) ?_
    refine ro_call (va_runS (As := [.int p1, .int 0, .int 100]) (rest := []) ⟨hx, hb, hml, hown, hts⟩ (c_X8_within l D cI cZ cR _ p1 0 100) (va_cwS 3 hts gX8_sure_X8_within rfl rfl rfl hd_X8_within ⟨(Nat.le_of_ble_eq_true rfl), (Nat.le_of_ble_eq_true rfl)⟩) (po_pre hAM va_P.nil) rfl rfl hl.1 rfl (lv_room (Nat.le_of_ble_eq_true rfl)) dX8_sure_14 ⟨(Nat.le_of_ble_eq_true rfl), (Nat.le_of_ble_eq_true rfl)⟩) ?_
    refine w_if_neb (tgt := 23) hx hb dX8_sure_17 (by decide) (fun c_17 => ?_) (fun c_17 => ?_)
    · have hE := itT hE c_17
      refine lv_iload_n hx hb dX8_sure_23 rfl (lv_at hl 1 rfl) ?_
      refine ro_call (va_runS (As := [.int p0]) (rest := []) ⟨hx, hb, hml, hown, hts⟩ (c_X1_forOne l D cI cZ cR _ p0) (va_cwS 1 hts gX8_sure_X1_forOne rfl rfl rfl hd_X1_forOne ⟨(Nat.le_of_ble_eq_true rfl), (Nat.le_of_ble_eq_true rfl)⟩) (po_pre hAM va_P.nil) rfl rfl hl.1 rfl (lv_room (Nat.le_of_ble_eq_true rfl)) dX8_sure_24 ⟨(Nat.le_of_ble_eq_true rfl), (Nat.le_of_ble_eq_true rfl)⟩) ?_
      refine lv_iload_n hx hb dX8_sure_27 rfl (lv_at hl 1 rfl) ?_
      refine lv_iconst (v := 1) hx hb dX8_sure_28 (by decide) ?_
      refine lv_iload_n hx hb dX8_sure_29 rfl (lv_at hl 2 rfl) ?_
      refine ro_call (va_runS (As := [.int (x_X1_forOne p0), .int p0, .int 1, .int p1]) (rest := []) ⟨hx, hb, hml, hown, hts⟩ (c_X1_leastDrawn l D cI cZ cR _ (x_X1_forOne p0) p0 1 p1 (sure_k c_7).1 (sure_k c_7).2.1 (sure_k c_7).2.2.1 (sure_k c_7).2.2.2) (va_cwS 4 hts gX8_sure_X1_leastDrawn rfl rfl rfl hd_X1_leastDrawn ⟨(Nat.le_of_ble_eq_true rfl), (Nat.le_of_ble_eq_true rfl)⟩) (po_pre hAM va_P.nil) rfl rfl hl.1 rfl (lv_room (Nat.le_of_ble_eq_true rfl)) dX8_sure_30 ⟨(Nat.le_of_ble_eq_true rfl), (Nat.le_of_ble_eq_true rfl)⟩) ?_
      exact w_iret hx hb hr hlocks hE dX8_sure_33
    · have hE := itF hE c_17
      refine lv_bipush (v := (-2)) hx hb dX8_sure_20 (by decide +kernel) ?_
      exact w_iret hx hb hr hlocks hE dX8_sure_22

theorem hd_X8_told : yX8_told.cls ≠ "java/lang/invoke/MethodHandle" ∧ yX8_told.cls ≠ "java/lang/invoke/VarHandle" ∧ (parseMethodDescriptor yX8_told.desc).map (fun d => d.parameters.length) = some 8 := by decide +kernel
def x_X8_told (p0 : Int32) (p1 : Int32) (p2 : Int32) (p3 : Int32) (p4 : Int32) (p5 : Int32) (p6 : Int32) (p7 : Int32) : Int64 := (if (x_X8_areSums p0 p1 p2) = true then (if (x_X8_areKnown p0 p1 p2 p3 p4 p5) = true then (if (x_X8_within p6 0 2) = true then (if (x_X8_within p7 0 1) = true then (if (((((p0 - p3) + p1) - p4) + p2) - p5) = 0 then (-1000000000000000003) else (if p6 = 0 then (x_X1_inLowestTerms (Int32.toInt64 (p0 - p3)) (Int32.toInt64 (((((p0 - p3) + p1) - p4) + p2) - p5)) p7) else (if p6 = 1 then (x_X1_inLowestTerms (Int32.toInt64 (p1 - p4)) (Int32.toInt64 (((((p0 - p3) + p1) - p4) + p2) - p5)) p7) else (x_X1_inLowestTerms (Int32.toInt64 (p2 - p5)) (Int32.toInt64 (((((p0 - p3) + p1) - p4) + p2) - p5)) p7)))) else (-1000000000000000002)) else (-1000000000000000002)) else (-1000000000000000002)) else (-1000000000000000002))
def rm_X8_told : Room := { frames := 2, cells := 0, slots := 0, locals := 56 }
set_option maxHeartbeats 4000000 in
set_option maxRecDepth 100000 in
theorem c_X8_told (l : Launch) (D : va_G) (cI cZ cR : ClassId) (H0 : Heap) (x kk pr dr sd w wr wc ro wt tw sw : Nat) (need : Int32) (c0 : Int32) (c1 : Int32) (c2 : Int32) (hh : Int32) (pc0 : Int32) (pz0 : Int32) (pc1 : Int32) (pz1 : Int32) (dr : Nat) (sd : Nat) (ds : Nat) (fd : Nat → Int32) (tw : Nat) (sw : Nat) (wn : Nat) (fw : Nat → Int32) (fr : Nat → Int32) (nr : Nat) (ra : Nat → Nat) (rd : Nat → R6) (cc : Nat) (ch : Int32) (cp : Nat → Int32) (p0 : Int32) (p1 : Int32) (p2 : Int32) (p3 : Int32) (p4 : Int32) (p5 : Int32) (p6 : Int32) (p7 : Int32) : Met l yX8_told wsX8_told rm_X8_told (po_P D cI cZ cR [.ref x, .int p0, .int p1, .int p2, .int p3, .int p4, .int p5, .int p6, .int p7] (cW cI cR x kk pr w wr wc ro wt need c0 c1 c2 hh pc0 pz0 pc1 pz1 dr sd ds fd tw sw wn fw fr nr ra rd cc ch cp) H0) (po_Q (some (.long (x_X8_told p0 p1 p2 p3 p4 p5 p6 p7))) H0) 0 0 nF := by
  refine Met.ofW (cc := cX8_told) (maxL := 11) (ret := (some .long)) (by decide +kernel) rfl ?_
  intro p e s m args below meth c s₁ B hml hv
  obtain ⟨rfl, rfl, hAM, hP⟩ := hv
  have hx := B.exec
  have hb := B.bytes
  have hr := B.returns
  have hts := atoms_spec (ws := wsX8_told) B.pre
  have hown : s.vm.findClass RX8 = some m.cls := findClass_of_methodNamed B.named
  have hlocks := B.notSynchronized
  have hK := hAM.1
  generalize hE : (x_X8_told p0 p1 p2 p3 p4 p5 p6 p7) = Rv
  rw [x_X8_told] at hE
  have hl := lv_entry ([.ref x, .int p0, .int p1, .int p2, .int p3, .int p4, .int p5, .int p6, .int p7]) (n := 11) (Nat.le_of_ble_eq_true rfl)
  rw [lg_entry_eq]
  generalize (lg_sl ([.ref x, .int p0, .int p1, .int p2, .int p3, .int p4, .int p5, .int p6, .int p7]) ++ List.replicate (11 - (lg_sl ([.ref x, .int p0, .int p1, .int p2, .int p3, .int p4, .int p5, .int p6, .int p7])).length) Slot.unset).toArray = ls at hl ⊢
  have hl : lv_has ls 11 [(0, .ref x), (1, .int p0), (2, .int p1), (3, .int p2), (4, .int p3), (5, .int p4), (6, .int p5), (7, .int p6), (8, .int p7)] := hl
  refine lv_iload_n hx hb dX8_told_0 rfl (lv_at hl 1 rfl) ?_
  refine lv_iload_n hx hb dX8_told_1 rfl (lv_at hl 2 rfl) ?_
  refine lv_iload_n hx hb dX8_told_2 rfl (lv_at hl 3 rfl) ?_
  refine ro_call (va_runS (As := [.int p0, .int p1, .int p2]) (rest := []) ⟨hx, hb, hml, hown, hts⟩ (c_X8_areSums l D cI cZ cR _ p0 p1 p2) (va_cwS 3 hts gX8_told_X8_areSums rfl rfl rfl hd_X8_areSums ⟨(Nat.le_of_ble_eq_true rfl), (Nat.le_of_ble_eq_true rfl)⟩) (po_pre hAM va_P.nil) rfl rfl hl.1 rfl (lv_room (Nat.le_of_ble_eq_true rfl)) dX8_told_3 ⟨(Nat.le_of_ble_eq_true rfl), (Nat.le_of_ble_eq_true rfl)⟩) ?_
  refine w_if_eqb (tgt := 44) hx hb dX8_told_6 (by decide) (fun c_6 => ?_) (fun c_6 => ?_)
  · have hE := itF hE c_6
    refine lv_ldc2 hx hb hown (hts (.constantLong RX8 223 (-1000000000000000002)) (List.mem_of_getElem? (i := 1) rfl)) dX8_told_44 ?_
    exact w_lret hx hb hr hlocks hE dX8_told_47
  · have hE := itT hE c_6
    refine lv_iload_n hx hb dX8_told_9 rfl (lv_at hl 1 rfl) ?_
    refine lv_iload_n hx hb dX8_told_10 rfl (lv_at hl 2 rfl) ?_
    refine lv_iload_n hx hb dX8_told_11 rfl (lv_at hl 3 rfl) ?_
    refine lv_iload hx hb dX8_told_12 (lv_at hl 4 rfl) ?_
    refine lv_iload hx hb dX8_told_14 (lv_at hl 5 rfl) ?_
    refine lv_iload hx hb dX8_told_16 (lv_at hl 6 rfl) ?_
    refine ro_call (va_runS (As := [.int p0, .int p1, .int p2, .int p3, .int p4, .int p5]) (rest := []) ⟨hx, hb, hml, hown, hts⟩ (c_X8_areKnown l D cI cZ cR _ p0 p1 p2 p3 p4 p5) (va_cwS 6 hts gX8_told_X8_areKnown rfl rfl rfl hd_X8_areKnown ⟨(Nat.le_of_ble_eq_true rfl), (Nat.le_of_ble_eq_true rfl)⟩) (po_pre hAM va_P.nil) rfl rfl hl.1 rfl (lv_room (Nat.le_of_ble_eq_true rfl)) dX8_told_18 ⟨(Nat.le_of_ble_eq_true rfl), (Nat.le_of_ble_eq_true rfl)⟩) ?_
    refine w_if_eqb (tgt := 44) hx hb dX8_told_21 (by decide) (fun c_21 => ?_) (fun c_21 => ?_)
    · have hE := itF hE c_21
      refine lv_ldc2 hx hb hown (hts (.constantLong RX8 223 (-1000000000000000002)) (List.mem_of_getElem? (i := 1) rfl)) dX8_told_44 ?_
      exact w_lret hx hb hr hlocks hE dX8_told_47
    · have hE := itT hE c_21
      refine lv_iload hx hb dX8_told_24 (lv_at hl 7 rfl) ?_
      refine lv_iconst (v := 0) hx hb dX8_told_26 (by decide) ?_
      refine lv_iconst (v := 2) hx hb dX8_told_27 (by decide) ?_
      refine ro_call (va_runS (As := [.int p6, .int 0, .int 2]) (rest := []) ⟨hx, hb, hml, hown, hts⟩ (c_X8_within l D cI cZ cR _ p6 0 2) (va_cwS 3 hts gX8_told_X8_within rfl rfl rfl hd_X8_within ⟨(Nat.le_of_ble_eq_true rfl), (Nat.le_of_ble_eq_true rfl)⟩) (po_pre hAM va_P.nil) rfl rfl hl.1 rfl (lv_room (Nat.le_of_ble_eq_true rfl)) dX8_told_28 ⟨(Nat.le_of_ble_eq_true rfl), (Nat.le_of_ble_eq_true rfl)⟩) ?_
      refine w_if_eqb (tgt := 44) hx hb dX8_told_31 (by decide) (fun c_31 => ?_) (fun c_31 => ?_)
      · have hE := itF hE c_31
        refine lv_ldc2 hx hb hown (hts (.constantLong RX8 223 (-1000000000000000002)) (List.mem_of_getElem? (i := 1) rfl)) dX8_told_44 ?_
        exact w_lret hx hb hr hlocks hE dX8_told_47
      · have hE := itT hE c_31
        refine lv_iload hx hb dX8_told_34 (lv_at hl 8 rfl) ?_
        refine lv_iconst (v := 0) hx hb dX8_told_36 (by decide) ?_
        refine lv_iconst (v := 1) hx hb dX8_told_37 (by decide) ?_
        refine ro_call (va_runS (As := [.int p7, .int 0, .int 1]) (rest := []) ⟨hx, hb, hml, hown, hts⟩ (c_X8_within l D cI cZ cR _ p7 0 1) (va_cwS 3 hts gX8_told_X8_within rfl rfl rfl hd_X8_within ⟨(Nat.le_of_ble_eq_true rfl), (Nat.le_of_ble_eq_true rfl)⟩) (po_pre hAM va_P.nil) rfl rfl hl.1 rfl (lv_room (Nat.le_of_ble_eq_true rfl)) dX8_told_38 ⟨(Nat.le_of_ble_eq_true rfl), (Nat.le_of_ble_eq_true rfl)⟩) ?_
        refine w_if_neb (tgt := 48) hx hb dX8_told_41 (by decide) (fun c_41 => ?_) (fun c_41 => ?_)
        · have hE := itT hE c_41
          refine lv_iload_n hx hb dX8_told_48 rfl (lv_at hl 1 rfl) ?_
          refine lv_iload hx hb dX8_told_49 (lv_at hl 4 rfl) ?_
          refine lv_isub hx hb dX8_told_51 ?_
          refine lv_iload_n hx hb dX8_told_52 rfl (lv_at hl 2 rfl) ?_
          refine lv_iadd hx hb dX8_told_53 ?_
          refine lv_iload hx hb dX8_told_54 (lv_at hl 5 rfl) ?_
          refine lv_isub hx hb dX8_told_56 ?_
          refine lv_iload_n hx hb dX8_told_57 rfl (lv_at hl 3 rfl) ?_
          refine lv_iadd hx hb dX8_told_58 ?_
          refine lv_iload hx hb dX8_told_59 (lv_at hl 6 rfl) ?_
          refine lv_isub hx hb dX8_told_61 ?_
          refine lv_istore (lv' := [(9, .int (((((p0 - p3) + p1) - p4) + p2) - p5)), (0, .ref x), (1, .int p0), (2, .int p1), (3, .int p2), (4, .int p3), (5, .int p4), (6, .int p5), (7, .int p6), (8, .int p7)]) hx hb dX8_told_62 hl (by decide) rfl (fun ls hl => ?_)
          refine lv_iload hx hb dX8_told_64 (lv_at hl 0 rfl) ?_
          refine lv_if_ne (tgt := 73) hx hb dX8_told_66 (by decide) (fun c_66 => ?_) (fun c_66 => ?_)
          · have hE := itF hE c_66
            refine lv_iload hx hb dX8_told_73 (lv_at hl 8 rfl) ?_
            refine lv_if_ne (tgt := 85) hx hb dX8_told_75 (by decide) (fun c_75 => ?_) (fun c_75 => ?_)
            · have hE := itF hE c_75
              refine lv_iload hx hb dX8_told_85 (lv_at hl 8 rfl) ?_
              refine lv_iconst (v := 1) hx hb dX8_told_87 (by decide) ?_
              refine lv_icmp_ne (tgt := 98) hx hb dX8_told_88 (by decide) (fun c_88 => ?_) (fun c_88 => ?_)
              · have hE := itF hE c_88
                refine lv_iload_n hx hb dX8_told_98 rfl (lv_at hl 4 rfl) ?_
                refine lv_iload hx hb dX8_told_99 (lv_at hl 7 rfl) ?_
                refine lv_isub hx hb dX8_told_101 ?_
                refine lv_istore (lv' := [(10, .int (p2 - p5)), (9, .int (((((p0 - p3) + p1) - p4) + p2) - p5)), (0, .ref x), (1, .int p0), (2, .int p1), (3, .int p2), (4, .int p3), (5, .int p4), (6, .int p5), (7, .int p6), (8, .int p7)]) hx hb dX8_told_102 hl (by decide) rfl (fun ls hl => ?_)
                refine lv_iload hx hb dX8_told_104 (lv_at hl 0 rfl) ?_
                refine lv_i2l hx hb dX8_told_106 rfl ?_
                refine lv_iload hx hb dX8_told_107 (lv_at hl 1 rfl) ?_
                refine lv_i2l hx hb dX8_told_109 rfl ?_
                refine lv_iload hx hb dX8_told_110 (lv_at hl 10 rfl) ?_
                refine ro_call (va_runS (As := [.long (Int32.toInt64 (p2 - p5)), .long (Int32.toInt64 (((((p0 - p3) + p1) - p4) + p2) - p5)), .int p7]) (rest := []) ⟨hx, hb, hml, hown, hts⟩ (c_X1_inLowestTerms l D cI cZ cR _ (Int32.toInt64 (p2 - p5)) (Int32.toInt64 (((((p0 - p3) + p1) - p4) + p2) - p5)) p7) (va_cwS 3 hts gX8_told_X1_inLowestTerms rfl rfl rfl hd_X1_inLowestTerms ⟨(Nat.le_of_ble_eq_true rfl), (Nat.le_of_ble_eq_true rfl)⟩) (po_pre hAM va_P.nil) rfl rfl hl.1 rfl (lv_room (Nat.le_of_ble_eq_true rfl)) dX8_told_112 ⟨(Nat.le_of_ble_eq_true rfl), (Nat.le_of_ble_eq_true rfl)⟩) ?_
                exact w_lret hx hb hr hlocks hE dX8_told_115
              · have hE := itT hE c_88
                refine lv_iload_n hx hb dX8_told_91 rfl (lv_at hl 3 rfl) ?_
                refine lv_iload hx hb dX8_told_92 (lv_at hl 6 rfl) ?_
                refine lv_isub hx hb dX8_told_94 ?_
                refine lv_goto (tgt := 102) hx hb dX8_told_95 (by decide) ?_
                refine lv_istore (lv' := [(10, .int (p1 - p4)), (9, .int (((((p0 - p3) + p1) - p4) + p2) - p5)), (0, .ref x), (1, .int p0), (2, .int p1), (3, .int p2), (4, .int p3), (5, .int p4), (6, .int p5), (7, .int p6), (8, .int p7)]) hx hb dX8_told_102 hl (by decide) rfl (fun ls hl => ?_)
                refine lv_iload hx hb dX8_told_104 (lv_at hl 0 rfl) ?_
                refine lv_i2l hx hb dX8_told_106 rfl ?_
                refine lv_iload hx hb dX8_told_107 (lv_at hl 1 rfl) ?_
                refine lv_i2l hx hb dX8_told_109 rfl ?_
                refine lv_iload hx hb dX8_told_110 (lv_at hl 10 rfl) ?_
                refine ro_call (va_runS (As := [.long (Int32.toInt64 (p1 - p4)), .long (Int32.toInt64 (((((p0 - p3) + p1) - p4) + p2) - p5)), .int p7]) (rest := []) ⟨hx, hb, hml, hown, hts⟩ (c_X1_inLowestTerms l D cI cZ cR _ (Int32.toInt64 (p1 - p4)) (Int32.toInt64 (((((p0 - p3) + p1) - p4) + p2) - p5)) p7) (va_cwS 3 hts gX8_told_X1_inLowestTerms rfl rfl rfl hd_X1_inLowestTerms ⟨(Nat.le_of_ble_eq_true rfl), (Nat.le_of_ble_eq_true rfl)⟩) (po_pre hAM va_P.nil) rfl rfl hl.1 rfl (lv_room (Nat.le_of_ble_eq_true rfl)) dX8_told_112 ⟨(Nat.le_of_ble_eq_true rfl), (Nat.le_of_ble_eq_true rfl)⟩) ?_
                exact w_lret hx hb hr hlocks hE dX8_told_115
            · have hE := itT hE c_75
              refine lv_iload_n hx hb dX8_told_78 rfl (lv_at hl 2 rfl) ?_
              refine lv_iload hx hb dX8_told_79 (lv_at hl 5 rfl) ?_
              refine lv_isub hx hb dX8_told_81 ?_
              refine lv_goto (tgt := 102) hx hb dX8_told_82 (by decide) ?_
              refine lv_istore (lv' := [(10, .int (p0 - p3)), (9, .int (((((p0 - p3) + p1) - p4) + p2) - p5)), (0, .ref x), (1, .int p0), (2, .int p1), (3, .int p2), (4, .int p3), (5, .int p4), (6, .int p5), (7, .int p6), (8, .int p7)]) hx hb dX8_told_102 hl (by decide) rfl (fun ls hl => ?_)
              refine lv_iload hx hb dX8_told_104 (lv_at hl 0 rfl) ?_
              refine lv_i2l hx hb dX8_told_106 rfl ?_
              refine lv_iload hx hb dX8_told_107 (lv_at hl 1 rfl) ?_
              refine lv_i2l hx hb dX8_told_109 rfl ?_
              refine lv_iload hx hb dX8_told_110 (lv_at hl 10 rfl) ?_
              refine ro_call (va_runS (As := [.long (Int32.toInt64 (p0 - p3)), .long (Int32.toInt64 (((((p0 - p3) + p1) - p4) + p2) - p5)), .int p7]) (rest := []) ⟨hx, hb, hml, hown, hts⟩ (c_X1_inLowestTerms l D cI cZ cR _ (Int32.toInt64 (p0 - p3)) (Int32.toInt64 (((((p0 - p3) + p1) - p4) + p2) - p5)) p7) (va_cwS 3 hts gX8_told_X1_inLowestTerms rfl rfl rfl hd_X1_inLowestTerms ⟨(Nat.le_of_ble_eq_true rfl), (Nat.le_of_ble_eq_true rfl)⟩) (po_pre hAM va_P.nil) rfl rfl hl.1 rfl (lv_room (Nat.le_of_ble_eq_true rfl)) dX8_told_112 ⟨(Nat.le_of_ble_eq_true rfl), (Nat.le_of_ble_eq_true rfl)⟩) ?_
              exact w_lret hx hb hr hlocks hE dX8_told_115
          · have hE := itT hE c_66
            refine lv_ldc2 hx hb hown (hts (.constantLong RX8 257 (-1000000000000000003)) (List.mem_of_getElem? (i := 2) rfl)) dX8_told_69 ?_
            exact w_lret hx hb hr hlocks hE dX8_told_72
        · have hE := itF hE c_41
          refine lv_ldc2 hx hb hown (hts (.constantLong RX8 223 (-1000000000000000002)) (List.mem_of_getElem? (i := 1) rfl)) dX8_told_44 ?_
          exact w_lret hx hb hr hlocks hE dX8_told_47

theorem hd_X8_forced : yX8_forced.cls ≠ "java/lang/invoke/MethodHandle" ∧ yX8_forced.cls ≠ "java/lang/invoke/VarHandle" ∧ (parseMethodDescriptor yX8_forced.desc).map (fun d => d.parameters.length) = some 6 := by decide +kernel
def x_X8_forced (p0 : Int32) (p1 : Int32) (p2 : Int32) (p3 : Int32) (p4 : Int32) (p5 : Int32) : Int32 := (if (x_X8_areSums p0 p1 p2) = true then (if (x_X8_areKnown p0 p1 p2 p3 p4 p5) = true then ((((((p0 - p3) + p1) - p4) + p2) - p5) - (if (p0 - p3) < (if (p1 - p4) < (p2 - p5) then (p2 - p5) else (p1 - p4)) then (if (p1 - p4) < (p2 - p5) then (p2 - p5) else (p1 - p4)) else (p0 - p3))) else (-2)) else (-2))
def rm_X8_forced : Room := { frames := 2, cells := 0, slots := 0, locals := 47 }
set_option maxHeartbeats 4000000 in
set_option maxRecDepth 100000 in
theorem c_X8_forced (l : Launch) (D : va_G) (cI cZ cR : ClassId) (H0 : Heap) (x kk pr dr sd w wr wc ro wt tw sw : Nat) (need : Int32) (c0 : Int32) (c1 : Int32) (c2 : Int32) (hh : Int32) (pc0 : Int32) (pz0 : Int32) (pc1 : Int32) (pz1 : Int32) (dr : Nat) (sd : Nat) (ds : Nat) (fd : Nat → Int32) (tw : Nat) (sw : Nat) (wn : Nat) (fw : Nat → Int32) (fr : Nat → Int32) (nr : Nat) (ra : Nat → Nat) (rd : Nat → R6) (cc : Nat) (ch : Int32) (cp : Nat → Int32) (p0 : Int32) (p1 : Int32) (p2 : Int32) (p3 : Int32) (p4 : Int32) (p5 : Int32) : Met l yX8_forced wsX8_forced rm_X8_forced (po_P D cI cZ cR [.ref x, .int p0, .int p1, .int p2, .int p3, .int p4, .int p5] (cW cI cR x kk pr w wr wc ro wt need c0 c1 c2 hh pc0 pz0 pc1 pz1 dr sd ds fd tw sw wn fw fr nr ra rd cc ch cp) H0) (po_Q (some (.int (x_X8_forced p0 p1 p2 p3 p4 p5))) H0) 0 0 nF := by
  refine Met.ofW (cc := cX8_forced) (maxL := 8) (ret := (some .int)) (by decide +kernel) rfl ?_
  intro p e s m args below meth c s₁ B hml hv
  obtain ⟨rfl, rfl, hAM, hP⟩ := hv
  have hx := B.exec
  have hb := B.bytes
  have hr := B.returns
  have hts := atoms_spec (ws := wsX8_forced) B.pre
  have hown : s.vm.findClass RX8 = some m.cls := findClass_of_methodNamed B.named
  have hlocks := B.notSynchronized
  have hK := hAM.1
  generalize hE : (x_X8_forced p0 p1 p2 p3 p4 p5) = Rv
  rw [x_X8_forced] at hE
  have hl := lv_entry ([.ref x, .int p0, .int p1, .int p2, .int p3, .int p4, .int p5]) (n := 8) (Nat.le_of_ble_eq_true rfl)
  rw [lg_entry_eq]
  generalize (lg_sl ([.ref x, .int p0, .int p1, .int p2, .int p3, .int p4, .int p5]) ++ List.replicate (8 - (lg_sl ([.ref x, .int p0, .int p1, .int p2, .int p3, .int p4, .int p5])).length) Slot.unset).toArray = ls at hl ⊢
  have hl : lv_has ls 8 [(0, .ref x), (1, .int p0), (2, .int p1), (3, .int p2), (4, .int p3), (5, .int p4), (6, .int p5)] := hl
  refine lv_iload_n hx hb dX8_forced_0 rfl (lv_at hl 1 rfl) ?_
  refine lv_iload_n hx hb dX8_forced_1 rfl (lv_at hl 2 rfl) ?_
  refine lv_iload_n hx hb dX8_forced_2 rfl (lv_at hl 3 rfl) ?_
  refine ro_call (va_runS (As := [.int p0, .int p1, .int p2]) (rest := []) ⟨hx, hb, hml, hown, hts⟩ (c_X8_areSums l D cI cZ cR _ p0 p1 p2) (va_cwS 3 hts gX8_forced_X8_areSums rfl rfl rfl hd_X8_areSums ⟨(Nat.le_of_ble_eq_true rfl), (Nat.le_of_ble_eq_true rfl)⟩) (po_pre hAM va_P.nil) rfl rfl hl.1 rfl (lv_room (Nat.le_of_ble_eq_true rfl)) dX8_forced_3 ⟨(Nat.le_of_ble_eq_true rfl), (Nat.le_of_ble_eq_true rfl)⟩) ?_
  refine w_if_eqb (tgt := 24) hx hb dX8_forced_6 (by decide) (fun c_6 => ?_) (fun c_6 => ?_)
  · have hE := itF hE c_6
    refine lv_bipush (v := (-2)) hx hb dX8_forced_24 (by decide +kernel) ?_
    exact w_iret hx hb hr hlocks hE dX8_forced_26
  · have hE := itT hE c_6
    refine lv_iload_n hx hb dX8_forced_9 rfl (lv_at hl 1 rfl) ?_
    refine lv_iload_n hx hb dX8_forced_10 rfl (lv_at hl 2 rfl) ?_
    refine lv_iload_n hx hb dX8_forced_11 rfl (lv_at hl 3 rfl) ?_
    refine lv_iload hx hb dX8_forced_12 (lv_at hl 4 rfl) ?_
    refine lv_iload hx hb dX8_forced_14 (lv_at hl 5 rfl) ?_
    refine lv_iload hx hb dX8_forced_16 (lv_at hl 6 rfl) ?_
    refine ro_call (va_runS (As := [.int p0, .int p1, .int p2, .int p3, .int p4, .int p5]) (rest := []) ⟨hx, hb, hml, hown, hts⟩ (c_X8_areKnown l D cI cZ cR _ p0 p1 p2 p3 p4 p5) (va_cwS 6 hts gX8_forced_X8_areKnown rfl rfl rfl hd_X8_areKnown ⟨(Nat.le_of_ble_eq_true rfl), (Nat.le_of_ble_eq_true rfl)⟩) (po_pre hAM va_P.nil) rfl rfl hl.1 rfl (lv_room (Nat.le_of_ble_eq_true rfl)) dX8_forced_18 ⟨(Nat.le_of_ble_eq_true rfl), (Nat.le_of_ble_eq_true rfl)⟩) ?_
    refine w_if_neb (tgt := 27) hx hb dX8_forced_21 (by decide) (fun c_21 => ?_) (fun c_21 => ?_)
    · have hE := itT hE c_21
      refine lv_iload_n hx hb dX8_forced_27 rfl (lv_at hl 1 rfl) ?_
      refine lv_iload hx hb dX8_forced_28 (lv_at hl 4 rfl) ?_
      refine lv_isub hx hb dX8_forced_30 ?_
      refine lv_iload_n hx hb dX8_forced_31 rfl (lv_at hl 2 rfl) ?_
      refine lv_iadd hx hb dX8_forced_32 ?_
      refine lv_iload hx hb dX8_forced_33 (lv_at hl 5 rfl) ?_
      refine lv_isub hx hb dX8_forced_35 ?_
      refine lv_iload_n hx hb dX8_forced_36 rfl (lv_at hl 3 rfl) ?_
      refine lv_iadd hx hb dX8_forced_37 ?_
      refine lv_iload hx hb dX8_forced_38 (lv_at hl 6 rfl) ?_
      refine lv_isub hx hb dX8_forced_40 ?_
      refine lv_istore (lv' := [(7, .int (((((p0 - p3) + p1) - p4) + p2) - p5)), (0, .ref x), (1, .int p0), (2, .int p1), (3, .int p2), (4, .int p3), (5, .int p4), (6, .int p5)]) hx hb dX8_forced_41 hl (by decide) rfl (fun ls hl => ?_)
      refine lv_iload hx hb dX8_forced_43 (lv_at hl 0 rfl) ?_
      refine lv_iload_n hx hb dX8_forced_45 rfl (lv_at hl 2 rfl) ?_
      refine lv_iload hx hb dX8_forced_46 (lv_at hl 5 rfl) ?_
      refine lv_isub hx hb dX8_forced_48 ?_
      refine lv_iload_n hx hb dX8_forced_49 rfl (lv_at hl 3 rfl) ?_
      refine lv_iload hx hb dX8_forced_50 (lv_at hl 6 rfl) ?_
      refine lv_isub hx hb dX8_forced_52 ?_
      refine lv_iload_n hx hb dX8_forced_53 rfl (lv_at hl 4 rfl) ?_
      refine lv_iload hx hb dX8_forced_54 (lv_at hl 7 rfl) ?_
      refine lv_isub hx hb dX8_forced_56 ?_
      refine va_mmax hx hb (hml.trans hl.1.symm) hown (hts (.methodLink RX8 259 Lib.Math.max.name) (List.mem_of_getElem? (i := 1) rfl)) (hts (.static Lib.Math.max.name) (List.mem_of_getElem? (i := 2) rfl)) (hts (.initialized "java/lang/Math") (List.mem_of_getElem? (i := 3) rfl)) (hts (.code Lib.Math.max.name Lib.Math.max.code 2 (some .int)) (List.mem_of_getElem? (i := 4) rfl)) (Nat.le_of_ble_eq_true rfl) (Nat.le_of_ble_eq_true rfl) (Nat.le_of_ble_eq_true rfl) (Nat.le_of_ble_eq_true rfl) dX8_forced_57 ?_
      refine va_mmax hx hb (hml.trans hl.1.symm) hown (hts (.methodLink RX8 259 Lib.Math.max.name) (List.mem_of_getElem? (i := 1) rfl)) (hts (.static Lib.Math.max.name) (List.mem_of_getElem? (i := 2) rfl)) (hts (.initialized "java/lang/Math") (List.mem_of_getElem? (i := 3) rfl)) (hts (.code Lib.Math.max.name Lib.Math.max.code 2 (some .int)) (List.mem_of_getElem? (i := 4) rfl)) (Nat.le_of_ble_eq_true rfl) (Nat.le_of_ble_eq_true rfl) (Nat.le_of_ble_eq_true rfl) (Nat.le_of_ble_eq_true rfl) dX8_forced_60 ?_
      refine lv_isub hx hb dX8_forced_63 ?_
      exact w_iret hx hb hr hlocks hE dX8_forced_64
    · have hE := itF hE c_21
      refine lv_bipush (v := (-2)) hx hb dX8_forced_24 (by decide +kernel) ?_
      exact w_iret hx hb hr hlocks hE dX8_forced_26

theorem hd_X8_count : yX8_count.cls ≠ "java/lang/invoke/MethodHandle" ∧ yX8_count.cls ≠ "java/lang/invoke/VarHandle" ∧ (parseMethodDescriptor yX8_count.desc).map (fun d => d.parameters.length) = some 1 := by decide +kernel
def x_X8_count (need : Int32) (hh : Int32) (ds : Nat) (cc : Nat) (nr : Nat) (rd : Nat → R6) (ch : Int32) (fr : Nat → Int32) (wn : Nat) (fw : Nat → Int32) (p0 : Int32) : Int32 := (if (x_X8_within p0 10 14) = true then (x_X7_howManyAre nr rd ch fr (nI wn) fw (p0 - 10)) else (if p0 = 0 then (x_X7_size nr) else (if p0 = 1 then (x_X6_size (nI ds)) else (if p0 = 2 then (x_X0_h hh) else (if p0 = 3 then (x_X0_need need) else (if p0 = 4 then (x_X7_closeHour ch) else (if p0 = 5 then (x_X7_copiedSize (nI cc)) else (-2))))))))
def rm_X8_count : Room := { frames := 5, cells := 0, slots := 0, locals := 120 }
theorem in_X8_count_X0 : ∀ w ∈ wsX00, w ∈ wsX8_count := fun _ h => List.mem_cons_of_mem _ (List.mem_append_right _ h)
theorem in_X8_count_X4 : ∀ w ∈ wsX40, w ∈ wsX8_count := fun _ h => List.mem_cons_of_mem _ (List.mem_append_left _ (List.mem_append_left _ (List.mem_append_right _ h)))
theorem in_X8_count_X5 : ∀ w ∈ wsX50, w ∈ wsX8_count := fun _ h => List.mem_cons_of_mem _ (List.mem_append_left _ (List.mem_append_left _ (List.mem_append_left _ (List.mem_append_right _ h))))
theorem in_X8_count_X6 : ∀ w ∈ wsX60, w ∈ wsX8_count := fun _ h => List.mem_cons_of_mem _ (List.mem_append_left _ (List.mem_append_right _ h))
theorem in_X8_count_X7 : ∀ w ∈ wsX70, w ∈ wsX8_count := fun _ h => List.mem_cons_of_mem _ (List.mem_append_left _ (List.mem_append_left _ (List.mem_append_left _ (List.mem_append_left _ (List.mem_append_right _ h)))))
theorem in_X8_count_X8 : ∀ w ∈ wsX80, w ∈ wsX8_count := fun _ h => List.mem_cons_of_mem _ (List.mem_append_left _ (List.mem_append_left _ (List.mem_append_left _ (List.mem_append_left _ (List.mem_append_left _ (List.mem_append_right _ h))))))
set_option maxHeartbeats 4000000 in
set_option maxRecDepth 100000 in
theorem c_X8_count (l : Launch) (D : va_G) (cI cZ cR : ClassId) (H0 : Heap) (x kk pr dr sd w wr wc ro wt tw sw : Nat) (need : Int32) (c0 : Int32) (c1 : Int32) (c2 : Int32) (hh : Int32) (pc0 : Int32) (pz0 : Int32) (pc1 : Int32) (pz1 : Int32) (dr : Nat) (sd : Nat) (ds : Nat) (fd : Nat → Int32) (tw : Nat) (sw : Nat) (wn : Nat) (fw : Nat → Int32) (fr : Nat → Int32) (nr : Nat) (ra : Nat → Nat) (rd : Nat → R6) (cc : Nat) (ch : Int32) (cp : Nat → Int32) (p0 : Int32) (hn30 : nr ≤ 30) : Met l yX8_count wsX8_count rm_X8_count (po_P D cI cZ cR [.ref x, .int p0] (cW cI cR x kk pr w wr wc ro wt need c0 c1 c2 hh pc0 pz0 pc1 pz1 dr sd ds fd tw sw wn fw fr nr ra rd cc ch cp) H0) (po_Q (some (.int (x_X8_count need hh ds cc nr rd ch fr wn fw p0))) H0) 0 0 nF := by
  refine Met.ofW (cc := cX8_count) (maxL := 2) (ret := (some .int)) (by decide +kernel) rfl ?_
  intro p e s m args below meth c s₁ B hml hv
  obtain ⟨rfl, rfl, hAM, hP⟩ := hv
  have hx := B.exec
  have hb := B.bytes
  have hr := B.returns
  have hts := atoms_spec (ws := wsX8_count) B.pre
  have hown : s.vm.findClass RX8 = some m.cls := findClass_of_methodNamed B.named
  have hlocks := B.notSynchronized
  have hK := hAM.1
  generalize hE : (x_X8_count need hh ds cc nr rd ch fr wn fw p0) = Rv
  rw [x_X8_count] at hE
  have hl := lv_entry ([.ref x, .int p0]) (n := 2) (Nat.le_of_ble_eq_true rfl)
  rw [lg_entry_eq]
  generalize (lg_sl ([.ref x, .int p0]) ++ List.replicate (2 - (lg_sl ([.ref x, .int p0])).length) Slot.unset).toArray = ls at hl ⊢
  have hl : lv_has ls 2 [(0, .ref x), (1, .int p0)] := hl
  refine lv_iload_n hx hb dX8_count_0 rfl (lv_at hl 1 rfl) ?_
  refine lv_bipush (v := 10) hx hb dX8_count_1 (by decide +kernel) ?_
  refine lv_bipush (v := 14) hx hb dX8_count_3 (by decide +kernel) ?_
  refine ro_call (va_runS (As := [.int p0, .int 10, .int 14]) (rest := []) ⟨hx, hb, hml, hown, hts⟩ (c_X8_within l D cI cZ cR _ p0 10 14) (va_cwS 3 hts gX8_count_X8_within rfl rfl rfl hd_X8_within ⟨(Nat.le_of_ble_eq_true rfl), (Nat.le_of_ble_eq_true rfl)⟩) (po_pre hAM va_P.nil) rfl rfl hl.1 rfl (lv_room (Nat.le_of_ble_eq_true rfl)) dX8_count_5 ⟨(Nat.le_of_ble_eq_true rfl), (Nat.le_of_ble_eq_true rfl)⟩) ?_
  refine w_if_eqb (tgt := 27) hx hb dX8_count_8 (by decide) (fun c_8 => ?_) (fun c_8 => ?_)
  · have hE := itF hE c_8
    refine lv_iload_n hx hb dX8_count_27 rfl (lv_at hl 1 rfl) ?_
    by_cases c_28_0 : p0 = 0
    · have hE := itT hE c_28_0
      refine lv_tableIn (tgt := 68) hx hb dX8_count_28 (by rw [c_28_0]; decide +kernel) (by rw [c_28_0]; decide +kernel) (off := 40) (by rw [c_28_0]; decide +kernel) (by decide) ?_
      refine lv_aload_n hx hb dX8_count_68 rfl (lv_at hl 0 rfl) ?_
      refine va_get (D := D) (ci := 6) (v := .ref w) (C := RX8) (T := TX8) (N := 4) hx hb hts in_X8_count_X8 hown hK hP 0 rfl rfl 3 (by decide) (hts (.fieldLink RX8 33 "WallCount" "wall" "LWallCount$Wall;") (List.mem_of_getElem? (i := 1) rfl)) (fun _ h9 => h9) rfl dX8_count_69 ?_
      refine ro_call (va_runV (As := []) (rest := []) ⟨hx, hb, hml, hown, hts⟩ (c_X7_size l D cI cZ cR _ w wr wc ro wt tw sw dr nr ra rd (nI cc) ch cp fr (nI wn) fw) (cwV 0 hts gX8_count_X7_size rfl rfl rfl ⟨rfl, hd_X7_size⟩ ⟨(Nat.le_of_ble_eq_true rfl), (Nat.le_of_ble_eq_true rfl)⟩) (po_preV hAM hP.tail.tail.tail.tail.tail (va_recv hK hP (ci := 5) (q0 := 5) rfl rfl)) rfl rfl hl.1 rfl (lv_room (Nat.le_of_ble_eq_true rfl)) dX8_count_72 ⟨(Nat.le_of_ble_eq_true rfl), (Nat.le_of_ble_eq_true rfl)⟩) ?_
      exact w_iret hx hb hr hlocks hE dX8_count_75
    · have hE := itF hE c_28_0
      by_cases c_28_1 : p0 = 1
      · have hE := itT hE c_28_1
        refine lv_tableIn (tgt := 76) hx hb dX8_count_28 (by rw [c_28_1]; decide +kernel) (by rw [c_28_1]; decide +kernel) (off := 48) (by rw [c_28_1]; decide +kernel) (by decide) ?_
        refine lv_aload_n hx hb dX8_count_76 rfl (lv_at hl 0 rfl) ?_
        refine va_get (D := D) (ci := 6) (v := .ref ro) (C := RX8) (T := TX8) (N := 4) hx hb hts in_X8_count_X8 hown hK hP 0 rfl rfl 2 (by decide) (hts (.fieldLink RX8 26 "WallCount" "roll" "LWallCount$Roll;") (List.mem_of_getElem? (i := 2) rfl)) (fun _ h9 => h9) rfl dX8_count_77 ?_
        refine ro_call (va_runV (As := []) (rest := []) ⟨hx, hb, hml, hown, hts⟩ (c_X4_draft l D cI cZ cR _ ro wt tw dr fr) (cwV 0 hts gX8_count_X4_draft rfl rfl rfl ⟨rfl, hd_X4_draft⟩ ⟨(Nat.le_of_ble_eq_true rfl), (Nat.le_of_ble_eq_true rfl)⟩) (po_preV hAM (hP.sub [8, 9] rfl) (va_recv hK hP (ci := 2) (q0 := 8) rfl rfl)) rfl rfl hl.1 rfl (lv_room (Nat.le_of_ble_eq_true rfl)) dX8_count_80 ⟨(Nat.le_of_ble_eq_true rfl), (Nat.le_of_ble_eq_true rfl)⟩) ?_
        refine ro_call (va_runV (As := []) (rest := []) ⟨hx, hb, hml, hown, hts⟩ (c_X6_size l D cI cZ cR _ dr sd (nI ds) fd) (cwV 0 hts gX8_count_X6_size rfl rfl rfl ⟨rfl, hd_X6_size⟩ ⟨(Nat.le_of_ble_eq_true rfl), (Nat.le_of_ble_eq_true rfl)⟩) (po_preV hAM (hP.sub [3, 4] rfl) (va_recv hK hP (ci := 4) (q0 := 3) rfl rfl)) rfl rfl hl.1 rfl (lv_room (Nat.le_of_ble_eq_true rfl)) dX8_count_83 ⟨(Nat.le_of_ble_eq_true rfl), (Nat.le_of_ble_eq_true rfl)⟩) ?_
        exact w_iret hx hb hr hlocks hE dX8_count_86
      · have hE := itF hE c_28_1
        by_cases c_28_2 : p0 = 2
        · have hE := itT hE c_28_2
          refine lv_tableIn (tgt := 87) hx hb dX8_count_28 (by rw [c_28_2]; decide +kernel) (by rw [c_28_2]; decide +kernel) (off := 59) (by rw [c_28_2]; decide +kernel) (by decide) ?_
          refine lv_aload_n hx hb dX8_count_87 rfl (lv_at hl 0 rfl) ?_
          refine va_get (D := D) (ci := 6) (v := .ref kk) (C := RX8) (T := TX8) (N := 4) hx hb hts in_X8_count_X8 hown hK hP 0 rfl rfl 0 (by decide) (hts (.fieldLink RX8 10 "WallCount" "secret" "LWallCount$Key;") (List.mem_of_getElem? (i := 3) rfl)) (fun _ h9 => h9) rfl dX8_count_88 ?_
          refine ro_call (va_runV (As := []) (rest := []) ⟨hx, hb, hml, hown, hts⟩ (c_X0_h l D cI cZ cR _ kk need c0 c1 c2 hh) (cwV 0 hts gX8_count_X0_h rfl rfl rfl ⟨rfl, hd_X0_h⟩ ⟨(Nat.le_of_ble_eq_true rfl), (Nat.le_of_ble_eq_true rfl)⟩) (po_preV hAM (hP.sub [1] rfl) (va_recv hK hP (ci := 0) (q0 := 1) rfl rfl)) rfl rfl hl.1 rfl (lv_room (Nat.le_of_ble_eq_true rfl)) dX8_count_91 ⟨(Nat.le_of_ble_eq_true rfl), (Nat.le_of_ble_eq_true rfl)⟩) ?_
          exact w_iret hx hb hr hlocks hE dX8_count_94
        · have hE := itF hE c_28_2
          by_cases c_28_3 : p0 = 3
          · have hE := itT hE c_28_3
            refine lv_tableIn (tgt := 95) hx hb dX8_count_28 (by rw [c_28_3]; decide +kernel) (by rw [c_28_3]; decide +kernel) (off := 67) (by rw [c_28_3]; decide +kernel) (by decide) ?_
            refine lv_aload_n hx hb dX8_count_95 rfl (lv_at hl 0 rfl) ?_
            refine va_get (D := D) (ci := 6) (v := .ref kk) (C := RX8) (T := TX8) (N := 4) hx hb hts in_X8_count_X8 hown hK hP 0 rfl rfl 0 (by decide) (hts (.fieldLink RX8 10 "WallCount" "secret" "LWallCount$Key;") (List.mem_of_getElem? (i := 3) rfl)) (fun _ h9 => h9) rfl dX8_count_96 ?_
            refine ro_call (va_runV (As := []) (rest := []) ⟨hx, hb, hml, hown, hts⟩ (c_X0_need l D cI cZ cR _ kk need c0 c1 c2 hh) (cwV 0 hts gX8_count_X0_need rfl rfl rfl ⟨rfl, hd_X0_need⟩ ⟨(Nat.le_of_ble_eq_true rfl), (Nat.le_of_ble_eq_true rfl)⟩) (po_preV hAM (hP.sub [1] rfl) (va_recv hK hP (ci := 0) (q0 := 1) rfl rfl)) rfl rfl hl.1 rfl (lv_room (Nat.le_of_ble_eq_true rfl)) dX8_count_99 ⟨(Nat.le_of_ble_eq_true rfl), (Nat.le_of_ble_eq_true rfl)⟩) ?_
            exact w_iret hx hb hr hlocks hE dX8_count_102
          · have hE := itF hE c_28_3
            by_cases c_28_4 : p0 = 4
            · have hE := itT hE c_28_4
              refine lv_tableIn (tgt := 103) hx hb dX8_count_28 (by rw [c_28_4]; decide +kernel) (by rw [c_28_4]; decide +kernel) (off := 75) (by rw [c_28_4]; decide +kernel) (by decide) ?_
              refine lv_aload_n hx hb dX8_count_103 rfl (lv_at hl 0 rfl) ?_
              refine va_get (D := D) (ci := 6) (v := .ref w) (C := RX8) (T := TX8) (N := 4) hx hb hts in_X8_count_X8 hown hK hP 0 rfl rfl 3 (by decide) (hts (.fieldLink RX8 33 "WallCount" "wall" "LWallCount$Wall;") (List.mem_of_getElem? (i := 1) rfl)) (fun _ h9 => h9) rfl dX8_count_104 ?_
              refine ro_call (va_runV (As := []) (rest := []) ⟨hx, hb, hml, hown, hts⟩ (c_X7_closeHour l D cI cZ cR _ w wr wc ro wt tw sw dr nr ra rd (nI cc) ch cp fr (nI wn) fw) (cwV 0 hts gX8_count_X7_closeHour rfl rfl rfl ⟨rfl, hd_X7_closeHour⟩ ⟨(Nat.le_of_ble_eq_true rfl), (Nat.le_of_ble_eq_true rfl)⟩) (po_preV hAM hP.tail.tail.tail.tail.tail (va_recv hK hP (ci := 5) (q0 := 5) rfl rfl)) rfl rfl hl.1 rfl (lv_room (Nat.le_of_ble_eq_true rfl)) dX8_count_107 ⟨(Nat.le_of_ble_eq_true rfl), (Nat.le_of_ble_eq_true rfl)⟩) ?_
              exact w_iret hx hb hr hlocks hE dX8_count_110
            · have hE := itF hE c_28_4
              by_cases c_28_5 : p0 = 5
              · have hE := itT hE c_28_5
                refine lv_tableIn (tgt := 111) hx hb dX8_count_28 (by rw [c_28_5]; decide +kernel) (by rw [c_28_5]; decide +kernel) (off := 83) (by rw [c_28_5]; decide +kernel) (by decide) ?_
                refine lv_aload_n hx hb dX8_count_111 rfl (lv_at hl 0 rfl) ?_
                refine va_get (D := D) (ci := 6) (v := .ref w) (C := RX8) (T := TX8) (N := 4) hx hb hts in_X8_count_X8 hown hK hP 0 rfl rfl 3 (by decide) (hts (.fieldLink RX8 33 "WallCount" "wall" "LWallCount$Wall;") (List.mem_of_getElem? (i := 1) rfl)) (fun _ h9 => h9) rfl dX8_count_112 ?_
                refine ro_call (va_runV (As := []) (rest := []) ⟨hx, hb, hml, hown, hts⟩ (c_X7_copiedSize l D cI cZ cR _ w wr wc ro wt tw sw dr nr ra rd (nI cc) ch cp fr (nI wn) fw) (cwV 0 hts gX8_count_X7_copiedSize rfl rfl rfl ⟨rfl, hd_X7_copiedSize⟩ ⟨(Nat.le_of_ble_eq_true rfl), (Nat.le_of_ble_eq_true rfl)⟩) (po_preV hAM hP.tail.tail.tail.tail.tail (va_recv hK hP (ci := 5) (q0 := 5) rfl rfl)) rfl rfl hl.1 rfl (lv_room (Nat.le_of_ble_eq_true rfl)) dX8_count_115 ⟨(Nat.le_of_ble_eq_true rfl), (Nat.le_of_ble_eq_true rfl)⟩) ?_
                exact w_iret hx hb hr hlocks hE dX8_count_118
              · have hE := itF hE c_28_5
                refine lv_tableOut (tgt := 119) hx hb dX8_count_28 (sw_out6 c_28_0 c_28_1 c_28_2 c_28_3 c_28_4 c_28_5) (by decide) ?_
                refine lv_bipush (v := (-2)) hx hb dX8_count_119 (by decide +kernel) ?_
                exact w_iret hx hb hr hlocks hE dX8_count_121
  · have hE := itT hE c_8
    refine lv_aload_n hx hb dX8_count_11 rfl (lv_at hl 0 rfl) ?_
    refine va_get (D := D) (ci := 6) (v := .ref w) (C := RX8) (T := TX8) (N := 4) hx hb hts in_X8_count_X8 hown hK hP 0 rfl rfl 3 (by decide) (hts (.fieldLink RX8 33 "WallCount" "wall" "LWallCount$Wall;") (List.mem_of_getElem? (i := 1) rfl)) (fun _ h9 => h9) rfl dX8_count_12 ?_
    refine lv_iload_n hx hb dX8_count_15 rfl (lv_at hl 1 rfl) ?_
    refine lv_bipush (v := 10) hx hb dX8_count_16 (by decide +kernel) ?_
    refine lv_isub hx hb dX8_count_18 ?_
    refine lv_aload_n hx hb dX8_count_19 rfl (lv_at hl 0 rfl) ?_
    refine va_get (D := D) (ci := 6) (v := .ref ro) (C := RX8) (T := TX8) (N := 4) hx hb hts in_X8_count_X8 hown hK hP 0 rfl rfl 2 (by decide) (hts (.fieldLink RX8 26 "WallCount" "roll" "LWallCount$Roll;") (List.mem_of_getElem? (i := 2) rfl)) (fun _ h9 => h9) rfl dX8_count_20 ?_
    refine ro_call (va_runV (As := [.int (p0 - 10), .ref ro]) (rest := []) ⟨hx, hb, hml, hown, hts⟩ (c_X7_howManyAre l D cI cZ cR _ w wr wc ro wt tw sw dr nr ra rd (nI cc) ch cp fr (nI wn) fw (p0 - 10) hn30) (cwV 2 hts gX8_count_X7_howManyAre rfl rfl rfl ⟨rfl, hd_X7_howManyAre⟩ ⟨(Nat.le_of_ble_eq_true rfl), (Nat.le_of_ble_eq_true rfl)⟩) (po_preV hAM hP.tail.tail.tail.tail.tail (va_recv hK hP (ci := 5) (q0 := 5) rfl rfl)) rfl rfl hl.1 rfl (lv_room (Nat.le_of_ble_eq_true rfl)) dX8_count_23 ⟨(Nat.le_of_ble_eq_true rfl), (Nat.le_of_ble_eq_true rfl)⟩) ?_
    exact w_iret hx hb hr hlocks hE dX8_count_26

theorem hd_X8_ofRow : yX8_ofRow.cls ≠ "java/lang/invoke/MethodHandle" ∧ yX8_ofRow.cls ≠ "java/lang/invoke/VarHandle" ∧ (parseMethodDescriptor yX8_ofRow.desc).map (fun d => d.parameters.length) = some 2 := by decide +kernel
def x_X8_ofRow (nr : Nat) (rd : Nat → R6) (ch : Int32) (fr : Nat → Int32) (wn : Nat) (fw : Nat → Int32) (p0 : Int32) (p1 : Int32) : Int32 := (if inR nr p0 = true then (if p1 = 0 then (rd (ix p0)).1 else (if p1 = 1 then (rd (ix p0)).2.1 else (if p1 = 2 then (rd (ix p0)).2.2.1 else (if p1 = 3 then (rd (ix p0)).2.2.2.1 else (if p1 = 4 then (x_X7_kindOf nr rd ch fr (nI wn) fw p0) else (if p1 = 5 then (x_X5_word (rd (ix p0)).1 (rd (ix p0)).2.1 (rd (ix p0)).2.2.1 (rd (ix p0)).2.2.2.1) else (if p1 = 6 then (x_X7_headBehind nr rd p0) else (-2)))))))) else (-1))
def rm_X8_ofRow : Room := { frames := 4, cells := 0, slots := 0, locals := 96 }
theorem in_X8_ofRow_X4 : ∀ w ∈ wsX40, w ∈ wsX8_ofRow := fun _ h => List.mem_cons_of_mem _ (List.mem_append_left _ (List.mem_append_right _ h))
theorem in_X8_ofRow_X5 : ∀ w ∈ wsX50, w ∈ wsX8_ofRow := fun _ h => List.mem_cons_of_mem _ (List.mem_append_left _ (List.mem_append_left _ (List.mem_append_left _ (List.mem_append_right _ h))))
theorem in_X8_ofRow_X6 : ∀ w ∈ wsX60, w ∈ wsX8_ofRow := fun _ h => List.mem_cons_of_mem _ (List.mem_append_right _ h)
theorem in_X8_ofRow_X7 : ∀ w ∈ wsX70, w ∈ wsX8_ofRow := fun _ h => List.mem_cons_of_mem _ (List.mem_append_left _ (List.mem_append_left _ (List.mem_append_right _ h)))
theorem in_X8_ofRow_X8 : ∀ w ∈ wsX80, w ∈ wsX8_ofRow := fun _ h => List.mem_cons_of_mem _ (List.mem_append_left _ (List.mem_append_left _ (List.mem_append_left _ (List.mem_append_left _ (List.mem_append_right _ h)))))
set_option maxHeartbeats 4000000 in
set_option maxRecDepth 100000 in
theorem c_X8_ofRow (l : Launch) (D : va_G) (cI cZ cR : ClassId) (H0 : Heap) (x kk pr dr sd w wr wc ro wt tw sw : Nat) (need : Int32) (c0 : Int32) (c1 : Int32) (c2 : Int32) (hh : Int32) (pc0 : Int32) (pz0 : Int32) (pc1 : Int32) (pz1 : Int32) (dr : Nat) (sd : Nat) (ds : Nat) (fd : Nat → Int32) (tw : Nat) (sw : Nat) (wn : Nat) (fw : Nat → Int32) (fr : Nat → Int32) (nr : Nat) (ra : Nat → Nat) (rd : Nat → R6) (cc : Nat) (ch : Int32) (cp : Nat → Int32) (p0 : Int32) (p1 : Int32) (hn30 : nr ≤ 30) : Met l yX8_ofRow wsX8_ofRow rm_X8_ofRow (po_P D cI cZ cR [.ref x, .int p0, .int p1] (cW cI cR x kk pr w wr wc ro wt need c0 c1 c2 hh pc0 pz0 pc1 pz1 dr sd ds fd tw sw wn fw fr nr ra rd cc ch cp) H0) (po_Q (some (.int (x_X8_ofRow nr rd ch fr wn fw p0 p1))) H0) 0 0 nF := by
  refine Met.ofW (cc := cX8_ofRow) (maxL := 4) (ret := (some .int)) (by decide +kernel) rfl ?_
  intro p e s m args below meth c s₁ B hml hv
  obtain ⟨rfl, rfl, hAM, hP⟩ := hv
  have hx := B.exec
  have hb := B.bytes
  have hr := B.returns
  have hts := atoms_spec (ws := wsX8_ofRow) B.pre
  have hown : s.vm.findClass RX8 = some m.cls := findClass_of_methodNamed B.named
  have hlocks := B.notSynchronized
  have hK := hAM.1
  generalize hE : (x_X8_ofRow nr rd ch fr wn fw p0 p1) = Rv
  rw [x_X8_ofRow] at hE
  have hl := lv_entry ([.ref x, .int p0, .int p1]) (n := 4) (Nat.le_of_ble_eq_true rfl)
  rw [lg_entry_eq]
  generalize (lg_sl ([.ref x, .int p0, .int p1]) ++ List.replicate (4 - (lg_sl ([.ref x, .int p0, .int p1])).length) Slot.unset).toArray = ls at hl ⊢
  have hl : lv_has ls 4 [(0, .ref x), (1, .int p0), (2, .int p1)] := hl
  refine lv_aload_n hx hb dX8_ofRow_0 rfl (lv_at hl 0 rfl) ?_
  refine va_get (D := D) (ci := 6) (v := .ref w) (C := RX8) (T := TX8) (N := 4) hx hb hts in_X8_ofRow_X8 hown hK hP 0 rfl rfl 3 (by decide) (hts (.fieldLink RX8 33 "WallCount" "wall" "LWallCount$Wall;") (List.mem_of_getElem? (i := 1) rfl)) (fun _ h9 => h9) rfl dX8_ofRow_1 ?_
  refine lv_iload_n hx hb dX8_ofRow_4 rfl (lv_at hl 1 rfl) ?_
  refine ro_call (va_runV (As := [.int p0]) (rest := []) ⟨hx, hb, hml, hown, hts⟩ (c_X7_at l D cI cZ cR _ w wr wc ro wt tw sw dr nr ra rd (nI cc) ch cp fr (nI wn) fw p0) (cwV 1 hts gX8_ofRow_X7_at rfl rfl rfl ⟨rfl, hd_X7_at⟩ ⟨(Nat.le_of_ble_eq_true rfl), (Nat.le_of_ble_eq_true rfl)⟩) (po_preV hAM hP.tail.tail.tail.tail.tail (va_recv hK hP (ci := 5) (q0 := 5) rfl rfl)) rfl rfl hl.1 rfl (lv_room (Nat.le_of_ble_eq_true rfl)) dX8_ofRow_5 ⟨(Nat.le_of_ble_eq_true rfl), (Nat.le_of_ble_eq_true rfl)⟩) ?_
  by_cases o_5 : inR nr p0 = true
  · have hE := itT hE o_5
    rw [at_in hn30 o_5]
    refine lv_astore_n (lv' := [(3, .ref (ra (ix p0))), (0, .ref x), (1, .int p0), (2, .int p1)]) hx hb dX8_ofRow_8 rfl hl (by decide) rfl (fun ls hl => ?_)
    refine lv_aload_n hx hb dX8_ofRow_9 rfl (lv_at hl 0 rfl) ?_
    refine lv_ifnonnull (tgt := 15) hx hb dX8_ofRow_10 (by decide) ?_
    refine lv_iload_n hx hb dX8_ofRow_15 rfl (lv_at hl 3 rfl) ?_
    by_cases c_16_0 : p1 = 0
    · have hE := itT hE c_16_0
      refine lv_tableIn (tgt := 60) hx hb dX8_ofRow_16 (by rw [c_16_0]; decide +kernel) (by rw [c_16_0]; decide +kernel) (off := 44) (by rw [c_16_0]; decide +kernel) (by decide) ?_
      refine lv_aload_n hx hb dX8_ofRow_60 rfl (lv_at hl 0 rfl) ?_
      refine va_get (D := D) (ci := 3) (v := .int (rd (ix p0)).1) (C := RX5) (T := TX5) (N := 6) hx hb hts in_X8_ofRow_X5 hown hK hP (12 + (ix p0)) (rw_at (X := [(x, .inr (6, [.ref kk, .ref pr, .ref ro, .ref w])), (kk, .inr (0, [.int need, .int c0, .int c1, .int c2, .int hh])), (pr, .inr (1, [.int pc0, .int pz0, .int pc1, .int pz1])), (dr, .inr (4, [.ref sd, .int (nI ds)])), (sd, .inl (cI, 40, .inl fd)), (w, .inr (5, [.ref wr, .ref wc, .int (nI nr), .int (nI cc), .int ch])), (wr, .inl (cR, 30, .inr (.inr (.inr (.inr (rwA nr ra)))))), (wc, .inl (cI, 30, .inl cp)), (ro, .inr (2, [.ref wt, .ref tw, .ref dr])), (wt, .inl (cI, 36, .inl fr)), (tw, .inr (4, [.ref sw, .int (nI wn)])), (sw, .inl (cI, 40, .inl fw))]) (inR_lt hn30 o_5)) rfl 0 (by decide) (hts (.fieldLink RX8 186 "WallCount$Row" "voter" "I") (List.mem_of_getElem? (i := 2) rfl)) (fun _ h9 => h9) rfl dX8_ofRow_61 ?_
      exact w_iret hx hb hr hlocks hE dX8_ofRow_64
    · have hE := itF hE c_16_0
      by_cases c_16_1 : p1 = 1
      · have hE := itT hE c_16_1
        refine lv_tableIn (tgt := 65) hx hb dX8_ofRow_16 (by rw [c_16_1]; decide +kernel) (by rw [c_16_1]; decide +kernel) (off := 49) (by rw [c_16_1]; decide +kernel) (by decide) ?_
        refine lv_aload_n hx hb dX8_ofRow_65 rfl (lv_at hl 0 rfl) ?_
        refine va_get (D := D) (ci := 3) (v := .int (rd (ix p0)).2.1) (C := RX5) (T := TX5) (N := 6) hx hb hts in_X8_ofRow_X5 hown hK hP (12 + (ix p0)) (rw_at (X := [(x, .inr (6, [.ref kk, .ref pr, .ref ro, .ref w])), (kk, .inr (0, [.int need, .int c0, .int c1, .int c2, .int hh])), (pr, .inr (1, [.int pc0, .int pz0, .int pc1, .int pz1])), (dr, .inr (4, [.ref sd, .int (nI ds)])), (sd, .inl (cI, 40, .inl fd)), (w, .inr (5, [.ref wr, .ref wc, .int (nI nr), .int (nI cc), .int ch])), (wr, .inl (cR, 30, .inr (.inr (.inr (.inr (rwA nr ra)))))), (wc, .inl (cI, 30, .inl cp)), (ro, .inr (2, [.ref wt, .ref tw, .ref dr])), (wt, .inl (cI, 36, .inl fr)), (tw, .inr (4, [.ref sw, .int (nI wn)])), (sw, .inl (cI, 40, .inl fw))]) (inR_lt hn30 o_5)) rfl 1 (by decide) (hts (.fieldLink RX8 176 "WallCount$Row" "a" "I") (List.mem_of_getElem? (i := 3) rfl)) (fun _ h9 => h9) rfl dX8_ofRow_66 ?_
        exact w_iret hx hb hr hlocks hE dX8_ofRow_69
      · have hE := itF hE c_16_1
        by_cases c_16_2 : p1 = 2
        · have hE := itT hE c_16_2
          refine lv_tableIn (tgt := 70) hx hb dX8_ofRow_16 (by rw [c_16_2]; decide +kernel) (by rw [c_16_2]; decide +kernel) (off := 54) (by rw [c_16_2]; decide +kernel) (by decide) ?_
          refine lv_aload_n hx hb dX8_ofRow_70 rfl (lv_at hl 0 rfl) ?_
          refine va_get (D := D) (ci := 3) (v := .int (rd (ix p0)).2.2.1) (C := RX5) (T := TX5) (N := 6) hx hb hts in_X8_ofRow_X5 hown hK hP (12 + (ix p0)) (rw_at (X := [(x, .inr (6, [.ref kk, .ref pr, .ref ro, .ref w])), (kk, .inr (0, [.int need, .int c0, .int c1, .int c2, .int hh])), (pr, .inr (1, [.int pc0, .int pz0, .int pc1, .int pz1])), (dr, .inr (4, [.ref sd, .int (nI ds)])), (sd, .inl (cI, 40, .inl fd)), (w, .inr (5, [.ref wr, .ref wc, .int (nI nr), .int (nI cc), .int ch])), (wr, .inl (cR, 30, .inr (.inr (.inr (.inr (rwA nr ra)))))), (wc, .inl (cI, 30, .inl cp)), (ro, .inr (2, [.ref wt, .ref tw, .ref dr])), (wt, .inl (cI, 36, .inl fr)), (tw, .inr (4, [.ref sw, .int (nI wn)])), (sw, .inl (cI, 40, .inl fw))]) (inR_lt hn30 o_5)) rfl 2 (by decide) (hts (.fieldLink RX8 180 "WallCount$Row" "b" "I") (List.mem_of_getElem? (i := 4) rfl)) (fun _ h9 => h9) rfl dX8_ofRow_71 ?_
          exact w_iret hx hb hr hlocks hE dX8_ofRow_74
        · have hE := itF hE c_16_2
          by_cases c_16_3 : p1 = 3
          · have hE := itT hE c_16_3
            refine lv_tableIn (tgt := 75) hx hb dX8_ofRow_16 (by rw [c_16_3]; decide +kernel) (by rw [c_16_3]; decide +kernel) (off := 59) (by rw [c_16_3]; decide +kernel) (by decide) ?_
            refine lv_aload_n hx hb dX8_ofRow_75 rfl (lv_at hl 0 rfl) ?_
            refine va_get (D := D) (ci := 3) (v := .int (rd (ix p0)).2.2.2.1) (C := RX5) (T := TX5) (N := 6) hx hb hts in_X8_ofRow_X5 hown hK hP (12 + (ix p0)) (rw_at (X := [(x, .inr (6, [.ref kk, .ref pr, .ref ro, .ref w])), (kk, .inr (0, [.int need, .int c0, .int c1, .int c2, .int hh])), (pr, .inr (1, [.int pc0, .int pz0, .int pc1, .int pz1])), (dr, .inr (4, [.ref sd, .int (nI ds)])), (sd, .inl (cI, 40, .inl fd)), (w, .inr (5, [.ref wr, .ref wc, .int (nI nr), .int (nI cc), .int ch])), (wr, .inl (cR, 30, .inr (.inr (.inr (.inr (rwA nr ra)))))), (wc, .inl (cI, 30, .inl cp)), (ro, .inr (2, [.ref wt, .ref tw, .ref dr])), (wt, .inl (cI, 36, .inl fr)), (tw, .inr (4, [.ref sw, .int (nI wn)])), (sw, .inl (cI, 40, .inl fw))]) (inR_lt hn30 o_5)) rfl 3 (by decide) (hts (.fieldLink RX8 189 "WallCount$Row" "hour" "I") (List.mem_of_getElem? (i := 5) rfl)) (fun _ h9 => h9) rfl dX8_ofRow_76 ?_
            exact w_iret hx hb hr hlocks hE dX8_ofRow_79
          · have hE := itF hE c_16_3
            by_cases c_16_4 : p1 = 4
            · have hE := itT hE c_16_4
              refine lv_tableIn (tgt := 80) hx hb dX8_ofRow_16 (by rw [c_16_4]; decide +kernel) (by rw [c_16_4]; decide +kernel) (off := 64) (by rw [c_16_4]; decide +kernel) (by decide) ?_
              refine lv_aload_n hx hb dX8_ofRow_80 rfl (lv_at hl 1 rfl) ?_
              refine va_get (D := D) (ci := 6) (v := .ref w) (C := RX8) (T := TX8) (N := 4) hx hb hts in_X8_ofRow_X8 hown hK hP 0 rfl rfl 3 (by decide) (hts (.fieldLink RX8 33 "WallCount" "wall" "LWallCount$Wall;") (List.mem_of_getElem? (i := 1) rfl)) (fun _ h9 => h9) rfl dX8_ofRow_81 ?_
              refine lv_iload_n hx hb dX8_ofRow_84 rfl (lv_at hl 2 rfl) ?_
              refine lv_aload_n hx hb dX8_ofRow_85 rfl (lv_at hl 1 rfl) ?_
              refine va_get (D := D) (ci := 6) (v := .ref ro) (C := RX8) (T := TX8) (N := 4) hx hb hts in_X8_ofRow_X8 hown hK hP 0 rfl rfl 2 (by decide) (hts (.fieldLink RX8 26 "WallCount" "roll" "LWallCount$Roll;") (List.mem_of_getElem? (i := 6) rfl)) (fun _ h9 => h9) rfl dX8_ofRow_86 ?_
              refine ro_call (va_runV (As := [.int p0, .ref ro]) (rest := []) ⟨hx, hb, hml, hown, hts⟩ (c_X7_kindOf l D cI cZ cR _ w wr wc ro wt tw sw dr nr ra rd (nI cc) ch cp fr (nI wn) fw p0 hn30) (cwV 2 hts gX8_ofRow_X7_kindOf rfl rfl rfl ⟨rfl, hd_X7_kindOf⟩ ⟨(Nat.le_of_ble_eq_true rfl), (Nat.le_of_ble_eq_true rfl)⟩) (po_preV hAM hP.tail.tail.tail.tail.tail (va_recv hK hP (ci := 5) (q0 := 5) rfl rfl)) rfl rfl hl.1 rfl (lv_room (Nat.le_of_ble_eq_true rfl)) dX8_ofRow_89 ⟨(Nat.le_of_ble_eq_true rfl), (Nat.le_of_ble_eq_true rfl)⟩) ?_
              exact w_iret hx hb hr hlocks hE dX8_ofRow_92
            · have hE := itF hE c_16_4
              by_cases c_16_5 : p1 = 5
              · have hE := itT hE c_16_5
                refine lv_tableIn (tgt := 93) hx hb dX8_ofRow_16 (by rw [c_16_5]; decide +kernel) (by rw [c_16_5]; decide +kernel) (off := 77) (by rw [c_16_5]; decide +kernel) (by decide) ?_
                refine lv_aload_n hx hb dX8_ofRow_93 rfl (lv_at hl 0 rfl) ?_
                refine ro_call (va_runV (As := []) (rest := []) ⟨hx, hb, hml, hown, hts⟩ (c_X5_word l D cI cZ cR _ (ra (ix p0)) (rd (ix p0)).1 (rd (ix p0)).2.1 (rd (ix p0)).2.2.1 (rd (ix p0)).2.2.2.1 (rd (ix p0)).2.2.2.2.1 (rd (ix p0)).2.2.2.2.2) (cwV 0 hts gX8_ofRow_X5_word rfl rfl rfl ⟨rfl, hd_X5_word⟩ ⟨(Nat.le_of_ble_eq_true rfl), (Nat.le_of_ble_eq_true rfl)⟩) (po_preV hAM (va_one hP (rw_at (X := [(x, .inr (6, [.ref kk, .ref pr, .ref ro, .ref w])), (kk, .inr (0, [.int need, .int c0, .int c1, .int c2, .int hh])), (pr, .inr (1, [.int pc0, .int pz0, .int pc1, .int pz1])), (dr, .inr (4, [.ref sd, .int (nI ds)])), (sd, .inl (cI, 40, .inl fd)), (w, .inr (5, [.ref wr, .ref wc, .int (nI nr), .int (nI cc), .int ch])), (wr, .inl (cR, 30, .inr (.inr (.inr (.inr (rwA nr ra)))))), (wc, .inl (cI, 30, .inl cp)), (ro, .inr (2, [.ref wt, .ref tw, .ref dr])), (wt, .inl (cI, 36, .inl fr)), (tw, .inr (4, [.ref sw, .int (nI wn)])), (sw, .inl (cI, 40, .inl fw))]) (inR_lt hn30 o_5))) (va_recv hK hP (ci := 3) (q0 := (12 + (ix p0))) rfl (rw_at (X := [(x, .inr (6, [.ref kk, .ref pr, .ref ro, .ref w])), (kk, .inr (0, [.int need, .int c0, .int c1, .int c2, .int hh])), (pr, .inr (1, [.int pc0, .int pz0, .int pc1, .int pz1])), (dr, .inr (4, [.ref sd, .int (nI ds)])), (sd, .inl (cI, 40, .inl fd)), (w, .inr (5, [.ref wr, .ref wc, .int (nI nr), .int (nI cc), .int ch])), (wr, .inl (cR, 30, .inr (.inr (.inr (.inr (rwA nr ra)))))), (wc, .inl (cI, 30, .inl cp)), (ro, .inr (2, [.ref wt, .ref tw, .ref dr])), (wt, .inl (cI, 36, .inl fr)), (tw, .inr (4, [.ref sw, .int (nI wn)])), (sw, .inl (cI, 40, .inl fw))]) (inR_lt hn30 o_5)))) rfl rfl hl.1 rfl (lv_room (Nat.le_of_ble_eq_true rfl)) dX8_ofRow_94 ⟨(Nat.le_of_ble_eq_true rfl), (Nat.le_of_ble_eq_true rfl)⟩) ?_
                exact w_iret hx hb hr hlocks hE dX8_ofRow_97
              · have hE := itF hE c_16_5
                by_cases c_16_6 : p1 = 6
                · have hE := itT hE c_16_6
                  refine lv_tableIn (tgt := 98) hx hb dX8_ofRow_16 (by rw [c_16_6]; decide +kernel) (by rw [c_16_6]; decide +kernel) (off := 82) (by rw [c_16_6]; decide +kernel) (by decide) ?_
                  refine lv_aload_n hx hb dX8_ofRow_98 rfl (lv_at hl 1 rfl) ?_
                  refine va_get (D := D) (ci := 6) (v := .ref w) (C := RX8) (T := TX8) (N := 4) hx hb hts in_X8_ofRow_X8 hown hK hP 0 rfl rfl 3 (by decide) (hts (.fieldLink RX8 33 "WallCount" "wall" "LWallCount$Wall;") (List.mem_of_getElem? (i := 1) rfl)) (fun _ h9 => h9) rfl dX8_ofRow_99 ?_
                  refine lv_iload_n hx hb dX8_ofRow_102 rfl (lv_at hl 2 rfl) ?_
                  refine ro_call (va_runV (As := [.int p0]) (rest := []) ⟨hx, hb, hml, hown, hts⟩ (c_X7_headBehind l D cI cZ cR _ w wr wc ro wt tw sw dr nr ra rd (nI cc) ch cp fr (nI wn) fw p0 hn30) (cwV 1 hts gX8_ofRow_X7_headBehind rfl rfl rfl ⟨rfl, hd_X7_headBehind⟩ ⟨(Nat.le_of_ble_eq_true rfl), (Nat.le_of_ble_eq_true rfl)⟩) (po_preV hAM hP.tail.tail.tail.tail.tail (va_recv hK hP (ci := 5) (q0 := 5) rfl rfl)) rfl rfl hl.1 rfl (lv_room (Nat.le_of_ble_eq_true rfl)) dX8_ofRow_103 ⟨(Nat.le_of_ble_eq_true rfl), (Nat.le_of_ble_eq_true rfl)⟩) ?_
                  exact w_iret hx hb hr hlocks hE dX8_ofRow_106
                · have hE := itF hE c_16_6
                  refine lv_tableOut (tgt := 107) hx hb dX8_ofRow_16 (sw_out7 c_16_0 c_16_1 c_16_2 c_16_3 c_16_4 c_16_5 c_16_6) (by decide) ?_
                  refine lv_bipush (v := (-2)) hx hb dX8_ofRow_107 (by decide +kernel) ?_
                  exact w_iret hx hb hr hlocks hE dX8_ofRow_109
  · have hE := itF hE o_5
    rw [at_out hn30 o_5]
    refine lv_astore_nN (lv' := [(3, .null), (0, .ref x), (1, .int p0), (2, .int p1)]) hx hb dX8_ofRow_8 rfl hl (by decide) rfl (fun ls hl => ?_)
    refine lv_aload_nN hx hb dX8_ofRow_9 rfl (lv_at hl 0 rfl) ?_
    refine lv_ifnonnullN hx hb dX8_ofRow_10 ?_
    refine lv_iconst (v := (-1)) hx hb dX8_ofRow_13 (by decide) ?_
    exact w_iret hx hb hr hlocks hE dX8_ofRow_14
