theorem hd_X7_size : yX7_size.cls ≠ "java/lang/invoke/MethodHandle" ∧ yX7_size.cls ≠ "java/lang/invoke/VarHandle" ∧ (parseMethodDescriptor yX7_size.desc).map (fun d => d.parameters.length) = some 0 := by decide +kernel
def x_X7_size (nr : Nat) : Int32 := (nI nr)
def rm_X7_size : Room := { frames := 0, cells := 0, slots := 0, locals := 0 }
theorem in_X7_size_X7 : ∀ w ∈ wsX70, w ∈ wsX7_size := fun _ h => List.mem_cons_of_mem _ (List.mem_append_right _ h)
set_option maxHeartbeats 4000000 in
set_option maxRecDepth 100000 in
theorem c_X7_size (l : Launch) (D : va_G) (cI cZ cR : ClassId) (H0 : Heap) (w wr wc ro wt tw sw dr : Nat) (nr : Nat) (ra : Nat → Nat) (rd : Nat → R6) (cs : Int32) (ch : Int32) (cp : Nat → Int32) (fr : Nat → Int32) (nt : Int32) (ft : Nat → Int32) : Met l yX7_size wsX7_size rm_X7_size (po_P D cI cZ cR [.ref w] ([(w, .inr (5, [.ref wr, .ref wc, .int (nI nr), .int cs, .int ch])), (wr, .inl (cR, 30, .inr (.inr (.inr (.inr (rwA nr ra)))))), (wc, .inl (cI, 30, .inl cp)), (ro, .inr (2, [.ref wt, .ref tw, .ref dr])), (wt, .inl (cI, 36, .inl fr)), (tw, .inr (4, [.ref sw, .int nt])), (sw, .inl (cI, 40, .inl ft))] ++ rwL nr ra rd) H0) (po_Q (some (.int (x_X7_size nr))) H0) 0 0 nF := by
  refine Met.ofW (cc := cX7_size) (maxL := 1) (ret := (some .int)) (by decide +kernel) rfl ?_
  intro p e s m args below meth c s₁ B hml hv
  obtain ⟨rfl, rfl, hAM, hP⟩ := hv
  have hx := B.exec
  have hb := B.bytes
  have hr := B.returns
  have hts := atoms_spec (ws := wsX7_size) B.pre
  have hown : s.vm.findClass RX7 = some m.cls := findClass_of_methodNamed B.named
  have hlocks := B.notSynchronized
  have hK := hAM.1
  generalize hE : (x_X7_size nr) = Rv
  rw [x_X7_size] at hE
  have hl := lv_entry ([.ref w]) (n := 1) (Nat.le_of_ble_eq_true rfl)
  rw [lg_entry_eq]
  generalize (lg_sl ([.ref w]) ++ List.replicate (1 - (lg_sl ([.ref w])).length) Slot.unset).toArray = ls at hl ⊢
  have hl : lv_has ls 1 [(0, .ref w)] := hl
  refine lv_aload_n hx hb dX7_size_0 rfl (lv_at hl 0 rfl) ?_
  refine va_get (D := D) (ci := 5) (v := .int (nI nr)) (C := RX7) (T := TX7) (N := 5) hx hb hts in_X7_size_X7 hown hK hP 0 rfl rfl 2 (by decide) (hts (.fieldLink RX7 21 "WallCount$Wall" "size" "I") (List.mem_of_getElem? (i := 1) rfl)) (fun _ h9 => h9) rfl dX7_size_1 ?_
  exact w_iret hx hb hr hlocks hE dX7_size_4

theorem hd_X7_copiedSize : yX7_copiedSize.cls ≠ "java/lang/invoke/MethodHandle" ∧ yX7_copiedSize.cls ≠ "java/lang/invoke/VarHandle" ∧ (parseMethodDescriptor yX7_copiedSize.desc).map (fun d => d.parameters.length) = some 0 := by decide +kernel
def x_X7_copiedSize (cs : Int32) : Int32 := cs
def rm_X7_copiedSize : Room := { frames := 0, cells := 0, slots := 0, locals := 0 }
theorem in_X7_copiedSize_X7 : ∀ w ∈ wsX70, w ∈ wsX7_copiedSize := fun _ h => List.mem_cons_of_mem _ (List.mem_append_right _ h)
set_option maxHeartbeats 4000000 in
set_option maxRecDepth 100000 in
theorem c_X7_copiedSize (l : Launch) (D : va_G) (cI cZ cR : ClassId) (H0 : Heap) (w wr wc ro wt tw sw dr : Nat) (nr : Nat) (ra : Nat → Nat) (rd : Nat → R6) (cs : Int32) (ch : Int32) (cp : Nat → Int32) (fr : Nat → Int32) (nt : Int32) (ft : Nat → Int32) : Met l yX7_copiedSize wsX7_copiedSize rm_X7_copiedSize (po_P D cI cZ cR [.ref w] ([(w, .inr (5, [.ref wr, .ref wc, .int (nI nr), .int cs, .int ch])), (wr, .inl (cR, 30, .inr (.inr (.inr (.inr (rwA nr ra)))))), (wc, .inl (cI, 30, .inl cp)), (ro, .inr (2, [.ref wt, .ref tw, .ref dr])), (wt, .inl (cI, 36, .inl fr)), (tw, .inr (4, [.ref sw, .int nt])), (sw, .inl (cI, 40, .inl ft))] ++ rwL nr ra rd) H0) (po_Q (some (.int (x_X7_copiedSize cs))) H0) 0 0 nF := by
  refine Met.ofW (cc := cX7_copiedSize) (maxL := 1) (ret := (some .int)) (by decide +kernel) rfl ?_
  intro p e s m args below meth c s₁ B hml hv
  obtain ⟨rfl, rfl, hAM, hP⟩ := hv
  have hx := B.exec
  have hb := B.bytes
  have hr := B.returns
  have hts := atoms_spec (ws := wsX7_copiedSize) B.pre
  have hown : s.vm.findClass RX7 = some m.cls := findClass_of_methodNamed B.named
  have hlocks := B.notSynchronized
  have hK := hAM.1
  generalize hE : (x_X7_copiedSize cs) = Rv
  rw [x_X7_copiedSize] at hE
  have hl := lv_entry ([.ref w]) (n := 1) (Nat.le_of_ble_eq_true rfl)
  rw [lg_entry_eq]
  generalize (lg_sl ([.ref w]) ++ List.replicate (1 - (lg_sl ([.ref w])).length) Slot.unset).toArray = ls at hl ⊢
  have hl : lv_has ls 1 [(0, .ref w)] := hl
  refine lv_aload_n hx hb dX7_copiedSize_0 rfl (lv_at hl 0 rfl) ?_
  refine va_get (D := D) (ci := 5) (v := .int cs) (C := RX7) (T := TX7) (N := 5) hx hb hts in_X7_copiedSize_X7 hown hK hP 0 rfl rfl 3 (by decide) (hts (.fieldLink RX7 25 "WallCount$Wall" "copiedSize" "I") (List.mem_of_getElem? (i := 1) rfl)) (fun _ h9 => h9) rfl dX7_copiedSize_1 ?_
  exact w_iret hx hb hr hlocks hE dX7_copiedSize_4

theorem hd_X7_closeHour : yX7_closeHour.cls ≠ "java/lang/invoke/MethodHandle" ∧ yX7_closeHour.cls ≠ "java/lang/invoke/VarHandle" ∧ (parseMethodDescriptor yX7_closeHour.desc).map (fun d => d.parameters.length) = some 0 := by decide +kernel
def x_X7_closeHour (ch : Int32) : Int32 := ch
def rm_X7_closeHour : Room := { frames := 0, cells := 0, slots := 0, locals := 0 }
theorem in_X7_closeHour_X7 : ∀ w ∈ wsX70, w ∈ wsX7_closeHour := fun _ h => List.mem_cons_of_mem _ (List.mem_append_right _ h)
set_option maxHeartbeats 4000000 in
set_option maxRecDepth 100000 in
theorem c_X7_closeHour (l : Launch) (D : va_G) (cI cZ cR : ClassId) (H0 : Heap) (w wr wc ro wt tw sw dr : Nat) (nr : Nat) (ra : Nat → Nat) (rd : Nat → R6) (cs : Int32) (ch : Int32) (cp : Nat → Int32) (fr : Nat → Int32) (nt : Int32) (ft : Nat → Int32) : Met l yX7_closeHour wsX7_closeHour rm_X7_closeHour (po_P D cI cZ cR [.ref w] ([(w, .inr (5, [.ref wr, .ref wc, .int (nI nr), .int cs, .int ch])), (wr, .inl (cR, 30, .inr (.inr (.inr (.inr (rwA nr ra)))))), (wc, .inl (cI, 30, .inl cp)), (ro, .inr (2, [.ref wt, .ref tw, .ref dr])), (wt, .inl (cI, 36, .inl fr)), (tw, .inr (4, [.ref sw, .int nt])), (sw, .inl (cI, 40, .inl ft))] ++ rwL nr ra rd) H0) (po_Q (some (.int (x_X7_closeHour ch))) H0) 0 0 nF := by
  refine Met.ofW (cc := cX7_closeHour) (maxL := 1) (ret := (some .int)) (by decide +kernel) rfl ?_
  intro p e s m args below meth c s₁ B hml hv
  obtain ⟨rfl, rfl, hAM, hP⟩ := hv
  have hx := B.exec
  have hb := B.bytes
  have hr := B.returns
  have hts := atoms_spec (ws := wsX7_closeHour) B.pre
  have hown : s.vm.findClass RX7 = some m.cls := findClass_of_methodNamed B.named
  have hlocks := B.notSynchronized
  have hK := hAM.1
  generalize hE : (x_X7_closeHour ch) = Rv
  rw [x_X7_closeHour] at hE
  have hl := lv_entry ([.ref w]) (n := 1) (Nat.le_of_ble_eq_true rfl)
  rw [lg_entry_eq]
  generalize (lg_sl ([.ref w]) ++ List.replicate (1 - (lg_sl ([.ref w])).length) Slot.unset).toArray = ls at hl ⊢
  have hl : lv_has ls 1 [(0, .ref w)] := hl
  refine lv_aload_n hx hb dX7_closeHour_0 rfl (lv_at hl 0 rfl) ?_
  refine va_get (D := D) (ci := 5) (v := .int ch) (C := RX7) (T := TX7) (N := 5) hx hb hts in_X7_closeHour_X7 hown hK hP 0 rfl rfl 4 (by decide) (hts (.fieldLink RX7 28 "WallCount$Wall" "closeHour" "I") (List.mem_of_getElem? (i := 1) rfl)) (fun _ h9 => h9) rfl dX7_closeHour_1 ?_
  exact w_iret hx hb hr hlocks hE dX7_closeHour_4

theorem hd_X7_isFull : yX7_isFull.cls ≠ "java/lang/invoke/MethodHandle" ∧ yX7_isFull.cls ≠ "java/lang/invoke/VarHandle" ∧ (parseMethodDescriptor yX7_isFull.desc).map (fun d => d.parameters.length) = some 0 := by decide +kernel
def x_X7_isFull (nr : Nat) : Bool := (if (nI nr) < 30 then false else true)
def rm_X7_isFull : Room := { frames := 0, cells := 0, slots := 0, locals := 0 }
theorem in_X7_isFull_X7 : ∀ w ∈ wsX70, w ∈ wsX7_isFull := fun _ h => List.mem_cons_of_mem _ (List.mem_append_right _ h)
set_option maxHeartbeats 4000000 in
set_option maxRecDepth 100000 in
theorem c_X7_isFull (l : Launch) (D : va_G) (cI cZ cR : ClassId) (H0 : Heap) (w wr wc ro wt tw sw dr : Nat) (nr : Nat) (ra : Nat → Nat) (rd : Nat → R6) (cs : Int32) (ch : Int32) (cp : Nat → Int32) (fr : Nat → Int32) (nt : Int32) (ft : Nat → Int32) : Met l yX7_isFull wsX7_isFull rm_X7_isFull (po_P D cI cZ cR [.ref w] ([(w, .inr (5, [.ref wr, .ref wc, .int (nI nr), .int cs, .int ch])), (wr, .inl (cR, 30, .inr (.inr (.inr (.inr (rwA nr ra)))))), (wc, .inl (cI, 30, .inl cp)), (ro, .inr (2, [.ref wt, .ref tw, .ref dr])), (wt, .inl (cI, 36, .inl fr)), (tw, .inr (4, [.ref sw, .int nt])), (sw, .inl (cI, 40, .inl ft))] ++ rwL nr ra rd) H0) (po_Q (some (.int (bI (x_X7_isFull nr)))) H0) 0 0 nF := by
  refine Met.ofW (cc := cX7_isFull) (maxL := 1) (ret := (some .boolean)) (by decide +kernel) rfl ?_
  intro p e s m args below meth c s₁ B hml hv
  obtain ⟨rfl, rfl, hAM, hP⟩ := hv
  have hx := B.exec
  have hb := B.bytes
  have hr := B.returns
  have hts := atoms_spec (ws := wsX7_isFull) B.pre
  have hown : s.vm.findClass RX7 = some m.cls := findClass_of_methodNamed B.named
  have hlocks := B.notSynchronized
  have hK := hAM.1
  generalize hE : (x_X7_isFull nr) = Rv
  rw [x_X7_isFull] at hE
  have hl := lv_entry ([.ref w]) (n := 1) (Nat.le_of_ble_eq_true rfl)
  rw [lg_entry_eq]
  generalize (lg_sl ([.ref w]) ++ List.replicate (1 - (lg_sl ([.ref w])).length) Slot.unset).toArray = ls at hl ⊢
  have hl : lv_has ls 1 [(0, .ref w)] := hl
  refine lv_aload_n hx hb dX7_isFull_0 rfl (lv_at hl 0 rfl) ?_
  refine va_get (D := D) (ci := 5) (v := .int (nI nr)) (C := RX7) (T := TX7) (N := 5) hx hb hts in_X7_isFull_X7 hown hK hP 0 rfl rfl 2 (by decide) (hts (.fieldLink RX7 21 "WallCount$Wall" "size" "I") (List.mem_of_getElem? (i := 1) rfl)) (fun _ h9 => h9) rfl dX7_isFull_1 ?_
  refine lv_aload_n hx hb dX7_isFull_4 rfl (lv_at hl 0 rfl) ?_
  refine va_get (D := D) (ci := 5) (v := .ref wr) (C := RX7) (T := TX7) (N := 5) hx hb hts in_X7_isFull_X7 hown hK hP 0 rfl rfl 0 (by decide) (hts (.fieldLink RX7 11 "WallCount$Wall" "rows" "[LWallCount$Row;") (List.mem_of_getElem? (i := 2) rfl)) (fun _ h9 => h9) rfl dX7_isFull_5 ?_
  refine va_alen (v := 30) hx hb hK hP 1 2 rfl rfl rfl dX7_isFull_8 ?_
  refine lv_icmp_lt (tgt := 16) hx hb dX7_isFull_9 (by decide) (fun c_9 => ?_) (fun c_9 => ?_)
  · have hE := itT hE c_9
    refine lv_iconst (v := 0) hx hb dX7_isFull_16 (by decide) ?_
    exact w_zret (v := false) hx hb hr hlocks hE dX7_isFull_17
  · have hE := itF hE c_9
    refine lv_iconst (v := 1) hx hb dX7_isFull_12 (by decide) ?_
    refine lv_goto (tgt := 17) hx hb dX7_isFull_13 (by decide) ?_
    exact w_zret (v := true) hx hb hr hlocks hE dX7_isFull_17

theorem hd_X7_at : yX7_at.cls ≠ "java/lang/invoke/MethodHandle" ∧ yX7_at.cls ≠ "java/lang/invoke/VarHandle" ∧ (parseMethodDescriptor yX7_at.desc).map (fun d => d.parameters.length) = some 1 := by decide +kernel
def x_X7_at (nr : Nat) (ra : Nat → Nat) (p0 : Int32) : Option Nat := (if p0 < 0 then none else (if (nI nr) ≤ p0 then none else (if 30 ≤ p0 then none else ((rwA nr ra) (ix p0)))))
def rm_X7_at : Room := { frames := 0, cells := 0, slots := 0, locals := 0 }
theorem in_X7_at_X7 : ∀ w ∈ wsX70, w ∈ wsX7_at := fun _ h => List.mem_cons_of_mem _ (List.mem_append_right _ h)
set_option maxHeartbeats 4000000 in
set_option maxRecDepth 100000 in
theorem c_X7_at (l : Launch) (D : va_G) (cI cZ cR : ClassId) (H0 : Heap) (w wr wc ro wt tw sw dr : Nat) (nr : Nat) (ra : Nat → Nat) (rd : Nat → R6) (cs : Int32) (ch : Int32) (cp : Nat → Int32) (fr : Nat → Int32) (nt : Int32) (ft : Nat → Int32) (p0 : Int32) : Met l yX7_at wsX7_at rm_X7_at (po_P D cI cZ cR [.ref w, .int p0] ([(w, .inr (5, [.ref wr, .ref wc, .int (nI nr), .int cs, .int ch])), (wr, .inl (cR, 30, .inr (.inr (.inr (.inr (rwA nr ra)))))), (wc, .inl (cI, 30, .inl cp)), (ro, .inr (2, [.ref wt, .ref tw, .ref dr])), (wt, .inl (cI, 36, .inl fr)), (tw, .inr (4, [.ref sw, .int nt])), (sw, .inl (cI, 40, .inl ft))] ++ rwL nr ra rd) H0) (po_Q (some (va_rf (x_X7_at nr ra p0))) H0) 0 0 nF := by
  refine Met.ofW (cc := cX7_at) (maxL := 2) (ret := (some (.object "WallCount$Row"))) (by decide +kernel) rfl ?_
  intro p e s m args below meth c s₁ B hml hv
  obtain ⟨rfl, rfl, hAM, hP⟩ := hv
  have hx := B.exec
  have hb := B.bytes
  have hr := B.returns
  have hts := atoms_spec (ws := wsX7_at) B.pre
  have hown : s.vm.findClass RX7 = some m.cls := findClass_of_methodNamed B.named
  have hlocks := B.notSynchronized
  have hK := hAM.1
  generalize hE : (x_X7_at nr ra p0) = Rv
  rw [x_X7_at] at hE
  have hl := lv_entry ([.ref w, .int p0]) (n := 2) (Nat.le_of_ble_eq_true rfl)
  rw [lg_entry_eq]
  generalize (lg_sl ([.ref w, .int p0]) ++ List.replicate (2 - (lg_sl ([.ref w, .int p0])).length) Slot.unset).toArray = ls at hl ⊢
  have hl : lv_has ls 2 [(0, .ref w), (1, .int p0)] := hl
  refine lv_iload_n hx hb dX7_at_0 rfl (lv_at hl 1 rfl) ?_
  refine lv_if_lt (tgt := 30) hx hb dX7_at_1 (by decide) (fun c_1 => ?_) (fun c_1 => ?_)
  · have hE := itT hE c_1
    refine lv_null hx hb dX7_at_30 ?_
    exact w_qret (v := none) hx hb hr hlocks hE dX7_at_31
  · have hE := itF hE c_1
    refine lv_iload_n hx hb dX7_at_4 rfl (lv_at hl 1 rfl) ?_
    refine lv_aload_n hx hb dX7_at_5 rfl (lv_at hl 0 rfl) ?_
    refine va_get (D := D) (ci := 5) (v := .int (nI nr)) (C := RX7) (T := TX7) (N := 5) hx hb hts in_X7_at_X7 hown hK hP 0 rfl rfl 2 (by decide) (hts (.fieldLink RX7 21 "WallCount$Wall" "size" "I") (List.mem_of_getElem? (i := 1) rfl)) (fun _ h9 => h9) rfl dX7_at_6 ?_
    refine lv_icmp_ge (tgt := 30) hx hb dX7_at_9 (by decide) (fun c_9 => ?_) (fun c_9 => ?_)
    · have hE := itT hE c_9
      refine lv_null hx hb dX7_at_30 ?_
      exact w_qret (v := none) hx hb hr hlocks hE dX7_at_31
    · have hE := itF hE c_9
      refine lv_iload_n hx hb dX7_at_12 rfl (lv_at hl 1 rfl) ?_
      refine lv_aload_n hx hb dX7_at_13 rfl (lv_at hl 0 rfl) ?_
      refine va_get (D := D) (ci := 5) (v := .ref wr) (C := RX7) (T := TX7) (N := 5) hx hb hts in_X7_at_X7 hown hK hP 0 rfl rfl 0 (by decide) (hts (.fieldLink RX7 11 "WallCount$Wall" "rows" "[LWallCount$Row;") (List.mem_of_getElem? (i := 2) rfl)) (fun _ h9 => h9) rfl dX7_at_14 ?_
      refine va_alen (v := 30) hx hb hK hP 1 2 rfl rfl rfl dX7_at_17 ?_
      refine lv_icmp_ge (tgt := 30) hx hb dX7_at_18 (by decide) (fun c_18 => ?_) (fun c_18 => ?_)
      · have hE := itT hE c_18
        refine lv_null hx hb dX7_at_30 ?_
        exact w_qret (v := none) hx hb hr hlocks hE dX7_at_31
      · have hE := itF hE c_18
        refine lv_aload_n hx hb dX7_at_21 rfl (lv_at hl 0 rfl) ?_
        refine va_get (D := D) (ci := 5) (v := .ref wr) (C := RX7) (T := TX7) (N := 5) hx hb hts in_X7_at_X7 hown hK hP 0 rfl rfl 0 (by decide) (hts (.fieldLink RX7 11 "WallCount$Wall" "rows" "[LWallCount$Row;") (List.mem_of_getElem? (i := 2) rfl)) (fun _ h9 => h9) rfl dX7_at_22 ?_
        refine lv_iload_n hx hb dX7_at_25 rfl (lv_at hl 1 rfl) ?_
        refine va_aldq hx hb hK hP 1 2 rfl rfl (in_of2 c_1 rfl (by decide) c_18) dX7_at_26 ?_
        refine lv_goto (tgt := 31) hx hb dX7_at_27 (by decide) ?_
        exact w_qret (v := ((rwA nr ra) (ix p0))) hx hb hr hlocks hE dX7_at_31

theorem at_in {nr : Nat} {ra : Nat → Nat} {p : Int32} (hn : nr ≤ 30) (h : inR nr p = true) : va_rf (x_X7_at nr ra p) = .ref (ra (ix p)) := by
  obtain ⟨h0, h1⟩ := inR_iff.mp h
  have h2 := inR_lt hn h
  have h3 : ¬ (30 : Int32) ≤ p := fun q => by
    rw [nI_ix h0] at q
    exact nI_ge (show ix p < 30 by omega) (by decide) q
  rw [x_X7_at, if_neg h0, if_neg h1, if_neg h3, rwA, if_pos h2]
  rfl
theorem at_out {nr : Nat} {ra : Nat → Nat} {p : Int32} (_ : nr ≤ 30) (h : ¬ inR nr p = true) : va_rf (x_X7_at nr ra p) = .null := by
  rw [inR_iff] at h
  rw [x_X7_at]
  by_cases h0 : p < 0
  · rw [if_pos h0]
    rfl
  · rw [if_neg h0, if_pos (Classical.byContradiction fun q => h ⟨h0, q⟩)]
    rfl

theorem hd_X7_hasLaterOne : yX7_hasLaterOne.cls ≠ "java/lang/invoke/MethodHandle" ∧ yX7_hasLaterOne.cls ≠ "java/lang/invoke/VarHandle" ∧ (parseMethodDescriptor yX7_hasLaterOne.desc).map (fun d => d.parameters.length) = some 2 := by decide +kernel
def x_X7_hasLaterOne_L4 (nr : Nat) (rd : Nat → R6) (ch : Int32) (p0 : Int32) (p1 : Int32) : Nat → Int32 → Bool
  | 0, _ => false
  | n + 1, v3 => (if (nI nr) ≤ v3 then false else (if inR nr v3 = true then (if (rd (ix v3)).1 = p0 then (if ch < (rd (ix v3)).2.2.2.1 then (x_X7_hasLaterOne_L4 nr rd ch p0 p1 n (v3 + 1)) else (if (rd (ix v3)).2.2.2.2.1 = true then true else (x_X7_hasLaterOne_L4 nr rd ch p0 p1 n (v3 + 1)))) else (x_X7_hasLaterOne_L4 nr rd ch p0 p1 n (v3 + 1))) else (x_X7_hasLaterOne_L4 nr rd ch p0 p1 n (v3 + 1))))
def x_X7_hasLaterOne (nr : Nat) (rd : Nat → R6) (ch : Int32) (p0 : Int32) (p1 : Int32) : Bool := (x_X7_hasLaterOne_L4 nr rd ch p0 p1 (nr + 1) (p1 + 1))
def rm_X7_hasLaterOne : Room := { frames := 1, cells := 0, slots := 0, locals := 21 }
theorem in_X7_hasLaterOne_X5 : ∀ w ∈ wsX50, w ∈ wsX7_hasLaterOne := fun _ h => List.mem_cons_of_mem _ (List.mem_append_right _ h)
theorem in_X7_hasLaterOne_X7 : ∀ w ∈ wsX70, w ∈ wsX7_hasLaterOne := fun _ h => List.mem_cons_of_mem _ (List.mem_append_left _ (List.mem_append_right _ h))
set_option maxHeartbeats 4000000 in
set_option maxRecDepth 100000 in
theorem c_X7_hasLaterOne (l : Launch) (D : va_G) (cI cZ cR : ClassId) (H0 : Heap) (w wr wc ro wt tw sw dr : Nat) (nr : Nat) (ra : Nat → Nat) (rd : Nat → R6) (cs : Int32) (ch : Int32) (cp : Nat → Int32) (fr : Nat → Int32) (nt : Int32) (ft : Nat → Int32) (p0 : Int32) (p1 : Int32) (hn30 : nr ≤ 30) (hin : inR nr p1 = true) : Met l yX7_hasLaterOne wsX7_hasLaterOne rm_X7_hasLaterOne (po_P D cI cZ cR [.ref w, .int p0, .int p1] ([(w, .inr (5, [.ref wr, .ref wc, .int (nI nr), .int cs, .int ch])), (wr, .inl (cR, 30, .inr (.inr (.inr (.inr (rwA nr ra)))))), (wc, .inl (cI, 30, .inl cp)), (ro, .inr (2, [.ref wt, .ref tw, .ref dr])), (wt, .inl (cI, 36, .inl fr)), (tw, .inr (4, [.ref sw, .int nt])), (sw, .inl (cI, 40, .inl ft))] ++ rwL nr ra rd) H0) (po_Q (some (.int (bI (x_X7_hasLaterOne nr rd ch p0 p1)))) H0) 0 0 nF := by
  refine Met.ofW (cc := cX7_hasLaterOne) (maxL := 5) (ret := (some .boolean)) (by decide +kernel) rfl ?_
  intro p e s m args below meth c s₁ B hml hv
  obtain ⟨rfl, rfl, hAM, hP⟩ := hv
  have hx := B.exec
  have hb := B.bytes
  have hr := B.returns
  have hts := atoms_spec (ws := wsX7_hasLaterOne) B.pre
  have hown : s.vm.findClass RX7 = some m.cls := findClass_of_methodNamed B.named
  have hlocks := B.notSynchronized
  have hK := hAM.1
  generalize hE : (x_X7_hasLaterOne nr rd ch p0 p1) = Rv
  rw [x_X7_hasLaterOne] at hE
  have hl := lv_entry ([.ref w, .int p0, .int p1]) (n := 5) (Nat.le_of_ble_eq_true rfl)
  rw [lg_entry_eq]
  generalize (lg_sl ([.ref w, .int p0, .int p1]) ++ List.replicate (5 - (lg_sl ([.ref w, .int p0, .int p1])).length) Slot.unset).toArray = ls at hl ⊢
  have hl : lv_has ls 5 [(0, .ref w), (1, .int p0), (2, .int p1)] := hl
  refine lv_iload_n hx hb dX7_hasLaterOne_0 rfl (lv_at hl 2 rfl) ?_
  refine lv_iconst (v := 1) hx hb dX7_hasLaterOne_1 (by decide) ?_
  refine lv_iadd hx hb dX7_hasLaterOne_2 ?_
  refine lv_istore_n (lv' := [(3, .int (p1 + 1)), (0, .ref w), (1, .int p0), (2, .int p1)]) hx hb dX7_hasLaterOne_3 rfl hl (by decide) rfl (fun ls hl => ?_)
  suffices loop : ∀ (n : Nat) (v3 : Int32), (UP 0 nr n v3) → x_X7_hasLaterOne_L4 nr rd ch p0 p1 n v3 = Rv → ∀ ls : Array Slot, lv_has ls 5 [(0, .ref w), (1, .int p0), (2, .int p1), (3, .int v3)] → W p l e (headSpec wsX7_hasLaterOne rm_X7_hasLaterOne).room s m ([.ref w, .int p0, .int p1] : List Value).toArray below meth c s.heap [] 0 0 (MQ below (po_Q (some (.int (bI Rv))) s.heap) ([.ref w, .int p0, .int p1] : List Value).toArray s 0 0 nF) (F0 m 4 ls []) from
    loop (nr + 1) (p1 + 1) (up_next hn30 hin) hE ls (lv_sub hl [1, 2, 3, 0] rfl)
  clear hE hl ls
  intro n
  induction n with
  | zero =>
    intro v3 hI _ _ _
    exact absurd hI (UP.zero)
  | succ n ih =>
    intro v3 hI hE ls hl
    rw [x_X7_hasLaterOne_L4] at hE
    refine lv_iload_n hx hb dX7_hasLaterOne_4 rfl (lv_at hl 3 rfl) ?_
    refine lv_aload_n hx hb dX7_hasLaterOne_5 rfl (lv_at hl 0 rfl) ?_
    refine va_get (D := D) (ci := 5) (v := .int (nI nr)) (C := RX7) (T := TX7) (N := 5) hx hb hts in_X7_hasLaterOne_X7 hown hK hP 0 rfl rfl 2 (by decide) (hts (.fieldLink RX7 21 "WallCount$Wall" "size" "I") (List.mem_of_getElem? (i := 1) rfl)) (fun _ h9 => h9) rfl dX7_hasLaterOne_6 ?_
    refine lv_icmp_ge (tgt := 61) hx hb dX7_hasLaterOne_9 (by decide) (fun c_9 => ?_) (fun c_9 => ?_)
    · have hE := itT hE c_9
      refine lv_iconst (v := 0) hx hb dX7_hasLaterOne_61 (by decide) ?_
      exact w_zret (v := false) hx hb hr hlocks hE dX7_hasLaterOne_62
    · have hE := itF hE c_9
      refine lv_aload_n hx hb dX7_hasLaterOne_12 rfl (lv_at hl 0 rfl) ?_
      refine lv_iload_n hx hb dX7_hasLaterOne_13 rfl (lv_at hl 3 rfl) ?_
      refine ro_call (va_runV (As := [.int v3]) (rest := []) ⟨hx, hb, hml, hown, hts⟩ (c_X7_at l D cI cZ cR _ w wr wc ro wt tw sw dr nr ra rd cs ch cp fr nt ft v3) (cwV 1 hts gX7_hasLaterOne_X7_at rfl rfl rfl ⟨rfl, hd_X7_at⟩ ⟨(Nat.le_of_ble_eq_true rfl), (Nat.le_of_ble_eq_true rfl)⟩) (po_preV hAM hP (va_recv hK hP (ci := 5) (q0 := 0) rfl rfl)) rfl rfl hl.1 rfl (lv_room (Nat.le_of_ble_eq_true rfl)) dX7_hasLaterOne_14 ⟨(Nat.le_of_ble_eq_true rfl), (Nat.le_of_ble_eq_true rfl)⟩) ?_
      by_cases o_14 : inR nr v3 = true
      · have hE := itT hE o_14
        rw [at_in hn30 o_14]
        refine lv_astore (lv' := [(4, .ref (ra (ix v3))), (0, .ref w), (1, .int p0), (2, .int p1), (3, .int v3)]) hx hb dX7_hasLaterOne_17 hl (by decide) rfl (fun ls hl => ?_)
        refine lv_aload hx hb dX7_hasLaterOne_19 (lv_at hl 0 rfl) ?_
        refine lv_ifnull hx hb dX7_hasLaterOne_21 ?_
        refine lv_aload hx hb dX7_hasLaterOne_24 (lv_at hl 0 rfl) ?_
        refine va_get (D := D) (ci := 3) (v := .int (rd (ix v3)).1) (C := RX5) (T := TX5) (N := 6) hx hb hts in_X7_hasLaterOne_X5 hown hK hP (7 + (ix v3)) (rw_at (X := [(w, .inr (5, [.ref wr, .ref wc, .int (nI nr), .int cs, .int ch])), (wr, .inl (cR, 30, .inr (.inr (.inr (.inr (rwA nr ra)))))), (wc, .inl (cI, 30, .inl cp)), (ro, .inr (2, [.ref wt, .ref tw, .ref dr])), (wt, .inl (cI, 36, .inl fr)), (tw, .inr (4, [.ref sw, .int nt])), (sw, .inl (cI, 40, .inl ft))]) (inR_lt hn30 o_14)) rfl 0 (by decide) (hts (.fieldLink RX7 42 "WallCount$Row" "voter" "I") (List.mem_of_getElem? (i := 2) rfl)) (fun _ h9 => h9) rfl dX7_hasLaterOne_26 ?_
        refine lv_iload_n hx hb dX7_hasLaterOne_29 rfl (lv_at hl 2 rfl) ?_
        refine lv_icmp_ne (tgt := 55) hx hb dX7_hasLaterOne_30 (by decide) (fun c_30 => ?_) (fun c_30 => ?_)
        · have hE := itF hE c_30
          refine lv_iinc (v := (v3 + 1)) (lv' := [(3, .int (v3 + 1)), (4, .ref (ra (ix v3))), (0, .ref w), (1, .int p0), (2, .int p1)]) hx hb dX7_hasLaterOne_55 hl (k := 4) rfl rfl (by decide) rfl (fun ls hl => ?_)
          refine lv_goto (tgt := 4) hx hb dX7_hasLaterOne_58 (by decide) ?_
          exact ih (v3 + 1) ((hI.ge (by omega) rfl c_9).1) hE ls (lv_sub hl [2, 3, 4, 0] rfl)
        · have hE := itT hE c_30
          refine lv_aload hx hb dX7_hasLaterOne_33 (lv_at hl 0 rfl) ?_
          refine va_get (D := D) (ci := 3) (v := .int (rd (ix v3)).2.2.2.1) (C := RX5) (T := TX5) (N := 6) hx hb hts in_X7_hasLaterOne_X5 hown hK hP (7 + (ix v3)) (rw_at (X := [(w, .inr (5, [.ref wr, .ref wc, .int (nI nr), .int cs, .int ch])), (wr, .inl (cR, 30, .inr (.inr (.inr (.inr (rwA nr ra)))))), (wc, .inl (cI, 30, .inl cp)), (ro, .inr (2, [.ref wt, .ref tw, .ref dr])), (wt, .inl (cI, 36, .inl fr)), (tw, .inr (4, [.ref sw, .int nt])), (sw, .inl (cI, 40, .inl ft))]) (inR_lt hn30 o_14)) rfl 3 (by decide) (hts (.fieldLink RX7 35 "WallCount$Row" "hour" "I") (List.mem_of_getElem? (i := 3) rfl)) (fun _ h9 => h9) rfl dX7_hasLaterOne_35 ?_
          refine lv_aload_n hx hb dX7_hasLaterOne_38 rfl (lv_at hl 1 rfl) ?_
          refine va_get (D := D) (ci := 5) (v := .int ch) (C := RX7) (T := TX7) (N := 5) hx hb hts in_X7_hasLaterOne_X7 hown hK hP 0 rfl rfl 4 (by decide) (hts (.fieldLink RX7 28 "WallCount$Wall" "closeHour" "I") (List.mem_of_getElem? (i := 4) rfl)) (fun _ h9 => h9) rfl dX7_hasLaterOne_39 ?_
          refine lv_icmp_gt (tgt := 55) hx hb dX7_hasLaterOne_42 (by decide) (fun c_42 => ?_) (fun c_42 => ?_)
          · have hE := itT hE c_42
            refine lv_iinc (v := (v3 + 1)) (lv' := [(3, .int (v3 + 1)), (4, .ref (ra (ix v3))), (0, .ref w), (1, .int p0), (2, .int p1)]) hx hb dX7_hasLaterOne_55 hl (k := 4) rfl rfl (by decide) rfl (fun ls hl => ?_)
            refine lv_goto (tgt := 4) hx hb dX7_hasLaterOne_58 (by decide) ?_
            exact ih (v3 + 1) ((hI.ge (by omega) rfl c_9).1) hE ls (lv_sub hl [2, 3, 4, 0] rfl)
          · have hE := itF hE c_42
            refine lv_aload hx hb dX7_hasLaterOne_45 (lv_at hl 0 rfl) ?_
            refine va_get (D := D) (ci := 3) (v := .int (bI (rd (ix v3)).2.2.2.2.1)) (C := RX5) (T := TX5) (N := 6) hx hb hts in_X7_hasLaterOne_X5 hown hK hP (7 + (ix v3)) (rw_at (X := [(w, .inr (5, [.ref wr, .ref wc, .int (nI nr), .int cs, .int ch])), (wr, .inl (cR, 30, .inr (.inr (.inr (.inr (rwA nr ra)))))), (wc, .inl (cI, 30, .inl cp)), (ro, .inr (2, [.ref wt, .ref tw, .ref dr])), (wt, .inl (cI, 36, .inl fr)), (tw, .inr (4, [.ref sw, .int nt])), (sw, .inl (cI, 40, .inl ft))]) (inR_lt hn30 o_14)) rfl 4 (by decide) (hts (.fieldLink RX7 38 "WallCount$Row" "sound" "Z") (List.mem_of_getElem? (i := 5) rfl)) (fun _ h9 => h9) rfl dX7_hasLaterOne_47 ?_
            refine w_if_eqb (tgt := 55) hx hb dX7_hasLaterOne_50 (by decide) (fun c_50 => ?_) (fun c_50 => ?_)
            · have hE := itF hE c_50
              refine lv_iinc (v := (v3 + 1)) (lv' := [(3, .int (v3 + 1)), (4, .ref (ra (ix v3))), (0, .ref w), (1, .int p0), (2, .int p1)]) hx hb dX7_hasLaterOne_55 hl (k := 4) rfl rfl (by decide) rfl (fun ls hl => ?_)
              refine lv_goto (tgt := 4) hx hb dX7_hasLaterOne_58 (by decide) ?_
              exact ih (v3 + 1) ((hI.ge (by omega) rfl c_9).1) hE ls (lv_sub hl [2, 3, 4, 0] rfl)
            · have hE := itT hE c_50
              refine lv_iconst (v := 1) hx hb dX7_hasLaterOne_53 (by decide) ?_
              exact w_zret (v := true) hx hb hr hlocks hE dX7_hasLaterOne_54
      · have hE := itF hE o_14
        rw [at_out hn30 o_14]
        refine lv_astoreN (lv' := [(4, .null), (0, .ref w), (1, .int p0), (2, .int p1), (3, .int v3)]) hx hb dX7_hasLaterOne_17 hl (by decide) rfl (fun ls hl => ?_)
        refine lv_aloadN hx hb dX7_hasLaterOne_19 (lv_at hl 0 rfl) ?_
        refine lv_ifnullN (tgt := 55) hx hb dX7_hasLaterOne_21 (by decide) ?_
        refine lv_iinc (v := (v3 + 1)) (lv' := [(3, .int (v3 + 1)), (4, .null), (0, .ref w), (1, .int p0), (2, .int p1)]) hx hb dX7_hasLaterOne_55 hl (k := 4) rfl rfl (by decide) rfl (fun ls hl => ?_)
        refine lv_goto (tgt := 4) hx hb dX7_hasLaterOne_58 (by decide) ?_
        exact ih (v3 + 1) ((hI.ge (by omega) rfl c_9).1) hE ls (lv_sub hl [2, 3, 4, 0] rfl)

theorem hd_X7_kindOf : yX7_kindOf.cls ≠ "java/lang/invoke/MethodHandle" ∧ yX7_kindOf.cls ≠ "java/lang/invoke/VarHandle" ∧ (parseMethodDescriptor yX7_kindOf.desc).map (fun d => d.parameters.length) = some 2 := by decide +kernel
def x_X7_kindOf (nr : Nat) (rd : Nat → R6) (ch : Int32) (fr : Nat → Int32) (nt : Int32) (ft : Nat → Int32) (p0 : Int32) : Int32 := (if inR nr p0 = true then (if (rd (ix p0)).2.2.2.1 ≤ ch then (if (rd (ix p0)).2.2.2.2.1 = true then (if (x_X4_allows fr nt ft (rd (ix p0)).1) = true then (if (x_X7_hasLaterOne nr rd ch (rd (ix p0)).1 p0) = true then 4 else 0) else 3) else 2) else 1) else (-1))
def rm_X7_kindOf : Room := { frames := 3, cells := 0, slots := 0, locals := 73 }
theorem in_X7_kindOf_X4 : ∀ w ∈ wsX40, w ∈ wsX7_kindOf := fun _ h => List.mem_cons_of_mem _ (List.mem_append_left _ (List.mem_append_right _ h))
theorem in_X7_kindOf_X5 : ∀ w ∈ wsX50, w ∈ wsX7_kindOf := fun _ h => List.mem_cons_of_mem _ (List.mem_append_left _ (List.mem_append_left _ (List.mem_append_left _ (List.mem_append_right _ h))))
theorem in_X7_kindOf_X6 : ∀ w ∈ wsX60, w ∈ wsX7_kindOf := fun _ h => List.mem_cons_of_mem _ (List.mem_append_right _ h)
theorem in_X7_kindOf_X7 : ∀ w ∈ wsX70, w ∈ wsX7_kindOf := fun _ h => List.mem_cons_of_mem _ (List.mem_append_left _ (List.mem_append_left _ (List.mem_append_right _ h)))
set_option maxHeartbeats 4000000 in
set_option maxRecDepth 100000 in
theorem c_X7_kindOf (l : Launch) (D : va_G) (cI cZ cR : ClassId) (H0 : Heap) (w wr wc ro wt tw sw dr : Nat) (nr : Nat) (ra : Nat → Nat) (rd : Nat → R6) (cs : Int32) (ch : Int32) (cp : Nat → Int32) (fr : Nat → Int32) (nt : Int32) (ft : Nat → Int32) (p0 : Int32) (hn30 : nr ≤ 30) : Met l yX7_kindOf wsX7_kindOf rm_X7_kindOf (po_P D cI cZ cR [.ref w, .int p0, .ref ro] ([(w, .inr (5, [.ref wr, .ref wc, .int (nI nr), .int cs, .int ch])), (wr, .inl (cR, 30, .inr (.inr (.inr (.inr (rwA nr ra)))))), (wc, .inl (cI, 30, .inl cp)), (ro, .inr (2, [.ref wt, .ref tw, .ref dr])), (wt, .inl (cI, 36, .inl fr)), (tw, .inr (4, [.ref sw, .int nt])), (sw, .inl (cI, 40, .inl ft))] ++ rwL nr ra rd) H0) (po_Q (some (.int (x_X7_kindOf nr rd ch fr nt ft p0))) H0) 0 0 nF := by
  refine Met.ofW (cc := cX7_kindOf) (maxL := 4) (ret := (some .int)) (by decide +kernel) rfl ?_
  intro p e s m args below meth c s₁ B hml hv
  obtain ⟨rfl, rfl, hAM, hP⟩ := hv
  have hx := B.exec
  have hb := B.bytes
  have hr := B.returns
  have hts := atoms_spec (ws := wsX7_kindOf) B.pre
  have hown : s.vm.findClass RX7 = some m.cls := findClass_of_methodNamed B.named
  have hlocks := B.notSynchronized
  have hK := hAM.1
  generalize hE : (x_X7_kindOf nr rd ch fr nt ft p0) = Rv
  rw [x_X7_kindOf] at hE
  have hl := lv_entry ([.ref w, .int p0, .ref ro]) (n := 4) (Nat.le_of_ble_eq_true rfl)
  rw [lg_entry_eq]
  generalize (lg_sl ([.ref w, .int p0, .ref ro]) ++ List.replicate (4 - (lg_sl ([.ref w, .int p0, .ref ro])).length) Slot.unset).toArray = ls at hl ⊢
  have hl : lv_has ls 4 [(0, .ref w), (1, .int p0), (2, .ref ro)] := hl
  refine lv_aload_n hx hb dX7_kindOf_0 rfl (lv_at hl 0 rfl) ?_
  refine lv_iload_n hx hb dX7_kindOf_1 rfl (lv_at hl 1 rfl) ?_
  refine ro_call (va_runV (As := [.int p0]) (rest := []) ⟨hx, hb, hml, hown, hts⟩ (c_X7_at l D cI cZ cR _ w wr wc ro wt tw sw dr nr ra rd cs ch cp fr nt ft p0) (cwV 1 hts gX7_kindOf_X7_at rfl rfl rfl ⟨rfl, hd_X7_at⟩ ⟨(Nat.le_of_ble_eq_true rfl), (Nat.le_of_ble_eq_true rfl)⟩) (po_preV hAM hP (va_recv hK hP (ci := 5) (q0 := 0) rfl rfl)) rfl rfl hl.1 rfl (lv_room (Nat.le_of_ble_eq_true rfl)) dX7_kindOf_2 ⟨(Nat.le_of_ble_eq_true rfl), (Nat.le_of_ble_eq_true rfl)⟩) ?_
  by_cases o_2 : inR nr p0 = true
  · have hE := itT hE o_2
    rw [at_in hn30 o_2]
    refine lv_astore_n (lv' := [(3, .ref (ra (ix p0))), (0, .ref w), (1, .int p0), (2, .ref ro)]) hx hb dX7_kindOf_5 rfl hl (by decide) rfl (fun ls hl => ?_)
    refine lv_aload_n hx hb dX7_kindOf_6 rfl (lv_at hl 0 rfl) ?_
    refine lv_ifnonnull (tgt := 12) hx hb dX7_kindOf_7 (by decide) ?_
    refine lv_aload_n hx hb dX7_kindOf_12 rfl (lv_at hl 0 rfl) ?_
    refine va_get (D := D) (ci := 3) (v := .int (rd (ix p0)).2.2.2.1) (C := RX5) (T := TX5) (N := 6) hx hb hts in_X7_kindOf_X5 hown hK hP (7 + (ix p0)) (rw_at (X := [(w, .inr (5, [.ref wr, .ref wc, .int (nI nr), .int cs, .int ch])), (wr, .inl (cR, 30, .inr (.inr (.inr (.inr (rwA nr ra)))))), (wc, .inl (cI, 30, .inl cp)), (ro, .inr (2, [.ref wt, .ref tw, .ref dr])), (wt, .inl (cI, 36, .inl fr)), (tw, .inr (4, [.ref sw, .int nt])), (sw, .inl (cI, 40, .inl ft))]) (inR_lt hn30 o_2)) rfl 3 (by decide) (hts (.fieldLink RX7 35 "WallCount$Row" "hour" "I") (List.mem_of_getElem? (i := 1) rfl)) (fun _ h9 => h9) rfl dX7_kindOf_13 ?_
    refine lv_aload_n hx hb dX7_kindOf_16 rfl (lv_at hl 1 rfl) ?_
    refine va_get (D := D) (ci := 5) (v := .int ch) (C := RX7) (T := TX7) (N := 5) hx hb hts in_X7_kindOf_X7 hown hK hP 0 rfl rfl 4 (by decide) (hts (.fieldLink RX7 28 "WallCount$Wall" "closeHour" "I") (List.mem_of_getElem? (i := 2) rfl)) (fun _ h9 => h9) rfl dX7_kindOf_17 ?_
    refine lv_icmp_le (tgt := 25) hx hb dX7_kindOf_20 (by decide) (fun c_20 => ?_) (fun c_20 => ?_)
    · have hE := itT hE c_20
      refine lv_aload_n hx hb dX7_kindOf_25 rfl (lv_at hl 0 rfl) ?_
      refine va_get (D := D) (ci := 3) (v := .int (bI (rd (ix p0)).2.2.2.2.1)) (C := RX5) (T := TX5) (N := 6) hx hb hts in_X7_kindOf_X5 hown hK hP (7 + (ix p0)) (rw_at (X := [(w, .inr (5, [.ref wr, .ref wc, .int (nI nr), .int cs, .int ch])), (wr, .inl (cR, 30, .inr (.inr (.inr (.inr (rwA nr ra)))))), (wc, .inl (cI, 30, .inl cp)), (ro, .inr (2, [.ref wt, .ref tw, .ref dr])), (wt, .inl (cI, 36, .inl fr)), (tw, .inr (4, [.ref sw, .int nt])), (sw, .inl (cI, 40, .inl ft))]) (inR_lt hn30 o_2)) rfl 4 (by decide) (hts (.fieldLink RX7 38 "WallCount$Row" "sound" "Z") (List.mem_of_getElem? (i := 3) rfl)) (fun _ h9 => h9) rfl dX7_kindOf_26 ?_
      refine w_if_neb (tgt := 34) hx hb dX7_kindOf_29 (by decide) (fun c_29 => ?_) (fun c_29 => ?_)
      · have hE := itT hE c_29
        refine lv_aload_n hx hb dX7_kindOf_34 rfl (lv_at hl 3 rfl) ?_
        refine lv_aload_n hx hb dX7_kindOf_35 rfl (lv_at hl 0 rfl) ?_
        refine va_get (D := D) (ci := 3) (v := .int (rd (ix p0)).1) (C := RX5) (T := TX5) (N := 6) hx hb hts in_X7_kindOf_X5 hown hK hP (7 + (ix p0)) (rw_at (X := [(w, .inr (5, [.ref wr, .ref wc, .int (nI nr), .int cs, .int ch])), (wr, .inl (cR, 30, .inr (.inr (.inr (.inr (rwA nr ra)))))), (wc, .inl (cI, 30, .inl cp)), (ro, .inr (2, [.ref wt, .ref tw, .ref dr])), (wt, .inl (cI, 36, .inl fr)), (tw, .inr (4, [.ref sw, .int nt])), (sw, .inl (cI, 40, .inl ft))]) (inR_lt hn30 o_2)) rfl 0 (by decide) (hts (.fieldLink RX7 42 "WallCount$Row" "voter" "I") (List.mem_of_getElem? (i := 4) rfl)) (fun _ h9 => h9) rfl dX7_kindOf_36 ?_
        refine ro_call (va_runV (As := [.int (rd (ix p0)).1]) (rest := []) ⟨hx, hb, hml, hown, hts⟩ (c_X4_allows l D cI cZ cR _ ro wt tw sw dr fr nt ft (rd (ix p0)).1) (cwV 1 hts gX7_kindOf_X4_allows rfl rfl rfl ⟨rfl, hd_X4_allows⟩ ⟨(Nat.le_of_ble_eq_true rfl), (Nat.le_of_ble_eq_true rfl)⟩) (po_preV hAM (hP.sub [3, 4, 5, 6] rfl) (va_recv hK hP (ci := 2) (q0 := 3) rfl rfl)) rfl rfl hl.1 rfl (lv_room (Nat.le_of_ble_eq_true rfl)) dX7_kindOf_39 ⟨(Nat.le_of_ble_eq_true rfl), (Nat.le_of_ble_eq_true rfl)⟩) ?_
        refine w_if_neb (tgt := 47) hx hb dX7_kindOf_42 (by decide) (fun c_42 => ?_) (fun c_42 => ?_)
        · have hE := itT hE c_42
          refine lv_aload_n hx hb dX7_kindOf_47 rfl (lv_at hl 1 rfl) ?_
          refine lv_aload_n hx hb dX7_kindOf_48 rfl (lv_at hl 0 rfl) ?_
          refine va_get (D := D) (ci := 3) (v := .int (rd (ix p0)).1) (C := RX5) (T := TX5) (N := 6) hx hb hts in_X7_kindOf_X5 hown hK hP (7 + (ix p0)) (rw_at (X := [(w, .inr (5, [.ref wr, .ref wc, .int (nI nr), .int cs, .int ch])), (wr, .inl (cR, 30, .inr (.inr (.inr (.inr (rwA nr ra)))))), (wc, .inl (cI, 30, .inl cp)), (ro, .inr (2, [.ref wt, .ref tw, .ref dr])), (wt, .inl (cI, 36, .inl fr)), (tw, .inr (4, [.ref sw, .int nt])), (sw, .inl (cI, 40, .inl ft))]) (inR_lt hn30 o_2)) rfl 0 (by decide) (hts (.fieldLink RX7 42 "WallCount$Row" "voter" "I") (List.mem_of_getElem? (i := 4) rfl)) (fun _ h9 => h9) rfl dX7_kindOf_49 ?_
          refine lv_iload_n hx hb dX7_kindOf_52 rfl (lv_at hl 2 rfl) ?_
          refine ro_call (va_runV (As := [.int (rd (ix p0)).1, .int p0]) (rest := []) ⟨hx, hb, hml, hown, hts⟩ (c_X7_hasLaterOne l D cI cZ cR _ w wr wc ro wt tw sw dr nr ra rd cs ch cp fr nt ft (rd (ix p0)).1 p0 hn30 o_2) (cwV 2 hts gX7_kindOf_X7_hasLaterOne rfl rfl rfl ⟨rfl, hd_X7_hasLaterOne⟩ ⟨(Nat.le_of_ble_eq_true rfl), (Nat.le_of_ble_eq_true rfl)⟩) (po_preV hAM hP (va_recv hK hP (ci := 5) (q0 := 0) rfl rfl)) rfl rfl hl.1 rfl (lv_room (Nat.le_of_ble_eq_true rfl)) dX7_kindOf_53 ⟨(Nat.le_of_ble_eq_true rfl), (Nat.le_of_ble_eq_true rfl)⟩) ?_
          refine w_if_eqb (tgt := 63) hx hb dX7_kindOf_56 (by decide) (fun c_56 => ?_) (fun c_56 => ?_)
          · have hE := itF hE c_56
            refine lv_iconst (v := 0) hx hb dX7_kindOf_63 (by decide) ?_
            exact w_iret hx hb hr hlocks hE dX7_kindOf_64
          · have hE := itT hE c_56
            refine lv_iconst (v := 4) hx hb dX7_kindOf_59 (by decide) ?_
            refine lv_goto (tgt := 64) hx hb dX7_kindOf_60 (by decide) ?_
            exact w_iret hx hb hr hlocks hE dX7_kindOf_64
        · have hE := itF hE c_42
          refine lv_iconst (v := 3) hx hb dX7_kindOf_45 (by decide) ?_
          exact w_iret hx hb hr hlocks hE dX7_kindOf_46
      · have hE := itF hE c_29
        refine lv_iconst (v := 2) hx hb dX7_kindOf_32 (by decide) ?_
        exact w_iret hx hb hr hlocks hE dX7_kindOf_33
    · have hE := itF hE c_20
      refine lv_iconst (v := 1) hx hb dX7_kindOf_23 (by decide) ?_
      exact w_iret hx hb hr hlocks hE dX7_kindOf_24
  · have hE := itF hE o_2
    rw [at_out hn30 o_2]
    refine lv_astore_nN (lv' := [(3, .null), (0, .ref w), (1, .int p0), (2, .ref ro)]) hx hb dX7_kindOf_5 rfl hl (by decide) rfl (fun ls hl => ?_)
    refine lv_aload_nN hx hb dX7_kindOf_6 rfl (lv_at hl 0 rfl) ?_
    refine lv_ifnonnullN hx hb dX7_kindOf_7 ?_
    refine lv_iconst (v := (-1)) hx hb dX7_kindOf_10 (by decide) ?_
    exact w_iret hx hb hr hlocks hE dX7_kindOf_11

theorem hd_X7_howManyAre : yX7_howManyAre.cls ≠ "java/lang/invoke/MethodHandle" ∧ yX7_howManyAre.cls ≠ "java/lang/invoke/VarHandle" ∧ (parseMethodDescriptor yX7_howManyAre.desc).map (fun d => d.parameters.length) = some 2 := by decide +kernel
def x_X7_howManyAre_L4 (nr : Nat) (rd : Nat → R6) (ch : Int32) (fr : Nat → Int32) (nt : Int32) (ft : Nat → Int32) (p0 : Int32) : Nat → Int32 → Int32 → Int32
  | 0, _, _ => 0
  | n + 1, v3, v4 => (if (nI nr) ≤ v4 then v3 else (if (x_X7_kindOf nr rd ch fr nt ft v4) = p0 then (x_X7_howManyAre_L4 nr rd ch fr nt ft p0 n (v3 + 1) (v4 + 1)) else (x_X7_howManyAre_L4 nr rd ch fr nt ft p0 n v3 (v4 + 1))))
def x_X7_howManyAre (nr : Nat) (rd : Nat → R6) (ch : Int32) (fr : Nat → Int32) (nt : Int32) (ft : Nat → Int32) (p0 : Int32) : Int32 := (x_X7_howManyAre_L4 nr rd ch fr nt ft p0 (nr + 1) 0 0)
def rm_X7_howManyAre : Room := { frames := 4, cells := 0, slots := 0, locals := 96 }
theorem in_X7_howManyAre_X4 : ∀ w ∈ wsX40, w ∈ wsX7_howManyAre := fun _ h => List.mem_cons_of_mem _ (List.mem_append_left _ (List.mem_append_right _ h))
theorem in_X7_howManyAre_X5 : ∀ w ∈ wsX50, w ∈ wsX7_howManyAre := fun _ h => List.mem_cons_of_mem _ (List.mem_append_left _ (List.mem_append_left _ (List.mem_append_right _ h)))
theorem in_X7_howManyAre_X6 : ∀ w ∈ wsX60, w ∈ wsX7_howManyAre := fun _ h => List.mem_cons_of_mem _ (List.mem_append_right _ h)
theorem in_X7_howManyAre_X7 : ∀ w ∈ wsX70, w ∈ wsX7_howManyAre := fun _ h => List.mem_cons_of_mem _ (List.mem_append_left _ (List.mem_append_left _ (List.mem_append_left _ (List.mem_append_right _ h))))
set_option maxHeartbeats 4000000 in
set_option maxRecDepth 100000 in
theorem c_X7_howManyAre (l : Launch) (D : va_G) (cI cZ cR : ClassId) (H0 : Heap) (w wr wc ro wt tw sw dr : Nat) (nr : Nat) (ra : Nat → Nat) (rd : Nat → R6) (cs : Int32) (ch : Int32) (cp : Nat → Int32) (fr : Nat → Int32) (nt : Int32) (ft : Nat → Int32) (p0 : Int32) (hn30 : nr ≤ 30) : Met l yX7_howManyAre wsX7_howManyAre rm_X7_howManyAre (po_P D cI cZ cR [.ref w, .int p0, .ref ro] ([(w, .inr (5, [.ref wr, .ref wc, .int (nI nr), .int cs, .int ch])), (wr, .inl (cR, 30, .inr (.inr (.inr (.inr (rwA nr ra)))))), (wc, .inl (cI, 30, .inl cp)), (ro, .inr (2, [.ref wt, .ref tw, .ref dr])), (wt, .inl (cI, 36, .inl fr)), (tw, .inr (4, [.ref sw, .int nt])), (sw, .inl (cI, 40, .inl ft))] ++ rwL nr ra rd) H0) (po_Q (some (.int (x_X7_howManyAre nr rd ch fr nt ft p0))) H0) 0 0 nF := by
  refine Met.ofW (cc := cX7_howManyAre) (maxL := 5) (ret := (some .int)) (by decide +kernel) rfl ?_
  intro p e s m args below meth c s₁ B hml hv
  obtain ⟨rfl, rfl, hAM, hP⟩ := hv
  have hx := B.exec
  have hb := B.bytes
  have hr := B.returns
  have hts := atoms_spec (ws := wsX7_howManyAre) B.pre
  have hown : s.vm.findClass RX7 = some m.cls := findClass_of_methodNamed B.named
  have hlocks := B.notSynchronized
  have hK := hAM.1
  generalize hE : (x_X7_howManyAre nr rd ch fr nt ft p0) = Rv
  rw [x_X7_howManyAre] at hE
  have hl := lv_entry ([.ref w, .int p0, .ref ro]) (n := 5) (Nat.le_of_ble_eq_true rfl)
  rw [lg_entry_eq]
  generalize (lg_sl ([.ref w, .int p0, .ref ro]) ++ List.replicate (5 - (lg_sl ([.ref w, .int p0, .ref ro])).length) Slot.unset).toArray = ls at hl ⊢
  have hl : lv_has ls 5 [(0, .ref w), (1, .int p0), (2, .ref ro)] := hl
  refine lv_iconst (v := 0) hx hb dX7_howManyAre_0 (by decide) ?_
  refine lv_istore_n (lv' := [(3, .int 0), (0, .ref w), (1, .int p0), (2, .ref ro)]) hx hb dX7_howManyAre_1 rfl hl (by decide) rfl (fun ls hl => ?_)
  refine lv_iconst (v := 0) hx hb dX7_howManyAre_2 (by decide) ?_
  refine lv_istore (lv' := [(4, .int 0), (3, .int 0), (0, .ref w), (1, .int p0), (2, .ref ro)]) hx hb dX7_howManyAre_3 hl (by decide) rfl (fun ls hl => ?_)
  suffices loop : ∀ (n : Nat) (v3 : Int32) (v4 : Int32), (UP 0 nr n v4) → x_X7_howManyAre_L4 nr rd ch fr nt ft p0 n v3 v4 = Rv → ∀ ls : Array Slot, lv_has ls 5 [(4, .int v4), (3, .int v3), (0, .ref w), (1, .int p0), (2, .ref ro)] → W p l e (headSpec wsX7_howManyAre rm_X7_howManyAre).room s m ([.ref w, .int p0, .ref ro] : List Value).toArray below meth c s.heap [] 0 0 (MQ below (po_Q (some (.int Rv)) s.heap) ([.ref w, .int p0, .ref ro] : List Value).toArray s 0 0 nF) (F0 m 5 ls []) from
    loop (nr + 1) 0 0 (UP.start 0 (by omega) (by omega)) hE ls (lv_sub hl [0, 1, 2, 3, 4] rfl)
  clear hE hl ls
  intro n
  induction n with
  | zero =>
    intro v3 v4 hI _ _ _
    exact absurd hI (UP.zero)
  | succ n ih =>
    intro v3 v4 hI hE ls hl
    rw [x_X7_howManyAre_L4] at hE
    refine lv_iload hx hb dX7_howManyAre_5 (lv_at hl 0 rfl) ?_
    refine lv_aload_n hx hb dX7_howManyAre_7 rfl (lv_at hl 2 rfl) ?_
    refine va_get (D := D) (ci := 5) (v := .int (nI nr)) (C := RX7) (T := TX7) (N := 5) hx hb hts in_X7_howManyAre_X7 hown hK hP 0 rfl rfl 2 (by decide) (hts (.fieldLink RX7 21 "WallCount$Wall" "size" "I") (List.mem_of_getElem? (i := 1) rfl)) (fun _ h9 => h9) rfl dX7_howManyAre_8 ?_
    refine lv_icmp_ge (tgt := 34) hx hb dX7_howManyAre_11 (by decide) (fun c_11 => ?_) (fun c_11 => ?_)
    · have hE := itT hE c_11
      refine lv_iload_n hx hb dX7_howManyAre_34 rfl (lv_at hl 1 rfl) ?_
      exact w_iret hx hb hr hlocks hE dX7_howManyAre_35
    · have hE := itF hE c_11
      refine lv_aload_n hx hb dX7_howManyAre_14 rfl (lv_at hl 2 rfl) ?_
      refine lv_iload hx hb dX7_howManyAre_15 (lv_at hl 0 rfl) ?_
      refine lv_aload_n hx hb dX7_howManyAre_17 rfl (lv_at hl 4 rfl) ?_
      refine ro_call (va_runV (As := [.int v4, .ref ro]) (rest := []) ⟨hx, hb, hml, hown, hts⟩ (c_X7_kindOf l D cI cZ cR _ w wr wc ro wt tw sw dr nr ra rd cs ch cp fr nt ft v4 hn30) (cwV 2 hts gX7_howManyAre_X7_kindOf rfl rfl rfl ⟨rfl, hd_X7_kindOf⟩ ⟨(Nat.le_of_ble_eq_true rfl), (Nat.le_of_ble_eq_true rfl)⟩) (po_preV hAM hP (va_recv hK hP (ci := 5) (q0 := 0) rfl rfl)) rfl rfl hl.1 rfl (lv_room (Nat.le_of_ble_eq_true rfl)) dX7_howManyAre_18 ⟨(Nat.le_of_ble_eq_true rfl), (Nat.le_of_ble_eq_true rfl)⟩) ?_
      refine lv_iload_n hx hb dX7_howManyAre_21 rfl (lv_at hl 3 rfl) ?_
      refine lv_icmp_ne (tgt := 28) hx hb dX7_howManyAre_22 (by decide) (fun c_22 => ?_) (fun c_22 => ?_)
      · have hE := itF hE c_22
        refine lv_iinc (v := (v4 + 1)) (lv' := [(4, .int (v4 + 1)), (3, .int v3), (0, .ref w), (1, .int p0), (2, .ref ro)]) hx hb dX7_howManyAre_28 hl (k := 0) rfl rfl (by decide) rfl (fun ls hl => ?_)
        refine lv_goto (tgt := 5) hx hb dX7_howManyAre_31 (by decide) ?_
        exact ih v3 (v4 + 1) ((hI.ge (by omega) rfl c_11).1) hE ls (lv_sub hl [0, 1, 2, 3, 4] rfl)
      · have hE := itT hE c_22
        refine lv_iinc (v := (v3 + 1)) (lv' := [(3, .int (v3 + 1)), (4, .int v4), (0, .ref w), (1, .int p0), (2, .ref ro)]) hx hb dX7_howManyAre_25 hl (k := 1) rfl rfl (by decide) rfl (fun ls hl => ?_)
        refine lv_iinc (v := (v4 + 1)) (lv' := [(4, .int (v4 + 1)), (3, .int (v3 + 1)), (0, .ref w), (1, .int p0), (2, .ref ro)]) hx hb dX7_howManyAre_28 hl (k := 1) rfl rfl (by decide) rfl (fun ls hl => ?_)
        refine lv_goto (tgt := 5) hx hb dX7_howManyAre_31 (by decide) ?_
        exact ih (v3 + 1) (v4 + 1) ((hI.ge (by omega) rfl c_11).1) hE ls (lv_sub hl [0, 1, 2, 3, 4] rfl)

theorem hd_X7_product : yX7_product.cls ≠ "java/lang/invoke/MethodHandle" ∧ yX7_product.cls ≠ "java/lang/invoke/VarHandle" ∧ (parseMethodDescriptor yX7_product.desc).map (fun d => d.parameters.length) = some 2 := by decide +kernel
def x_X7_product_L4 (nr : Nat) (rd : Nat → R6) (ch : Int32) (fr : Nat → Int32) (nt : Int32) (ft : Nat → Int32) (p0 : Int32) : Nat → Int32 → Int32 → Int32
  | 0, _, _ => 0
  | n + 1, v3, v4 => (if (nI nr) ≤ v4 then v3 else (if inR nr v4 = true then (if (x_X7_kindOf nr rd ch fr nt ft v4) = 0 then (if p0 = 0 then (x_X7_product_L4 nr rd ch fr nt ft p0 n (xRem (v3 * (rd (ix v4)).2.1) 10007) (v4 + 1)) else (x_X7_product_L4 nr rd ch fr nt ft p0 n (xRem (v3 * (rd (ix v4)).2.2.1) 10007) (v4 + 1))) else (x_X7_product_L4 nr rd ch fr nt ft p0 n v3 (v4 + 1))) else (x_X7_product_L4 nr rd ch fr nt ft p0 n v3 (v4 + 1))))
def x_X7_product (nr : Nat) (rd : Nat → R6) (ch : Int32) (fr : Nat → Int32) (nt : Int32) (ft : Nat → Int32) (p0 : Int32) : Int32 := (x_X7_product_L4 nr rd ch fr nt ft p0 (nr + 1) 1 0)
def rm_X7_product : Room := { frames := 4, cells := 0, slots := 0, locals := 96 }
theorem in_X7_product_X4 : ∀ w ∈ wsX40, w ∈ wsX7_product := fun _ h => List.mem_cons_of_mem _ (List.mem_append_left _ (List.mem_append_right _ h))
theorem in_X7_product_X5 : ∀ w ∈ wsX50, w ∈ wsX7_product := fun _ h => List.mem_cons_of_mem _ (List.mem_append_left _ (List.mem_append_left _ (List.mem_append_right _ h)))
theorem in_X7_product_X6 : ∀ w ∈ wsX60, w ∈ wsX7_product := fun _ h => List.mem_cons_of_mem _ (List.mem_append_right _ h)
theorem in_X7_product_X7 : ∀ w ∈ wsX70, w ∈ wsX7_product := fun _ h => List.mem_cons_of_mem _ (List.mem_append_left _ (List.mem_append_left _ (List.mem_append_left _ (List.mem_append_right _ h))))
set_option maxHeartbeats 4000000 in
set_option maxRecDepth 100000 in
theorem c_X7_product (l : Launch) (D : va_G) (cI cZ cR : ClassId) (H0 : Heap) (w wr wc ro wt tw sw dr : Nat) (nr : Nat) (ra : Nat → Nat) (rd : Nat → R6) (cs : Int32) (ch : Int32) (cp : Nat → Int32) (fr : Nat → Int32) (nt : Int32) (ft : Nat → Int32) (p0 : Int32) (hn30 : nr ≤ 30) : Met l yX7_product wsX7_product rm_X7_product (po_P D cI cZ cR [.ref w, .int p0, .ref ro] ([(w, .inr (5, [.ref wr, .ref wc, .int (nI nr), .int cs, .int ch])), (wr, .inl (cR, 30, .inr (.inr (.inr (.inr (rwA nr ra)))))), (wc, .inl (cI, 30, .inl cp)), (ro, .inr (2, [.ref wt, .ref tw, .ref dr])), (wt, .inl (cI, 36, .inl fr)), (tw, .inr (4, [.ref sw, .int nt])), (sw, .inl (cI, 40, .inl ft))] ++ rwL nr ra rd) H0) (po_Q (some (.int (x_X7_product nr rd ch fr nt ft p0))) H0) 0 0 nF := by
  refine Met.ofW (cc := cX7_product) (maxL := 6) (ret := (some .int)) (by decide +kernel) rfl ?_
  intro p e s m args below meth c s₁ B hml hv
  obtain ⟨rfl, rfl, hAM, hP⟩ := hv
  have hx := B.exec
  have hb := B.bytes
  have hr := B.returns
  have hts := atoms_spec (ws := wsX7_product) B.pre
  have hown : s.vm.findClass RX7 = some m.cls := findClass_of_methodNamed B.named
  have hlocks := B.notSynchronized
  have hK := hAM.1
  generalize hE : (x_X7_product nr rd ch fr nt ft p0) = Rv
  rw [x_X7_product] at hE
  have hl := lv_entry ([.ref w, .int p0, .ref ro]) (n := 6) (Nat.le_of_ble_eq_true rfl)
  rw [lg_entry_eq]
  generalize (lg_sl ([.ref w, .int p0, .ref ro]) ++ List.replicate (6 - (lg_sl ([.ref w, .int p0, .ref ro])).length) Slot.unset).toArray = ls at hl ⊢
  have hl : lv_has ls 6 [(0, .ref w), (1, .int p0), (2, .ref ro)] := hl
  refine lv_iconst (v := 1) hx hb dX7_product_0 (by decide) ?_
  refine lv_istore_n (lv' := [(3, .int 1), (0, .ref w), (1, .int p0), (2, .ref ro)]) hx hb dX7_product_1 rfl hl (by decide) rfl (fun ls hl => ?_)
  refine lv_iconst (v := 0) hx hb dX7_product_2 (by decide) ?_
  refine lv_istore (lv' := [(4, .int 0), (3, .int 1), (0, .ref w), (1, .int p0), (2, .ref ro)]) hx hb dX7_product_3 hl (by decide) rfl (fun ls hl => ?_)
  suffices loop : ∀ (n : Nat) (v3 : Int32) (v4 : Int32), (UP 0 nr n v4) → x_X7_product_L4 nr rd ch fr nt ft p0 n v3 v4 = Rv → ∀ ls : Array Slot, lv_has ls 6 [(0, .ref w), (1, .int p0), (2, .ref ro), (3, .int v3), (4, .int v4)] → W p l e (headSpec wsX7_product rm_X7_product).room s m ([.ref w, .int p0, .ref ro] : List Value).toArray below meth c s.heap [] 0 0 (MQ below (po_Q (some (.int Rv)) s.heap) ([.ref w, .int p0, .ref ro] : List Value).toArray s 0 0 nF) (F0 m 5 ls []) from
    loop (nr + 1) 1 0 (UP.start 0 (by omega) (by omega)) hE ls (lv_sub hl [2, 3, 4, 1, 0] rfl)
  clear hE hl ls
  intro n
  induction n with
  | zero =>
    intro v3 v4 hI _ _ _
    exact absurd hI (UP.zero)
  | succ n ih =>
    intro v3 v4 hI hE ls hl
    rw [x_X7_product_L4] at hE
    refine lv_iload hx hb dX7_product_5 (lv_at hl 4 rfl) ?_
    refine lv_aload_n hx hb dX7_product_7 rfl (lv_at hl 0 rfl) ?_
    refine va_get (D := D) (ci := 5) (v := .int (nI nr)) (C := RX7) (T := TX7) (N := 5) hx hb hts in_X7_product_X7 hown hK hP 0 rfl rfl 2 (by decide) (hts (.fieldLink RX7 21 "WallCount$Wall" "size" "I") (List.mem_of_getElem? (i := 1) rfl)) (fun _ h9 => h9) rfl dX7_product_8 ?_
    refine lv_icmp_ge (tgt := 67) hx hb dX7_product_11 (by decide) (fun c_11 => ?_) (fun c_11 => ?_)
    · have hE := itT hE c_11
      refine lv_iload_n hx hb dX7_product_67 rfl (lv_at hl 3 rfl) ?_
      exact w_iret hx hb hr hlocks hE dX7_product_68
    · have hE := itF hE c_11
      refine lv_aload_n hx hb dX7_product_14 rfl (lv_at hl 0 rfl) ?_
      refine lv_iload hx hb dX7_product_15 (lv_at hl 4 rfl) ?_
      refine ro_call (va_runV (As := [.int v4]) (rest := []) ⟨hx, hb, hml, hown, hts⟩ (c_X7_at l D cI cZ cR _ w wr wc ro wt tw sw dr nr ra rd cs ch cp fr nt ft v4) (cwV 1 hts gX7_product_X7_at rfl rfl rfl ⟨rfl, hd_X7_at⟩ ⟨(Nat.le_of_ble_eq_true rfl), (Nat.le_of_ble_eq_true rfl)⟩) (po_preV hAM hP (va_recv hK hP (ci := 5) (q0 := 0) rfl rfl)) rfl rfl hl.1 rfl (lv_room (Nat.le_of_ble_eq_true rfl)) dX7_product_17 ⟨(Nat.le_of_ble_eq_true rfl), (Nat.le_of_ble_eq_true rfl)⟩) ?_
      by_cases o_17 : inR nr v4 = true
      · have hE := itT hE o_17
        rw [at_in hn30 o_17]
        refine lv_astore (lv' := [(5, .ref (ra (ix v4))), (0, .ref w), (1, .int p0), (2, .ref ro), (3, .int v3), (4, .int v4)]) hx hb dX7_product_20 hl (by decide) rfl (fun ls hl => ?_)
        refine lv_aload hx hb dX7_product_22 (lv_at hl 0 rfl) ?_
        refine lv_ifnull hx hb dX7_product_24 ?_
        refine lv_aload_n hx hb dX7_product_27 rfl (lv_at hl 1 rfl) ?_
        refine lv_iload hx hb dX7_product_28 (lv_at hl 5 rfl) ?_
        refine lv_aload_n hx hb dX7_product_30 rfl (lv_at hl 3 rfl) ?_
        refine ro_call (va_runV (As := [.int v4, .ref ro]) (rest := []) ⟨hx, hb, hml, hown, hts⟩ (c_X7_kindOf l D cI cZ cR _ w wr wc ro wt tw sw dr nr ra rd cs ch cp fr nt ft v4 hn30) (cwV 2 hts gX7_product_X7_kindOf rfl rfl rfl ⟨rfl, hd_X7_kindOf⟩ ⟨(Nat.le_of_ble_eq_true rfl), (Nat.le_of_ble_eq_true rfl)⟩) (po_preV hAM hP (va_recv hK hP (ci := 5) (q0 := 0) rfl rfl)) rfl rfl hl.1 rfl (lv_room (Nat.le_of_ble_eq_true rfl)) dX7_product_31 ⟨(Nat.le_of_ble_eq_true rfl), (Nat.le_of_ble_eq_true rfl)⟩) ?_
        refine lv_if_ne (tgt := 61) hx hb dX7_product_34 (by decide) (fun c_34 => ?_) (fun c_34 => ?_)
        · have hE := itF hE c_34
          refine lv_iinc (v := (v4 + 1)) (lv' := [(4, .int (v4 + 1)), (5, .ref (ra (ix v4))), (0, .ref w), (1, .int p0), (2, .ref ro), (3, .int v3)]) hx hb dX7_product_61 hl (k := 5) rfl rfl (by decide) rfl (fun ls hl => ?_)
          refine lv_goto (tgt := 5) hx hb dX7_product_64 (by decide) ?_
          exact ih v3 (v4 + 1) ((hI.ge (by omega) rfl c_11).1) hE ls (lv_sub hl [2, 3, 4, 5, 0] rfl)
        · have hE := itT hE c_34
          refine lv_iload_n hx hb dX7_product_37 rfl (lv_at hl 4 rfl) ?_
          refine lv_iload_n hx hb dX7_product_38 rfl (lv_at hl 2 rfl) ?_
          refine lv_if_ne (tgt := 50) hx hb dX7_product_39 (by decide) (fun c_39 => ?_) (fun c_39 => ?_)
          · have hE := itF hE c_39
            refine lv_aload hx hb dX7_product_50 (lv_at hl 0 rfl) ?_
            refine va_get (D := D) (ci := 3) (v := .int (rd (ix v4)).2.2.1) (C := RX5) (T := TX5) (N := 6) hx hb hts in_X7_product_X5 hown hK hP (7 + (ix v4)) (rw_at (X := [(w, .inr (5, [.ref wr, .ref wc, .int (nI nr), .int cs, .int ch])), (wr, .inl (cR, 30, .inr (.inr (.inr (.inr (rwA nr ra)))))), (wc, .inl (cI, 30, .inl cp)), (ro, .inr (2, [.ref wt, .ref tw, .ref dr])), (wt, .inl (cI, 36, .inl fr)), (tw, .inr (4, [.ref sw, .int nt])), (sw, .inl (cI, 40, .inl ft))]) (inR_lt hn30 o_17)) rfl 2 (by decide) (hts (.fieldLink RX7 62 "WallCount$Row" "b" "I") (List.mem_of_getElem? (i := 3) rfl)) (fun _ h9 => h9) rfl dX7_product_52 ?_
            refine lv_imul hx hb dX7_product_55 ?_
            refine lv_sipush (v := 10007) hx hb dX7_product_56 (by decide +kernel) ?_
            refine w_irem hx hb dX7_product_59 (by decide +kernel) ?_
            refine lv_istore_n (lv' := [(3, .int (xRem (v3 * (rd (ix v4)).2.2.1) 10007)), (5, .ref (ra (ix v4))), (0, .ref w), (1, .int p0), (2, .ref ro), (4, .int v4)]) hx hb dX7_product_60 rfl hl (by decide) rfl (fun ls hl => ?_)
            refine lv_iinc (v := (v4 + 1)) (lv' := [(4, .int (v4 + 1)), (3, .int (xRem (v3 * (rd (ix v4)).2.2.1) 10007)), (5, .ref (ra (ix v4))), (0, .ref w), (1, .int p0), (2, .ref ro)]) hx hb dX7_product_61 hl (k := 5) rfl rfl (by decide) rfl (fun ls hl => ?_)
            refine lv_goto (tgt := 5) hx hb dX7_product_64 (by decide) ?_
            exact ih (xRem (v3 * (rd (ix v4)).2.2.1) 10007) (v4 + 1) ((hI.ge (by omega) rfl c_11).1) hE ls (lv_sub hl [3, 4, 5, 1, 0] rfl)
          · have hE := itT hE c_39
            refine lv_aload hx hb dX7_product_42 (lv_at hl 0 rfl) ?_
            refine va_get (D := D) (ci := 3) (v := .int (rd (ix v4)).2.1) (C := RX5) (T := TX5) (N := 6) hx hb hts in_X7_product_X5 hown hK hP (7 + (ix v4)) (rw_at (X := [(w, .inr (5, [.ref wr, .ref wc, .int (nI nr), .int cs, .int ch])), (wr, .inl (cR, 30, .inr (.inr (.inr (.inr (rwA nr ra)))))), (wc, .inl (cI, 30, .inl cp)), (ro, .inr (2, [.ref wt, .ref tw, .ref dr])), (wt, .inl (cI, 36, .inl fr)), (tw, .inr (4, [.ref sw, .int nt])), (sw, .inl (cI, 40, .inl ft))]) (inR_lt hn30 o_17)) rfl 1 (by decide) (hts (.fieldLink RX7 59 "WallCount$Row" "a" "I") (List.mem_of_getElem? (i := 2) rfl)) (fun _ h9 => h9) rfl dX7_product_44 ?_
            refine lv_goto (tgt := 55) hx hb dX7_product_47 (by decide) ?_
            refine lv_imul hx hb dX7_product_55 ?_
            refine lv_sipush (v := 10007) hx hb dX7_product_56 (by decide +kernel) ?_
            refine w_irem hx hb dX7_product_59 (by decide +kernel) ?_
            refine lv_istore_n (lv' := [(3, .int (xRem (v3 * (rd (ix v4)).2.1) 10007)), (5, .ref (ra (ix v4))), (0, .ref w), (1, .int p0), (2, .ref ro), (4, .int v4)]) hx hb dX7_product_60 rfl hl (by decide) rfl (fun ls hl => ?_)
            refine lv_iinc (v := (v4 + 1)) (lv' := [(4, .int (v4 + 1)), (3, .int (xRem (v3 * (rd (ix v4)).2.1) 10007)), (5, .ref (ra (ix v4))), (0, .ref w), (1, .int p0), (2, .ref ro)]) hx hb dX7_product_61 hl (k := 5) rfl rfl (by decide) rfl (fun ls hl => ?_)
            refine lv_goto (tgt := 5) hx hb dX7_product_64 (by decide) ?_
            exact ih (xRem (v3 * (rd (ix v4)).2.1) 10007) (v4 + 1) ((hI.ge (by omega) rfl c_11).1) hE ls (lv_sub hl [3, 4, 5, 1, 0] rfl)
      · have hE := itF hE o_17
        rw [at_out hn30 o_17]
        refine lv_astoreN (lv' := [(5, .null), (0, .ref w), (1, .int p0), (2, .ref ro), (3, .int v3), (4, .int v4)]) hx hb dX7_product_20 hl (by decide) rfl (fun ls hl => ?_)
        refine lv_aloadN hx hb dX7_product_22 (lv_at hl 0 rfl) ?_
        refine lv_ifnullN (tgt := 61) hx hb dX7_product_24 (by decide) ?_
        refine lv_iinc (v := (v4 + 1)) (lv' := [(4, .int (v4 + 1)), (5, .null), (0, .ref w), (1, .int p0), (2, .ref ro), (3, .int v3)]) hx hb dX7_product_61 hl (k := 5) rfl rfl (by decide) rfl (fun ls hl => ?_)
        refine lv_goto (tgt := 5) hx hb dX7_product_64 (by decide) ?_
        exact ih v3 (v4 + 1) ((hI.ge (by omega) rfl c_11).1) hE ls (lv_sub hl [2, 3, 4, 5, 0] rfl)

theorem hd_X7_wordOf : yX7_wordOf.cls ≠ "java/lang/invoke/MethodHandle" ∧ yX7_wordOf.cls ≠ "java/lang/invoke/VarHandle" ∧ (parseMethodDescriptor yX7_wordOf.desc).map (fun d => d.parameters.length) = some 1 := by decide +kernel
def x_X7_wordOf (nr : Nat) (rd : Nat → R6) (p0 : Int32) : Int32 := (if inR nr p0 = true then (x_X5_word (rd (ix p0)).1 (rd (ix p0)).2.1 (rd (ix p0)).2.2.1 (rd (ix p0)).2.2.2.1) else (-6))
def rm_X7_wordOf : Room := { frames := 2, cells := 0, slots := 0, locals := 42 }
theorem in_X7_wordOf_X5 : ∀ w ∈ wsX50, w ∈ wsX7_wordOf := fun _ h => List.mem_cons_of_mem _ (List.mem_append_right _ h)
theorem in_X7_wordOf_X7 : ∀ w ∈ wsX70, w ∈ wsX7_wordOf := fun _ h => List.mem_cons_of_mem _ (List.mem_append_left _ (List.mem_append_right _ h))
set_option maxHeartbeats 4000000 in
set_option maxRecDepth 100000 in
theorem c_X7_wordOf (l : Launch) (D : va_G) (cI cZ cR : ClassId) (H0 : Heap) (w wr wc ro wt tw sw dr : Nat) (nr : Nat) (ra : Nat → Nat) (rd : Nat → R6) (cs : Int32) (ch : Int32) (cp : Nat → Int32) (fr : Nat → Int32) (nt : Int32) (ft : Nat → Int32) (p0 : Int32) (hn30 : nr ≤ 30) : Met l yX7_wordOf wsX7_wordOf rm_X7_wordOf (po_P D cI cZ cR [.ref w, .int p0] ([(w, .inr (5, [.ref wr, .ref wc, .int (nI nr), .int cs, .int ch])), (wr, .inl (cR, 30, .inr (.inr (.inr (.inr (rwA nr ra)))))), (wc, .inl (cI, 30, .inl cp)), (ro, .inr (2, [.ref wt, .ref tw, .ref dr])), (wt, .inl (cI, 36, .inl fr)), (tw, .inr (4, [.ref sw, .int nt])), (sw, .inl (cI, 40, .inl ft))] ++ rwL nr ra rd) H0) (po_Q (some (.int (x_X7_wordOf nr rd p0))) H0) 0 0 nF := by
  refine Met.ofW (cc := cX7_wordOf) (maxL := 3) (ret := (some .int)) (by decide +kernel) rfl ?_
  intro p e s m args below meth c s₁ B hml hv
  obtain ⟨rfl, rfl, hAM, hP⟩ := hv
  have hx := B.exec
  have hb := B.bytes
  have hr := B.returns
  have hts := atoms_spec (ws := wsX7_wordOf) B.pre
  have hown : s.vm.findClass RX7 = some m.cls := findClass_of_methodNamed B.named
  have hlocks := B.notSynchronized
  have hK := hAM.1
  generalize hE : (x_X7_wordOf nr rd p0) = Rv
  rw [x_X7_wordOf] at hE
  have hl := lv_entry ([.ref w, .int p0]) (n := 3) (Nat.le_of_ble_eq_true rfl)
  rw [lg_entry_eq]
  generalize (lg_sl ([.ref w, .int p0]) ++ List.replicate (3 - (lg_sl ([.ref w, .int p0])).length) Slot.unset).toArray = ls at hl ⊢
  have hl : lv_has ls 3 [(0, .ref w), (1, .int p0)] := hl
  refine lv_aload_n hx hb dX7_wordOf_0 rfl (lv_at hl 0 rfl) ?_
  refine lv_iload_n hx hb dX7_wordOf_1 rfl (lv_at hl 1 rfl) ?_
  refine ro_call (va_runV (As := [.int p0]) (rest := []) ⟨hx, hb, hml, hown, hts⟩ (c_X7_at l D cI cZ cR _ w wr wc ro wt tw sw dr nr ra rd cs ch cp fr nt ft p0) (cwV 1 hts gX7_wordOf_X7_at rfl rfl rfl ⟨rfl, hd_X7_at⟩ ⟨(Nat.le_of_ble_eq_true rfl), (Nat.le_of_ble_eq_true rfl)⟩) (po_preV hAM hP (va_recv hK hP (ci := 5) (q0 := 0) rfl rfl)) rfl rfl hl.1 rfl (lv_room (Nat.le_of_ble_eq_true rfl)) dX7_wordOf_2 ⟨(Nat.le_of_ble_eq_true rfl), (Nat.le_of_ble_eq_true rfl)⟩) ?_
  by_cases o_2 : inR nr p0 = true
  · have hE := itT hE o_2
    rw [at_in hn30 o_2]
    refine lv_astore_n (lv' := [(2, .ref (ra (ix p0))), (0, .ref w), (1, .int p0)]) hx hb dX7_wordOf_5 rfl hl (by decide) rfl (fun ls hl => ?_)
    refine lv_aload_n hx hb dX7_wordOf_6 rfl (lv_at hl 0 rfl) ?_
    refine lv_ifnonnull (tgt := 15) hx hb dX7_wordOf_7 (by decide) ?_
    refine lv_aload_n hx hb dX7_wordOf_15 rfl (lv_at hl 0 rfl) ?_
    refine ro_call (va_runV (As := []) (rest := []) ⟨hx, hb, hml, hown, hts⟩ (c_X5_word l D cI cZ cR _ (ra (ix p0)) (rd (ix p0)).1 (rd (ix p0)).2.1 (rd (ix p0)).2.2.1 (rd (ix p0)).2.2.2.1 (rd (ix p0)).2.2.2.2.1 (rd (ix p0)).2.2.2.2.2) (cwV 0 hts gX7_wordOf_X5_word rfl rfl rfl ⟨rfl, hd_X5_word⟩ ⟨(Nat.le_of_ble_eq_true rfl), (Nat.le_of_ble_eq_true rfl)⟩) (po_preV hAM (va_one hP (rw_at (X := [(w, .inr (5, [.ref wr, .ref wc, .int (nI nr), .int cs, .int ch])), (wr, .inl (cR, 30, .inr (.inr (.inr (.inr (rwA nr ra)))))), (wc, .inl (cI, 30, .inl cp)), (ro, .inr (2, [.ref wt, .ref tw, .ref dr])), (wt, .inl (cI, 36, .inl fr)), (tw, .inr (4, [.ref sw, .int nt])), (sw, .inl (cI, 40, .inl ft))]) (inR_lt hn30 o_2))) (va_recv hK hP (ci := 3) (q0 := (7 + (ix p0))) rfl (rw_at (X := [(w, .inr (5, [.ref wr, .ref wc, .int (nI nr), .int cs, .int ch])), (wr, .inl (cR, 30, .inr (.inr (.inr (.inr (rwA nr ra)))))), (wc, .inl (cI, 30, .inl cp)), (ro, .inr (2, [.ref wt, .ref tw, .ref dr])), (wt, .inl (cI, 36, .inl fr)), (tw, .inr (4, [.ref sw, .int nt])), (sw, .inl (cI, 40, .inl ft))]) (inR_lt hn30 o_2)))) rfl rfl hl.1 rfl (lv_room (Nat.le_of_ble_eq_true rfl)) dX7_wordOf_16 ⟨(Nat.le_of_ble_eq_true rfl), (Nat.le_of_ble_eq_true rfl)⟩) ?_
    exact w_iret hx hb hr hlocks hE dX7_wordOf_19
  · have hE := itF hE o_2
    rw [at_out hn30 o_2]
    refine lv_astore_nN (lv' := [(2, .null), (0, .ref w), (1, .int p0)]) hx hb dX7_wordOf_5 rfl hl (by decide) rfl (fun ls hl => ?_)
    refine lv_aload_nN hx hb dX7_wordOf_6 rfl (lv_at hl 0 rfl) ?_
    refine lv_ifnonnullN hx hb dX7_wordOf_7 ?_
    refine lv_bipush (v := (-6)) hx hb dX7_wordOf_10 (by decide +kernel) ?_
    refine lv_goto (tgt := 19) hx hb dX7_wordOf_12 (by decide) ?_
    exact w_iret hx hb hr hlocks hE dX7_wordOf_19

theorem hd_X7_headBehind : yX7_headBehind.cls ≠ "java/lang/invoke/MethodHandle" ∧ yX7_headBehind.cls ≠ "java/lang/invoke/VarHandle" ∧ (parseMethodDescriptor yX7_headBehind.desc).map (fun d => d.parameters.length) = some 1 := by decide +kernel
def x_X7_headBehind_L5 (nr : Nat) (rd : Nat → R6) (p0 : Int32) : Nat → Int64 → Int32 → Int32
  | 0, _, _ => 0
  | n + 1, v2, v4 => (if p0 < v4 then (Int64.toInt32 v2) else (if (nI nr) ≤ v4 then (Int64.toInt32 v2) else (x_X7_headBehind_L5 nr rd p0 n (xRemL ((v2 * 10007) + (Int32.toInt64 (x_X7_wordOf nr rd v4))) 999983) (v4 + 1))))
def x_X7_headBehind (nr : Nat) (rd : Nat → R6) (p0 : Int32) : Int32 := (x_X7_headBehind_L5 nr rd p0 (nr + 1) 1 0)
def rm_X7_headBehind : Room := { frames := 3, cells := 0, slots := 0, locals := 64 }
theorem in_X7_headBehind_X5 : ∀ w ∈ wsX50, w ∈ wsX7_headBehind := fun _ h => List.mem_cons_of_mem _ (List.mem_append_right _ h)
theorem in_X7_headBehind_X7 : ∀ w ∈ wsX70, w ∈ wsX7_headBehind := fun _ h => List.mem_cons_of_mem _ (List.mem_append_left _ (List.mem_append_right _ h))
set_option maxHeartbeats 4000000 in
set_option maxRecDepth 100000 in
theorem c_X7_headBehind (l : Launch) (D : va_G) (cI cZ cR : ClassId) (H0 : Heap) (w wr wc ro wt tw sw dr : Nat) (nr : Nat) (ra : Nat → Nat) (rd : Nat → R6) (cs : Int32) (ch : Int32) (cp : Nat → Int32) (fr : Nat → Int32) (nt : Int32) (ft : Nat → Int32) (p0 : Int32) (hn30 : nr ≤ 30) : Met l yX7_headBehind wsX7_headBehind rm_X7_headBehind (po_P D cI cZ cR [.ref w, .int p0] ([(w, .inr (5, [.ref wr, .ref wc, .int (nI nr), .int cs, .int ch])), (wr, .inl (cR, 30, .inr (.inr (.inr (.inr (rwA nr ra)))))), (wc, .inl (cI, 30, .inl cp)), (ro, .inr (2, [.ref wt, .ref tw, .ref dr])), (wt, .inl (cI, 36, .inl fr)), (tw, .inr (4, [.ref sw, .int nt])), (sw, .inl (cI, 40, .inl ft))] ++ rwL nr ra rd) H0) (po_Q (some (.int (x_X7_headBehind nr rd p0))) H0) 0 0 nF := by
  refine Met.ofW (cc := cX7_headBehind) (maxL := 5) (ret := (some .int)) (by decide +kernel) rfl ?_
  intro p e s m args below meth c s₁ B hml hv
  obtain ⟨rfl, rfl, hAM, hP⟩ := hv
  have hx := B.exec
  have hb := B.bytes
  have hr := B.returns
  have hts := atoms_spec (ws := wsX7_headBehind) B.pre
  have hown : s.vm.findClass RX7 = some m.cls := findClass_of_methodNamed B.named
  have hlocks := B.notSynchronized
  have hK := hAM.1
  generalize hE : (x_X7_headBehind nr rd p0) = Rv
  rw [x_X7_headBehind] at hE
  have hl := lv_entry ([.ref w, .int p0]) (n := 5) (Nat.le_of_ble_eq_true rfl)
  rw [lg_entry_eq]
  generalize (lg_sl ([.ref w, .int p0]) ++ List.replicate (5 - (lg_sl ([.ref w, .int p0])).length) Slot.unset).toArray = ls at hl ⊢
  have hl : lv_has ls 5 [(0, .ref w), (1, .int p0)] := hl
  refine lv_lconst (v := 1) hx hb dX7_headBehind_0 (by decide +kernel) ?_
  refine lv_lstore_n (lv' := [(2, .long 1), (0, .ref w), (1, .int p0)]) hx hb dX7_headBehind_1 rfl hl (by decide) rfl (fun ls hl => ?_)
  refine lv_iconst (v := 0) hx hb dX7_headBehind_2 (by decide) ?_
  refine lv_istore (lv' := [(4, .int 0), (2, .long 1), (0, .ref w), (1, .int p0)]) hx hb dX7_headBehind_3 hl (by decide) rfl (fun ls hl => ?_)
  suffices loop : ∀ (n : Nat) (v2 : Int64) (v4 : Int32), (UP 0 nr n v4) → x_X7_headBehind_L5 nr rd p0 n v2 v4 = Rv → ∀ ls : Array Slot, lv_has ls 5 [(4, .int v4), (2, .long v2), (0, .ref w), (1, .int p0)] → W p l e (headSpec wsX7_headBehind rm_X7_headBehind).room s m ([.ref w, .int p0] : List Value).toArray below meth c s.heap [] 0 0 (MQ below (po_Q (some (.int Rv)) s.heap) ([.ref w, .int p0] : List Value).toArray s 0 0 nF) (F0 m 5 ls []) from
    loop (nr + 1) 1 0 (UP.start 0 (by omega) (by omega)) hE ls (lv_sub hl [0, 1, 2, 3] rfl)
  clear hE hl ls
  intro n
  induction n with
  | zero =>
    intro v2 v4 hI _ _ _
    exact absurd hI (UP.zero)
  | succ n ih =>
    intro v2 v4 hI hE ls hl
    rw [x_X7_headBehind_L5] at hE
    refine lv_iload hx hb dX7_headBehind_5 (lv_at hl 0 rfl) ?_
    refine lv_iload_n hx hb dX7_headBehind_7 rfl (lv_at hl 3 rfl) ?_
    refine lv_icmp_gt (tgt := 44) hx hb dX7_headBehind_8 (by decide) (fun c_8 => ?_) (fun c_8 => ?_)
    · have hE := itT hE c_8
      refine lv_lload_n hx hb dX7_headBehind_44 rfl (lv_at hl 1 rfl) ?_
      refine lv_l2i hx hb dX7_headBehind_45 rfl ?_
      exact w_iret hx hb hr hlocks hE dX7_headBehind_46
    · have hE := itF hE c_8
      refine lv_iload hx hb dX7_headBehind_11 (lv_at hl 0 rfl) ?_
      refine lv_aload_n hx hb dX7_headBehind_13 rfl (lv_at hl 2 rfl) ?_
      refine va_get (D := D) (ci := 5) (v := .int (nI nr)) (C := RX7) (T := TX7) (N := 5) hx hb hts in_X7_headBehind_X7 hown hK hP 0 rfl rfl 2 (by decide) (hts (.fieldLink RX7 21 "WallCount$Wall" "size" "I") (List.mem_of_getElem? (i := 1) rfl)) (fun _ h9 => h9) rfl dX7_headBehind_14 ?_
      refine lv_icmp_ge (tgt := 44) hx hb dX7_headBehind_17 (by decide) (fun c_17 => ?_) (fun c_17 => ?_)
      · have hE := itT hE c_17
        refine lv_lload_n hx hb dX7_headBehind_44 rfl (lv_at hl 1 rfl) ?_
        refine lv_l2i hx hb dX7_headBehind_45 rfl ?_
        exact w_iret hx hb hr hlocks hE dX7_headBehind_46
      · have hE := itF hE c_17
        refine lv_lload_n hx hb dX7_headBehind_20 rfl (lv_at hl 1 rfl) ?_
        refine lv_ldc2 hx hb hown (hts (.constantLong RX7 65 (10007)) (List.mem_of_getElem? (i := 2) rfl)) dX7_headBehind_21 ?_
        refine lv_lmul hx hb dX7_headBehind_24 ?_
        refine lv_aload_n hx hb dX7_headBehind_25 rfl (lv_at hl 2 rfl) ?_
        refine lv_iload hx hb dX7_headBehind_26 (lv_at hl 0 rfl) ?_
        refine ro_call (va_runV (As := [.int v4]) (rest := [.long (v2 * 10007)]) ⟨hx, hb, hml, hown, hts⟩ (c_X7_wordOf l D cI cZ cR _ w wr wc ro wt tw sw dr nr ra rd cs ch cp fr nt ft v4 hn30) (cwV 1 hts gX7_headBehind_X7_wordOf rfl rfl rfl ⟨rfl, hd_X7_wordOf⟩ ⟨(Nat.le_of_ble_eq_true rfl), (Nat.le_of_ble_eq_true rfl)⟩) (po_preV hAM hP (va_recv hK hP (ci := 5) (q0 := 0) rfl rfl)) rfl rfl hl.1 rfl (lv_room (Nat.le_of_ble_eq_true rfl)) dX7_headBehind_28 ⟨(Nat.le_of_ble_eq_true rfl), (Nat.le_of_ble_eq_true rfl)⟩) ?_
        refine lv_i2l hx hb dX7_headBehind_31 rfl ?_
        refine lv_ladd hx hb dX7_headBehind_32 ?_
        refine lv_ldc2 hx hb hown (hts (.constantLong RX7 71 (999983)) (List.mem_of_getElem? (i := 3) rfl)) dX7_headBehind_33 ?_
        refine w_lrem hx hb dX7_headBehind_36 (by decide +kernel) ?_
        refine lv_lstore_n (lv' := [(2, .long (xRemL ((v2 * 10007) + (Int32.toInt64 (x_X7_wordOf nr rd v4))) 999983)), (4, .int v4), (0, .ref w), (1, .int p0)]) hx hb dX7_headBehind_37 rfl hl (by decide) rfl (fun ls hl => ?_)
        refine lv_iinc (v := (v4 + 1)) (lv' := [(4, .int (v4 + 1)), (2, .long (xRemL ((v2 * 10007) + (Int32.toInt64 (x_X7_wordOf nr rd v4))) 999983)), (0, .ref w), (1, .int p0)]) hx hb dX7_headBehind_38 hl (k := 1) rfl rfl (by decide) rfl (fun ls hl => ?_)
        refine lv_goto (tgt := 5) hx hb dX7_headBehind_41 (by decide) ?_
        exact ih (xRemL ((v2 * 10007) + (Int32.toInt64 (x_X7_wordOf nr rd v4))) 999983) (v4 + 1) ((hI.ge (by omega) rfl c_17).1) hE ls (lv_sub hl [0, 1, 2, 3] rfl)

theorem hd_X7_firstWithWord : yX7_firstWithWord.cls ≠ "java/lang/invoke/MethodHandle" ∧ yX7_firstWithWord.cls ≠ "java/lang/invoke/VarHandle" ∧ (parseMethodDescriptor yX7_firstWithWord.desc).map (fun d => d.parameters.length) = some 2 := by decide +kernel
def x_X7_firstWithWord_L2 (nr : Nat) (rd : Nat → R6) (p0 : Int32) (p1 : Int32) : Nat → Int32 → Int32
  | 0, _ => 0
  | n + 1, v3 => (if (nI nr) ≤ v3 then (-6) else (if (x_X7_wordOf nr rd v3) = p0 then v3 else (x_X7_firstWithWord_L2 nr rd p0 p1 n (v3 + 1))))
def x_X7_firstWithWord (nr : Nat) (rd : Nat → R6) (p0 : Int32) (p1 : Int32) : Int32 := (x_X7_firstWithWord_L2 nr rd p0 p1 (31) p1)
def rm_X7_firstWithWord : Room := { frames := 3, cells := 0, slots := 0, locals := 64 }
theorem in_X7_firstWithWord_X5 : ∀ w ∈ wsX50, w ∈ wsX7_firstWithWord := fun _ h => List.mem_cons_of_mem _ (List.mem_append_right _ h)
theorem in_X7_firstWithWord_X7 : ∀ w ∈ wsX70, w ∈ wsX7_firstWithWord := fun _ h => List.mem_cons_of_mem _ (List.mem_append_left _ (List.mem_append_right _ h))
set_option maxHeartbeats 4000000 in
set_option maxRecDepth 100000 in
theorem c_X7_firstWithWord (l : Launch) (D : va_G) (cI cZ cR : ClassId) (H0 : Heap) (w wr wc ro wt tw sw dr : Nat) (nr : Nat) (ra : Nat → Nat) (rd : Nat → R6) (cs : Int32) (ch : Int32) (cp : Nat → Int32) (fr : Nat → Int32) (nt : Int32) (ft : Nat → Int32) (p0 : Int32) (p1 : Int32) (hn30 : nr ≤ 30) (hf0 : ¬ p1 < 0) (hf1 : p1 ≤ nI 30) : Met l yX7_firstWithWord wsX7_firstWithWord rm_X7_firstWithWord (po_P D cI cZ cR [.ref w, .int p0, .int p1] ([(w, .inr (5, [.ref wr, .ref wc, .int (nI nr), .int cs, .int ch])), (wr, .inl (cR, 30, .inr (.inr (.inr (.inr (rwA nr ra)))))), (wc, .inl (cI, 30, .inl cp)), (ro, .inr (2, [.ref wt, .ref tw, .ref dr])), (wt, .inl (cI, 36, .inl fr)), (tw, .inr (4, [.ref sw, .int nt])), (sw, .inl (cI, 40, .inl ft))] ++ rwL nr ra rd) H0) (po_Q (some (.int (x_X7_firstWithWord nr rd p0 p1))) H0) 0 0 nF := by
  refine Met.ofW (cc := cX7_firstWithWord) (maxL := 4) (ret := (some .int)) (by decide +kernel) rfl ?_
  intro p e s m args below meth c s₁ B hml hv
  obtain ⟨rfl, rfl, hAM, hP⟩ := hv
  have hx := B.exec
  have hb := B.bytes
  have hr := B.returns
  have hts := atoms_spec (ws := wsX7_firstWithWord) B.pre
  have hown : s.vm.findClass RX7 = some m.cls := findClass_of_methodNamed B.named
  have hlocks := B.notSynchronized
  have hK := hAM.1
  generalize hE : (x_X7_firstWithWord nr rd p0 p1) = Rv
  rw [x_X7_firstWithWord] at hE
  have hl := lv_entry ([.ref w, .int p0, .int p1]) (n := 4) (Nat.le_of_ble_eq_true rfl)
  rw [lg_entry_eq]
  generalize (lg_sl ([.ref w, .int p0, .int p1]) ++ List.replicate (4 - (lg_sl ([.ref w, .int p0, .int p1])).length) Slot.unset).toArray = ls at hl ⊢
  have hl : lv_has ls 4 [(0, .ref w), (1, .int p0), (2, .int p1)] := hl
  refine lv_iload_n hx hb dX7_firstWithWord_0 rfl (lv_at hl 2 rfl) ?_
  refine lv_istore_n (lv' := [(3, .int p1), (0, .ref w), (1, .int p0), (2, .int p1)]) hx hb dX7_firstWithWord_1 rfl hl (by decide) rfl (fun ls hl => ?_)
  suffices loop : ∀ (n : Nat) (v3 : Int32), (UP 0 30 n v3) → x_X7_firstWithWord_L2 nr rd p0 p1 n v3 = Rv → ∀ ls : Array Slot, lv_has ls 4 [(3, .int v3), (0, .ref w), (1, .int p0), (2, .int p1)] → W p l e (headSpec wsX7_firstWithWord rm_X7_firstWithWord).room s m ([.ref w, .int p0, .int p1] : List Value).toArray below meth c s.heap [] 0 0 (MQ below (po_Q (some (.int Rv)) s.heap) ([.ref w, .int p0, .int p1] : List Value).toArray s 0 0 nF) (F0 m 2 ls []) from
    loop (31) p1 (UP.startx hf0 (by omega) (ix_le (by decide) hf1)) hE ls (lv_sub hl [0, 1, 2, 3] rfl)
  clear hE hl ls
  intro n
  induction n with
  | zero =>
    intro v3 hI _ _ _
    exact absurd hI (UP.zero)
  | succ n ih =>
    intro v3 hI hE ls hl
    rw [x_X7_firstWithWord_L2] at hE
    refine lv_iload_n hx hb dX7_firstWithWord_2 rfl (lv_at hl 0 rfl) ?_
    refine lv_aload_n hx hb dX7_firstWithWord_3 rfl (lv_at hl 1 rfl) ?_
    refine va_get (D := D) (ci := 5) (v := .int (nI nr)) (C := RX7) (T := TX7) (N := 5) hx hb hts in_X7_firstWithWord_X7 hown hK hP 0 rfl rfl 2 (by decide) (hts (.fieldLink RX7 21 "WallCount$Wall" "size" "I") (List.mem_of_getElem? (i := 1) rfl)) (fun _ h9 => h9) rfl dX7_firstWithWord_4 ?_
    refine lv_icmp_ge (tgt := 27) hx hb dX7_firstWithWord_7 (by decide) (fun c_7 => ?_) (fun c_7 => ?_)
    · have hE := itT hE c_7
      refine lv_bipush (v := (-6)) hx hb dX7_firstWithWord_27 (by decide +kernel) ?_
      exact w_iret hx hb hr hlocks hE dX7_firstWithWord_29
    · have hE := itF hE c_7
      refine lv_aload_n hx hb dX7_firstWithWord_10 rfl (lv_at hl 1 rfl) ?_
      refine lv_iload_n hx hb dX7_firstWithWord_11 rfl (lv_at hl 0 rfl) ?_
      refine ro_call (va_runV (As := [.int v3]) (rest := []) ⟨hx, hb, hml, hown, hts⟩ (c_X7_wordOf l D cI cZ cR _ w wr wc ro wt tw sw dr nr ra rd cs ch cp fr nt ft v3 hn30) (cwV 1 hts gX7_firstWithWord_X7_wordOf rfl rfl rfl ⟨rfl, hd_X7_wordOf⟩ ⟨(Nat.le_of_ble_eq_true rfl), (Nat.le_of_ble_eq_true rfl)⟩) (po_preV hAM hP (va_recv hK hP (ci := 5) (q0 := 0) rfl rfl)) rfl rfl hl.1 rfl (lv_room (Nat.le_of_ble_eq_true rfl)) dX7_firstWithWord_12 ⟨(Nat.le_of_ble_eq_true rfl), (Nat.le_of_ble_eq_true rfl)⟩) ?_
      refine lv_iload_n hx hb dX7_firstWithWord_15 rfl (lv_at hl 2 rfl) ?_
      refine lv_icmp_ne (tgt := 21) hx hb dX7_firstWithWord_16 (by decide) (fun c_16 => ?_) (fun c_16 => ?_)
      · have hE := itF hE c_16
        refine lv_iinc (v := (v3 + 1)) (lv' := [(3, .int (v3 + 1)), (0, .ref w), (1, .int p0), (2, .int p1)]) hx hb dX7_firstWithWord_21 hl (k := 0) rfl rfl (by decide) rfl (fun ls hl => ?_)
        refine lv_goto (tgt := 2) hx hb dX7_firstWithWord_24 (by decide) ?_
        exact ih (v3 + 1) (hI.lt hn30 (by decide) c_7) hE ls (lv_sub hl [0, 1, 2, 3] rfl)
      · have hE := itT hE c_16
        refine lv_iload_n hx hb dX7_firstWithWord_19 rfl (lv_at hl 0 rfl) ?_
        exact w_iret hx hb hr hlocks hE dX7_firstWithWord_20

theorem hd_X7_firstUnlike : yX7_firstUnlike.cls ≠ "java/lang/invoke/MethodHandle" ∧ yX7_firstUnlike.cls ≠ "java/lang/invoke/VarHandle" ∧ (parseMethodDescriptor yX7_firstUnlike.desc).map (fun d => d.parameters.length) = some 0 := by decide +kernel
def x_X7_firstUnlike_L2 (nr : Nat) (rd : Nat → R6) (cs : Int32) (cp : Nat → Int32) : Nat → Int32 → Int32
  | 0, _ => 0
  | n + 1, v1 => (if (nI nr) ≤ v1 then (-6) else (if cs ≤ v1 then (-6) else (if 30 ≤ v1 then (-6) else (if (x_X7_wordOf nr rd v1) = (cp (ix v1)) then (x_X7_firstUnlike_L2 nr rd cs cp n (v1 + 1)) else v1))))
def x_X7_firstUnlike (nr : Nat) (rd : Nat → R6) (cs : Int32) (cp : Nat → Int32) : Int32 := (x_X7_firstUnlike_L2 nr rd cs cp (nr + 1) 0)
def rm_X7_firstUnlike : Room := { frames := 3, cells := 0, slots := 0, locals := 64 }
theorem in_X7_firstUnlike_X5 : ∀ w ∈ wsX50, w ∈ wsX7_firstUnlike := fun _ h => List.mem_cons_of_mem _ (List.mem_append_right _ h)
theorem in_X7_firstUnlike_X7 : ∀ w ∈ wsX70, w ∈ wsX7_firstUnlike := fun _ h => List.mem_cons_of_mem _ (List.mem_append_left _ (List.mem_append_right _ h))
set_option maxHeartbeats 4000000 in
set_option maxRecDepth 100000 in
theorem c_X7_firstUnlike (l : Launch) (D : va_G) (cI cZ cR : ClassId) (H0 : Heap) (w wr wc ro wt tw sw dr : Nat) (nr : Nat) (ra : Nat → Nat) (rd : Nat → R6) (cs : Int32) (ch : Int32) (cp : Nat → Int32) (fr : Nat → Int32) (nt : Int32) (ft : Nat → Int32) (hn30 : nr ≤ 30) : Met l yX7_firstUnlike wsX7_firstUnlike rm_X7_firstUnlike (po_P D cI cZ cR [.ref w] ([(w, .inr (5, [.ref wr, .ref wc, .int (nI nr), .int cs, .int ch])), (wr, .inl (cR, 30, .inr (.inr (.inr (.inr (rwA nr ra)))))), (wc, .inl (cI, 30, .inl cp)), (ro, .inr (2, [.ref wt, .ref tw, .ref dr])), (wt, .inl (cI, 36, .inl fr)), (tw, .inr (4, [.ref sw, .int nt])), (sw, .inl (cI, 40, .inl ft))] ++ rwL nr ra rd) H0) (po_Q (some (.int (x_X7_firstUnlike nr rd cs cp))) H0) 0 0 nF := by
  refine Met.ofW (cc := cX7_firstUnlike) (maxL := 2) (ret := (some .int)) (by decide +kernel) rfl ?_
  intro p e s m args below meth c s₁ B hml hv
  obtain ⟨rfl, rfl, hAM, hP⟩ := hv
  have hx := B.exec
  have hb := B.bytes
  have hr := B.returns
  have hts := atoms_spec (ws := wsX7_firstUnlike) B.pre
  have hown : s.vm.findClass RX7 = some m.cls := findClass_of_methodNamed B.named
  have hlocks := B.notSynchronized
  have hK := hAM.1
  generalize hE : (x_X7_firstUnlike nr rd cs cp) = Rv
  rw [x_X7_firstUnlike] at hE
  have hl := lv_entry ([.ref w]) (n := 2) (Nat.le_of_ble_eq_true rfl)
  rw [lg_entry_eq]
  generalize (lg_sl ([.ref w]) ++ List.replicate (2 - (lg_sl ([.ref w])).length) Slot.unset).toArray = ls at hl ⊢
  have hl : lv_has ls 2 [(0, .ref w)] := hl
  refine lv_iconst (v := 0) hx hb dX7_firstUnlike_0 (by decide) ?_
  refine lv_istore_n (lv' := [(1, .int 0), (0, .ref w)]) hx hb dX7_firstUnlike_1 rfl hl (by decide) rfl (fun ls hl => ?_)
  suffices loop : ∀ (n : Nat) (v1 : Int32), (UP 0 nr n v1) → x_X7_firstUnlike_L2 nr rd cs cp n v1 = Rv → ∀ ls : Array Slot, lv_has ls 2 [(1, .int v1), (0, .ref w)] → W p l e (headSpec wsX7_firstUnlike rm_X7_firstUnlike).room s m ([.ref w] : List Value).toArray below meth c s.heap [] 0 0 (MQ below (po_Q (some (.int Rv)) s.heap) ([.ref w] : List Value).toArray s 0 0 nF) (F0 m 2 ls []) from
    loop (nr + 1) 0 (UP.start 0 (by omega) (by omega)) hE ls (lv_sub hl [0, 1] rfl)
  clear hE hl ls
  intro n
  induction n with
  | zero =>
    intro v1 hI _ _ _
    exact absurd hI (UP.zero)
  | succ n ih =>
    intro v1 hI hE ls hl
    rw [x_X7_firstUnlike_L2] at hE
    refine lv_iload_n hx hb dX7_firstUnlike_2 rfl (lv_at hl 0 rfl) ?_
    refine lv_aload_n hx hb dX7_firstUnlike_3 rfl (lv_at hl 1 rfl) ?_
    refine va_get (D := D) (ci := 5) (v := .int (nI nr)) (C := RX7) (T := TX7) (N := 5) hx hb hts in_X7_firstUnlike_X7 hown hK hP 0 rfl rfl 2 (by decide) (hts (.fieldLink RX7 21 "WallCount$Wall" "size" "I") (List.mem_of_getElem? (i := 1) rfl)) (fun _ h9 => h9) rfl dX7_firstUnlike_4 ?_
    refine lv_icmp_ge (tgt := 49) hx hb dX7_firstUnlike_7 (by decide) (fun c_7 => ?_) (fun c_7 => ?_)
    · have hE := itT hE c_7
      refine lv_bipush (v := (-6)) hx hb dX7_firstUnlike_49 (by decide +kernel) ?_
      exact w_iret hx hb hr hlocks hE dX7_firstUnlike_51
    · have hE := itF hE c_7
      refine lv_iload_n hx hb dX7_firstUnlike_10 rfl (lv_at hl 0 rfl) ?_
      refine lv_aload_n hx hb dX7_firstUnlike_11 rfl (lv_at hl 1 rfl) ?_
      refine va_get (D := D) (ci := 5) (v := .int cs) (C := RX7) (T := TX7) (N := 5) hx hb hts in_X7_firstUnlike_X7 hown hK hP 0 rfl rfl 3 (by decide) (hts (.fieldLink RX7 25 "WallCount$Wall" "copiedSize" "I") (List.mem_of_getElem? (i := 2) rfl)) (fun _ h9 => h9) rfl dX7_firstUnlike_12 ?_
      refine lv_icmp_ge (tgt := 49) hx hb dX7_firstUnlike_15 (by decide) (fun c_15 => ?_) (fun c_15 => ?_)
      · have hE := itT hE c_15
        refine lv_bipush (v := (-6)) hx hb dX7_firstUnlike_49 (by decide +kernel) ?_
        exact w_iret hx hb hr hlocks hE dX7_firstUnlike_51
      · have hE := itF hE c_15
        refine lv_iload_n hx hb dX7_firstUnlike_18 rfl (lv_at hl 0 rfl) ?_
        refine lv_aload_n hx hb dX7_firstUnlike_19 rfl (lv_at hl 1 rfl) ?_
        refine va_get (D := D) (ci := 5) (v := .ref wc) (C := RX7) (T := TX7) (N := 5) hx hb hts in_X7_firstUnlike_X7 hown hK hP 0 rfl rfl 1 (by decide) (hts (.fieldLink RX7 17 "WallCount$Wall" "copied" "[I") (List.mem_of_getElem? (i := 3) rfl)) (fun _ h9 => h9) rfl dX7_firstUnlike_20 ?_
        refine va_alen (v := 30) hx hb hK hP 2 0 rfl rfl rfl dX7_firstUnlike_23 ?_
        refine lv_icmp_ge (tgt := 49) hx hb dX7_firstUnlike_24 (by decide) (fun c_24 => ?_) (fun c_24 => ?_)
        · have hE := itT hE c_24
          refine lv_bipush (v := (-6)) hx hb dX7_firstUnlike_49 (by decide +kernel) ?_
          exact w_iret hx hb hr hlocks hE dX7_firstUnlike_51
        · have hE := itF hE c_24
          refine lv_aload_n hx hb dX7_firstUnlike_27 rfl (lv_at hl 1 rfl) ?_
          refine lv_iload_n hx hb dX7_firstUnlike_28 rfl (lv_at hl 0 rfl) ?_
          refine ro_call (va_runV (As := [.int v1]) (rest := []) ⟨hx, hb, hml, hown, hts⟩ (c_X7_wordOf l D cI cZ cR _ w wr wc ro wt tw sw dr nr ra rd cs ch cp fr nt ft v1 hn30) (cwV 1 hts gX7_firstUnlike_X7_wordOf rfl rfl rfl ⟨rfl, hd_X7_wordOf⟩ ⟨(Nat.le_of_ble_eq_true rfl), (Nat.le_of_ble_eq_true rfl)⟩) (po_preV hAM hP (va_recv hK hP (ci := 5) (q0 := 0) rfl rfl)) rfl rfl hl.1 rfl (lv_room (Nat.le_of_ble_eq_true rfl)) dX7_firstUnlike_29 ⟨(Nat.le_of_ble_eq_true rfl), (Nat.le_of_ble_eq_true rfl)⟩) ?_
          refine lv_aload_n hx hb dX7_firstUnlike_32 rfl (lv_at hl 1 rfl) ?_
          refine va_get (D := D) (ci := 5) (v := .ref wc) (C := RX7) (T := TX7) (N := 5) hx hb hts in_X7_firstUnlike_X7 hown hK hP 0 rfl rfl 1 (by decide) (hts (.fieldLink RX7 17 "WallCount$Wall" "copied" "[I") (List.mem_of_getElem? (i := 3) rfl)) (fun _ h9 => h9) rfl dX7_firstUnlike_33 ?_
          refine lv_iload_n hx hb dX7_firstUnlike_36 rfl (lv_at hl 0 rfl) ?_
          refine va_iald hx hb hK hP 2 0 rfl rfl (up_in hI (by omega) rfl (by decide) c_24) dX7_firstUnlike_37 ?_
          refine lv_icmp_eq (tgt := 43) hx hb dX7_firstUnlike_38 (by decide) (fun c_38 => ?_) (fun c_38 => ?_)
          · have hE := itT hE c_38
            refine lv_iinc (v := (v1 + 1)) (lv' := [(1, .int (v1 + 1)), (0, .ref w)]) hx hb dX7_firstUnlike_43 hl (k := 0) rfl rfl (by decide) rfl (fun ls hl => ?_)
            refine lv_goto (tgt := 2) hx hb dX7_firstUnlike_46 (by decide) ?_
            exact ih (v1 + 1) ((hI.ge (by omega) rfl c_7).1) hE ls (lv_sub hl [0, 1] rfl)
          · have hE := itF hE c_38
            refine lv_iload_n hx hb dX7_firstUnlike_41 rfl (lv_at hl 0 rfl) ?_
            exact w_iret hx hb hr hlocks hE dX7_firstUnlike_42
