theorem nle_of_lt {x y : Int32} (h : x < y) : ¬ y ≤ x := by
  rw [Int32.lt_iff_toInt_lt] at h
  rw [Int32.le_iff_toInt_le]
  omega
theorem hd_X0_become : yX0_become.cls ≠ "java/lang/invoke/MethodHandle" ∧ yX0_become.cls ≠ "java/lang/invoke/VarHandle" ∧ (parseMethodDescriptor yX0_become.desc).map (fun d => d.parameters.length) = some 4 := by decide +kernel
def x_X0_become_k1 (p0 : Int32) (p2 : Int32) : Int32 := (if p0 < 2 then 0 else p2)
def x_X0_become_k2 (p0 : Int32) (p3 : Int32) : Int32 := (if p0 < 3 then 0 else p3)
def x_X0_become (p0 : Int32) (p1 : Int32) (p2 : Int32) (p3 : Int32) : Int32 × Int32 × Int32 × Int32 × Int32 := (p0, p1, (x_X0_become_k1 p0 p2), (x_X0_become_k2 p0 p3), (x_X2_ofG p1))
def rm_X0_become : Room := { frames := 2, cells := 0, slots := 0, locals := 45 }
abbrev pq_X0_become (D : va_G) (cI cZ cR : ClassId) (A : Nat → Prop) (x kk pr w wr wc ro wt : Nat) (need : Int32) (c0 : Int32) (c1 : Int32) (c2 : Int32) (hh : Int32) (pc0 : Int32) (pz0 : Int32) (pc1 : Int32) (pz1 : Int32) (dr : Nat) (sd : Nat) (ds : Nat) (fd : Nat → Int32) (tw : Nat) (sw : Nat) (wn : Nat) (fw : Nat → Int32) (fr : Nat → Int32) (nr : Nat) (ra : Nat → Nat) (rd : Nat → R6) (cc : Nat) (ch : Int32) (cp : Nat → Int32) (Rv : Int32 × Int32 × Int32 × Int32 × Int32) : Array Value → State → Outcome → State → Prop := wr_Q D (fun (v : Option Value) (u : Int32 × Int32 × Int32 × Int32 × Int32) => v = none ∧ u.1 = Rv.1 ∧ u.2.1 = Rv.2.1 ∧ u.2.2.1 = Rv.2.2.1 ∧ u.2.2.2.1 = Rv.2.2.2.1 ∧ u.2.2.2.2 = Rv.2.2.2.2) (fun u => cW cI cR x kk pr w wr wc ro wt u.1 u.2.1 u.2.2.1 u.2.2.2.1 u.2.2.2.2 pc0 pz0 pc1 pz1 dr sd ds fd tw sw wn fw fr nr ra rd cc ch cp) A
theorem in_X0_become_X0 : ∀ w ∈ wsX00, w ∈ wsX0_become := fun _ h => List.mem_cons_of_mem _ (List.mem_append_right _ h)
set_option maxHeartbeats 4000000 in
set_option maxRecDepth 100000 in
theorem c_X0_become (l : Launch) (D : va_G) (cI cZ cR : ClassId) (A : Nat → Prop) (H0 : Heap) (x kk pr w wr wc ro wt : Nat) (need : Int32) (c0 : Int32) (c1 : Int32) (c2 : Int32) (hh : Int32) (pc0 : Int32) (pz0 : Int32) (pc1 : Int32) (pz1 : Int32) (dr : Nat) (sd : Nat) (ds : Nat) (fd : Nat → Int32) (tw : Nat) (sw : Nat) (wn : Nat) (fw : Nat → Int32) (fr : Nat → Int32) (nr : Nat) (ra : Nat → Nat) (rd : Nat → R6) (cc : Nat) (ch : Int32) (cp : Nat → Int32) (p0 : Int32) (p1 : Int32) (p2 : Int32) (p3 : Int32) : Met l yX0_become wsX0_become rm_X0_become (wr_P D cI cZ cR [.ref kk, .int p0, .int p1, .int p2, .int p3] (cW cI cR x kk pr w wr wc ro wt need c0 c1 c2 hh pc0 pz0 pc1 pz1 dr sd ds fd tw sw wn fw fr nr ra rd cc ch cp) A H0) (pq_X0_become D cI cZ cR A x kk pr w wr wc ro wt need c0 c1 c2 hh pc0 pz0 pc1 pz1 dr sd ds fd tw sw wn fw fr nr ra rd cc ch cp (x_X0_become p0 p1 p2 p3)) 0 0 A := by
  refine Met.ofW (cc := cX0_become) (maxL := 5) (ret := none) (by decide +kernel) rfl ?_
  intro p e s m args below meth c s₁ B hml hv
  obtain ⟨rfl, rfl, hAM, hP, hD⟩ := hv
  have hx := B.exec
  have hb := B.bytes
  have hr := B.returns
  have hts := atoms_spec (ws := wsX0_become) B.pre
  have hown : s.vm.findClass RX0 = some m.cls := findClass_of_methodNamed B.named
  have hlocks := B.notSynchronized
  have hK := hAM.1
  have hS : va_S A s.heap s.heap [] := va_S.rf
  generalize hE : (x_X0_become p0 p1 p2 p3) = Rv
  rw [x_X0_become] at hE
  have hl := lv_entry ([.ref kk, .int p0, .int p1, .int p2, .int p3]) (n := 5) (Nat.le_of_ble_eq_true rfl)
  rw [lg_entry_eq]
  generalize (lg_sl ([.ref kk, .int p0, .int p1, .int p2, .int p3]) ++ List.replicate (5 - (lg_sl ([.ref kk, .int p0, .int p1, .int p2, .int p3])).length) Slot.unset).toArray = ls at hl ⊢
  have hl : lv_has ls 5 [(0, .ref kk), (1, .int p0), (2, .int p1), (3, .int p2), (4, .int p3)] := hl
  refine lv_aload_n hx hb dX0_become_0 rfl (lv_at hl 0 rfl) ?_
  refine lv_iload_n hx hb dX0_become_1 rfl (lv_at hl 1 rfl) ?_
  refine va_put (D := D) (ci := 0) (v := .int p0) (ty := .int) (C := RX0) (T := TX0) (N := 5) hx hb hts in_X0_become_X0 tyX0 tyX0_ok nmX0 hown hK hP hD hS 1 rfl rfl 0 (by decide) (hts (.fieldLink RX0 9 "WallCount$Key" "need" "I") (List.mem_of_getElem? (i := 1) rfl)) (fun _ h9 => h9) rfl (by decide +kernel) rfl rfl (Nat.le_of_ble_eq_true rfl) dX0_become_2 (fun H locs hP hD hS => ?_)
  have hP : va_P D vwCl (cW cI cR x kk pr w wr wc ro wt p0 c0 c1 c2 hh pc0 pz0 pc1 pz1 dr sd ds fd tw sw wn fw fr nr ra rd cc ch cp) H := hP
  have hD : va_D A (cW cI cR x kk pr w wr wc ro wt p0 c0 c1 c2 hh pc0 pz0 pc1 pz1 dr sd ds fd tw sw wn fw fr nr ra rd cc ch cp) := hD
  refine lv_aload_n hx hb dX0_become_5 rfl (lv_at hl 0 rfl) ?_
  refine lv_iload_n hx hb dX0_become_6 rfl (lv_at hl 2 rfl) ?_
  refine va_put (D := D) (ci := 0) (v := .int p1) (ty := .int) (C := RX0) (T := TX0) (N := 5) hx hb hts in_X0_become_X0 tyX0 tyX0_ok nmX0 hown hK hP hD hS 1 rfl rfl 1 (by decide) (hts (.fieldLink RX0 15 "WallCount$Key" "c0" "I") (List.mem_of_getElem? (i := 2) rfl)) (fun _ h9 => h9) rfl (by decide +kernel) rfl rfl (Nat.le_of_ble_eq_true rfl) dX0_become_7 (fun H locs hP hD hS => ?_)
  have hP : va_P D vwCl (cW cI cR x kk pr w wr wc ro wt p0 p1 c1 c2 hh pc0 pz0 pc1 pz1 dr sd ds fd tw sw wn fw fr nr ra rd cc ch cp) H := hP
  have hD : va_D A (cW cI cR x kk pr w wr wc ro wt p0 p1 c1 c2 hh pc0 pz0 pc1 pz1 dr sd ds fd tw sw wn fw fr nr ra rd cc ch cp) := hD
  refine lv_aload_n hx hb dX0_become_10 rfl (lv_at hl 0 rfl) ?_
  have j11 : W p l e (headSpec wsX0_become rm_X0_become).room s m ([.ref kk, .int p0, .int p1, .int p2, .int p3] : List Value).toArray below meth c H locs 0 0 (MQ below (pq_X0_become D cI cZ cR A x kk pr w wr wc ro wt need c0 c1 c2 hh pc0 pz0 pc1 pz1 dr sd ds fd tw sw wn fw fr nr ra rd cc ch cp Rv) ([.ref kk, .int p0, .int p1, .int p2, .int p3] : List Value).toArray s 0 0 A) (F0 m 21 ls [.int (x_X0_become_k1 p0 p2), .ref kk]) → W p l e (headSpec wsX0_become rm_X0_become).room s m ([.ref kk, .int p0, .int p1, .int p2, .int p3] : List Value).toArray below meth c H locs 0 0 (MQ below (pq_X0_become D cI cZ cR A x kk pr w wr wc ro wt need c0 c1 c2 hh pc0 pz0 pc1 pz1 dr sd ds fd tw sw wn fw fr nr ra rd cc ch cp Rv) ([.ref kk, .int p0, .int p1, .int p2, .int p3] : List Value).toArray s 0 0 A) (F0 m 11 ls [.ref kk]) := by
    intro k11
    generalize hJ11 : (x_X0_become_k1 p0 p2) = v11 at k11
    rw [x_X0_become_k1] at hJ11
    refine lv_iload_n hx hb dX0_become_11 rfl (lv_at hl 1 rfl) ?_
    refine lv_iconst (v := 2) hx hb dX0_become_12 (by decide) ?_
    refine lv_icmp_lt (tgt := 20) hx hb dX0_become_13 (by decide) (fun c_13 => ?_) (fun c_13 => ?_)
    · have hJ11 := itT hJ11 c_13
      refine lv_iconst (v := 0) hx hb dX0_become_20 (by decide) ?_
      subst hJ11
      exact k11
    · have hJ11 := itF hJ11 c_13
      refine lv_iload_n hx hb dX0_become_16 rfl (lv_at hl 3 rfl) ?_
      refine lv_goto (tgt := 21) hx hb dX0_become_17 (by decide) ?_
      subst hJ11
      exact k11
  refine j11 ?_
  refine va_put (D := D) (ci := 0) (v := .int (x_X0_become_k1 p0 p2)) (ty := .int) (C := RX0) (T := TX0) (N := 5) hx hb hts in_X0_become_X0 tyX0 tyX0_ok nmX0 hown hK hP hD hS 1 rfl rfl 2 (by decide) (hts (.fieldLink RX0 18 "WallCount$Key" "c1" "I") (List.mem_of_getElem? (i := 3) rfl)) (fun _ h9 => h9) rfl (by decide +kernel) rfl rfl (Nat.le_of_ble_eq_true rfl) dX0_become_21 (fun H locs hP hD hS => ?_)
  have hP : va_P D vwCl (cW cI cR x kk pr w wr wc ro wt p0 p1 (x_X0_become_k1 p0 p2) c2 hh pc0 pz0 pc1 pz1 dr sd ds fd tw sw wn fw fr nr ra rd cc ch cp) H := hP
  have hD : va_D A (cW cI cR x kk pr w wr wc ro wt p0 p1 (x_X0_become_k1 p0 p2) c2 hh pc0 pz0 pc1 pz1 dr sd ds fd tw sw wn fw fr nr ra rd cc ch cp) := hD
  refine lv_aload_n hx hb dX0_become_24 rfl (lv_at hl 0 rfl) ?_
  have j25 : W p l e (headSpec wsX0_become rm_X0_become).room s m ([.ref kk, .int p0, .int p1, .int p2, .int p3] : List Value).toArray below meth c H locs 0 0 (MQ below (pq_X0_become D cI cZ cR A x kk pr w wr wc ro wt need c0 c1 c2 hh pc0 pz0 pc1 pz1 dr sd ds fd tw sw wn fw fr nr ra rd cc ch cp Rv) ([.ref kk, .int p0, .int p1, .int p2, .int p3] : List Value).toArray s 0 0 A) (F0 m 36 ls [.int (x_X0_become_k2 p0 p3), .ref kk]) → W p l e (headSpec wsX0_become rm_X0_become).room s m ([.ref kk, .int p0, .int p1, .int p2, .int p3] : List Value).toArray below meth c H locs 0 0 (MQ below (pq_X0_become D cI cZ cR A x kk pr w wr wc ro wt need c0 c1 c2 hh pc0 pz0 pc1 pz1 dr sd ds fd tw sw wn fw fr nr ra rd cc ch cp Rv) ([.ref kk, .int p0, .int p1, .int p2, .int p3] : List Value).toArray s 0 0 A) (F0 m 25 ls [.ref kk]) := by
    intro k25
    generalize hJ25 : (x_X0_become_k2 p0 p3) = v25 at k25
    rw [x_X0_become_k2] at hJ25
    refine lv_iload_n hx hb dX0_become_25 rfl (lv_at hl 1 rfl) ?_
    refine lv_iconst (v := 3) hx hb dX0_become_26 (by decide) ?_
    refine lv_icmp_lt (tgt := 35) hx hb dX0_become_27 (by decide) (fun c_27 => ?_) (fun c_27 => ?_)
    · have hJ25 := itT hJ25 c_27
      refine lv_iconst (v := 0) hx hb dX0_become_35 (by decide) ?_
      subst hJ25
      exact k25
    · have hJ25 := itF hJ25 c_27
      refine lv_iload hx hb dX0_become_30 (lv_at hl 4 rfl) ?_
      refine lv_goto (tgt := 36) hx hb dX0_become_32 (by decide) ?_
      subst hJ25
      exact k25
  refine j25 ?_
  refine va_put (D := D) (ci := 0) (v := .int (x_X0_become_k2 p0 p3)) (ty := .int) (C := RX0) (T := TX0) (N := 5) hx hb hts in_X0_become_X0 tyX0 tyX0_ok nmX0 hown hK hP hD hS 1 rfl rfl 3 (by decide) (hts (.fieldLink RX0 21 "WallCount$Key" "c2" "I") (List.mem_of_getElem? (i := 4) rfl)) (fun _ h9 => h9) rfl (by decide +kernel) rfl rfl (Nat.le_of_ble_eq_true rfl) dX0_become_36 (fun H locs hP hD hS => ?_)
  have hP : va_P D vwCl (cW cI cR x kk pr w wr wc ro wt p0 p1 (x_X0_become_k1 p0 p2) (x_X0_become_k2 p0 p3) hh pc0 pz0 pc1 pz1 dr sd ds fd tw sw wn fw fr nr ra rd cc ch cp) H := hP
  have hD : va_D A (cW cI cR x kk pr w wr wc ro wt p0 p1 (x_X0_become_k1 p0 p2) (x_X0_become_k2 p0 p3) hh pc0 pz0 pc1 pz1 dr sd ds fd tw sw wn fw fr nr ra rd cc ch cp) := hD
  refine lv_aload_n hx hb dX0_become_39 rfl (lv_at hl 0 rfl) ?_
  refine lv_iload_n hx hb dX0_become_40 rfl (lv_at hl 2 rfl) ?_
  refine ro_call (va_runS (As := [.int p1]) (rest := [.ref kk]) ⟨hx, hb, hml, hown, hts⟩ (c_X2_ofG l D cI cZ cR _ p1) (va_cwS 1 hts gX0_become_X2_ofG rfl rfl rfl hd_X2_ofG ⟨(Nat.le_of_ble_eq_true rfl), (Nat.le_of_ble_eq_true rfl)⟩) (po_pre hAM va_P.nil) rfl rfl hl.1 rfl (lv_room (Nat.le_of_ble_eq_true rfl)) dX0_become_41 ⟨(Nat.le_of_ble_eq_true rfl), (Nat.le_of_ble_eq_true rfl)⟩) ?_
  refine va_put (D := D) (ci := 0) (v := .int (x_X2_ofG p1)) (ty := .int) (C := RX0) (T := TX0) (N := 5) hx hb hts in_X0_become_X0 tyX0 tyX0_ok nmX0 hown hK hP hD hS 1 rfl rfl 4 (by decide) (hts (.fieldLink RX0 24 "WallCount$Key" "h" "I") (List.mem_of_getElem? (i := 5) rfl)) (fun _ h9 => h9) rfl (by decide +kernel) rfl rfl (Nat.le_of_ble_eq_true rfl) dX0_become_44 (fun H locs hP hD hS => ?_)
  have hP : va_P D vwCl (cW cI cR x kk pr w wr wc ro wt p0 p1 (x_X0_become_k1 p0 p2) (x_X0_become_k2 p0 p3) (x_X2_ofG p1) pc0 pz0 pc1 pz1 dr sd ds fd tw sw wn fw fr nr ra rd cc ch cp) H := hP
  have hD : va_D A (cW cI cR x kk pr w wr wc ro wt p0 p1 (x_X0_become_k1 p0 p2) (x_X0_become_k2 p0 p3) (x_X2_ofG p1) pc0 pz0 pc1 pz1 dr sd ds fd tw sw wn fw fr nr ra rd cc ch cp) := hD
  subst hE
  exact wr_vret (p0, p1, (x_X0_become_k1 p0 p2), (x_X0_become_k2 p0 p3), (x_X2_ofG p1)) hx hb hr hlocks ⟨rfl, rfl, rfl, rfl, rfl, rfl⟩ hP hD hS dX0_become_47

theorem hd_X3_become : yX3_become.cls ≠ "java/lang/invoke/MethodHandle" ∧ yX3_become.cls ≠ "java/lang/invoke/VarHandle" ∧ (parseMethodDescriptor yX3_become.desc).map (fun d => d.parameters.length) = some 4 := by decide +kernel
def x_X3_become (p0 : Int32) (p1 : Int32) (p2 : Int32) (p3 : Int32) : Int32 × Int32 × Int32 × Int32 := (p0, p1, p2, p3)
def rm_X3_become : Room := { frames := 0, cells := 0, slots := 0, locals := 0 }
abbrev pq_X3_become (D : va_G) (cI cZ cR : ClassId) (A : Nat → Prop) (x kk pr w wr wc ro wt : Nat) (need : Int32) (c0 : Int32) (c1 : Int32) (c2 : Int32) (hh : Int32) (pc0 : Int32) (pz0 : Int32) (pc1 : Int32) (pz1 : Int32) (dr : Nat) (sd : Nat) (ds : Nat) (fd : Nat → Int32) (tw : Nat) (sw : Nat) (wn : Nat) (fw : Nat → Int32) (fr : Nat → Int32) (nr : Nat) (ra : Nat → Nat) (rd : Nat → R6) (cc : Nat) (ch : Int32) (cp : Nat → Int32) (Rv : Int32 × Int32 × Int32 × Int32) : Array Value → State → Outcome → State → Prop := wr_Q D (fun (v : Option Value) (u : Int32 × Int32 × Int32 × Int32) => v = none ∧ u.1 = Rv.1 ∧ u.2.1 = Rv.2.1 ∧ u.2.2.1 = Rv.2.2.1 ∧ u.2.2.2 = Rv.2.2.2) (fun u => cW cI cR x kk pr w wr wc ro wt need c0 c1 c2 hh u.1 u.2.1 u.2.2.1 u.2.2.2 dr sd ds fd tw sw wn fw fr nr ra rd cc ch cp) A
theorem in_X3_become_X3 : ∀ w ∈ wsX30, w ∈ wsX3_become := fun _ h => List.mem_cons_of_mem _ (List.mem_append_right _ h)
set_option maxHeartbeats 4000000 in
set_option maxRecDepth 100000 in
theorem c_X3_become (l : Launch) (D : va_G) (cI cZ cR : ClassId) (A : Nat → Prop) (H0 : Heap) (x kk pr w wr wc ro wt : Nat) (need : Int32) (c0 : Int32) (c1 : Int32) (c2 : Int32) (hh : Int32) (pc0 : Int32) (pz0 : Int32) (pc1 : Int32) (pz1 : Int32) (dr : Nat) (sd : Nat) (ds : Nat) (fd : Nat → Int32) (tw : Nat) (sw : Nat) (wn : Nat) (fw : Nat → Int32) (fr : Nat → Int32) (nr : Nat) (ra : Nat → Nat) (rd : Nat → R6) (cc : Nat) (ch : Int32) (cp : Nat → Int32) (p0 : Int32) (p1 : Int32) (p2 : Int32) (p3 : Int32) : Met l yX3_become wsX3_become rm_X3_become (wr_P D cI cZ cR [.ref pr, .int p0, .int p1, .int p2, .int p3] (cW cI cR x kk pr w wr wc ro wt need c0 c1 c2 hh pc0 pz0 pc1 pz1 dr sd ds fd tw sw wn fw fr nr ra rd cc ch cp) A H0) (pq_X3_become D cI cZ cR A x kk pr w wr wc ro wt need c0 c1 c2 hh pc0 pz0 pc1 pz1 dr sd ds fd tw sw wn fw fr nr ra rd cc ch cp (x_X3_become p0 p1 p2 p3)) 0 0 A := by
  refine Met.ofW (cc := cX3_become) (maxL := 5) (ret := none) (by decide +kernel) rfl ?_
  intro p e s m args below meth c s₁ B hml hv
  obtain ⟨rfl, rfl, hAM, hP, hD⟩ := hv
  have hx := B.exec
  have hb := B.bytes
  have hr := B.returns
  have hts := atoms_spec (ws := wsX3_become) B.pre
  have hown : s.vm.findClass RX3 = some m.cls := findClass_of_methodNamed B.named
  have hlocks := B.notSynchronized
  have hK := hAM.1
  have hS : va_S A s.heap s.heap [] := va_S.rf
  generalize hE : (x_X3_become p0 p1 p2 p3) = Rv
  rw [x_X3_become] at hE
  have hl := lv_entry ([.ref pr, .int p0, .int p1, .int p2, .int p3]) (n := 5) (Nat.le_of_ble_eq_true rfl)
  rw [lg_entry_eq]
  generalize (lg_sl ([.ref pr, .int p0, .int p1, .int p2, .int p3]) ++ List.replicate (5 - (lg_sl ([.ref pr, .int p0, .int p1, .int p2, .int p3])).length) Slot.unset).toArray = ls at hl ⊢
  have hl : lv_has ls 5 [(0, .ref pr), (1, .int p0), (2, .int p1), (3, .int p2), (4, .int p3)] := hl
  refine lv_aload_n hx hb dX3_become_0 rfl (lv_at hl 0 rfl) ?_
  refine lv_iload_n hx hb dX3_become_1 rfl (lv_at hl 1 rfl) ?_
  refine va_put (D := D) (ci := 1) (v := .int p0) (ty := .int) (C := RX3) (T := TX3) (N := 4) hx hb hts in_X3_become_X3 tyX3 tyX3_ok nmX3 hown hK hP hD hS 2 rfl rfl 0 (by decide) (hts (.fieldLink RX3 9 "WallCount$Proof" "c0" "I") (List.mem_of_getElem? (i := 1) rfl)) (fun _ h9 => h9) rfl (by decide +kernel) rfl rfl (Nat.le_of_ble_eq_true rfl) dX3_become_2 (fun H locs hP hD hS => ?_)
  have hP : va_P D vwCl (cW cI cR x kk pr w wr wc ro wt need c0 c1 c2 hh p0 pz0 pc1 pz1 dr sd ds fd tw sw wn fw fr nr ra rd cc ch cp) H := hP
  have hD : va_D A (cW cI cR x kk pr w wr wc ro wt need c0 c1 c2 hh p0 pz0 pc1 pz1 dr sd ds fd tw sw wn fw fr nr ra rd cc ch cp) := hD
  refine lv_aload_n hx hb dX3_become_5 rfl (lv_at hl 0 rfl) ?_
  refine lv_iload_n hx hb dX3_become_6 rfl (lv_at hl 2 rfl) ?_
  refine va_put (D := D) (ci := 1) (v := .int p1) (ty := .int) (C := RX3) (T := TX3) (N := 4) hx hb hts in_X3_become_X3 tyX3 tyX3_ok nmX3 hown hK hP hD hS 2 rfl rfl 1 (by decide) (hts (.fieldLink RX3 15 "WallCount$Proof" "z0" "I") (List.mem_of_getElem? (i := 2) rfl)) (fun _ h9 => h9) rfl (by decide +kernel) rfl rfl (Nat.le_of_ble_eq_true rfl) dX3_become_7 (fun H locs hP hD hS => ?_)
  have hP : va_P D vwCl (cW cI cR x kk pr w wr wc ro wt need c0 c1 c2 hh p0 p1 pc1 pz1 dr sd ds fd tw sw wn fw fr nr ra rd cc ch cp) H := hP
  have hD : va_D A (cW cI cR x kk pr w wr wc ro wt need c0 c1 c2 hh p0 p1 pc1 pz1 dr sd ds fd tw sw wn fw fr nr ra rd cc ch cp) := hD
  refine lv_aload_n hx hb dX3_become_10 rfl (lv_at hl 0 rfl) ?_
  refine lv_iload_n hx hb dX3_become_11 rfl (lv_at hl 3 rfl) ?_
  refine va_put (D := D) (ci := 1) (v := .int p2) (ty := .int) (C := RX3) (T := TX3) (N := 4) hx hb hts in_X3_become_X3 tyX3 tyX3_ok nmX3 hown hK hP hD hS 2 rfl rfl 2 (by decide) (hts (.fieldLink RX3 18 "WallCount$Proof" "c1" "I") (List.mem_of_getElem? (i := 3) rfl)) (fun _ h9 => h9) rfl (by decide +kernel) rfl rfl (Nat.le_of_ble_eq_true rfl) dX3_become_12 (fun H locs hP hD hS => ?_)
  have hP : va_P D vwCl (cW cI cR x kk pr w wr wc ro wt need c0 c1 c2 hh p0 p1 p2 pz1 dr sd ds fd tw sw wn fw fr nr ra rd cc ch cp) H := hP
  have hD : va_D A (cW cI cR x kk pr w wr wc ro wt need c0 c1 c2 hh p0 p1 p2 pz1 dr sd ds fd tw sw wn fw fr nr ra rd cc ch cp) := hD
  refine lv_aload_n hx hb dX3_become_15 rfl (lv_at hl 0 rfl) ?_
  refine lv_iload hx hb dX3_become_16 (lv_at hl 4 rfl) ?_
  refine va_put (D := D) (ci := 1) (v := .int p3) (ty := .int) (C := RX3) (T := TX3) (N := 4) hx hb hts in_X3_become_X3 tyX3 tyX3_ok nmX3 hown hK hP hD hS 2 rfl rfl 3 (by decide) (hts (.fieldLink RX3 21 "WallCount$Proof" "z1" "I") (List.mem_of_getElem? (i := 4) rfl)) (fun _ h9 => h9) rfl (by decide +kernel) rfl rfl (Nat.le_of_ble_eq_true rfl) dX3_become_18 (fun H locs hP hD hS => ?_)
  have hP : va_P D vwCl (cW cI cR x kk pr w wr wc ro wt need c0 c1 c2 hh p0 p1 p2 p3 dr sd ds fd tw sw wn fw fr nr ra rd cc ch cp) H := hP
  have hD : va_D A (cW cI cR x kk pr w wr wc ro wt need c0 c1 c2 hh p0 p1 p2 p3 dr sd ds fd tw sw wn fw fr nr ra rd cc ch cp) := hD
  subst hE
  exact wr_vret (p0, p1, p2, p3) hx hb hr hlocks ⟨rfl, rfl, rfl, rfl, rfl⟩ hP hD hS dX3_become_21

theorem hd_X3_make : yX3_make.cls ≠ "java/lang/invoke/MethodHandle" ∧ yX3_make.cls ≠ "java/lang/invoke/VarHandle" ∧ (parseMethodDescriptor yX3_make.desc).map (fun d => d.parameters.length) = some 6 := by decide +kernel
def x_X3_make (hh : Int32) (p1 : Int32) (p2 : Int32) (p3 : Int32) (p4 : Int32) (p5 : Int32) : Int32 × Int32 × Int32 × Int32 := (if p1 = 0 then (((x_X3_become (xRem (((x_X3_mixedWith (x_X3_mixedWith (x_X3_mixedWith (x_X3_mixedWith (x_X3_mixedWith (x_X3_mixedWith 1 (x_X2_ofG p2)) (x_X0_sealedB hh p1 p2)) (x_X2_ofG p3)) (x_X2_of (x_X0_h hh) p3)) (x_X3_sOf (x_X2_ofG p2) p4 p5)) (x_X3_tOf hh (x_X0_sealedB hh p1 p2) (1 - p1) p4 p5)) - p4) + 5003) 5003) (xRem (p3 + ((xRem (((x_X3_mixedWith (x_X3_mixedWith (x_X3_mixedWith (x_X3_mixedWith (x_X3_mixedWith (x_X3_mixedWith 1 (x_X2_ofG p2)) (x_X0_sealedB hh p1 p2)) (x_X2_ofG p3)) (x_X2_of (x_X0_h hh) p3)) (x_X3_sOf (x_X2_ofG p2) p4 p5)) (x_X3_tOf hh (x_X0_sealedB hh p1 p2) (1 - p1) p4 p5)) - p4) + 5003) 5003) * p2)) 5003) p4 p5).1), ((x_X3_become (xRem (((x_X3_mixedWith (x_X3_mixedWith (x_X3_mixedWith (x_X3_mixedWith (x_X3_mixedWith (x_X3_mixedWith 1 (x_X2_ofG p2)) (x_X0_sealedB hh p1 p2)) (x_X2_ofG p3)) (x_X2_of (x_X0_h hh) p3)) (x_X3_sOf (x_X2_ofG p2) p4 p5)) (x_X3_tOf hh (x_X0_sealedB hh p1 p2) (1 - p1) p4 p5)) - p4) + 5003) 5003) (xRem (p3 + ((xRem (((x_X3_mixedWith (x_X3_mixedWith (x_X3_mixedWith (x_X3_mixedWith (x_X3_mixedWith (x_X3_mixedWith 1 (x_X2_ofG p2)) (x_X0_sealedB hh p1 p2)) (x_X2_ofG p3)) (x_X2_of (x_X0_h hh) p3)) (x_X3_sOf (x_X2_ofG p2) p4 p5)) (x_X3_tOf hh (x_X0_sealedB hh p1 p2) (1 - p1) p4 p5)) - p4) + 5003) 5003) * p2)) 5003) p4 p5).2.1), ((x_X3_become (xRem (((x_X3_mixedWith (x_X3_mixedWith (x_X3_mixedWith (x_X3_mixedWith (x_X3_mixedWith (x_X3_mixedWith 1 (x_X2_ofG p2)) (x_X0_sealedB hh p1 p2)) (x_X2_ofG p3)) (x_X2_of (x_X0_h hh) p3)) (x_X3_sOf (x_X2_ofG p2) p4 p5)) (x_X3_tOf hh (x_X0_sealedB hh p1 p2) (1 - p1) p4 p5)) - p4) + 5003) 5003) (xRem (p3 + ((xRem (((x_X3_mixedWith (x_X3_mixedWith (x_X3_mixedWith (x_X3_mixedWith (x_X3_mixedWith (x_X3_mixedWith 1 (x_X2_ofG p2)) (x_X0_sealedB hh p1 p2)) (x_X2_ofG p3)) (x_X2_of (x_X0_h hh) p3)) (x_X3_sOf (x_X2_ofG p2) p4 p5)) (x_X3_tOf hh (x_X0_sealedB hh p1 p2) (1 - p1) p4 p5)) - p4) + 5003) 5003) * p2)) 5003) p4 p5).2.2.1), ((x_X3_become (xRem (((x_X3_mixedWith (x_X3_mixedWith (x_X3_mixedWith (x_X3_mixedWith (x_X3_mixedWith (x_X3_mixedWith 1 (x_X2_ofG p2)) (x_X0_sealedB hh p1 p2)) (x_X2_ofG p3)) (x_X2_of (x_X0_h hh) p3)) (x_X3_sOf (x_X2_ofG p2) p4 p5)) (x_X3_tOf hh (x_X0_sealedB hh p1 p2) (1 - p1) p4 p5)) - p4) + 5003) 5003) (xRem (p3 + ((xRem (((x_X3_mixedWith (x_X3_mixedWith (x_X3_mixedWith (x_X3_mixedWith (x_X3_mixedWith (x_X3_mixedWith 1 (x_X2_ofG p2)) (x_X0_sealedB hh p1 p2)) (x_X2_ofG p3)) (x_X2_of (x_X0_h hh) p3)) (x_X3_sOf (x_X2_ofG p2) p4 p5)) (x_X3_tOf hh (x_X0_sealedB hh p1 p2) (1 - p1) p4 p5)) - p4) + 5003) 5003) * p2)) 5003) p4 p5).2.2.2)) else (((x_X3_become p4 p5 (xRem (((x_X3_mixedWith (x_X3_mixedWith (x_X3_mixedWith (x_X3_mixedWith (x_X3_mixedWith (x_X3_mixedWith 1 (x_X2_ofG p2)) (x_X0_sealedB hh p1 p2)) (x_X3_sOf (x_X2_ofG p2) p4 p5)) (x_X3_tOf hh (x_X0_sealedB hh p1 p2) (1 - p1) p4 p5)) (x_X2_ofG p3)) (x_X2_of (x_X0_h hh) p3)) - p4) + 5003) 5003) (xRem (p3 + ((xRem (((x_X3_mixedWith (x_X3_mixedWith (x_X3_mixedWith (x_X3_mixedWith (x_X3_mixedWith (x_X3_mixedWith 1 (x_X2_ofG p2)) (x_X0_sealedB hh p1 p2)) (x_X3_sOf (x_X2_ofG p2) p4 p5)) (x_X3_tOf hh (x_X0_sealedB hh p1 p2) (1 - p1) p4 p5)) (x_X2_ofG p3)) (x_X2_of (x_X0_h hh) p3)) - p4) + 5003) 5003) * p2)) 5003)).1), ((x_X3_become p4 p5 (xRem (((x_X3_mixedWith (x_X3_mixedWith (x_X3_mixedWith (x_X3_mixedWith (x_X3_mixedWith (x_X3_mixedWith 1 (x_X2_ofG p2)) (x_X0_sealedB hh p1 p2)) (x_X3_sOf (x_X2_ofG p2) p4 p5)) (x_X3_tOf hh (x_X0_sealedB hh p1 p2) (1 - p1) p4 p5)) (x_X2_ofG p3)) (x_X2_of (x_X0_h hh) p3)) - p4) + 5003) 5003) (xRem (p3 + ((xRem (((x_X3_mixedWith (x_X3_mixedWith (x_X3_mixedWith (x_X3_mixedWith (x_X3_mixedWith (x_X3_mixedWith 1 (x_X2_ofG p2)) (x_X0_sealedB hh p1 p2)) (x_X3_sOf (x_X2_ofG p2) p4 p5)) (x_X3_tOf hh (x_X0_sealedB hh p1 p2) (1 - p1) p4 p5)) (x_X2_ofG p3)) (x_X2_of (x_X0_h hh) p3)) - p4) + 5003) 5003) * p2)) 5003)).2.1), ((x_X3_become p4 p5 (xRem (((x_X3_mixedWith (x_X3_mixedWith (x_X3_mixedWith (x_X3_mixedWith (x_X3_mixedWith (x_X3_mixedWith 1 (x_X2_ofG p2)) (x_X0_sealedB hh p1 p2)) (x_X3_sOf (x_X2_ofG p2) p4 p5)) (x_X3_tOf hh (x_X0_sealedB hh p1 p2) (1 - p1) p4 p5)) (x_X2_ofG p3)) (x_X2_of (x_X0_h hh) p3)) - p4) + 5003) 5003) (xRem (p3 + ((xRem (((x_X3_mixedWith (x_X3_mixedWith (x_X3_mixedWith (x_X3_mixedWith (x_X3_mixedWith (x_X3_mixedWith 1 (x_X2_ofG p2)) (x_X0_sealedB hh p1 p2)) (x_X3_sOf (x_X2_ofG p2) p4 p5)) (x_X3_tOf hh (x_X0_sealedB hh p1 p2) (1 - p1) p4 p5)) (x_X2_ofG p3)) (x_X2_of (x_X0_h hh) p3)) - p4) + 5003) 5003) * p2)) 5003)).2.2.1), ((x_X3_become p4 p5 (xRem (((x_X3_mixedWith (x_X3_mixedWith (x_X3_mixedWith (x_X3_mixedWith (x_X3_mixedWith (x_X3_mixedWith 1 (x_X2_ofG p2)) (x_X0_sealedB hh p1 p2)) (x_X3_sOf (x_X2_ofG p2) p4 p5)) (x_X3_tOf hh (x_X0_sealedB hh p1 p2) (1 - p1) p4 p5)) (x_X2_ofG p3)) (x_X2_of (x_X0_h hh) p3)) - p4) + 5003) 5003) (xRem (p3 + ((xRem (((x_X3_mixedWith (x_X3_mixedWith (x_X3_mixedWith (x_X3_mixedWith (x_X3_mixedWith (x_X3_mixedWith 1 (x_X2_ofG p2)) (x_X0_sealedB hh p1 p2)) (x_X3_sOf (x_X2_ofG p2) p4 p5)) (x_X3_tOf hh (x_X0_sealedB hh p1 p2) (1 - p1) p4 p5)) (x_X2_ofG p3)) (x_X2_of (x_X0_h hh) p3)) - p4) + 5003) 5003) * p2)) 5003)).2.2.2)))
def rm_X3_make : Room := { frames := 4, cells := 0, slots := 0, locals := 92 }
abbrev pq_X3_make (D : va_G) (cI cZ cR : ClassId) (A : Nat → Prop) (x kk pr w wr wc ro wt : Nat) (need : Int32) (c0 : Int32) (c1 : Int32) (c2 : Int32) (hh : Int32) (pc0 : Int32) (pz0 : Int32) (pc1 : Int32) (pz1 : Int32) (dr : Nat) (sd : Nat) (ds : Nat) (fd : Nat → Int32) (tw : Nat) (sw : Nat) (wn : Nat) (fw : Nat → Int32) (fr : Nat → Int32) (nr : Nat) (ra : Nat → Nat) (rd : Nat → R6) (cc : Nat) (ch : Int32) (cp : Nat → Int32) (Rv : Int32 × Int32 × Int32 × Int32) : Array Value → State → Outcome → State → Prop := wr_Q D (fun (v : Option Value) (u : Int32 × Int32 × Int32 × Int32) => v = none ∧ u.1 = Rv.1 ∧ u.2.1 = Rv.2.1 ∧ u.2.2.1 = Rv.2.2.1 ∧ u.2.2.2 = Rv.2.2.2) (fun u => cW cI cR x kk pr w wr wc ro wt need c0 c1 c2 hh u.1 u.2.1 u.2.2.1 u.2.2.2 dr sd ds fd tw sw wn fw fr nr ra rd cc ch cp) A
theorem in_X3_make_X0 : ∀ w ∈ wsX00, w ∈ wsX3_make := fun _ h => List.mem_cons_of_mem _ (List.mem_append_left _ (List.mem_append_right _ h))
theorem in_X3_make_X3 : ∀ w ∈ wsX30, w ∈ wsX3_make := fun _ h => List.mem_cons_of_mem _ (List.mem_append_right _ h)
set_option maxHeartbeats 4000000 in
set_option maxRecDepth 100000 in
theorem c_X3_make (l : Launch) (D : va_G) (cI cZ cR : ClassId) (A : Nat → Prop) (H0 : Heap) (x kk pr w wr wc ro wt : Nat) (need : Int32) (c0 : Int32) (c1 : Int32) (c2 : Int32) (hh : Int32) (pc0 : Int32) (pz0 : Int32) (pc1 : Int32) (pz1 : Int32) (dr : Nat) (sd : Nat) (ds : Nat) (fd : Nat → Int32) (tw : Nat) (sw : Nat) (wn : Nat) (fw : Nat → Int32) (fr : Nat → Int32) (nr : Nat) (ra : Nat → Nat) (rd : Nat → R6) (cc : Nat) (ch : Int32) (cp : Nat → Int32) (p1 : Int32) (p2 : Int32) (p3 : Int32) (p4 : Int32) (p5 : Int32) : Met l yX3_make wsX3_make rm_X3_make (wr_P D cI cZ cR [.ref pr, .ref kk, .int p1, .int p2, .int p3, .int p4, .int p5] (cW cI cR x kk pr w wr wc ro wt need c0 c1 c2 hh pc0 pz0 pc1 pz1 dr sd ds fd tw sw wn fw fr nr ra rd cc ch cp) A H0) (pq_X3_make D cI cZ cR A x kk pr w wr wc ro wt need c0 c1 c2 hh pc0 pz0 pc1 pz1 dr sd ds fd tw sw wn fw fr nr ra rd cc ch cp (x_X3_make hh p1 p2 p3 p4 p5)) 0 0 A := by
  refine Met.ofW (cc := cX3_make) (maxL := 16) (ret := none) (by decide +kernel) rfl ?_
  intro p e s m args below meth c s₁ B hml hv
  obtain ⟨rfl, rfl, hAM, hP, hD⟩ := hv
  have hx := B.exec
  have hb := B.bytes
  have hr := B.returns
  have hts := atoms_spec (ws := wsX3_make) B.pre
  have hown : s.vm.findClass RX3 = some m.cls := findClass_of_methodNamed B.named
  have hlocks := B.notSynchronized
  have hK := hAM.1
  have hS : va_S A s.heap s.heap [] := va_S.rf
  generalize hE : (x_X3_make hh p1 p2 p3 p4 p5) = Rv
  rw [x_X3_make] at hE
  have hl := lv_entry ([.ref pr, .ref kk, .int p1, .int p2, .int p3, .int p4, .int p5]) (n := 16) (Nat.le_of_ble_eq_true rfl)
  rw [lg_entry_eq]
  generalize (lg_sl ([.ref pr, .ref kk, .int p1, .int p2, .int p3, .int p4, .int p5]) ++ List.replicate (16 - (lg_sl ([.ref pr, .ref kk, .int p1, .int p2, .int p3, .int p4, .int p5])).length) Slot.unset).toArray = ls at hl ⊢
  have hl : lv_has ls 16 [(0, .ref pr), (1, .ref kk), (2, .int p1), (3, .int p2), (4, .int p3), (5, .int p4), (6, .int p5)] := hl
  refine lv_iload_n hx hb dX3_make_0 rfl (lv_at hl 3 rfl) ?_
  refine ro_call (va_runS (As := [.int p2]) (rest := []) ⟨hx, hb, hml, hown, hts⟩ (c_X2_ofG l D cI cZ cR _ p2) (va_cwS 1 hts gX3_make_X2_ofG rfl rfl rfl hd_X2_ofG ⟨(Nat.le_of_ble_eq_true rfl), (Nat.le_of_ble_eq_true rfl)⟩) (po_pre hAM va_P.nil) rfl rfl hl.1 rfl (lv_room (Nat.le_of_ble_eq_true rfl)) dX3_make_1 ⟨(Nat.le_of_ble_eq_true rfl), (Nat.le_of_ble_eq_true rfl)⟩) ?_
  refine lv_istore (lv' := [(7, .int (x_X2_ofG p2)), (0, .ref pr), (1, .ref kk), (2, .int p1), (3, .int p2), (4, .int p3), (5, .int p4), (6, .int p5)]) hx hb dX3_make_4 hl (by decide) rfl (fun ls hl => ?_)
  refine lv_aload_n hx hb dX3_make_6 rfl (lv_at hl 2 rfl) ?_
  refine lv_iload_n hx hb dX3_make_7 rfl (lv_at hl 3 rfl) ?_
  refine lv_iload_n hx hb dX3_make_8 rfl (lv_at hl 4 rfl) ?_
  refine ro_call (va_runV (As := [.int p1, .int p2]) (rest := []) ⟨hx, hb, hml, hown, hts⟩ (c_X0_sealedB l D cI cZ cR _ kk need c0 c1 c2 hh p1 p2) (cwV 2 hts gX3_make_X0_sealedB rfl rfl rfl ⟨rfl, hd_X0_sealedB⟩ ⟨(Nat.le_of_ble_eq_true rfl), (Nat.le_of_ble_eq_true rfl)⟩) (po_preV hAM (hP.sub [1] rfl) (va_recv hK hP (ci := 0) (q0 := 1) rfl rfl)) rfl rfl hl.1 rfl (lv_room (Nat.le_of_ble_eq_true rfl)) dX3_make_9 ⟨(Nat.le_of_ble_eq_true rfl), (Nat.le_of_ble_eq_true rfl)⟩) ?_
  refine lv_istore (lv' := [(8, .int (x_X0_sealedB hh p1 p2)), (7, .int (x_X2_ofG p2)), (0, .ref pr), (1, .ref kk), (2, .int p1), (3, .int p2), (4, .int p3), (5, .int p4), (6, .int p5)]) hx hb dX3_make_12 hl (by decide) rfl (fun ls hl => ?_)
  refine lv_iload hx hb dX3_make_14 (lv_at hl 6 rfl) ?_
  refine ro_call (va_runS (As := [.int p3]) (rest := []) ⟨hx, hb, hml, hown, hts⟩ (c_X2_ofG l D cI cZ cR _ p3) (va_cwS 1 hts gX3_make_X2_ofG rfl rfl rfl hd_X2_ofG ⟨(Nat.le_of_ble_eq_true rfl), (Nat.le_of_ble_eq_true rfl)⟩) (po_pre hAM va_P.nil) rfl rfl hl.1 rfl (lv_room (Nat.le_of_ble_eq_true rfl)) dX3_make_16 ⟨(Nat.le_of_ble_eq_true rfl), (Nat.le_of_ble_eq_true rfl)⟩) ?_
  refine lv_istore (lv' := [(9, .int (x_X2_ofG p3)), (8, .int (x_X0_sealedB hh p1 p2)), (7, .int (x_X2_ofG p2)), (0, .ref pr), (1, .ref kk), (2, .int p1), (3, .int p2), (4, .int p3), (5, .int p4), (6, .int p5)]) hx hb dX3_make_19 hl (by decide) rfl (fun ls hl => ?_)
  refine lv_aload_n hx hb dX3_make_21 rfl (lv_at hl 4 rfl) ?_
  refine ro_call (va_runV (As := []) (rest := []) ⟨hx, hb, hml, hown, hts⟩ (c_X0_h l D cI cZ cR _ kk need c0 c1 c2 hh) (cwV 0 hts gX3_make_X0_h rfl rfl rfl ⟨rfl, hd_X0_h⟩ ⟨(Nat.le_of_ble_eq_true rfl), (Nat.le_of_ble_eq_true rfl)⟩) (po_preV hAM (hP.sub [1] rfl) (va_recv hK hP (ci := 0) (q0 := 1) rfl rfl)) rfl rfl hl.1 rfl (lv_room (Nat.le_of_ble_eq_true rfl)) dX3_make_22 ⟨(Nat.le_of_ble_eq_true rfl), (Nat.le_of_ble_eq_true rfl)⟩) ?_
  refine lv_iload hx hb dX3_make_25 (lv_at hl 7 rfl) ?_
  refine ro_call (va_runS (As := [.int (x_X0_h hh), .int p3]) (rest := []) ⟨hx, hb, hml, hown, hts⟩ (c_X2_of l D cI cZ cR _ (x_X0_h hh) p3) (va_cwS 2 hts gX3_make_X2_of rfl rfl rfl hd_X2_of ⟨(Nat.le_of_ble_eq_true rfl), (Nat.le_of_ble_eq_true rfl)⟩) (po_pre hAM va_P.nil) rfl rfl hl.1 rfl (lv_room (Nat.le_of_ble_eq_true rfl)) dX3_make_27 ⟨(Nat.le_of_ble_eq_true rfl), (Nat.le_of_ble_eq_true rfl)⟩) ?_
  refine lv_istore (lv' := [(10, .int (x_X2_of (x_X0_h hh) p3)), (9, .int (x_X2_ofG p3)), (8, .int (x_X0_sealedB hh p1 p2)), (7, .int (x_X2_ofG p2)), (0, .ref pr), (1, .ref kk), (2, .int p1), (3, .int p2), (4, .int p3), (5, .int p4), (6, .int p5)]) hx hb dX3_make_30 hl (by decide) rfl (fun ls hl => ?_)
  refine lv_iload hx hb dX3_make_32 (lv_at hl 3 rfl) ?_
  refine lv_iload hx hb dX3_make_34 (lv_at hl 9 rfl) ?_
  refine lv_iload hx hb dX3_make_36 (lv_at hl 10 rfl) ?_
  refine ro_call (va_runS (As := [.int (x_X2_ofG p2), .int p4, .int p5]) (rest := []) ⟨hx, hb, hml, hown, hts⟩ (c_X3_sOf l D cI cZ cR _ (x_X2_ofG p2) p4 p5) (va_cwS 3 hts gX3_make_X3_sOf rfl rfl rfl hd_X3_sOf ⟨(Nat.le_of_ble_eq_true rfl), (Nat.le_of_ble_eq_true rfl)⟩) (po_pre hAM va_P.nil) rfl rfl hl.1 rfl (lv_room (Nat.le_of_ble_eq_true rfl)) dX3_make_38 ⟨(Nat.le_of_ble_eq_true rfl), (Nat.le_of_ble_eq_true rfl)⟩) ?_
  refine lv_istore (lv' := [(11, .int (x_X3_sOf (x_X2_ofG p2) p4 p5)), (10, .int (x_X2_of (x_X0_h hh) p3)), (9, .int (x_X2_ofG p3)), (8, .int (x_X0_sealedB hh p1 p2)), (7, .int (x_X2_ofG p2)), (0, .ref pr), (1, .ref kk), (2, .int p1), (3, .int p2), (4, .int p3), (5, .int p4), (6, .int p5)]) hx hb dX3_make_41 hl (by decide) rfl (fun ls hl => ?_)
  refine lv_aload_n hx hb dX3_make_43 rfl (lv_at hl 6 rfl) ?_
  refine lv_iload hx hb dX3_make_44 (lv_at hl 3 rfl) ?_
  refine lv_iconst (v := 1) hx hb dX3_make_46 (by decide) ?_
  refine lv_iload_n hx hb dX3_make_47 rfl (lv_at hl 7 rfl) ?_
  refine lv_isub hx hb dX3_make_48 ?_
  refine lv_iload hx hb dX3_make_49 (lv_at hl 10 rfl) ?_
  refine lv_iload hx hb dX3_make_51 (lv_at hl 11 rfl) ?_
  refine ro_call (va_runS (As := [.ref kk, .int (x_X0_sealedB hh p1 p2), .int (1 - p1), .int p4, .int p5]) (rest := []) ⟨hx, hb, hml, hown, hts⟩ (c_X3_tOf l D cI cZ cR _ kk need c0 c1 c2 hh (x_X0_sealedB hh p1 p2) (1 - p1) p4 p5) (va_cwS 5 hts gX3_make_X3_tOf rfl rfl rfl hd_X3_tOf ⟨(Nat.le_of_ble_eq_true rfl), (Nat.le_of_ble_eq_true rfl)⟩) (po_pre hAM (hP.sub [1] rfl)) rfl rfl hl.1 rfl (lv_room (Nat.le_of_ble_eq_true rfl)) dX3_make_53 ⟨(Nat.le_of_ble_eq_true rfl), (Nat.le_of_ble_eq_true rfl)⟩) ?_
  refine lv_istore (lv' := [(12, .int (x_X3_tOf hh (x_X0_sealedB hh p1 p2) (1 - p1) p4 p5)), (11, .int (x_X3_sOf (x_X2_ofG p2) p4 p5)), (10, .int (x_X2_of (x_X0_h hh) p3)), (9, .int (x_X2_ofG p3)), (8, .int (x_X0_sealedB hh p1 p2)), (7, .int (x_X2_ofG p2)), (0, .ref pr), (1, .ref kk), (2, .int p1), (3, .int p2), (4, .int p3), (5, .int p4), (6, .int p5)]) hx hb dX3_make_56 hl (by decide) rfl (fun ls hl => ?_)
  refine lv_iconst (v := 1) hx hb dX3_make_58 (by decide) ?_
  refine lv_iload hx hb dX3_make_59 (lv_at hl 5 rfl) ?_
  refine ro_call (va_runS (As := [.int 1, .int (x_X2_ofG p2)]) (rest := []) ⟨hx, hb, hml, hown, hts⟩ (c_X3_mixedWith l D cI cZ cR _ 1 (x_X2_ofG p2)) (va_cwS 2 hts gX3_make_X3_mixedWith rfl rfl rfl hd_X3_mixedWith ⟨(Nat.le_of_ble_eq_true rfl), (Nat.le_of_ble_eq_true rfl)⟩) (po_pre hAM va_P.nil) rfl rfl hl.1 rfl (lv_room (Nat.le_of_ble_eq_true rfl)) dX3_make_61 ⟨(Nat.le_of_ble_eq_true rfl), (Nat.le_of_ble_eq_true rfl)⟩) ?_
  refine lv_iload hx hb dX3_make_64 (lv_at hl 4 rfl) ?_
  refine ro_call (va_runS (As := [.int (x_X3_mixedWith 1 (x_X2_ofG p2)), .int (x_X0_sealedB hh p1 p2)]) (rest := []) ⟨hx, hb, hml, hown, hts⟩ (c_X3_mixedWith l D cI cZ cR _ (x_X3_mixedWith 1 (x_X2_ofG p2)) (x_X0_sealedB hh p1 p2)) (va_cwS 2 hts gX3_make_X3_mixedWith rfl rfl rfl hd_X3_mixedWith ⟨(Nat.le_of_ble_eq_true rfl), (Nat.le_of_ble_eq_true rfl)⟩) (po_pre hAM va_P.nil) rfl rfl hl.1 rfl (lv_room (Nat.le_of_ble_eq_true rfl)) dX3_make_66 ⟨(Nat.le_of_ble_eq_true rfl), (Nat.le_of_ble_eq_true rfl)⟩) ?_
  refine lv_istore (lv' := [(13, .int (x_X3_mixedWith (x_X3_mixedWith 1 (x_X2_ofG p2)) (x_X0_sealedB hh p1 p2))), (12, .int (x_X3_tOf hh (x_X0_sealedB hh p1 p2) (1 - p1) p4 p5)), (11, .int (x_X3_sOf (x_X2_ofG p2) p4 p5)), (10, .int (x_X2_of (x_X0_h hh) p3)), (9, .int (x_X2_ofG p3)), (8, .int (x_X0_sealedB hh p1 p2)), (7, .int (x_X2_ofG p2)), (0, .ref pr), (1, .ref kk), (2, .int p1), (3, .int p2), (4, .int p3), (5, .int p4), (6, .int p5)]) hx hb dX3_make_69 hl (by decide) rfl (fun ls hl => ?_)
  refine lv_iload hx hb dX3_make_71 (lv_at hl 0 rfl) ?_
  refine lv_iload_n hx hb dX3_make_73 rfl (lv_at hl 9 rfl) ?_
  refine lv_if_ne (tgt := 82) hx hb dX3_make_74 (by decide) (fun c_74 => ?_) (fun c_74 => ?_)
  · have hE := itF hE c_74
    refine lv_iload hx hb dX3_make_82 (lv_at hl 2 rfl) ?_
    refine ro_call (va_runS (As := [.int (x_X3_mixedWith (x_X3_mixedWith 1 (x_X2_ofG p2)) (x_X0_sealedB hh p1 p2)), .int (x_X3_sOf (x_X2_ofG p2) p4 p5)]) (rest := []) ⟨hx, hb, hml, hown, hts⟩ (c_X3_mixedWith l D cI cZ cR _ (x_X3_mixedWith (x_X3_mixedWith 1 (x_X2_ofG p2)) (x_X0_sealedB hh p1 p2)) (x_X3_sOf (x_X2_ofG p2) p4 p5)) (va_cwS 2 hts gX3_make_X3_mixedWith rfl rfl rfl hd_X3_mixedWith ⟨(Nat.le_of_ble_eq_true rfl), (Nat.le_of_ble_eq_true rfl)⟩) (po_pre hAM va_P.nil) rfl rfl hl.1 rfl (lv_room (Nat.le_of_ble_eq_true rfl)) dX3_make_84 ⟨(Nat.le_of_ble_eq_true rfl), (Nat.le_of_ble_eq_true rfl)⟩) ?_
    refine lv_iload_n hx hb dX3_make_87 rfl (lv_at hl 9 rfl) ?_
    refine lv_if_ne (tgt := 96) hx hb dX3_make_88 (by decide) (fun _ => ?_) (fun h9 => absurd h9 c_74)
    refine lv_iload hx hb dX3_make_96 (lv_at hl 1 rfl) ?_
    refine ro_call (va_runS (As := [.int (x_X3_mixedWith (x_X3_mixedWith (x_X3_mixedWith 1 (x_X2_ofG p2)) (x_X0_sealedB hh p1 p2)) (x_X3_sOf (x_X2_ofG p2) p4 p5)), .int (x_X3_tOf hh (x_X0_sealedB hh p1 p2) (1 - p1) p4 p5)]) (rest := []) ⟨hx, hb, hml, hown, hts⟩ (c_X3_mixedWith l D cI cZ cR _ (x_X3_mixedWith (x_X3_mixedWith (x_X3_mixedWith 1 (x_X2_ofG p2)) (x_X0_sealedB hh p1 p2)) (x_X3_sOf (x_X2_ofG p2) p4 p5)) (x_X3_tOf hh (x_X0_sealedB hh p1 p2) (1 - p1) p4 p5)) (va_cwS 2 hts gX3_make_X3_mixedWith rfl rfl rfl hd_X3_mixedWith ⟨(Nat.le_of_ble_eq_true rfl), (Nat.le_of_ble_eq_true rfl)⟩) (po_pre hAM va_P.nil) rfl rfl hl.1 rfl (lv_room (Nat.le_of_ble_eq_true rfl)) dX3_make_98 ⟨(Nat.le_of_ble_eq_true rfl), (Nat.le_of_ble_eq_true rfl)⟩) ?_
    refine lv_istore (lv' := [(13, .int (x_X3_mixedWith (x_X3_mixedWith (x_X3_mixedWith (x_X3_mixedWith 1 (x_X2_ofG p2)) (x_X0_sealedB hh p1 p2)) (x_X3_sOf (x_X2_ofG p2) p4 p5)) (x_X3_tOf hh (x_X0_sealedB hh p1 p2) (1 - p1) p4 p5))), (12, .int (x_X3_tOf hh (x_X0_sealedB hh p1 p2) (1 - p1) p4 p5)), (11, .int (x_X3_sOf (x_X2_ofG p2) p4 p5)), (10, .int (x_X2_of (x_X0_h hh) p3)), (9, .int (x_X2_ofG p3)), (8, .int (x_X0_sealedB hh p1 p2)), (7, .int (x_X2_ofG p2)), (0, .ref pr), (1, .ref kk), (2, .int p1), (3, .int p2), (4, .int p3), (5, .int p4), (6, .int p5)]) hx hb dX3_make_101 hl (by decide) rfl (fun ls hl => ?_)
    refine lv_iload hx hb dX3_make_103 (lv_at hl 0 rfl) ?_
    refine lv_iload_n hx hb dX3_make_105 rfl (lv_at hl 9 rfl) ?_
    refine lv_if_ne (tgt := 114) hx hb dX3_make_106 (by decide) (fun _ => ?_) (fun h9 => absurd h9 c_74)
    refine lv_iload hx hb dX3_make_114 (lv_at hl 4 rfl) ?_
    refine ro_call (va_runS (As := [.int (x_X3_mixedWith (x_X3_mixedWith (x_X3_mixedWith (x_X3_mixedWith 1 (x_X2_ofG p2)) (x_X0_sealedB hh p1 p2)) (x_X3_sOf (x_X2_ofG p2) p4 p5)) (x_X3_tOf hh (x_X0_sealedB hh p1 p2) (1 - p1) p4 p5)), .int (x_X2_ofG p3)]) (rest := []) ⟨hx, hb, hml, hown, hts⟩ (c_X3_mixedWith l D cI cZ cR _ (x_X3_mixedWith (x_X3_mixedWith (x_X3_mixedWith (x_X3_mixedWith 1 (x_X2_ofG p2)) (x_X0_sealedB hh p1 p2)) (x_X3_sOf (x_X2_ofG p2) p4 p5)) (x_X3_tOf hh (x_X0_sealedB hh p1 p2) (1 - p1) p4 p5)) (x_X2_ofG p3)) (va_cwS 2 hts gX3_make_X3_mixedWith rfl rfl rfl hd_X3_mixedWith ⟨(Nat.le_of_ble_eq_true rfl), (Nat.le_of_ble_eq_true rfl)⟩) (po_pre hAM va_P.nil) rfl rfl hl.1 rfl (lv_room (Nat.le_of_ble_eq_true rfl)) dX3_make_116 ⟨(Nat.le_of_ble_eq_true rfl), (Nat.le_of_ble_eq_true rfl)⟩) ?_
    refine lv_iload_n hx hb dX3_make_119 rfl (lv_at hl 9 rfl) ?_
    refine lv_if_ne (tgt := 128) hx hb dX3_make_120 (by decide) (fun _ => ?_) (fun h9 => absurd h9 c_74)
    refine lv_iload hx hb dX3_make_128 (lv_at hl 3 rfl) ?_
    refine ro_call (va_runS (As := [.int (x_X3_mixedWith (x_X3_mixedWith (x_X3_mixedWith (x_X3_mixedWith (x_X3_mixedWith 1 (x_X2_ofG p2)) (x_X0_sealedB hh p1 p2)) (x_X3_sOf (x_X2_ofG p2) p4 p5)) (x_X3_tOf hh (x_X0_sealedB hh p1 p2) (1 - p1) p4 p5)) (x_X2_ofG p3)), .int (x_X2_of (x_X0_h hh) p3)]) (rest := []) ⟨hx, hb, hml, hown, hts⟩ (c_X3_mixedWith l D cI cZ cR _ (x_X3_mixedWith (x_X3_mixedWith (x_X3_mixedWith (x_X3_mixedWith (x_X3_mixedWith 1 (x_X2_ofG p2)) (x_X0_sealedB hh p1 p2)) (x_X3_sOf (x_X2_ofG p2) p4 p5)) (x_X3_tOf hh (x_X0_sealedB hh p1 p2) (1 - p1) p4 p5)) (x_X2_ofG p3)) (x_X2_of (x_X0_h hh) p3)) (va_cwS 2 hts gX3_make_X3_mixedWith rfl rfl rfl hd_X3_mixedWith ⟨(Nat.le_of_ble_eq_true rfl), (Nat.le_of_ble_eq_true rfl)⟩) (po_pre hAM va_P.nil) rfl rfl hl.1 rfl (lv_room (Nat.le_of_ble_eq_true rfl)) dX3_make_130 ⟨(Nat.le_of_ble_eq_true rfl), (Nat.le_of_ble_eq_true rfl)⟩) ?_
    refine lv_istore (lv' := [(13, .int (x_X3_mixedWith (x_X3_mixedWith (x_X3_mixedWith (x_X3_mixedWith (x_X3_mixedWith (x_X3_mixedWith 1 (x_X2_ofG p2)) (x_X0_sealedB hh p1 p2)) (x_X3_sOf (x_X2_ofG p2) p4 p5)) (x_X3_tOf hh (x_X0_sealedB hh p1 p2) (1 - p1) p4 p5)) (x_X2_ofG p3)) (x_X2_of (x_X0_h hh) p3))), (12, .int (x_X3_tOf hh (x_X0_sealedB hh p1 p2) (1 - p1) p4 p5)), (11, .int (x_X3_sOf (x_X2_ofG p2) p4 p5)), (10, .int (x_X2_of (x_X0_h hh) p3)), (9, .int (x_X2_ofG p3)), (8, .int (x_X0_sealedB hh p1 p2)), (7, .int (x_X2_ofG p2)), (0, .ref pr), (1, .ref kk), (2, .int p1), (3, .int p2), (4, .int p3), (5, .int p4), (6, .int p5)]) hx hb dX3_make_133 hl (by decide) rfl (fun ls hl => ?_)
    refine lv_iload hx hb dX3_make_135 (lv_at hl 0 rfl) ?_
    refine lv_iload hx hb dX3_make_137 (lv_at hl 12 rfl) ?_
    refine lv_isub hx hb dX3_make_139 ?_
    refine lv_sipush (v := 5003) hx hb dX3_make_140 (by decide +kernel) ?_
    refine lv_iadd hx hb dX3_make_143 ?_
    refine lv_sipush (v := 5003) hx hb dX3_make_144 (by decide +kernel) ?_
    refine w_irem hx hb dX3_make_147 (by decide +kernel) ?_
    refine lv_istore (lv' := [(14, .int (xRem (((x_X3_mixedWith (x_X3_mixedWith (x_X3_mixedWith (x_X3_mixedWith (x_X3_mixedWith (x_X3_mixedWith 1 (x_X2_ofG p2)) (x_X0_sealedB hh p1 p2)) (x_X3_sOf (x_X2_ofG p2) p4 p5)) (x_X3_tOf hh (x_X0_sealedB hh p1 p2) (1 - p1) p4 p5)) (x_X2_ofG p3)) (x_X2_of (x_X0_h hh) p3)) - p4) + 5003) 5003)), (13, .int (x_X3_mixedWith (x_X3_mixedWith (x_X3_mixedWith (x_X3_mixedWith (x_X3_mixedWith (x_X3_mixedWith 1 (x_X2_ofG p2)) (x_X0_sealedB hh p1 p2)) (x_X3_sOf (x_X2_ofG p2) p4 p5)) (x_X3_tOf hh (x_X0_sealedB hh p1 p2) (1 - p1) p4 p5)) (x_X2_ofG p3)) (x_X2_of (x_X0_h hh) p3))), (12, .int (x_X3_tOf hh (x_X0_sealedB hh p1 p2) (1 - p1) p4 p5)), (11, .int (x_X3_sOf (x_X2_ofG p2) p4 p5)), (10, .int (x_X2_of (x_X0_h hh) p3)), (9, .int (x_X2_ofG p3)), (8, .int (x_X0_sealedB hh p1 p2)), (7, .int (x_X2_ofG p2)), (0, .ref pr), (1, .ref kk), (2, .int p1), (3, .int p2), (4, .int p3), (5, .int p4), (6, .int p5)]) hx hb dX3_make_148 hl (by decide) rfl (fun ls hl => ?_)
    refine lv_iload hx hb dX3_make_150 (lv_at hl 12 rfl) ?_
    refine lv_iload hx hb dX3_make_152 (lv_at hl 0 rfl) ?_
    refine lv_iload_n hx hb dX3_make_154 rfl (lv_at hl 11 rfl) ?_
    refine lv_imul hx hb dX3_make_155 ?_
    refine lv_iadd hx hb dX3_make_156 ?_
    refine lv_sipush (v := 5003) hx hb dX3_make_157 (by decide +kernel) ?_
    refine w_irem hx hb dX3_make_160 (by decide +kernel) ?_
    refine lv_istore (lv' := [(15, .int (xRem (p3 + ((xRem (((x_X3_mixedWith (x_X3_mixedWith (x_X3_mixedWith (x_X3_mixedWith (x_X3_mixedWith (x_X3_mixedWith 1 (x_X2_ofG p2)) (x_X0_sealedB hh p1 p2)) (x_X3_sOf (x_X2_ofG p2) p4 p5)) (x_X3_tOf hh (x_X0_sealedB hh p1 p2) (1 - p1) p4 p5)) (x_X2_ofG p3)) (x_X2_of (x_X0_h hh) p3)) - p4) + 5003) 5003) * p2)) 5003)), (14, .int (xRem (((x_X3_mixedWith (x_X3_mixedWith (x_X3_mixedWith (x_X3_mixedWith (x_X3_mixedWith (x_X3_mixedWith 1 (x_X2_ofG p2)) (x_X0_sealedB hh p1 p2)) (x_X3_sOf (x_X2_ofG p2) p4 p5)) (x_X3_tOf hh (x_X0_sealedB hh p1 p2) (1 - p1) p4 p5)) (x_X2_ofG p3)) (x_X2_of (x_X0_h hh) p3)) - p4) + 5003) 5003)), (13, .int (x_X3_mixedWith (x_X3_mixedWith (x_X3_mixedWith (x_X3_mixedWith (x_X3_mixedWith (x_X3_mixedWith 1 (x_X2_ofG p2)) (x_X0_sealedB hh p1 p2)) (x_X3_sOf (x_X2_ofG p2) p4 p5)) (x_X3_tOf hh (x_X0_sealedB hh p1 p2) (1 - p1) p4 p5)) (x_X2_ofG p3)) (x_X2_of (x_X0_h hh) p3))), (12, .int (x_X3_tOf hh (x_X0_sealedB hh p1 p2) (1 - p1) p4 p5)), (11, .int (x_X3_sOf (x_X2_ofG p2) p4 p5)), (10, .int (x_X2_of (x_X0_h hh) p3)), (9, .int (x_X2_ofG p3)), (8, .int (x_X0_sealedB hh p1 p2)), (7, .int (x_X2_ofG p2)), (0, .ref pr), (1, .ref kk), (2, .int p1), (3, .int p2), (4, .int p3), (5, .int p4), (6, .int p5)]) hx hb dX3_make_161 hl (by decide) rfl (fun ls hl => ?_)
    refine lv_iload_n hx hb dX3_make_163 rfl (lv_at hl 11 rfl) ?_
    refine lv_if_ne (tgt := 182) hx hb dX3_make_164 (by decide) (fun _ => ?_) (fun h9 => absurd h9 c_74)
    refine lv_aload_n hx hb dX3_make_182 rfl (lv_at hl 9 rfl) ?_
    refine lv_iload hx hb dX3_make_183 (lv_at hl 14 rfl) ?_
    refine lv_iload hx hb dX3_make_185 (lv_at hl 15 rfl) ?_
    refine lv_iload hx hb dX3_make_187 (lv_at hl 1 rfl) ?_
    refine lv_iload hx hb dX3_make_189 (lv_at hl 0 rfl) ?_
    refine wr_call (va_runV (As := [.int p4, .int p5, .int (xRem (((x_X3_mixedWith (x_X3_mixedWith (x_X3_mixedWith (x_X3_mixedWith (x_X3_mixedWith (x_X3_mixedWith 1 (x_X2_ofG p2)) (x_X0_sealedB hh p1 p2)) (x_X3_sOf (x_X2_ofG p2) p4 p5)) (x_X3_tOf hh (x_X0_sealedB hh p1 p2) (1 - p1) p4 p5)) (x_X2_ofG p3)) (x_X2_of (x_X0_h hh) p3)) - p4) + 5003) 5003), .int (xRem (p3 + ((xRem (((x_X3_mixedWith (x_X3_mixedWith (x_X3_mixedWith (x_X3_mixedWith (x_X3_mixedWith (x_X3_mixedWith 1 (x_X2_ofG p2)) (x_X0_sealedB hh p1 p2)) (x_X3_sOf (x_X2_ofG p2) p4 p5)) (x_X3_tOf hh (x_X0_sealedB hh p1 p2) (1 - p1) p4 p5)) (x_X2_ofG p3)) (x_X2_of (x_X0_h hh) p3)) - p4) + 5003) 5003) * p2)) 5003)]) (rest := []) ⟨hx, hb, hml, hown, hts⟩ (c_X3_become l D cI cZ cR A _ x kk pr w wr wc ro wt need c0 c1 c2 hh pc0 pz0 pc1 pz1 dr sd ds fd tw sw wn fw fr nr ra rd cc ch cp p4 p5 (xRem (((x_X3_mixedWith (x_X3_mixedWith (x_X3_mixedWith (x_X3_mixedWith (x_X3_mixedWith (x_X3_mixedWith 1 (x_X2_ofG p2)) (x_X0_sealedB hh p1 p2)) (x_X3_sOf (x_X2_ofG p2) p4 p5)) (x_X3_tOf hh (x_X0_sealedB hh p1 p2) (1 - p1) p4 p5)) (x_X2_ofG p3)) (x_X2_of (x_X0_h hh) p3)) - p4) + 5003) 5003) (xRem (p3 + ((xRem (((x_X3_mixedWith (x_X3_mixedWith (x_X3_mixedWith (x_X3_mixedWith (x_X3_mixedWith (x_X3_mixedWith 1 (x_X2_ofG p2)) (x_X0_sealedB hh p1 p2)) (x_X3_sOf (x_X2_ofG p2) p4 p5)) (x_X3_tOf hh (x_X0_sealedB hh p1 p2) (1 - p1) p4 p5)) (x_X2_ofG p3)) (x_X2_of (x_X0_h hh) p3)) - p4) + 5003) 5003) * p2)) 5003)) (cwV 4 hts gX3_make_X3_become rfl rfl rfl ⟨rfl, hd_X3_become⟩ ⟨(Nat.le_of_ble_eq_true rfl), (Nat.le_of_ble_eq_true rfl)⟩) (wr_preV hAM hP hD (va_recv hK hP (ci := 1) (q0 := 2) rfl rfl)) rfl rfl hl.1 rfl (lv_room (Nat.le_of_ble_eq_true rfl)) dX3_make_191 ⟨(Nat.le_of_ble_eq_true rfl), (Nat.le_of_ble_eq_true rfl)⟩) hS (fun v u H locs hw hP hD _ hS => ?_)
    obtain ⟨pc0_191, pz0_191, pc1_191, pz1_191⟩ := u
    try dsimp only at hw
    obtain ⟨rfl, ew0, ew1, ew2, ew3⟩ := hw
    rw [ew0, ew1, ew2, ew3] at hP hD
    refine W.eq (g2 := F0 m 194 ls []) rfl ?_
    refine W.cs (cells' := 0) (slots' := 0) rfl rfl ?_
    have hP : va_P D vwCl (cW cI cR x kk pr w wr wc ro wt need c0 c1 c2 hh ((x_X3_become p4 p5 (xRem (((x_X3_mixedWith (x_X3_mixedWith (x_X3_mixedWith (x_X3_mixedWith (x_X3_mixedWith (x_X3_mixedWith 1 (x_X2_ofG p2)) (x_X0_sealedB hh p1 p2)) (x_X3_sOf (x_X2_ofG p2) p4 p5)) (x_X3_tOf hh (x_X0_sealedB hh p1 p2) (1 - p1) p4 p5)) (x_X2_ofG p3)) (x_X2_of (x_X0_h hh) p3)) - p4) + 5003) 5003) (xRem (p3 + ((xRem (((x_X3_mixedWith (x_X3_mixedWith (x_X3_mixedWith (x_X3_mixedWith (x_X3_mixedWith (x_X3_mixedWith 1 (x_X2_ofG p2)) (x_X0_sealedB hh p1 p2)) (x_X3_sOf (x_X2_ofG p2) p4 p5)) (x_X3_tOf hh (x_X0_sealedB hh p1 p2) (1 - p1) p4 p5)) (x_X2_ofG p3)) (x_X2_of (x_X0_h hh) p3)) - p4) + 5003) 5003) * p2)) 5003)).1) ((x_X3_become p4 p5 (xRem (((x_X3_mixedWith (x_X3_mixedWith (x_X3_mixedWith (x_X3_mixedWith (x_X3_mixedWith (x_X3_mixedWith 1 (x_X2_ofG p2)) (x_X0_sealedB hh p1 p2)) (x_X3_sOf (x_X2_ofG p2) p4 p5)) (x_X3_tOf hh (x_X0_sealedB hh p1 p2) (1 - p1) p4 p5)) (x_X2_ofG p3)) (x_X2_of (x_X0_h hh) p3)) - p4) + 5003) 5003) (xRem (p3 + ((xRem (((x_X3_mixedWith (x_X3_mixedWith (x_X3_mixedWith (x_X3_mixedWith (x_X3_mixedWith (x_X3_mixedWith 1 (x_X2_ofG p2)) (x_X0_sealedB hh p1 p2)) (x_X3_sOf (x_X2_ofG p2) p4 p5)) (x_X3_tOf hh (x_X0_sealedB hh p1 p2) (1 - p1) p4 p5)) (x_X2_ofG p3)) (x_X2_of (x_X0_h hh) p3)) - p4) + 5003) 5003) * p2)) 5003)).2.1) ((x_X3_become p4 p5 (xRem (((x_X3_mixedWith (x_X3_mixedWith (x_X3_mixedWith (x_X3_mixedWith (x_X3_mixedWith (x_X3_mixedWith 1 (x_X2_ofG p2)) (x_X0_sealedB hh p1 p2)) (x_X3_sOf (x_X2_ofG p2) p4 p5)) (x_X3_tOf hh (x_X0_sealedB hh p1 p2) (1 - p1) p4 p5)) (x_X2_ofG p3)) (x_X2_of (x_X0_h hh) p3)) - p4) + 5003) 5003) (xRem (p3 + ((xRem (((x_X3_mixedWith (x_X3_mixedWith (x_X3_mixedWith (x_X3_mixedWith (x_X3_mixedWith (x_X3_mixedWith 1 (x_X2_ofG p2)) (x_X0_sealedB hh p1 p2)) (x_X3_sOf (x_X2_ofG p2) p4 p5)) (x_X3_tOf hh (x_X0_sealedB hh p1 p2) (1 - p1) p4 p5)) (x_X2_ofG p3)) (x_X2_of (x_X0_h hh) p3)) - p4) + 5003) 5003) * p2)) 5003)).2.2.1) ((x_X3_become p4 p5 (xRem (((x_X3_mixedWith (x_X3_mixedWith (x_X3_mixedWith (x_X3_mixedWith (x_X3_mixedWith (x_X3_mixedWith 1 (x_X2_ofG p2)) (x_X0_sealedB hh p1 p2)) (x_X3_sOf (x_X2_ofG p2) p4 p5)) (x_X3_tOf hh (x_X0_sealedB hh p1 p2) (1 - p1) p4 p5)) (x_X2_ofG p3)) (x_X2_of (x_X0_h hh) p3)) - p4) + 5003) 5003) (xRem (p3 + ((xRem (((x_X3_mixedWith (x_X3_mixedWith (x_X3_mixedWith (x_X3_mixedWith (x_X3_mixedWith (x_X3_mixedWith 1 (x_X2_ofG p2)) (x_X0_sealedB hh p1 p2)) (x_X3_sOf (x_X2_ofG p2) p4 p5)) (x_X3_tOf hh (x_X0_sealedB hh p1 p2) (1 - p1) p4 p5)) (x_X2_ofG p3)) (x_X2_of (x_X0_h hh) p3)) - p4) + 5003) 5003) * p2)) 5003)).2.2.2) dr sd ds fd tw sw wn fw fr nr ra rd cc ch cp) H := hP
    have hD : va_D A (cW cI cR x kk pr w wr wc ro wt need c0 c1 c2 hh ((x_X3_become p4 p5 (xRem (((x_X3_mixedWith (x_X3_mixedWith (x_X3_mixedWith (x_X3_mixedWith (x_X3_mixedWith (x_X3_mixedWith 1 (x_X2_ofG p2)) (x_X0_sealedB hh p1 p2)) (x_X3_sOf (x_X2_ofG p2) p4 p5)) (x_X3_tOf hh (x_X0_sealedB hh p1 p2) (1 - p1) p4 p5)) (x_X2_ofG p3)) (x_X2_of (x_X0_h hh) p3)) - p4) + 5003) 5003) (xRem (p3 + ((xRem (((x_X3_mixedWith (x_X3_mixedWith (x_X3_mixedWith (x_X3_mixedWith (x_X3_mixedWith (x_X3_mixedWith 1 (x_X2_ofG p2)) (x_X0_sealedB hh p1 p2)) (x_X3_sOf (x_X2_ofG p2) p4 p5)) (x_X3_tOf hh (x_X0_sealedB hh p1 p2) (1 - p1) p4 p5)) (x_X2_ofG p3)) (x_X2_of (x_X0_h hh) p3)) - p4) + 5003) 5003) * p2)) 5003)).1) ((x_X3_become p4 p5 (xRem (((x_X3_mixedWith (x_X3_mixedWith (x_X3_mixedWith (x_X3_mixedWith (x_X3_mixedWith (x_X3_mixedWith 1 (x_X2_ofG p2)) (x_X0_sealedB hh p1 p2)) (x_X3_sOf (x_X2_ofG p2) p4 p5)) (x_X3_tOf hh (x_X0_sealedB hh p1 p2) (1 - p1) p4 p5)) (x_X2_ofG p3)) (x_X2_of (x_X0_h hh) p3)) - p4) + 5003) 5003) (xRem (p3 + ((xRem (((x_X3_mixedWith (x_X3_mixedWith (x_X3_mixedWith (x_X3_mixedWith (x_X3_mixedWith (x_X3_mixedWith 1 (x_X2_ofG p2)) (x_X0_sealedB hh p1 p2)) (x_X3_sOf (x_X2_ofG p2) p4 p5)) (x_X3_tOf hh (x_X0_sealedB hh p1 p2) (1 - p1) p4 p5)) (x_X2_ofG p3)) (x_X2_of (x_X0_h hh) p3)) - p4) + 5003) 5003) * p2)) 5003)).2.1) ((x_X3_become p4 p5 (xRem (((x_X3_mixedWith (x_X3_mixedWith (x_X3_mixedWith (x_X3_mixedWith (x_X3_mixedWith (x_X3_mixedWith 1 (x_X2_ofG p2)) (x_X0_sealedB hh p1 p2)) (x_X3_sOf (x_X2_ofG p2) p4 p5)) (x_X3_tOf hh (x_X0_sealedB hh p1 p2) (1 - p1) p4 p5)) (x_X2_ofG p3)) (x_X2_of (x_X0_h hh) p3)) - p4) + 5003) 5003) (xRem (p3 + ((xRem (((x_X3_mixedWith (x_X3_mixedWith (x_X3_mixedWith (x_X3_mixedWith (x_X3_mixedWith (x_X3_mixedWith 1 (x_X2_ofG p2)) (x_X0_sealedB hh p1 p2)) (x_X3_sOf (x_X2_ofG p2) p4 p5)) (x_X3_tOf hh (x_X0_sealedB hh p1 p2) (1 - p1) p4 p5)) (x_X2_ofG p3)) (x_X2_of (x_X0_h hh) p3)) - p4) + 5003) 5003) * p2)) 5003)).2.2.1) ((x_X3_become p4 p5 (xRem (((x_X3_mixedWith (x_X3_mixedWith (x_X3_mixedWith (x_X3_mixedWith (x_X3_mixedWith (x_X3_mixedWith 1 (x_X2_ofG p2)) (x_X0_sealedB hh p1 p2)) (x_X3_sOf (x_X2_ofG p2) p4 p5)) (x_X3_tOf hh (x_X0_sealedB hh p1 p2) (1 - p1) p4 p5)) (x_X2_ofG p3)) (x_X2_of (x_X0_h hh) p3)) - p4) + 5003) 5003) (xRem (p3 + ((xRem (((x_X3_mixedWith (x_X3_mixedWith (x_X3_mixedWith (x_X3_mixedWith (x_X3_mixedWith (x_X3_mixedWith 1 (x_X2_ofG p2)) (x_X0_sealedB hh p1 p2)) (x_X3_sOf (x_X2_ofG p2) p4 p5)) (x_X3_tOf hh (x_X0_sealedB hh p1 p2) (1 - p1) p4 p5)) (x_X2_ofG p3)) (x_X2_of (x_X0_h hh) p3)) - p4) + 5003) 5003) * p2)) 5003)).2.2.2) dr sd ds fd tw sw wn fw fr nr ra rd cc ch cp) := hD
    subst hE
    exact wr_vret (((x_X3_become p4 p5 (xRem (((x_X3_mixedWith (x_X3_mixedWith (x_X3_mixedWith (x_X3_mixedWith (x_X3_mixedWith (x_X3_mixedWith 1 (x_X2_ofG p2)) (x_X0_sealedB hh p1 p2)) (x_X3_sOf (x_X2_ofG p2) p4 p5)) (x_X3_tOf hh (x_X0_sealedB hh p1 p2) (1 - p1) p4 p5)) (x_X2_ofG p3)) (x_X2_of (x_X0_h hh) p3)) - p4) + 5003) 5003) (xRem (p3 + ((xRem (((x_X3_mixedWith (x_X3_mixedWith (x_X3_mixedWith (x_X3_mixedWith (x_X3_mixedWith (x_X3_mixedWith 1 (x_X2_ofG p2)) (x_X0_sealedB hh p1 p2)) (x_X3_sOf (x_X2_ofG p2) p4 p5)) (x_X3_tOf hh (x_X0_sealedB hh p1 p2) (1 - p1) p4 p5)) (x_X2_ofG p3)) (x_X2_of (x_X0_h hh) p3)) - p4) + 5003) 5003) * p2)) 5003)).1), ((x_X3_become p4 p5 (xRem (((x_X3_mixedWith (x_X3_mixedWith (x_X3_mixedWith (x_X3_mixedWith (x_X3_mixedWith (x_X3_mixedWith 1 (x_X2_ofG p2)) (x_X0_sealedB hh p1 p2)) (x_X3_sOf (x_X2_ofG p2) p4 p5)) (x_X3_tOf hh (x_X0_sealedB hh p1 p2) (1 - p1) p4 p5)) (x_X2_ofG p3)) (x_X2_of (x_X0_h hh) p3)) - p4) + 5003) 5003) (xRem (p3 + ((xRem (((x_X3_mixedWith (x_X3_mixedWith (x_X3_mixedWith (x_X3_mixedWith (x_X3_mixedWith (x_X3_mixedWith 1 (x_X2_ofG p2)) (x_X0_sealedB hh p1 p2)) (x_X3_sOf (x_X2_ofG p2) p4 p5)) (x_X3_tOf hh (x_X0_sealedB hh p1 p2) (1 - p1) p4 p5)) (x_X2_ofG p3)) (x_X2_of (x_X0_h hh) p3)) - p4) + 5003) 5003) * p2)) 5003)).2.1), ((x_X3_become p4 p5 (xRem (((x_X3_mixedWith (x_X3_mixedWith (x_X3_mixedWith (x_X3_mixedWith (x_X3_mixedWith (x_X3_mixedWith 1 (x_X2_ofG p2)) (x_X0_sealedB hh p1 p2)) (x_X3_sOf (x_X2_ofG p2) p4 p5)) (x_X3_tOf hh (x_X0_sealedB hh p1 p2) (1 - p1) p4 p5)) (x_X2_ofG p3)) (x_X2_of (x_X0_h hh) p3)) - p4) + 5003) 5003) (xRem (p3 + ((xRem (((x_X3_mixedWith (x_X3_mixedWith (x_X3_mixedWith (x_X3_mixedWith (x_X3_mixedWith (x_X3_mixedWith 1 (x_X2_ofG p2)) (x_X0_sealedB hh p1 p2)) (x_X3_sOf (x_X2_ofG p2) p4 p5)) (x_X3_tOf hh (x_X0_sealedB hh p1 p2) (1 - p1) p4 p5)) (x_X2_ofG p3)) (x_X2_of (x_X0_h hh) p3)) - p4) + 5003) 5003) * p2)) 5003)).2.2.1), ((x_X3_become p4 p5 (xRem (((x_X3_mixedWith (x_X3_mixedWith (x_X3_mixedWith (x_X3_mixedWith (x_X3_mixedWith (x_X3_mixedWith 1 (x_X2_ofG p2)) (x_X0_sealedB hh p1 p2)) (x_X3_sOf (x_X2_ofG p2) p4 p5)) (x_X3_tOf hh (x_X0_sealedB hh p1 p2) (1 - p1) p4 p5)) (x_X2_ofG p3)) (x_X2_of (x_X0_h hh) p3)) - p4) + 5003) 5003) (xRem (p3 + ((xRem (((x_X3_mixedWith (x_X3_mixedWith (x_X3_mixedWith (x_X3_mixedWith (x_X3_mixedWith (x_X3_mixedWith 1 (x_X2_ofG p2)) (x_X0_sealedB hh p1 p2)) (x_X3_sOf (x_X2_ofG p2) p4 p5)) (x_X3_tOf hh (x_X0_sealedB hh p1 p2) (1 - p1) p4 p5)) (x_X2_ofG p3)) (x_X2_of (x_X0_h hh) p3)) - p4) + 5003) 5003) * p2)) 5003)).2.2.2)) hx hb hr hlocks ⟨rfl, rfl, rfl, rfl, rfl⟩ hP hD hS dX3_make_194
  · have hE := itT hE c_74
    refine lv_iload hx hb dX3_make_77 (lv_at hl 4 rfl) ?_
    refine lv_goto (tgt := 84) hx hb dX3_make_79 (by decide) ?_
    refine ro_call (va_runS (As := [.int (x_X3_mixedWith (x_X3_mixedWith 1 (x_X2_ofG p2)) (x_X0_sealedB hh p1 p2)), .int (x_X2_ofG p3)]) (rest := []) ⟨hx, hb, hml, hown, hts⟩ (c_X3_mixedWith l D cI cZ cR _ (x_X3_mixedWith (x_X3_mixedWith 1 (x_X2_ofG p2)) (x_X0_sealedB hh p1 p2)) (x_X2_ofG p3)) (va_cwS 2 hts gX3_make_X3_mixedWith rfl rfl rfl hd_X3_mixedWith ⟨(Nat.le_of_ble_eq_true rfl), (Nat.le_of_ble_eq_true rfl)⟩) (po_pre hAM va_P.nil) rfl rfl hl.1 rfl (lv_room (Nat.le_of_ble_eq_true rfl)) dX3_make_84 ⟨(Nat.le_of_ble_eq_true rfl), (Nat.le_of_ble_eq_true rfl)⟩) ?_
    refine lv_iload_n hx hb dX3_make_87 rfl (lv_at hl 9 rfl) ?_
    refine lv_if_ne (tgt := 96) hx hb dX3_make_88 (by decide) (fun h9 => absurd c_74 h9) (fun _ => ?_)
    refine lv_iload hx hb dX3_make_91 (lv_at hl 3 rfl) ?_
    refine lv_goto (tgt := 98) hx hb dX3_make_93 (by decide) ?_
    refine ro_call (va_runS (As := [.int (x_X3_mixedWith (x_X3_mixedWith (x_X3_mixedWith 1 (x_X2_ofG p2)) (x_X0_sealedB hh p1 p2)) (x_X2_ofG p3)), .int (x_X2_of (x_X0_h hh) p3)]) (rest := []) ⟨hx, hb, hml, hown, hts⟩ (c_X3_mixedWith l D cI cZ cR _ (x_X3_mixedWith (x_X3_mixedWith (x_X3_mixedWith 1 (x_X2_ofG p2)) (x_X0_sealedB hh p1 p2)) (x_X2_ofG p3)) (x_X2_of (x_X0_h hh) p3)) (va_cwS 2 hts gX3_make_X3_mixedWith rfl rfl rfl hd_X3_mixedWith ⟨(Nat.le_of_ble_eq_true rfl), (Nat.le_of_ble_eq_true rfl)⟩) (po_pre hAM va_P.nil) rfl rfl hl.1 rfl (lv_room (Nat.le_of_ble_eq_true rfl)) dX3_make_98 ⟨(Nat.le_of_ble_eq_true rfl), (Nat.le_of_ble_eq_true rfl)⟩) ?_
    refine lv_istore (lv' := [(13, .int (x_X3_mixedWith (x_X3_mixedWith (x_X3_mixedWith (x_X3_mixedWith 1 (x_X2_ofG p2)) (x_X0_sealedB hh p1 p2)) (x_X2_ofG p3)) (x_X2_of (x_X0_h hh) p3))), (12, .int (x_X3_tOf hh (x_X0_sealedB hh p1 p2) (1 - p1) p4 p5)), (11, .int (x_X3_sOf (x_X2_ofG p2) p4 p5)), (10, .int (x_X2_of (x_X0_h hh) p3)), (9, .int (x_X2_ofG p3)), (8, .int (x_X0_sealedB hh p1 p2)), (7, .int (x_X2_ofG p2)), (0, .ref pr), (1, .ref kk), (2, .int p1), (3, .int p2), (4, .int p3), (5, .int p4), (6, .int p5)]) hx hb dX3_make_101 hl (by decide) rfl (fun ls hl => ?_)
    refine lv_iload hx hb dX3_make_103 (lv_at hl 0 rfl) ?_
    refine lv_iload_n hx hb dX3_make_105 rfl (lv_at hl 9 rfl) ?_
    refine lv_if_ne (tgt := 114) hx hb dX3_make_106 (by decide) (fun h9 => absurd c_74 h9) (fun _ => ?_)
    refine lv_iload hx hb dX3_make_109 (lv_at hl 2 rfl) ?_
    refine lv_goto (tgt := 116) hx hb dX3_make_111 (by decide) ?_
    refine ro_call (va_runS (As := [.int (x_X3_mixedWith (x_X3_mixedWith (x_X3_mixedWith (x_X3_mixedWith 1 (x_X2_ofG p2)) (x_X0_sealedB hh p1 p2)) (x_X2_ofG p3)) (x_X2_of (x_X0_h hh) p3)), .int (x_X3_sOf (x_X2_ofG p2) p4 p5)]) (rest := []) ⟨hx, hb, hml, hown, hts⟩ (c_X3_mixedWith l D cI cZ cR _ (x_X3_mixedWith (x_X3_mixedWith (x_X3_mixedWith (x_X3_mixedWith 1 (x_X2_ofG p2)) (x_X0_sealedB hh p1 p2)) (x_X2_ofG p3)) (x_X2_of (x_X0_h hh) p3)) (x_X3_sOf (x_X2_ofG p2) p4 p5)) (va_cwS 2 hts gX3_make_X3_mixedWith rfl rfl rfl hd_X3_mixedWith ⟨(Nat.le_of_ble_eq_true rfl), (Nat.le_of_ble_eq_true rfl)⟩) (po_pre hAM va_P.nil) rfl rfl hl.1 rfl (lv_room (Nat.le_of_ble_eq_true rfl)) dX3_make_116 ⟨(Nat.le_of_ble_eq_true rfl), (Nat.le_of_ble_eq_true rfl)⟩) ?_
    refine lv_iload_n hx hb dX3_make_119 rfl (lv_at hl 9 rfl) ?_
    refine lv_if_ne (tgt := 128) hx hb dX3_make_120 (by decide) (fun h9 => absurd c_74 h9) (fun _ => ?_)
    refine lv_iload hx hb dX3_make_123 (lv_at hl 1 rfl) ?_
    refine lv_goto (tgt := 130) hx hb dX3_make_125 (by decide) ?_
    refine ro_call (va_runS (As := [.int (x_X3_mixedWith (x_X3_mixedWith (x_X3_mixedWith (x_X3_mixedWith (x_X3_mixedWith 1 (x_X2_ofG p2)) (x_X0_sealedB hh p1 p2)) (x_X2_ofG p3)) (x_X2_of (x_X0_h hh) p3)) (x_X3_sOf (x_X2_ofG p2) p4 p5)), .int (x_X3_tOf hh (x_X0_sealedB hh p1 p2) (1 - p1) p4 p5)]) (rest := []) ⟨hx, hb, hml, hown, hts⟩ (c_X3_mixedWith l D cI cZ cR _ (x_X3_mixedWith (x_X3_mixedWith (x_X3_mixedWith (x_X3_mixedWith (x_X3_mixedWith 1 (x_X2_ofG p2)) (x_X0_sealedB hh p1 p2)) (x_X2_ofG p3)) (x_X2_of (x_X0_h hh) p3)) (x_X3_sOf (x_X2_ofG p2) p4 p5)) (x_X3_tOf hh (x_X0_sealedB hh p1 p2) (1 - p1) p4 p5)) (va_cwS 2 hts gX3_make_X3_mixedWith rfl rfl rfl hd_X3_mixedWith ⟨(Nat.le_of_ble_eq_true rfl), (Nat.le_of_ble_eq_true rfl)⟩) (po_pre hAM va_P.nil) rfl rfl hl.1 rfl (lv_room (Nat.le_of_ble_eq_true rfl)) dX3_make_130 ⟨(Nat.le_of_ble_eq_true rfl), (Nat.le_of_ble_eq_true rfl)⟩) ?_
    refine lv_istore (lv' := [(13, .int (x_X3_mixedWith (x_X3_mixedWith (x_X3_mixedWith (x_X3_mixedWith (x_X3_mixedWith (x_X3_mixedWith 1 (x_X2_ofG p2)) (x_X0_sealedB hh p1 p2)) (x_X2_ofG p3)) (x_X2_of (x_X0_h hh) p3)) (x_X3_sOf (x_X2_ofG p2) p4 p5)) (x_X3_tOf hh (x_X0_sealedB hh p1 p2) (1 - p1) p4 p5))), (12, .int (x_X3_tOf hh (x_X0_sealedB hh p1 p2) (1 - p1) p4 p5)), (11, .int (x_X3_sOf (x_X2_ofG p2) p4 p5)), (10, .int (x_X2_of (x_X0_h hh) p3)), (9, .int (x_X2_ofG p3)), (8, .int (x_X0_sealedB hh p1 p2)), (7, .int (x_X2_ofG p2)), (0, .ref pr), (1, .ref kk), (2, .int p1), (3, .int p2), (4, .int p3), (5, .int p4), (6, .int p5)]) hx hb dX3_make_133 hl (by decide) rfl (fun ls hl => ?_)
    refine lv_iload hx hb dX3_make_135 (lv_at hl 0 rfl) ?_
    refine lv_iload hx hb dX3_make_137 (lv_at hl 12 rfl) ?_
    refine lv_isub hx hb dX3_make_139 ?_
    refine lv_sipush (v := 5003) hx hb dX3_make_140 (by decide +kernel) ?_
    refine lv_iadd hx hb dX3_make_143 ?_
    refine lv_sipush (v := 5003) hx hb dX3_make_144 (by decide +kernel) ?_
    refine w_irem hx hb dX3_make_147 (by decide +kernel) ?_
    refine lv_istore (lv' := [(14, .int (xRem (((x_X3_mixedWith (x_X3_mixedWith (x_X3_mixedWith (x_X3_mixedWith (x_X3_mixedWith (x_X3_mixedWith 1 (x_X2_ofG p2)) (x_X0_sealedB hh p1 p2)) (x_X2_ofG p3)) (x_X2_of (x_X0_h hh) p3)) (x_X3_sOf (x_X2_ofG p2) p4 p5)) (x_X3_tOf hh (x_X0_sealedB hh p1 p2) (1 - p1) p4 p5)) - p4) + 5003) 5003)), (13, .int (x_X3_mixedWith (x_X3_mixedWith (x_X3_mixedWith (x_X3_mixedWith (x_X3_mixedWith (x_X3_mixedWith 1 (x_X2_ofG p2)) (x_X0_sealedB hh p1 p2)) (x_X2_ofG p3)) (x_X2_of (x_X0_h hh) p3)) (x_X3_sOf (x_X2_ofG p2) p4 p5)) (x_X3_tOf hh (x_X0_sealedB hh p1 p2) (1 - p1) p4 p5))), (12, .int (x_X3_tOf hh (x_X0_sealedB hh p1 p2) (1 - p1) p4 p5)), (11, .int (x_X3_sOf (x_X2_ofG p2) p4 p5)), (10, .int (x_X2_of (x_X0_h hh) p3)), (9, .int (x_X2_ofG p3)), (8, .int (x_X0_sealedB hh p1 p2)), (7, .int (x_X2_ofG p2)), (0, .ref pr), (1, .ref kk), (2, .int p1), (3, .int p2), (4, .int p3), (5, .int p4), (6, .int p5)]) hx hb dX3_make_148 hl (by decide) rfl (fun ls hl => ?_)
    refine lv_iload hx hb dX3_make_150 (lv_at hl 12 rfl) ?_
    refine lv_iload hx hb dX3_make_152 (lv_at hl 0 rfl) ?_
    refine lv_iload_n hx hb dX3_make_154 rfl (lv_at hl 11 rfl) ?_
    refine lv_imul hx hb dX3_make_155 ?_
    refine lv_iadd hx hb dX3_make_156 ?_
    refine lv_sipush (v := 5003) hx hb dX3_make_157 (by decide +kernel) ?_
    refine w_irem hx hb dX3_make_160 (by decide +kernel) ?_
    refine lv_istore (lv' := [(15, .int (xRem (p3 + ((xRem (((x_X3_mixedWith (x_X3_mixedWith (x_X3_mixedWith (x_X3_mixedWith (x_X3_mixedWith (x_X3_mixedWith 1 (x_X2_ofG p2)) (x_X0_sealedB hh p1 p2)) (x_X2_ofG p3)) (x_X2_of (x_X0_h hh) p3)) (x_X3_sOf (x_X2_ofG p2) p4 p5)) (x_X3_tOf hh (x_X0_sealedB hh p1 p2) (1 - p1) p4 p5)) - p4) + 5003) 5003) * p2)) 5003)), (14, .int (xRem (((x_X3_mixedWith (x_X3_mixedWith (x_X3_mixedWith (x_X3_mixedWith (x_X3_mixedWith (x_X3_mixedWith 1 (x_X2_ofG p2)) (x_X0_sealedB hh p1 p2)) (x_X2_ofG p3)) (x_X2_of (x_X0_h hh) p3)) (x_X3_sOf (x_X2_ofG p2) p4 p5)) (x_X3_tOf hh (x_X0_sealedB hh p1 p2) (1 - p1) p4 p5)) - p4) + 5003) 5003)), (13, .int (x_X3_mixedWith (x_X3_mixedWith (x_X3_mixedWith (x_X3_mixedWith (x_X3_mixedWith (x_X3_mixedWith 1 (x_X2_ofG p2)) (x_X0_sealedB hh p1 p2)) (x_X2_ofG p3)) (x_X2_of (x_X0_h hh) p3)) (x_X3_sOf (x_X2_ofG p2) p4 p5)) (x_X3_tOf hh (x_X0_sealedB hh p1 p2) (1 - p1) p4 p5))), (12, .int (x_X3_tOf hh (x_X0_sealedB hh p1 p2) (1 - p1) p4 p5)), (11, .int (x_X3_sOf (x_X2_ofG p2) p4 p5)), (10, .int (x_X2_of (x_X0_h hh) p3)), (9, .int (x_X2_ofG p3)), (8, .int (x_X0_sealedB hh p1 p2)), (7, .int (x_X2_ofG p2)), (0, .ref pr), (1, .ref kk), (2, .int p1), (3, .int p2), (4, .int p3), (5, .int p4), (6, .int p5)]) hx hb dX3_make_161 hl (by decide) rfl (fun ls hl => ?_)
    refine lv_iload_n hx hb dX3_make_163 rfl (lv_at hl 11 rfl) ?_
    refine lv_if_ne (tgt := 182) hx hb dX3_make_164 (by decide) (fun h9 => absurd c_74 h9) (fun _ => ?_)
    refine lv_aload_n hx hb dX3_make_167 rfl (lv_at hl 9 rfl) ?_
    refine lv_iload hx hb dX3_make_168 (lv_at hl 1 rfl) ?_
    refine lv_iload hx hb dX3_make_170 (lv_at hl 0 rfl) ?_
    refine lv_iload hx hb dX3_make_172 (lv_at hl 14 rfl) ?_
    refine lv_iload hx hb dX3_make_174 (lv_at hl 15 rfl) ?_
    refine wr_call (va_runV (As := [.int (xRem (((x_X3_mixedWith (x_X3_mixedWith (x_X3_mixedWith (x_X3_mixedWith (x_X3_mixedWith (x_X3_mixedWith 1 (x_X2_ofG p2)) (x_X0_sealedB hh p1 p2)) (x_X2_ofG p3)) (x_X2_of (x_X0_h hh) p3)) (x_X3_sOf (x_X2_ofG p2) p4 p5)) (x_X3_tOf hh (x_X0_sealedB hh p1 p2) (1 - p1) p4 p5)) - p4) + 5003) 5003), .int (xRem (p3 + ((xRem (((x_X3_mixedWith (x_X3_mixedWith (x_X3_mixedWith (x_X3_mixedWith (x_X3_mixedWith (x_X3_mixedWith 1 (x_X2_ofG p2)) (x_X0_sealedB hh p1 p2)) (x_X2_ofG p3)) (x_X2_of (x_X0_h hh) p3)) (x_X3_sOf (x_X2_ofG p2) p4 p5)) (x_X3_tOf hh (x_X0_sealedB hh p1 p2) (1 - p1) p4 p5)) - p4) + 5003) 5003) * p2)) 5003), .int p4, .int p5]) (rest := []) ⟨hx, hb, hml, hown, hts⟩ (c_X3_become l D cI cZ cR A _ x kk pr w wr wc ro wt need c0 c1 c2 hh pc0 pz0 pc1 pz1 dr sd ds fd tw sw wn fw fr nr ra rd cc ch cp (xRem (((x_X3_mixedWith (x_X3_mixedWith (x_X3_mixedWith (x_X3_mixedWith (x_X3_mixedWith (x_X3_mixedWith 1 (x_X2_ofG p2)) (x_X0_sealedB hh p1 p2)) (x_X2_ofG p3)) (x_X2_of (x_X0_h hh) p3)) (x_X3_sOf (x_X2_ofG p2) p4 p5)) (x_X3_tOf hh (x_X0_sealedB hh p1 p2) (1 - p1) p4 p5)) - p4) + 5003) 5003) (xRem (p3 + ((xRem (((x_X3_mixedWith (x_X3_mixedWith (x_X3_mixedWith (x_X3_mixedWith (x_X3_mixedWith (x_X3_mixedWith 1 (x_X2_ofG p2)) (x_X0_sealedB hh p1 p2)) (x_X2_ofG p3)) (x_X2_of (x_X0_h hh) p3)) (x_X3_sOf (x_X2_ofG p2) p4 p5)) (x_X3_tOf hh (x_X0_sealedB hh p1 p2) (1 - p1) p4 p5)) - p4) + 5003) 5003) * p2)) 5003) p4 p5) (cwV 4 hts gX3_make_X3_become rfl rfl rfl ⟨rfl, hd_X3_become⟩ ⟨(Nat.le_of_ble_eq_true rfl), (Nat.le_of_ble_eq_true rfl)⟩) (wr_preV hAM hP hD (va_recv hK hP (ci := 1) (q0 := 2) rfl rfl)) rfl rfl hl.1 rfl (lv_room (Nat.le_of_ble_eq_true rfl)) dX3_make_176 ⟨(Nat.le_of_ble_eq_true rfl), (Nat.le_of_ble_eq_true rfl)⟩) hS (fun v u H locs hw hP hD _ hS => ?_)
    obtain ⟨pc0_176, pz0_176, pc1_176, pz1_176⟩ := u
    try dsimp only at hw
    obtain ⟨rfl, ew0, ew1, ew2, ew3⟩ := hw
    rw [ew0, ew1, ew2, ew3] at hP hD
    refine W.eq (g2 := F0 m 179 ls []) rfl ?_
    refine W.cs (cells' := 0) (slots' := 0) rfl rfl ?_
    have hP : va_P D vwCl (cW cI cR x kk pr w wr wc ro wt need c0 c1 c2 hh ((x_X3_become (xRem (((x_X3_mixedWith (x_X3_mixedWith (x_X3_mixedWith (x_X3_mixedWith (x_X3_mixedWith (x_X3_mixedWith 1 (x_X2_ofG p2)) (x_X0_sealedB hh p1 p2)) (x_X2_ofG p3)) (x_X2_of (x_X0_h hh) p3)) (x_X3_sOf (x_X2_ofG p2) p4 p5)) (x_X3_tOf hh (x_X0_sealedB hh p1 p2) (1 - p1) p4 p5)) - p4) + 5003) 5003) (xRem (p3 + ((xRem (((x_X3_mixedWith (x_X3_mixedWith (x_X3_mixedWith (x_X3_mixedWith (x_X3_mixedWith (x_X3_mixedWith 1 (x_X2_ofG p2)) (x_X0_sealedB hh p1 p2)) (x_X2_ofG p3)) (x_X2_of (x_X0_h hh) p3)) (x_X3_sOf (x_X2_ofG p2) p4 p5)) (x_X3_tOf hh (x_X0_sealedB hh p1 p2) (1 - p1) p4 p5)) - p4) + 5003) 5003) * p2)) 5003) p4 p5).1) ((x_X3_become (xRem (((x_X3_mixedWith (x_X3_mixedWith (x_X3_mixedWith (x_X3_mixedWith (x_X3_mixedWith (x_X3_mixedWith 1 (x_X2_ofG p2)) (x_X0_sealedB hh p1 p2)) (x_X2_ofG p3)) (x_X2_of (x_X0_h hh) p3)) (x_X3_sOf (x_X2_ofG p2) p4 p5)) (x_X3_tOf hh (x_X0_sealedB hh p1 p2) (1 - p1) p4 p5)) - p4) + 5003) 5003) (xRem (p3 + ((xRem (((x_X3_mixedWith (x_X3_mixedWith (x_X3_mixedWith (x_X3_mixedWith (x_X3_mixedWith (x_X3_mixedWith 1 (x_X2_ofG p2)) (x_X0_sealedB hh p1 p2)) (x_X2_ofG p3)) (x_X2_of (x_X0_h hh) p3)) (x_X3_sOf (x_X2_ofG p2) p4 p5)) (x_X3_tOf hh (x_X0_sealedB hh p1 p2) (1 - p1) p4 p5)) - p4) + 5003) 5003) * p2)) 5003) p4 p5).2.1) ((x_X3_become (xRem (((x_X3_mixedWith (x_X3_mixedWith (x_X3_mixedWith (x_X3_mixedWith (x_X3_mixedWith (x_X3_mixedWith 1 (x_X2_ofG p2)) (x_X0_sealedB hh p1 p2)) (x_X2_ofG p3)) (x_X2_of (x_X0_h hh) p3)) (x_X3_sOf (x_X2_ofG p2) p4 p5)) (x_X3_tOf hh (x_X0_sealedB hh p1 p2) (1 - p1) p4 p5)) - p4) + 5003) 5003) (xRem (p3 + ((xRem (((x_X3_mixedWith (x_X3_mixedWith (x_X3_mixedWith (x_X3_mixedWith (x_X3_mixedWith (x_X3_mixedWith 1 (x_X2_ofG p2)) (x_X0_sealedB hh p1 p2)) (x_X2_ofG p3)) (x_X2_of (x_X0_h hh) p3)) (x_X3_sOf (x_X2_ofG p2) p4 p5)) (x_X3_tOf hh (x_X0_sealedB hh p1 p2) (1 - p1) p4 p5)) - p4) + 5003) 5003) * p2)) 5003) p4 p5).2.2.1) ((x_X3_become (xRem (((x_X3_mixedWith (x_X3_mixedWith (x_X3_mixedWith (x_X3_mixedWith (x_X3_mixedWith (x_X3_mixedWith 1 (x_X2_ofG p2)) (x_X0_sealedB hh p1 p2)) (x_X2_ofG p3)) (x_X2_of (x_X0_h hh) p3)) (x_X3_sOf (x_X2_ofG p2) p4 p5)) (x_X3_tOf hh (x_X0_sealedB hh p1 p2) (1 - p1) p4 p5)) - p4) + 5003) 5003) (xRem (p3 + ((xRem (((x_X3_mixedWith (x_X3_mixedWith (x_X3_mixedWith (x_X3_mixedWith (x_X3_mixedWith (x_X3_mixedWith 1 (x_X2_ofG p2)) (x_X0_sealedB hh p1 p2)) (x_X2_ofG p3)) (x_X2_of (x_X0_h hh) p3)) (x_X3_sOf (x_X2_ofG p2) p4 p5)) (x_X3_tOf hh (x_X0_sealedB hh p1 p2) (1 - p1) p4 p5)) - p4) + 5003) 5003) * p2)) 5003) p4 p5).2.2.2) dr sd ds fd tw sw wn fw fr nr ra rd cc ch cp) H := hP
    have hD : va_D A (cW cI cR x kk pr w wr wc ro wt need c0 c1 c2 hh ((x_X3_become (xRem (((x_X3_mixedWith (x_X3_mixedWith (x_X3_mixedWith (x_X3_mixedWith (x_X3_mixedWith (x_X3_mixedWith 1 (x_X2_ofG p2)) (x_X0_sealedB hh p1 p2)) (x_X2_ofG p3)) (x_X2_of (x_X0_h hh) p3)) (x_X3_sOf (x_X2_ofG p2) p4 p5)) (x_X3_tOf hh (x_X0_sealedB hh p1 p2) (1 - p1) p4 p5)) - p4) + 5003) 5003) (xRem (p3 + ((xRem (((x_X3_mixedWith (x_X3_mixedWith (x_X3_mixedWith (x_X3_mixedWith (x_X3_mixedWith (x_X3_mixedWith 1 (x_X2_ofG p2)) (x_X0_sealedB hh p1 p2)) (x_X2_ofG p3)) (x_X2_of (x_X0_h hh) p3)) (x_X3_sOf (x_X2_ofG p2) p4 p5)) (x_X3_tOf hh (x_X0_sealedB hh p1 p2) (1 - p1) p4 p5)) - p4) + 5003) 5003) * p2)) 5003) p4 p5).1) ((x_X3_become (xRem (((x_X3_mixedWith (x_X3_mixedWith (x_X3_mixedWith (x_X3_mixedWith (x_X3_mixedWith (x_X3_mixedWith 1 (x_X2_ofG p2)) (x_X0_sealedB hh p1 p2)) (x_X2_ofG p3)) (x_X2_of (x_X0_h hh) p3)) (x_X3_sOf (x_X2_ofG p2) p4 p5)) (x_X3_tOf hh (x_X0_sealedB hh p1 p2) (1 - p1) p4 p5)) - p4) + 5003) 5003) (xRem (p3 + ((xRem (((x_X3_mixedWith (x_X3_mixedWith (x_X3_mixedWith (x_X3_mixedWith (x_X3_mixedWith (x_X3_mixedWith 1 (x_X2_ofG p2)) (x_X0_sealedB hh p1 p2)) (x_X2_ofG p3)) (x_X2_of (x_X0_h hh) p3)) (x_X3_sOf (x_X2_ofG p2) p4 p5)) (x_X3_tOf hh (x_X0_sealedB hh p1 p2) (1 - p1) p4 p5)) - p4) + 5003) 5003) * p2)) 5003) p4 p5).2.1) ((x_X3_become (xRem (((x_X3_mixedWith (x_X3_mixedWith (x_X3_mixedWith (x_X3_mixedWith (x_X3_mixedWith (x_X3_mixedWith 1 (x_X2_ofG p2)) (x_X0_sealedB hh p1 p2)) (x_X2_ofG p3)) (x_X2_of (x_X0_h hh) p3)) (x_X3_sOf (x_X2_ofG p2) p4 p5)) (x_X3_tOf hh (x_X0_sealedB hh p1 p2) (1 - p1) p4 p5)) - p4) + 5003) 5003) (xRem (p3 + ((xRem (((x_X3_mixedWith (x_X3_mixedWith (x_X3_mixedWith (x_X3_mixedWith (x_X3_mixedWith (x_X3_mixedWith 1 (x_X2_ofG p2)) (x_X0_sealedB hh p1 p2)) (x_X2_ofG p3)) (x_X2_of (x_X0_h hh) p3)) (x_X3_sOf (x_X2_ofG p2) p4 p5)) (x_X3_tOf hh (x_X0_sealedB hh p1 p2) (1 - p1) p4 p5)) - p4) + 5003) 5003) * p2)) 5003) p4 p5).2.2.1) ((x_X3_become (xRem (((x_X3_mixedWith (x_X3_mixedWith (x_X3_mixedWith (x_X3_mixedWith (x_X3_mixedWith (x_X3_mixedWith 1 (x_X2_ofG p2)) (x_X0_sealedB hh p1 p2)) (x_X2_ofG p3)) (x_X2_of (x_X0_h hh) p3)) (x_X3_sOf (x_X2_ofG p2) p4 p5)) (x_X3_tOf hh (x_X0_sealedB hh p1 p2) (1 - p1) p4 p5)) - p4) + 5003) 5003) (xRem (p3 + ((xRem (((x_X3_mixedWith (x_X3_mixedWith (x_X3_mixedWith (x_X3_mixedWith (x_X3_mixedWith (x_X3_mixedWith 1 (x_X2_ofG p2)) (x_X0_sealedB hh p1 p2)) (x_X2_ofG p3)) (x_X2_of (x_X0_h hh) p3)) (x_X3_sOf (x_X2_ofG p2) p4 p5)) (x_X3_tOf hh (x_X0_sealedB hh p1 p2) (1 - p1) p4 p5)) - p4) + 5003) 5003) * p2)) 5003) p4 p5).2.2.2) dr sd ds fd tw sw wn fw fr nr ra rd cc ch cp) := hD
    refine lv_goto (tgt := 194) hx hb dX3_make_179 (by decide) ?_
    subst hE
    exact wr_vret (((x_X3_become (xRem (((x_X3_mixedWith (x_X3_mixedWith (x_X3_mixedWith (x_X3_mixedWith (x_X3_mixedWith (x_X3_mixedWith 1 (x_X2_ofG p2)) (x_X0_sealedB hh p1 p2)) (x_X2_ofG p3)) (x_X2_of (x_X0_h hh) p3)) (x_X3_sOf (x_X2_ofG p2) p4 p5)) (x_X3_tOf hh (x_X0_sealedB hh p1 p2) (1 - p1) p4 p5)) - p4) + 5003) 5003) (xRem (p3 + ((xRem (((x_X3_mixedWith (x_X3_mixedWith (x_X3_mixedWith (x_X3_mixedWith (x_X3_mixedWith (x_X3_mixedWith 1 (x_X2_ofG p2)) (x_X0_sealedB hh p1 p2)) (x_X2_ofG p3)) (x_X2_of (x_X0_h hh) p3)) (x_X3_sOf (x_X2_ofG p2) p4 p5)) (x_X3_tOf hh (x_X0_sealedB hh p1 p2) (1 - p1) p4 p5)) - p4) + 5003) 5003) * p2)) 5003) p4 p5).1), ((x_X3_become (xRem (((x_X3_mixedWith (x_X3_mixedWith (x_X3_mixedWith (x_X3_mixedWith (x_X3_mixedWith (x_X3_mixedWith 1 (x_X2_ofG p2)) (x_X0_sealedB hh p1 p2)) (x_X2_ofG p3)) (x_X2_of (x_X0_h hh) p3)) (x_X3_sOf (x_X2_ofG p2) p4 p5)) (x_X3_tOf hh (x_X0_sealedB hh p1 p2) (1 - p1) p4 p5)) - p4) + 5003) 5003) (xRem (p3 + ((xRem (((x_X3_mixedWith (x_X3_mixedWith (x_X3_mixedWith (x_X3_mixedWith (x_X3_mixedWith (x_X3_mixedWith 1 (x_X2_ofG p2)) (x_X0_sealedB hh p1 p2)) (x_X2_ofG p3)) (x_X2_of (x_X0_h hh) p3)) (x_X3_sOf (x_X2_ofG p2) p4 p5)) (x_X3_tOf hh (x_X0_sealedB hh p1 p2) (1 - p1) p4 p5)) - p4) + 5003) 5003) * p2)) 5003) p4 p5).2.1), ((x_X3_become (xRem (((x_X3_mixedWith (x_X3_mixedWith (x_X3_mixedWith (x_X3_mixedWith (x_X3_mixedWith (x_X3_mixedWith 1 (x_X2_ofG p2)) (x_X0_sealedB hh p1 p2)) (x_X2_ofG p3)) (x_X2_of (x_X0_h hh) p3)) (x_X3_sOf (x_X2_ofG p2) p4 p5)) (x_X3_tOf hh (x_X0_sealedB hh p1 p2) (1 - p1) p4 p5)) - p4) + 5003) 5003) (xRem (p3 + ((xRem (((x_X3_mixedWith (x_X3_mixedWith (x_X3_mixedWith (x_X3_mixedWith (x_X3_mixedWith (x_X3_mixedWith 1 (x_X2_ofG p2)) (x_X0_sealedB hh p1 p2)) (x_X2_ofG p3)) (x_X2_of (x_X0_h hh) p3)) (x_X3_sOf (x_X2_ofG p2) p4 p5)) (x_X3_tOf hh (x_X0_sealedB hh p1 p2) (1 - p1) p4 p5)) - p4) + 5003) 5003) * p2)) 5003) p4 p5).2.2.1), ((x_X3_become (xRem (((x_X3_mixedWith (x_X3_mixedWith (x_X3_mixedWith (x_X3_mixedWith (x_X3_mixedWith (x_X3_mixedWith 1 (x_X2_ofG p2)) (x_X0_sealedB hh p1 p2)) (x_X2_ofG p3)) (x_X2_of (x_X0_h hh) p3)) (x_X3_sOf (x_X2_ofG p2) p4 p5)) (x_X3_tOf hh (x_X0_sealedB hh p1 p2) (1 - p1) p4 p5)) - p4) + 5003) 5003) (xRem (p3 + ((xRem (((x_X3_mixedWith (x_X3_mixedWith (x_X3_mixedWith (x_X3_mixedWith (x_X3_mixedWith (x_X3_mixedWith 1 (x_X2_ofG p2)) (x_X0_sealedB hh p1 p2)) (x_X2_ofG p3)) (x_X2_of (x_X0_h hh) p3)) (x_X3_sOf (x_X2_ofG p2) p4 p5)) (x_X3_tOf hh (x_X0_sealedB hh p1 p2) (1 - p1) p4 p5)) - p4) + 5003) 5003) * p2)) 5003) p4 p5).2.2.2)) hx hb hr hlocks ⟨rfl, rfl, rfl, rfl, rfl⟩ hP hD hS dX3_make_194

theorem hd_X6_add : yX6_add.cls ≠ "java/lang/invoke/MethodHandle" ∧ yX6_add.cls ≠ "java/lang/invoke/VarHandle" ∧ (parseMethodDescriptor yX6_add.desc).map (fun d => d.parameters.length) = some 1 := by decide +kernel
def x_X6_add (ds : Nat) (fd : Nat → Int32) (p0 : Int32) : Bool × Nat × (Nat → Int32) := (if (nI ds) < 0 then (false, ds, fd) else (if (nI ds) < 40 then (true, (ds + 1), (upd fd (ix (nI ds)) p0)) else (false, ds, fd)))
def rm_X6_add : Room := { frames := 0, cells := 0, slots := 0, locals := 0 }
abbrev pq_X6_add (D : va_G) (cI cZ cR : ClassId) (A : Nat → Prop) (x kk pr w wr wc ro wt : Nat) (need : Int32) (c0 : Int32) (c1 : Int32) (c2 : Int32) (hh : Int32) (pc0 : Int32) (pz0 : Int32) (pc1 : Int32) (pz1 : Int32) (dr : Nat) (sd : Nat) (ds : Nat) (fd : Nat → Int32) (tw : Nat) (sw : Nat) (wn : Nat) (fw : Nat → Int32) (fr : Nat → Int32) (nr : Nat) (ra : Nat → Nat) (rd : Nat → R6) (cc : Nat) (ch : Int32) (cp : Nat → Int32) (Rv : Bool × Nat × (Nat → Int32)) : Array Value → State → Outcome → State → Prop := wr_Q D (fun (v : Option Value) (u : Nat × (Nat → Int32)) => v = some (.int (bI Rv.1)) ∧ u.1 = Rv.2.1 ∧ u.2 = Rv.2.2) (fun u => cW cI cR x kk pr w wr wc ro wt need c0 c1 c2 hh pc0 pz0 pc1 pz1 dr sd u.1 u.2 tw sw wn fw fr nr ra rd cc ch cp) A
theorem in_X6_add_X6 : ∀ w ∈ wsX60, w ∈ wsX6_add := fun _ h => List.mem_cons_of_mem _ (List.mem_append_right _ h)
set_option maxHeartbeats 4000000 in
set_option maxRecDepth 100000 in
theorem c_X6_add (l : Launch) (D : va_G) (cI cZ cR : ClassId) (A : Nat → Prop) (H0 : Heap) (x kk pr w wr wc ro wt : Nat) (need : Int32) (c0 : Int32) (c1 : Int32) (c2 : Int32) (hh : Int32) (pc0 : Int32) (pz0 : Int32) (pc1 : Int32) (pz1 : Int32) (dr : Nat) (sd : Nat) (ds : Nat) (fd : Nat → Int32) (tw : Nat) (sw : Nat) (wn : Nat) (fw : Nat → Int32) (fr : Nat → Int32) (nr : Nat) (ra : Nat → Nat) (rd : Nat → R6) (cc : Nat) (ch : Int32) (cp : Nat → Int32) (p0 : Int32) : Met l yX6_add wsX6_add rm_X6_add (wr_P D cI cZ cR [.ref dr, .int p0] (cW cI cR x kk pr w wr wc ro wt need c0 c1 c2 hh pc0 pz0 pc1 pz1 dr sd ds fd tw sw wn fw fr nr ra rd cc ch cp) A H0) (pq_X6_add D cI cZ cR A x kk pr w wr wc ro wt need c0 c1 c2 hh pc0 pz0 pc1 pz1 dr sd ds fd tw sw wn fw fr nr ra rd cc ch cp (x_X6_add ds fd p0)) 0 0 A := by
  refine Met.ofW (cc := cX6_add) (maxL := 2) (ret := (some .boolean)) (by decide +kernel) rfl ?_
  intro p e s m args below meth c s₁ B hml hv
  obtain ⟨rfl, rfl, hAM, hP, hD⟩ := hv
  have hx := B.exec
  have hb := B.bytes
  have hr := B.returns
  have hts := atoms_spec (ws := wsX6_add) B.pre
  have hown : s.vm.findClass RX6 = some m.cls := findClass_of_methodNamed B.named
  have hlocks := B.notSynchronized
  have hK := hAM.1
  have hS : va_S A s.heap s.heap [] := va_S.rf
  generalize hE : (x_X6_add ds fd p0) = Rv
  rw [x_X6_add] at hE
  have hl := lv_entry ([.ref dr, .int p0]) (n := 2) (Nat.le_of_ble_eq_true rfl)
  rw [lg_entry_eq]
  generalize (lg_sl ([.ref dr, .int p0]) ++ List.replicate (2 - (lg_sl ([.ref dr, .int p0])).length) Slot.unset).toArray = ls at hl ⊢
  have hl : lv_has ls 2 [(0, .ref dr), (1, .int p0)] := hl
  refine lv_aload_n hx hb dX6_add_0 rfl (lv_at hl 0 rfl) ?_
  refine va_get (D := D) (ci := 4) (v := .int (nI ds)) (C := RX6) (T := TX6) (N := 2) hx hb hts in_X6_add_X6 hown hK hP 3 rfl rfl 1 (by decide) (hts (.fieldLink RX6 15 "WallCount$Text" "size" "I") (List.mem_of_getElem? (i := 1) rfl)) (fun _ h9 => h9) rfl dX6_add_1 ?_
  refine lv_if_lt (tgt := 19) hx hb dX6_add_4 (by decide) (fun c_4 => ?_) (fun c_4 => ?_)
  · have hE := itT hE c_4
    refine lv_iconst (v := 0) hx hb dX6_add_19 (by decide) ?_
    subst hE
    exact wr_zret (r := false) (ds, fd) hx hb hr hlocks ⟨rfl, rfl, rfl⟩ hP hD hS dX6_add_20
  · have hE := itF hE c_4
    refine lv_aload_n hx hb dX6_add_7 rfl (lv_at hl 0 rfl) ?_
    refine va_get (D := D) (ci := 4) (v := .int (nI ds)) (C := RX6) (T := TX6) (N := 2) hx hb hts in_X6_add_X6 hown hK hP 3 rfl rfl 1 (by decide) (hts (.fieldLink RX6 15 "WallCount$Text" "size" "I") (List.mem_of_getElem? (i := 1) rfl)) (fun _ h9 => h9) rfl dX6_add_8 ?_
    refine lv_aload_n hx hb dX6_add_11 rfl (lv_at hl 0 rfl) ?_
    refine va_get (D := D) (ci := 4) (v := .ref sd) (C := RX6) (T := TX6) (N := 2) hx hb hts in_X6_add_X6 hown hK hP 3 rfl rfl 0 (by decide) (hts (.fieldLink RX6 9 "WallCount$Text" "signs" "[I") (List.mem_of_getElem? (i := 2) rfl)) (fun _ h9 => h9) rfl dX6_add_12 ?_
    refine va_alen (v := 40) hx hb hK hP 4 0 rfl rfl rfl dX6_add_15 ?_
    refine lv_icmp_lt (tgt := 21) hx hb dX6_add_16 (by decide) (fun c_16 => ?_) (fun c_16 => ?_)
    · have hE := itT hE c_16
      refine lv_aload_n hx hb dX6_add_21 rfl (lv_at hl 0 rfl) ?_
      refine va_get (D := D) (ci := 4) (v := .ref sd) (C := RX6) (T := TX6) (N := 2) hx hb hts in_X6_add_X6 hown hK hP 3 rfl rfl 0 (by decide) (hts (.fieldLink RX6 9 "WallCount$Text" "signs" "[I") (List.mem_of_getElem? (i := 2) rfl)) (fun _ h9 => h9) rfl dX6_add_22 ?_
      refine lv_aload_n hx hb dX6_add_25 rfl (lv_at hl 0 rfl) ?_
      refine va_get (D := D) (ci := 4) (v := .int (nI ds)) (C := RX6) (T := TX6) (N := 2) hx hb hts in_X6_add_X6 hown hK hP 3 rfl rfl 1 (by decide) (hts (.fieldLink RX6 15 "WallCount$Text" "size" "I") (List.mem_of_getElem? (i := 1) rfl)) (fun _ h9 => h9) rfl dX6_add_26 ?_
      refine lv_iload_n hx hb dX6_add_29 rfl (lv_at hl 1 rfl) ?_
      refine va_iast hx hb hK hP hD hS 4 0 rfl rfl (in_of2 c_4 rfl (by decide) (nle_of_lt c_16)) dX6_add_30 (fun H locs hP hD hS => ?_)
      have hP : va_P D vwCl (cW cI cR x kk pr w wr wc ro wt need c0 c1 c2 hh pc0 pz0 pc1 pz1 dr sd ds (upd fd (ix (nI ds)) p0) tw sw wn fw fr nr ra rd cc ch cp) H := hP
      have hD : va_D A (cW cI cR x kk pr w wr wc ro wt need c0 c1 c2 hh pc0 pz0 pc1 pz1 dr sd ds (upd fd (ix (nI ds)) p0) tw sw wn fw fr nr ra rd cc ch cp) := hD
      refine lv_aload_n hx hb dX6_add_31 rfl (lv_at hl 0 rfl) ?_
      refine lv_dup hx hb dX6_add_32 rfl ?_
      refine va_get (D := D) (ci := 4) (v := .int (nI ds)) (C := RX6) (T := TX6) (N := 2) hx hb hts in_X6_add_X6 hown hK hP 3 rfl rfl 1 (by decide) (hts (.fieldLink RX6 15 "WallCount$Text" "size" "I") (List.mem_of_getElem? (i := 1) rfl)) (fun _ h9 => h9) rfl dX6_add_33 ?_
      refine lv_iconst (v := 1) hx hb dX6_add_36 (by decide) ?_
      refine lv_iadd hx hb dX6_add_37 ?_
      rw [nI_1 ds]
      refine va_put (D := D) (ci := 4) (v := .int (nI (ds + 1))) (ty := .int) (C := RX6) (T := TX6) (N := 2) hx hb hts in_X6_add_X6 tyX6 tyX6_ok nmX6 hown hK hP hD hS 3 rfl rfl 1 (by decide) (hts (.fieldLink RX6 15 "WallCount$Text" "size" "I") (List.mem_of_getElem? (i := 1) rfl)) (fun _ h9 => h9) rfl (by decide +kernel) rfl rfl (Nat.le_of_ble_eq_true rfl) dX6_add_38 (fun H locs hP hD hS => ?_)
      have hP : va_P D vwCl (cW cI cR x kk pr w wr wc ro wt need c0 c1 c2 hh pc0 pz0 pc1 pz1 dr sd (ds + 1) (upd fd (ix (nI ds)) p0) tw sw wn fw fr nr ra rd cc ch cp) H := hP
      have hD : va_D A (cW cI cR x kk pr w wr wc ro wt need c0 c1 c2 hh pc0 pz0 pc1 pz1 dr sd (ds + 1) (upd fd (ix (nI ds)) p0) tw sw wn fw fr nr ra rd cc ch cp) := hD
      refine lv_iconst (v := 1) hx hb dX6_add_41 (by decide) ?_
      subst hE
      exact wr_zret (r := true) ((ds + 1), (upd fd (ix (nI ds)) p0)) hx hb hr hlocks ⟨rfl, rfl, rfl⟩ hP hD hS dX6_add_42
    · have hE := itF hE c_16
      refine lv_iconst (v := 0) hx hb dX6_add_19 (by decide) ?_
      subst hE
      exact wr_zret (r := false) (ds, fd) hx hb hr hlocks ⟨rfl, rfl, rfl⟩ hP hD hS dX6_add_20

theorem hd_X6_clear : yX6_clear.cls ≠ "java/lang/invoke/MethodHandle" ∧ yX6_clear.cls ≠ "java/lang/invoke/VarHandle" ∧ (parseMethodDescriptor yX6_clear.desc).map (fun d => d.parameters.length) = some 0 := by decide +kernel
def x_X6_clear : Nat := 0
def rm_X6_clear : Room := { frames := 0, cells := 0, slots := 0, locals := 0 }
abbrev pq_X6_clear (D : va_G) (cI cZ cR : ClassId) (A : Nat → Prop) (x kk pr w wr wc ro wt : Nat) (need : Int32) (c0 : Int32) (c1 : Int32) (c2 : Int32) (hh : Int32) (pc0 : Int32) (pz0 : Int32) (pc1 : Int32) (pz1 : Int32) (dr : Nat) (sd : Nat) (ds : Nat) (fd : Nat → Int32) (tw : Nat) (sw : Nat) (wn : Nat) (fw : Nat → Int32) (fr : Nat → Int32) (nr : Nat) (ra : Nat → Nat) (rd : Nat → R6) (cc : Nat) (ch : Int32) (cp : Nat → Int32) (Rv : Nat) : Array Value → State → Outcome → State → Prop := wr_Q D (fun (v : Option Value) (u : Nat) => v = none ∧ u = Rv) (fun u => cW cI cR x kk pr w wr wc ro wt need c0 c1 c2 hh pc0 pz0 pc1 pz1 dr sd u fd tw sw wn fw fr nr ra rd cc ch cp) A
theorem in_X6_clear_X6 : ∀ w ∈ wsX60, w ∈ wsX6_clear := fun _ h => List.mem_cons_of_mem _ (List.mem_append_right _ h)
set_option maxHeartbeats 4000000 in
set_option maxRecDepth 100000 in
theorem c_X6_clear (l : Launch) (D : va_G) (cI cZ cR : ClassId) (A : Nat → Prop) (H0 : Heap) (x kk pr w wr wc ro wt : Nat) (need : Int32) (c0 : Int32) (c1 : Int32) (c2 : Int32) (hh : Int32) (pc0 : Int32) (pz0 : Int32) (pc1 : Int32) (pz1 : Int32) (dr : Nat) (sd : Nat) (ds : Nat) (fd : Nat → Int32) (tw : Nat) (sw : Nat) (wn : Nat) (fw : Nat → Int32) (fr : Nat → Int32) (nr : Nat) (ra : Nat → Nat) (rd : Nat → R6) (cc : Nat) (ch : Int32) (cp : Nat → Int32) : Met l yX6_clear wsX6_clear rm_X6_clear (wr_P D cI cZ cR [.ref dr] (cW cI cR x kk pr w wr wc ro wt need c0 c1 c2 hh pc0 pz0 pc1 pz1 dr sd ds fd tw sw wn fw fr nr ra rd cc ch cp) A H0) (pq_X6_clear D cI cZ cR A x kk pr w wr wc ro wt need c0 c1 c2 hh pc0 pz0 pc1 pz1 dr sd ds fd tw sw wn fw fr nr ra rd cc ch cp (x_X6_clear)) 0 0 A := by
  refine Met.ofW (cc := cX6_clear) (maxL := 1) (ret := none) (by decide +kernel) rfl ?_
  intro p e s m args below meth c s₁ B hml hv
  obtain ⟨rfl, rfl, hAM, hP, hD⟩ := hv
  have hx := B.exec
  have hb := B.bytes
  have hr := B.returns
  have hts := atoms_spec (ws := wsX6_clear) B.pre
  have hown : s.vm.findClass RX6 = some m.cls := findClass_of_methodNamed B.named
  have hlocks := B.notSynchronized
  have hK := hAM.1
  have hS : va_S A s.heap s.heap [] := va_S.rf
  generalize hE : (x_X6_clear) = Rv
  rw [x_X6_clear] at hE
  have hl := lv_entry ([.ref dr]) (n := 1) (Nat.le_of_ble_eq_true rfl)
  rw [lg_entry_eq]
  generalize (lg_sl ([.ref dr]) ++ List.replicate (1 - (lg_sl ([.ref dr])).length) Slot.unset).toArray = ls at hl ⊢
  have hl : lv_has ls 1 [(0, .ref dr)] := hl
  refine lv_aload_n hx hb dX6_clear_0 rfl (lv_at hl 0 rfl) ?_
  refine lv_iconst (v := 0) hx hb dX6_clear_1 (by decide) ?_
  refine va_put (D := D) (ci := 4) (v := .int 0) (ty := .int) (C := RX6) (T := TX6) (N := 2) hx hb hts in_X6_clear_X6 tyX6 tyX6_ok nmX6 hown hK hP hD hS 3 rfl rfl 1 (by decide) (hts (.fieldLink RX6 15 "WallCount$Text" "size" "I") (List.mem_of_getElem? (i := 1) rfl)) (fun _ h9 => h9) rfl (by decide +kernel) rfl rfl (Nat.le_of_ble_eq_true rfl) dX6_clear_2 (fun H locs hP hD hS => ?_)
  have hP : va_P D vwCl (cW cI cR x kk pr w wr wc ro wt need c0 c1 c2 hh pc0 pz0 pc1 pz1 dr sd 0 fd tw sw wn fw fr nr ra rd cc ch cp) H := hP
  have hD : va_D A (cW cI cR x kk pr w wr wc ro wt need c0 c1 c2 hh pc0 pz0 pc1 pz1 dr sd 0 fd tw sw wn fw fr nr ra rd cc ch cp) := hD
  subst hE
  exact wr_vret (0) hx hb hr hlocks ⟨rfl, rfl⟩ hP hD hS dX6_clear_5

theorem hd_X4_change : yX4_change.cls ≠ "java/lang/invoke/MethodHandle" ∧ yX4_change.cls ≠ "java/lang/invoke/VarHandle" ∧ (parseMethodDescriptor yX4_change.desc).map (fun d => d.parameters.length) = some 3 := by decide +kernel
def x_X4_change (fr : Nat → Int32) (p0 : Int32) (p1 : Int32) (p2 : Int32) : Int32 × (Nat → Int32) := (if ((p0 * 3) + p1) < 0 then ((x_X4_trait fr p0 p1), fr) else (if 36 ≤ ((p0 * 3) + p1) then ((x_X4_trait fr p0 p1), fr) else ((x_X4_trait fr p0 p1), (upd fr (ix ((p0 * 3) + p1)) p2))))
def rm_X4_change : Room := { frames := 1, cells := 0, slots := 0, locals := 23 }
abbrev pq_X4_change (D : va_G) (cI cZ cR : ClassId) (A : Nat → Prop) (x kk pr w wr wc ro wt : Nat) (need : Int32) (c0 : Int32) (c1 : Int32) (c2 : Int32) (hh : Int32) (pc0 : Int32) (pz0 : Int32) (pc1 : Int32) (pz1 : Int32) (dr : Nat) (sd : Nat) (ds : Nat) (fd : Nat → Int32) (tw : Nat) (sw : Nat) (wn : Nat) (fw : Nat → Int32) (fr : Nat → Int32) (nr : Nat) (ra : Nat → Nat) (rd : Nat → R6) (cc : Nat) (ch : Int32) (cp : Nat → Int32) (Rv : Int32 × (Nat → Int32)) : Array Value → State → Outcome → State → Prop := wr_Q D (fun (v : Option Value) (u : (Nat → Int32)) => v = some (.int Rv.1) ∧ u = Rv.2) (fun u => cW cI cR x kk pr w wr wc ro wt need c0 c1 c2 hh pc0 pz0 pc1 pz1 dr sd ds fd tw sw wn fw u nr ra rd cc ch cp) A
theorem in_X4_change_X4 : ∀ w ∈ wsX40, w ∈ wsX4_change := fun _ h => List.mem_cons_of_mem _ (List.mem_append_right _ h)
set_option maxHeartbeats 4000000 in
set_option maxRecDepth 100000 in
theorem c_X4_change (l : Launch) (D : va_G) (cI cZ cR : ClassId) (A : Nat → Prop) (H0 : Heap) (x kk pr w wr wc ro wt : Nat) (need : Int32) (c0 : Int32) (c1 : Int32) (c2 : Int32) (hh : Int32) (pc0 : Int32) (pz0 : Int32) (pc1 : Int32) (pz1 : Int32) (dr : Nat) (sd : Nat) (ds : Nat) (fd : Nat → Int32) (tw : Nat) (sw : Nat) (wn : Nat) (fw : Nat → Int32) (fr : Nat → Int32) (nr : Nat) (ra : Nat → Nat) (rd : Nat → R6) (cc : Nat) (ch : Int32) (cp : Nat → Int32) (p0 : Int32) (p1 : Int32) (p2 : Int32) : Met l yX4_change wsX4_change rm_X4_change (wr_P D cI cZ cR [.ref ro, .int p0, .int p1, .int p2] (cW cI cR x kk pr w wr wc ro wt need c0 c1 c2 hh pc0 pz0 pc1 pz1 dr sd ds fd tw sw wn fw fr nr ra rd cc ch cp) A H0) (pq_X4_change D cI cZ cR A x kk pr w wr wc ro wt need c0 c1 c2 hh pc0 pz0 pc1 pz1 dr sd ds fd tw sw wn fw fr nr ra rd cc ch cp (x_X4_change fr p0 p1 p2)) 0 0 A := by
  refine Met.ofW (cc := cX4_change) (maxL := 6) (ret := (some .int)) (by decide +kernel) rfl ?_
  intro p e s m args below meth c s₁ B hml hv
  obtain ⟨rfl, rfl, hAM, hP, hD⟩ := hv
  have hx := B.exec
  have hb := B.bytes
  have hr := B.returns
  have hts := atoms_spec (ws := wsX4_change) B.pre
  have hown : s.vm.findClass RX4 = some m.cls := findClass_of_methodNamed B.named
  have hlocks := B.notSynchronized
  have hK := hAM.1
  have hS : va_S A s.heap s.heap [] := va_S.rf
  generalize hE : (x_X4_change fr p0 p1 p2) = Rv
  rw [x_X4_change] at hE
  have hl := lv_entry ([.ref ro, .int p0, .int p1, .int p2]) (n := 6) (Nat.le_of_ble_eq_true rfl)
  rw [lg_entry_eq]
  generalize (lg_sl ([.ref ro, .int p0, .int p1, .int p2]) ++ List.replicate (6 - (lg_sl ([.ref ro, .int p0, .int p1, .int p2])).length) Slot.unset).toArray = ls at hl ⊢
  have hl : lv_has ls 6 [(0, .ref ro), (1, .int p0), (2, .int p1), (3, .int p2)] := hl
  refine lv_aload_n hx hb dX4_change_0 rfl (lv_at hl 0 rfl) ?_
  refine lv_iload_n hx hb dX4_change_1 rfl (lv_at hl 1 rfl) ?_
  refine lv_iload_n hx hb dX4_change_2 rfl (lv_at hl 2 rfl) ?_
  refine ro_call (va_runV (As := [.int p0, .int p1]) (rest := []) ⟨hx, hb, hml, hown, hts⟩ (c_X4_trait l D cI cZ cR _ ro wt tw dr fr p0 p1) (cwV 2 hts gX4_change_X4_trait rfl rfl rfl ⟨rfl, hd_X4_trait⟩ ⟨(Nat.le_of_ble_eq_true rfl), (Nat.le_of_ble_eq_true rfl)⟩) (po_preV hAM (hP.sub [8, 9] rfl) (va_recv hK hP (ci := 2) (q0 := 8) rfl rfl)) rfl rfl hl.1 rfl (lv_room (Nat.le_of_ble_eq_true rfl)) dX4_change_3 ⟨(Nat.le_of_ble_eq_true rfl), (Nat.le_of_ble_eq_true rfl)⟩) ?_
  refine lv_istore (lv' := [(4, .int (x_X4_trait fr p0 p1)), (0, .ref ro), (1, .int p0), (2, .int p1), (3, .int p2)]) hx hb dX4_change_6 hl (by decide) rfl (fun ls hl => ?_)
  refine lv_iload_n hx hb dX4_change_8 rfl (lv_at hl 2 rfl) ?_
  refine lv_iconst (v := 3) hx hb dX4_change_9 (by decide) ?_
  refine lv_imul hx hb dX4_change_10 ?_
  refine lv_iload_n hx hb dX4_change_11 rfl (lv_at hl 3 rfl) ?_
  refine lv_iadd hx hb dX4_change_12 ?_
  refine lv_istore (lv' := [(5, .int ((p0 * 3) + p1)), (4, .int (x_X4_trait fr p0 p1)), (0, .ref ro), (1, .int p0), (2, .int p1), (3, .int p2)]) hx hb dX4_change_13 hl (by decide) rfl (fun ls hl => ?_)
  refine lv_iload hx hb dX4_change_15 (lv_at hl 0 rfl) ?_
  refine lv_if_lt (tgt := 38) hx hb dX4_change_17 (by decide) (fun c_17 => ?_) (fun c_17 => ?_)
  · have hE := itT hE c_17
    refine lv_iload hx hb dX4_change_38 (lv_at hl 1 rfl) ?_
    subst hE
    exact wr_iret (fr) hx hb hr hlocks ⟨rfl, rfl⟩ hP hD hS dX4_change_40
  · have hE := itF hE c_17
    refine lv_iload hx hb dX4_change_20 (lv_at hl 0 rfl) ?_
    refine lv_aload_n hx hb dX4_change_22 rfl (lv_at hl 2 rfl) ?_
    refine va_get (D := D) (ci := 2) (v := .ref wt) (C := RX4) (T := TX4) (N := 3) hx hb hts in_X4_change_X4 hown hK hP 8 rfl rfl 0 (by decide) (hts (.fieldLink RX4 9 "WallCount$Roll" "traits" "[I") (List.mem_of_getElem? (i := 1) rfl)) (fun _ h9 => h9) rfl dX4_change_23 ?_
    refine va_alen (v := 36) hx hb hK hP 9 0 rfl rfl rfl dX4_change_26 ?_
    refine lv_icmp_ge (tgt := 38) hx hb dX4_change_27 (by decide) (fun c_27 => ?_) (fun c_27 => ?_)
    · have hE := itT hE c_27
      refine lv_iload hx hb dX4_change_38 (lv_at hl 1 rfl) ?_
      subst hE
      exact wr_iret (fr) hx hb hr hlocks ⟨rfl, rfl⟩ hP hD hS dX4_change_40
    · have hE := itF hE c_27
      refine lv_aload_n hx hb dX4_change_30 rfl (lv_at hl 2 rfl) ?_
      refine va_get (D := D) (ci := 2) (v := .ref wt) (C := RX4) (T := TX4) (N := 3) hx hb hts in_X4_change_X4 hown hK hP 8 rfl rfl 0 (by decide) (hts (.fieldLink RX4 9 "WallCount$Roll" "traits" "[I") (List.mem_of_getElem? (i := 1) rfl)) (fun _ h9 => h9) rfl dX4_change_31 ?_
      refine lv_iload hx hb dX4_change_34 (lv_at hl 0 rfl) ?_
      refine lv_iload_n hx hb dX4_change_36 rfl (lv_at hl 5 rfl) ?_
      refine va_iast hx hb hK hP hD hS 9 0 rfl rfl (in_of2 c_17 rfl (by decide) c_27) dX4_change_37 (fun H locs hP hD hS => ?_)
      have hP : va_P D vwCl (cW cI cR x kk pr w wr wc ro wt need c0 c1 c2 hh pc0 pz0 pc1 pz1 dr sd ds fd tw sw wn fw (upd fr (ix ((p0 * 3) + p1)) p2) nr ra rd cc ch cp) H := hP
      have hD : va_D A (cW cI cR x kk pr w wr wc ro wt need c0 c1 c2 hh pc0 pz0 pc1 pz1 dr sd ds fd tw sw wn fw (upd fr (ix ((p0 * 3) + p1)) p2) nr ra rd cc ch cp) := hD
      refine lv_iload hx hb dX4_change_38 (lv_at hl 1 rfl) ?_
      subst hE
      exact wr_iret ((upd fr (ix ((p0 * 3) + p1)) p2)) hx hb hr hlocks ⟨rfl, rfl⟩ hP hD hS dX4_change_40

theorem hd_X7_changeClose : yX7_changeClose.cls ≠ "java/lang/invoke/MethodHandle" ∧ yX7_changeClose.cls ≠ "java/lang/invoke/VarHandle" ∧ (parseMethodDescriptor yX7_changeClose.desc).map (fun d => d.parameters.length) = some 1 := by decide +kernel
def x_X7_changeClose (ch : Int32) (p0 : Int32) : Int32 × Int32 := (ch, p0)
def rm_X7_changeClose : Room := { frames := 0, cells := 0, slots := 0, locals := 0 }
abbrev pq_X7_changeClose (D : va_G) (cI cZ cR : ClassId) (A : Nat → Prop) (x kk pr w wr wc ro wt : Nat) (need : Int32) (c0 : Int32) (c1 : Int32) (c2 : Int32) (hh : Int32) (pc0 : Int32) (pz0 : Int32) (pc1 : Int32) (pz1 : Int32) (dr : Nat) (sd : Nat) (ds : Nat) (fd : Nat → Int32) (tw : Nat) (sw : Nat) (wn : Nat) (fw : Nat → Int32) (fr : Nat → Int32) (nr : Nat) (ra : Nat → Nat) (rd : Nat → R6) (cc : Nat) (ch : Int32) (cp : Nat → Int32) (Rv : Int32 × Int32) : Array Value → State → Outcome → State → Prop := wr_Q D (fun (v : Option Value) (u : Int32) => v = some (.int Rv.1) ∧ u = Rv.2) (fun u => cW cI cR x kk pr w wr wc ro wt need c0 c1 c2 hh pc0 pz0 pc1 pz1 dr sd ds fd tw sw wn fw fr nr ra rd cc u cp) A
theorem in_X7_changeClose_X7 : ∀ w ∈ wsX70, w ∈ wsX7_changeClose := fun _ h => List.mem_cons_of_mem _ (List.mem_append_right _ h)
set_option maxHeartbeats 4000000 in
set_option maxRecDepth 100000 in
theorem c_X7_changeClose (l : Launch) (D : va_G) (cI cZ cR : ClassId) (A : Nat → Prop) (H0 : Heap) (x kk pr w wr wc ro wt : Nat) (need : Int32) (c0 : Int32) (c1 : Int32) (c2 : Int32) (hh : Int32) (pc0 : Int32) (pz0 : Int32) (pc1 : Int32) (pz1 : Int32) (dr : Nat) (sd : Nat) (ds : Nat) (fd : Nat → Int32) (tw : Nat) (sw : Nat) (wn : Nat) (fw : Nat → Int32) (fr : Nat → Int32) (nr : Nat) (ra : Nat → Nat) (rd : Nat → R6) (cc : Nat) (ch : Int32) (cp : Nat → Int32) (p0 : Int32) : Met l yX7_changeClose wsX7_changeClose rm_X7_changeClose (wr_P D cI cZ cR [.ref w, .int p0] (cW cI cR x kk pr w wr wc ro wt need c0 c1 c2 hh pc0 pz0 pc1 pz1 dr sd ds fd tw sw wn fw fr nr ra rd cc ch cp) A H0) (pq_X7_changeClose D cI cZ cR A x kk pr w wr wc ro wt need c0 c1 c2 hh pc0 pz0 pc1 pz1 dr sd ds fd tw sw wn fw fr nr ra rd cc ch cp (x_X7_changeClose ch p0)) 0 0 A := by
  refine Met.ofW (cc := cX7_changeClose) (maxL := 3) (ret := (some .int)) (by decide +kernel) rfl ?_
  intro p e s m args below meth c s₁ B hml hv
  obtain ⟨rfl, rfl, hAM, hP, hD⟩ := hv
  have hx := B.exec
  have hb := B.bytes
  have hr := B.returns
  have hts := atoms_spec (ws := wsX7_changeClose) B.pre
  have hown : s.vm.findClass RX7 = some m.cls := findClass_of_methodNamed B.named
  have hlocks := B.notSynchronized
  have hK := hAM.1
  have hS : va_S A s.heap s.heap [] := va_S.rf
  generalize hE : (x_X7_changeClose ch p0) = Rv
  rw [x_X7_changeClose] at hE
  have hl := lv_entry ([.ref w, .int p0]) (n := 3) (Nat.le_of_ble_eq_true rfl)
  rw [lg_entry_eq]
  generalize (lg_sl ([.ref w, .int p0]) ++ List.replicate (3 - (lg_sl ([.ref w, .int p0])).length) Slot.unset).toArray = ls at hl ⊢
  have hl : lv_has ls 3 [(0, .ref w), (1, .int p0)] := hl
  refine lv_aload_n hx hb dX7_changeClose_0 rfl (lv_at hl 0 rfl) ?_
  refine va_get (D := D) (ci := 5) (v := .int ch) (C := RX7) (T := TX7) (N := 5) hx hb hts in_X7_changeClose_X7 hown hK hP 5 rfl rfl 4 (by decide) (hts (.fieldLink RX7 28 "WallCount$Wall" "closeHour" "I") (List.mem_of_getElem? (i := 1) rfl)) (fun _ h9 => h9) rfl dX7_changeClose_1 ?_
  refine lv_istore_n (lv' := [(2, .int ch), (0, .ref w), (1, .int p0)]) hx hb dX7_changeClose_4 rfl hl (by decide) rfl (fun ls hl => ?_)
  refine lv_aload_n hx hb dX7_changeClose_5 rfl (lv_at hl 1 rfl) ?_
  refine lv_iload_n hx hb dX7_changeClose_6 rfl (lv_at hl 2 rfl) ?_
  refine va_put (D := D) (ci := 5) (v := .int p0) (ty := .int) (C := RX7) (T := TX7) (N := 5) hx hb hts in_X7_changeClose_X7 tyX7 tyX7_ok nmX7 hown hK hP hD hS 5 rfl rfl 4 (by decide) (hts (.fieldLink RX7 28 "WallCount$Wall" "closeHour" "I") (List.mem_of_getElem? (i := 1) rfl)) (fun _ h9 => h9) rfl (by decide +kernel) rfl rfl (Nat.le_of_ble_eq_true rfl) dX7_changeClose_7 (fun H locs hP hD hS => ?_)
  have hP : va_P D vwCl (cW cI cR x kk pr w wr wc ro wt need c0 c1 c2 hh pc0 pz0 pc1 pz1 dr sd ds fd tw sw wn fw fr nr ra rd cc p0 cp) H := hP
  have hD : va_D A (cW cI cR x kk pr w wr wc ro wt need c0 c1 c2 hh pc0 pz0 pc1 pz1 dr sd ds fd tw sw wn fw fr nr ra rd cc p0 cp) := hD
  refine lv_iload_n hx hb dX7_changeClose_10 rfl (lv_at hl 0 rfl) ?_
  subst hE
  exact wr_iret (p0) hx hb hr hlocks ⟨rfl, rfl⟩ hP hD hS dX7_changeClose_11

theorem hd_X7_addCopied : yX7_addCopied.cls ≠ "java/lang/invoke/MethodHandle" ∧ yX7_addCopied.cls ≠ "java/lang/invoke/VarHandle" ∧ (parseMethodDescriptor yX7_addCopied.desc).map (fun d => d.parameters.length) = some 1 := by decide +kernel
def x_X7_addCopied (cc : Nat) (cp : Nat → Int32) (p0 : Int32) : Bool × Nat × (Nat → Int32) := (if (nI cc) < 0 then (false, cc, cp) else (if (nI cc) < 30 then (true, (cc + 1), (upd cp (ix (nI cc)) p0)) else (false, cc, cp)))
def rm_X7_addCopied : Room := { frames := 0, cells := 0, slots := 0, locals := 0 }
abbrev pq_X7_addCopied (D : va_G) (cI cZ cR : ClassId) (A : Nat → Prop) (x kk pr w wr wc ro wt : Nat) (need : Int32) (c0 : Int32) (c1 : Int32) (c2 : Int32) (hh : Int32) (pc0 : Int32) (pz0 : Int32) (pc1 : Int32) (pz1 : Int32) (dr : Nat) (sd : Nat) (ds : Nat) (fd : Nat → Int32) (tw : Nat) (sw : Nat) (wn : Nat) (fw : Nat → Int32) (fr : Nat → Int32) (nr : Nat) (ra : Nat → Nat) (rd : Nat → R6) (cc : Nat) (ch : Int32) (cp : Nat → Int32) (Rv : Bool × Nat × (Nat → Int32)) : Array Value → State → Outcome → State → Prop := wr_Q D (fun (v : Option Value) (u : Nat × (Nat → Int32)) => v = some (.int (bI Rv.1)) ∧ u.1 = Rv.2.1 ∧ u.2 = Rv.2.2) (fun u => cW cI cR x kk pr w wr wc ro wt need c0 c1 c2 hh pc0 pz0 pc1 pz1 dr sd ds fd tw sw wn fw fr nr ra rd u.1 ch u.2) A
theorem in_X7_addCopied_X7 : ∀ w ∈ wsX70, w ∈ wsX7_addCopied := fun _ h => List.mem_cons_of_mem _ (List.mem_append_right _ h)
set_option maxHeartbeats 4000000 in
set_option maxRecDepth 100000 in
theorem c_X7_addCopied (l : Launch) (D : va_G) (cI cZ cR : ClassId) (A : Nat → Prop) (H0 : Heap) (x kk pr w wr wc ro wt : Nat) (need : Int32) (c0 : Int32) (c1 : Int32) (c2 : Int32) (hh : Int32) (pc0 : Int32) (pz0 : Int32) (pc1 : Int32) (pz1 : Int32) (dr : Nat) (sd : Nat) (ds : Nat) (fd : Nat → Int32) (tw : Nat) (sw : Nat) (wn : Nat) (fw : Nat → Int32) (fr : Nat → Int32) (nr : Nat) (ra : Nat → Nat) (rd : Nat → R6) (cc : Nat) (ch : Int32) (cp : Nat → Int32) (p0 : Int32) : Met l yX7_addCopied wsX7_addCopied rm_X7_addCopied (wr_P D cI cZ cR [.ref w, .int p0] (cW cI cR x kk pr w wr wc ro wt need c0 c1 c2 hh pc0 pz0 pc1 pz1 dr sd ds fd tw sw wn fw fr nr ra rd cc ch cp) A H0) (pq_X7_addCopied D cI cZ cR A x kk pr w wr wc ro wt need c0 c1 c2 hh pc0 pz0 pc1 pz1 dr sd ds fd tw sw wn fw fr nr ra rd cc ch cp (x_X7_addCopied cc cp p0)) 0 0 A := by
  refine Met.ofW (cc := cX7_addCopied) (maxL := 2) (ret := (some .boolean)) (by decide +kernel) rfl ?_
  intro p e s m args below meth c s₁ B hml hv
  obtain ⟨rfl, rfl, hAM, hP, hD⟩ := hv
  have hx := B.exec
  have hb := B.bytes
  have hr := B.returns
  have hts := atoms_spec (ws := wsX7_addCopied) B.pre
  have hown : s.vm.findClass RX7 = some m.cls := findClass_of_methodNamed B.named
  have hlocks := B.notSynchronized
  have hK := hAM.1
  have hS : va_S A s.heap s.heap [] := va_S.rf
  generalize hE : (x_X7_addCopied cc cp p0) = Rv
  rw [x_X7_addCopied] at hE
  have hl := lv_entry ([.ref w, .int p0]) (n := 2) (Nat.le_of_ble_eq_true rfl)
  rw [lg_entry_eq]
  generalize (lg_sl ([.ref w, .int p0]) ++ List.replicate (2 - (lg_sl ([.ref w, .int p0])).length) Slot.unset).toArray = ls at hl ⊢
  have hl : lv_has ls 2 [(0, .ref w), (1, .int p0)] := hl
  refine lv_aload_n hx hb dX7_addCopied_0 rfl (lv_at hl 0 rfl) ?_
  refine va_get (D := D) (ci := 5) (v := .int (nI cc)) (C := RX7) (T := TX7) (N := 5) hx hb hts in_X7_addCopied_X7 hown hK hP 5 rfl rfl 3 (by decide) (hts (.fieldLink RX7 25 "WallCount$Wall" "copiedSize" "I") (List.mem_of_getElem? (i := 1) rfl)) (fun _ h9 => h9) rfl dX7_addCopied_1 ?_
  refine lv_if_lt (tgt := 19) hx hb dX7_addCopied_4 (by decide) (fun c_4 => ?_) (fun c_4 => ?_)
  · have hE := itT hE c_4
    refine lv_iconst (v := 0) hx hb dX7_addCopied_19 (by decide) ?_
    subst hE
    exact wr_zret (r := false) (cc, cp) hx hb hr hlocks ⟨rfl, rfl, rfl⟩ hP hD hS dX7_addCopied_20
  · have hE := itF hE c_4
    refine lv_aload_n hx hb dX7_addCopied_7 rfl (lv_at hl 0 rfl) ?_
    refine va_get (D := D) (ci := 5) (v := .int (nI cc)) (C := RX7) (T := TX7) (N := 5) hx hb hts in_X7_addCopied_X7 hown hK hP 5 rfl rfl 3 (by decide) (hts (.fieldLink RX7 25 "WallCount$Wall" "copiedSize" "I") (List.mem_of_getElem? (i := 1) rfl)) (fun _ h9 => h9) rfl dX7_addCopied_8 ?_
    refine lv_aload_n hx hb dX7_addCopied_11 rfl (lv_at hl 0 rfl) ?_
    refine va_get (D := D) (ci := 5) (v := .ref wc) (C := RX7) (T := TX7) (N := 5) hx hb hts in_X7_addCopied_X7 hown hK hP 5 rfl rfl 1 (by decide) (hts (.fieldLink RX7 17 "WallCount$Wall" "copied" "[I") (List.mem_of_getElem? (i := 2) rfl)) (fun _ h9 => h9) rfl dX7_addCopied_12 ?_
    refine va_alen (v := 30) hx hb hK hP 7 0 rfl rfl rfl dX7_addCopied_15 ?_
    refine lv_icmp_lt (tgt := 21) hx hb dX7_addCopied_16 (by decide) (fun c_16 => ?_) (fun c_16 => ?_)
    · have hE := itT hE c_16
      refine lv_aload_n hx hb dX7_addCopied_21 rfl (lv_at hl 0 rfl) ?_
      refine va_get (D := D) (ci := 5) (v := .ref wc) (C := RX7) (T := TX7) (N := 5) hx hb hts in_X7_addCopied_X7 hown hK hP 5 rfl rfl 1 (by decide) (hts (.fieldLink RX7 17 "WallCount$Wall" "copied" "[I") (List.mem_of_getElem? (i := 2) rfl)) (fun _ h9 => h9) rfl dX7_addCopied_22 ?_
      refine lv_aload_n hx hb dX7_addCopied_25 rfl (lv_at hl 0 rfl) ?_
      refine va_get (D := D) (ci := 5) (v := .int (nI cc)) (C := RX7) (T := TX7) (N := 5) hx hb hts in_X7_addCopied_X7 hown hK hP 5 rfl rfl 3 (by decide) (hts (.fieldLink RX7 25 "WallCount$Wall" "copiedSize" "I") (List.mem_of_getElem? (i := 1) rfl)) (fun _ h9 => h9) rfl dX7_addCopied_26 ?_
      refine lv_iload_n hx hb dX7_addCopied_29 rfl (lv_at hl 1 rfl) ?_
      refine va_iast hx hb hK hP hD hS 7 0 rfl rfl (in_of2 c_4 rfl (by decide) (nle_of_lt c_16)) dX7_addCopied_30 (fun H locs hP hD hS => ?_)
      have hP : va_P D vwCl (cW cI cR x kk pr w wr wc ro wt need c0 c1 c2 hh pc0 pz0 pc1 pz1 dr sd ds fd tw sw wn fw fr nr ra rd cc ch (upd cp (ix (nI cc)) p0)) H := hP
      have hD : va_D A (cW cI cR x kk pr w wr wc ro wt need c0 c1 c2 hh pc0 pz0 pc1 pz1 dr sd ds fd tw sw wn fw fr nr ra rd cc ch (upd cp (ix (nI cc)) p0)) := hD
      refine lv_aload_n hx hb dX7_addCopied_31 rfl (lv_at hl 0 rfl) ?_
      refine lv_dup hx hb dX7_addCopied_32 rfl ?_
      refine va_get (D := D) (ci := 5) (v := .int (nI cc)) (C := RX7) (T := TX7) (N := 5) hx hb hts in_X7_addCopied_X7 hown hK hP 5 rfl rfl 3 (by decide) (hts (.fieldLink RX7 25 "WallCount$Wall" "copiedSize" "I") (List.mem_of_getElem? (i := 1) rfl)) (fun _ h9 => h9) rfl dX7_addCopied_33 ?_
      refine lv_iconst (v := 1) hx hb dX7_addCopied_36 (by decide) ?_
      refine lv_iadd hx hb dX7_addCopied_37 ?_
      rw [nI_1 cc]
      refine va_put (D := D) (ci := 5) (v := .int (nI (cc + 1))) (ty := .int) (C := RX7) (T := TX7) (N := 5) hx hb hts in_X7_addCopied_X7 tyX7 tyX7_ok nmX7 hown hK hP hD hS 5 rfl rfl 3 (by decide) (hts (.fieldLink RX7 25 "WallCount$Wall" "copiedSize" "I") (List.mem_of_getElem? (i := 1) rfl)) (fun _ h9 => h9) rfl (by decide +kernel) rfl rfl (Nat.le_of_ble_eq_true rfl) dX7_addCopied_38 (fun H locs hP hD hS => ?_)
      have hP : va_P D vwCl (cW cI cR x kk pr w wr wc ro wt need c0 c1 c2 hh pc0 pz0 pc1 pz1 dr sd ds fd tw sw wn fw fr nr ra rd (cc + 1) ch (upd cp (ix (nI cc)) p0)) H := hP
      have hD : va_D A (cW cI cR x kk pr w wr wc ro wt need c0 c1 c2 hh pc0 pz0 pc1 pz1 dr sd ds fd tw sw wn fw fr nr ra rd (cc + 1) ch (upd cp (ix (nI cc)) p0)) := hD
      refine lv_iconst (v := 1) hx hb dX7_addCopied_41 (by decide) ?_
      subst hE
      exact wr_zret (r := true) ((cc + 1), (upd cp (ix (nI cc)) p0)) hx hb hr hlocks ⟨rfl, rfl, rfl⟩ hP hD hS dX7_addCopied_42
    · have hE := itF hE c_16
      refine lv_iconst (v := 0) hx hb dX7_addCopied_19 (by decide) ?_
      subst hE
      exact wr_zret (r := false) (cc, cp) hx hb hr hlocks ⟨rfl, rfl, rfl⟩ hP hD hS dX7_addCopied_20

theorem hd_X4_adoptDraft : yX4_adoptDraft.cls ≠ "java/lang/invoke/MethodHandle" ∧ yX4_adoptDraft.cls ≠ "java/lang/invoke/VarHandle" ∧ (parseMethodDescriptor yX4_adoptDraft.desc).map (fun d => d.parameters.length) = some 0 := by decide +kernel
def x_X4_adoptDraft (dr : Nat) (sd : Nat) (ds : Nat) (fd : Nat → Int32) (tw : Nat) (sw : Nat) (wn : Nat) (fw : Nat → Int32) : Nat × Nat × Nat × (Nat → Int32) × Nat × Nat × Nat × (Nat → Int32) := (tw, sw, (x_X6_clear), fw, dr, sd, ds, fd)
def rm_X4_adoptDraft : Room := { frames := 1, cells := 0, slots := 0, locals := 20 }
abbrev pq_X4_adoptDraft (D : va_G) (cI cZ cR : ClassId) (A : Nat → Prop) (x kk pr w wr wc ro wt : Nat) (need : Int32) (c0 : Int32) (c1 : Int32) (c2 : Int32) (hh : Int32) (pc0 : Int32) (pz0 : Int32) (pc1 : Int32) (pz1 : Int32) (dr : Nat) (sd : Nat) (ds : Nat) (fd : Nat → Int32) (tw : Nat) (sw : Nat) (wn : Nat) (fw : Nat → Int32) (fr : Nat → Int32) (nr : Nat) (ra : Nat → Nat) (rd : Nat → R6) (cc : Nat) (ch : Int32) (cp : Nat → Int32) (Rv : Nat × Nat × Nat × (Nat → Int32) × Nat × Nat × Nat × (Nat → Int32)) : Array Value → State → Outcome → State → Prop := wr_Q D (fun (v : Option Value) (u : Nat × Nat × Nat × (Nat → Int32) × Nat × Nat × Nat × (Nat → Int32)) => v = none ∧ u.1 = Rv.1 ∧ u.2.1 = Rv.2.1 ∧ u.2.2.1 = Rv.2.2.1 ∧ u.2.2.2.1 = Rv.2.2.2.1 ∧ u.2.2.2.2.1 = Rv.2.2.2.2.1 ∧ u.2.2.2.2.2.1 = Rv.2.2.2.2.2.1 ∧ u.2.2.2.2.2.2.1 = Rv.2.2.2.2.2.2.1 ∧ u.2.2.2.2.2.2.2 = Rv.2.2.2.2.2.2.2) (fun u => cWg cI cR x kk pr w wr wc ro wt need c0 c1 c2 hh pc0 pz0 pc1 pz1 u.1 u.2.1 u.2.2.1 u.2.2.2.1 u.2.2.2.2.1 u.2.2.2.2.2.1 u.2.2.2.2.2.2.1 u.2.2.2.2.2.2.2 fr nr ra rd cc ch cp u.2.2.2.2.1 u.1) A
theorem in_X4_adoptDraft_X4 : ∀ w ∈ wsX40, w ∈ wsX4_adoptDraft := fun _ h => List.mem_cons_of_mem _ (List.mem_append_left _ (List.mem_append_right _ h))
theorem in_X4_adoptDraft_X6 : ∀ w ∈ wsX60, w ∈ wsX4_adoptDraft := fun _ h => List.mem_cons_of_mem _ (List.mem_append_right _ h)
set_option maxHeartbeats 4000000 in
set_option maxRecDepth 100000 in
theorem c_X4_adoptDraft (l : Launch) (D : va_G) (cI cZ cR : ClassId) (A : Nat → Prop) (H0 : Heap) (x kk pr w wr wc ro wt : Nat) (need : Int32) (c0 : Int32) (c1 : Int32) (c2 : Int32) (hh : Int32) (pc0 : Int32) (pz0 : Int32) (pc1 : Int32) (pz1 : Int32) (dr : Nat) (sd : Nat) (ds : Nat) (fd : Nat → Int32) (tw : Nat) (sw : Nat) (wn : Nat) (fw : Nat → Int32) (fr : Nat → Int32) (nr : Nat) (ra : Nat → Nat) (rd : Nat → R6) (cc : Nat) (ch : Int32) (cp : Nat → Int32) : Met l yX4_adoptDraft wsX4_adoptDraft rm_X4_adoptDraft (wr_P D cI cZ cR [.ref ro] (cWg cI cR x kk pr w wr wc ro wt need c0 c1 c2 hh pc0 pz0 pc1 pz1 dr sd ds fd tw sw wn fw fr nr ra rd cc ch cp tw dr) A H0) (pq_X4_adoptDraft D cI cZ cR A x kk pr w wr wc ro wt need c0 c1 c2 hh pc0 pz0 pc1 pz1 dr sd ds fd tw sw wn fw fr nr ra rd cc ch cp (x_X4_adoptDraft dr sd ds fd tw sw wn fw)) 0 0 A := by
  refine Met.ofW (cc := cX4_adoptDraft) (maxL := 2) (ret := none) (by decide +kernel) rfl ?_
  intro p e s m args below meth c s₁ B hml hv
  obtain ⟨rfl, rfl, hAM, hP, hD⟩ := hv
  have hx := B.exec
  have hb := B.bytes
  have hr := B.returns
  have hts := atoms_spec (ws := wsX4_adoptDraft) B.pre
  have hown : s.vm.findClass RX4 = some m.cls := findClass_of_methodNamed B.named
  have hlocks := B.notSynchronized
  have hK := hAM.1
  have hS : va_S A s.heap s.heap [] := va_S.rf
  generalize hE : (x_X4_adoptDraft dr sd ds fd tw sw wn fw) = Rv
  rw [x_X4_adoptDraft] at hE
  have hl := lv_entry ([.ref ro]) (n := 2) (Nat.le_of_ble_eq_true rfl)
  rw [lg_entry_eq]
  generalize (lg_sl ([.ref ro]) ++ List.replicate (2 - (lg_sl ([.ref ro])).length) Slot.unset).toArray = ls at hl ⊢
  have hl : lv_has ls 2 [(0, .ref ro)] := hl
  refine lv_aload_n hx hb dX4_adoptDraft_0 rfl (lv_at hl 0 rfl) ?_
  refine va_get (D := D) (ci := 2) (v := .ref tw) (C := RX4) (T := TX4) (N := 3) hx hb hts in_X4_adoptDraft_X4 hown hK hP 8 rfl rfl 1 (by decide) (hts (.fieldLink RX4 18 "WallCount$Roll" "whoMay" "LWallCount$Text;") (List.mem_of_getElem? (i := 1) rfl)) (fun _ h9 => h9) rfl dX4_adoptDraft_1 ?_
  refine lv_astore_n (lv' := [(1, .ref tw), (0, .ref ro)]) hx hb dX4_adoptDraft_4 rfl hl (by decide) rfl (fun ls hl => ?_)
  refine lv_aload_n hx hb dX4_adoptDraft_5 rfl (lv_at hl 1 rfl) ?_
  refine lv_aload_n hx hb dX4_adoptDraft_6 rfl (lv_at hl 1 rfl) ?_
  refine va_get (D := D) (ci := 2) (v := .ref dr) (C := RX4) (T := TX4) (N := 3) hx hb hts in_X4_adoptDraft_X4 hown hK hP 8 rfl rfl 2 (by decide) (hts (.fieldLink RX4 22 "WallCount$Roll" "draft" "LWallCount$Text;") (List.mem_of_getElem? (i := 2) rfl)) (fun _ h9 => h9) rfl dX4_adoptDraft_7 ?_
  refine va_put (D := D) (ci := 2) (v := .ref dr) (ty := .object "WallCount$Text") (C := RX4) (T := TX4) (N := 3) hx hb hts in_X4_adoptDraft_X4 tyX4 tyX4_ok nmX4 hown hK hP hD hS 8 rfl rfl 1 (by decide) (hts (.fieldLink RX4 18 "WallCount$Roll" "whoMay" "LWallCount$Text;") (List.mem_of_getElem? (i := 1) rfl)) (fun _ h9 => h9) rfl (by decide +kernel) rfl rfl (Nat.le_of_ble_eq_true rfl) dX4_adoptDraft_10 (fun H locs hP hD hS => ?_)
  have hP : va_P D vwCl (cWg cI cR x kk pr w wr wc ro wt need c0 c1 c2 hh pc0 pz0 pc1 pz1 dr sd ds fd tw sw wn fw fr nr ra rd cc ch cp dr dr) H := hP
  have hD : va_D A (cWg cI cR x kk pr w wr wc ro wt need c0 c1 c2 hh pc0 pz0 pc1 pz1 dr sd ds fd tw sw wn fw fr nr ra rd cc ch cp dr dr) := hD
  refine lv_aload_n hx hb dX4_adoptDraft_13 rfl (lv_at hl 1 rfl) ?_
  refine lv_aload_n hx hb dX4_adoptDraft_14 rfl (lv_at hl 0 rfl) ?_
  refine va_put (D := D) (ci := 2) (v := .ref tw) (ty := .object "WallCount$Text") (C := RX4) (T := TX4) (N := 3) hx hb hts in_X4_adoptDraft_X4 tyX4 tyX4_ok nmX4 hown hK hP hD hS 8 rfl rfl 2 (by decide) (hts (.fieldLink RX4 22 "WallCount$Roll" "draft" "LWallCount$Text;") (List.mem_of_getElem? (i := 2) rfl)) (fun _ h9 => h9) rfl (by decide +kernel) rfl rfl (Nat.le_of_ble_eq_true rfl) dX4_adoptDraft_15 (fun H locs hP hD hS => ?_)
  have hP : va_P D vwCl (cWg cI cR x kk pr w wr wc ro wt need c0 c1 c2 hh pc0 pz0 pc1 pz1 dr sd ds fd tw sw wn fw fr nr ra rd cc ch cp dr tw) H := hP
  have hD : va_D A (cWg cI cR x kk pr w wr wc ro wt need c0 c1 c2 hh pc0 pz0 pc1 pz1 dr sd ds fd tw sw wn fw fr nr ra rd cc ch cp dr tw) := hD
  have hP := va_P.part (X := [(x, .inr (6, [.ref kk, .ref pr, .ref ro, .ref w])), (kk, .inr (0, [.int need, .int c0, .int c1, .int c2, .int hh])), (pr, .inr (1, [.int pc0, .int pz0, .int pc1, .int pz1])), (dr, .inr (4, [.ref sd, .int (nI ds)])), (sd, .inl (cI, 40, .inl fd)), (w, .inr (5, [.ref wr, .ref wc, .int (nI nr), .int (nI cc), .int ch])), (wr, .inl (cR, 30, .inr (.inr (.inr (.inr (rwA nr ra)))))), (wc, .inl (cI, 30, .inl cp)), (ro, .inr (2, [.ref wt, .ref dr, .ref tw])), (wt, .inl (cI, 36, .inl fr)), (tw, .inr (4, [.ref sw, .int (nI wn)])), (sw, .inl (cI, 40, .inl fw))]) (cx := [(x, .inr (6, [.ref kk, .ref pr, .ref ro, .ref w])), (kk, .inr (0, [.int need, .int c0, .int c1, .int c2, .int hh])), (pr, .inr (1, [.int pc0, .int pz0, .int pc1, .int pz1])), (tw, .inr (4, [.ref sw, .int (nI wn)])), (sw, .inl (cI, 40, .inl fw)), (w, .inr (5, [.ref wr, .ref wc, .int (nI nr), .int (nI cc), .int ch])), (wr, .inl (cR, 30, .inr (.inr (.inr (.inr (rwA nr ra)))))), (wc, .inl (cI, 30, .inl cp)), (ro, .inr (2, [.ref wt, .ref dr, .ref tw])), (wt, .inl (cI, 36, .inl fr)), (dr, .inr (4, [.ref sd, .int (nI ds)])), (sd, .inl (cI, 40, .inl fd))]) (pl := rwL nr ra rd) hP [0, 1, 2, 10, 11, 5, 6, 7, 8, 9, 3, 4] rfl
  have hD := va_D.part (X := [(x, .inr (6, [.ref kk, .ref pr, .ref ro, .ref w])), (kk, .inr (0, [.int need, .int c0, .int c1, .int c2, .int hh])), (pr, .inr (1, [.int pc0, .int pz0, .int pc1, .int pz1])), (dr, .inr (4, [.ref sd, .int (nI ds)])), (sd, .inl (cI, 40, .inl fd)), (w, .inr (5, [.ref wr, .ref wc, .int (nI nr), .int (nI cc), .int ch])), (wr, .inl (cR, 30, .inr (.inr (.inr (.inr (rwA nr ra)))))), (wc, .inl (cI, 30, .inl cp)), (ro, .inr (2, [.ref wt, .ref dr, .ref tw])), (wt, .inl (cI, 36, .inl fr)), (tw, .inr (4, [.ref sw, .int (nI wn)])), (sw, .inl (cI, 40, .inl fw))]) (cx := [(x, .inr (6, [.ref kk, .ref pr, .ref ro, .ref w])), (kk, .inr (0, [.int need, .int c0, .int c1, .int c2, .int hh])), (pr, .inr (1, [.int pc0, .int pz0, .int pc1, .int pz1])), (tw, .inr (4, [.ref sw, .int (nI wn)])), (sw, .inl (cI, 40, .inl fw)), (w, .inr (5, [.ref wr, .ref wc, .int (nI nr), .int (nI cc), .int ch])), (wr, .inl (cR, 30, .inr (.inr (.inr (.inr (rwA nr ra)))))), (wc, .inl (cI, 30, .inl cp)), (ro, .inr (2, [.ref wt, .ref dr, .ref tw])), (wt, .inl (cI, 36, .inl fr)), (dr, .inr (4, [.ref sd, .int (nI ds)])), (sd, .inl (cI, 40, .inl fd))]) (pl := rwL nr ra rd) hD [0, 1, 2, 10, 11, 5, 6, 7, 8, 9, 3, 4] (by decide) rfl
  have hP : va_P D vwCl (cWg cI cR x kk pr w wr wc ro wt need c0 c1 c2 hh pc0 pz0 pc1 pz1 tw sw wn fw dr sd ds fd fr nr ra rd cc ch cp dr tw) H := hP
  have hD : va_D A (cWg cI cR x kk pr w wr wc ro wt need c0 c1 c2 hh pc0 pz0 pc1 pz1 tw sw wn fw dr sd ds fd fr nr ra rd cc ch cp dr tw) := hD
  refine lv_aload_n hx hb dX4_adoptDraft_18 rfl (lv_at hl 1 rfl) ?_
  refine va_get (D := D) (ci := 2) (v := .ref tw) (C := RX4) (T := TX4) (N := 3) hx hb hts in_X4_adoptDraft_X4 hown hK hP 8 rfl rfl 2 (by decide) (hts (.fieldLink RX4 22 "WallCount$Roll" "draft" "LWallCount$Text;") (List.mem_of_getElem? (i := 2) rfl)) (fun _ h9 => h9) rfl dX4_adoptDraft_19 ?_
  refine wr_call (va_runV (As := []) (rest := []) ⟨hx, hb, hml, hown, hts⟩ (c_X6_clear l D cI cZ cR A _ x kk pr w wr wc ro wt need c0 c1 c2 hh pc0 pz0 pc1 pz1 tw sw wn fw dr sd ds fd fr nr ra rd cc ch cp) (cwV 0 hts gX4_adoptDraft_X6_clear rfl rfl rfl ⟨rfl, hd_X6_clear⟩ ⟨(Nat.le_of_ble_eq_true rfl), (Nat.le_of_ble_eq_true rfl)⟩) (wr_preV hAM hP hD (va_recv hK hP (ci := 4) (q0 := 3) rfl rfl)) rfl rfl hl.1 rfl (lv_room (Nat.le_of_ble_eq_true rfl)) dX4_adoptDraft_22 ⟨(Nat.le_of_ble_eq_true rfl), (Nat.le_of_ble_eq_true rfl)⟩) hS (fun v ds_22 H locs hw hP hD _ hS => ?_)
  try dsimp only at hw
  obtain ⟨rfl, ew0⟩ := hw
  rw [ew0] at hP hD
  refine W.eq (g2 := F0 m 25 ls []) rfl ?_
  refine W.cs (cells' := 0) (slots' := 0) rfl rfl ?_
  have hP : va_P D vwCl (cWg cI cR x kk pr w wr wc ro wt need c0 c1 c2 hh pc0 pz0 pc1 pz1 tw sw (x_X6_clear) fw dr sd ds fd fr nr ra rd cc ch cp dr tw) H := hP
  have hD : va_D A (cWg cI cR x kk pr w wr wc ro wt need c0 c1 c2 hh pc0 pz0 pc1 pz1 tw sw (x_X6_clear) fw dr sd ds fd fr nr ra rd cc ch cp dr tw) := hD
  subst hE
  exact wr_vret (tw, sw, (x_X6_clear), fw, dr, sd, ds, fd) hx hb hr hlocks ⟨rfl, rfl, rfl, rfl, rfl, rfl, rfl, rfl, rfl⟩ hP hD hS dX4_adoptDraft_25

theorem hd_X8_key : yX8_key.cls ≠ "java/lang/invoke/MethodHandle" ∧ yX8_key.cls ≠ "java/lang/invoke/VarHandle" ∧ (parseMethodDescriptor yX8_key.desc).map (fun d => d.parameters.length) = some 4 := by decide +kernel
def x_X8_key (need : Int32) (c0 : Int32) (c1 : Int32) (c2 : Int32) (hh : Int32) (nr : Nat) (p0 : Int32) (p1 : Int32) (p2 : Int32) (p3 : Int32) : Int32 × Int32 × Int32 × Int32 × Int32 × Int32 := (if (x_X8_within p0 1 3) = true then (if (x_X8_isExponent p1) = true then (if (x_X8_isExponent p2) = true then (if (x_X8_isExponent p3) = true then (if (x_X7_size nr) ≤ 0 then ((x_X0_h ((x_X0_become p0 p1 p2 p3).2.2.2.2)), ((x_X0_become p0 p1 p2 p3).1), ((x_X0_become p0 p1 p2 p3).2.1), ((x_X0_become p0 p1 p2 p3).2.2.1), ((x_X0_become p0 p1 p2 p3).2.2.2.1), ((x_X0_become p0 p1 p2 p3).2.2.2.2)) else ((-3), need, c0, c1, c2, hh)) else ((-2), need, c0, c1, c2, hh)) else ((-2), need, c0, c1, c2, hh)) else ((-2), need, c0, c1, c2, hh)) else ((-2), need, c0, c1, c2, hh))
def rm_X8_key : Room := { frames := 3, cells := 0, slots := 0, locals := 69 }
abbrev pq_X8_key (D : va_G) (cI cZ cR : ClassId) (A : Nat → Prop) (x kk pr w wr wc ro wt : Nat) (need : Int32) (c0 : Int32) (c1 : Int32) (c2 : Int32) (hh : Int32) (pc0 : Int32) (pz0 : Int32) (pc1 : Int32) (pz1 : Int32) (dr : Nat) (sd : Nat) (ds : Nat) (fd : Nat → Int32) (tw : Nat) (sw : Nat) (wn : Nat) (fw : Nat → Int32) (fr : Nat → Int32) (nr : Nat) (ra : Nat → Nat) (rd : Nat → R6) (cc : Nat) (ch : Int32) (cp : Nat → Int32) (Rv : Int32 × Int32 × Int32 × Int32 × Int32 × Int32) : Array Value → State → Outcome → State → Prop := wr_Q D (fun (v : Option Value) (u : Int32 × Int32 × Int32 × Int32 × Int32) => v = some (.int Rv.1) ∧ u.1 = Rv.2.1 ∧ u.2.1 = Rv.2.2.1 ∧ u.2.2.1 = Rv.2.2.2.1 ∧ u.2.2.2.1 = Rv.2.2.2.2.1 ∧ u.2.2.2.2 = Rv.2.2.2.2.2) (fun u => cW cI cR x kk pr w wr wc ro wt u.1 u.2.1 u.2.2.1 u.2.2.2.1 u.2.2.2.2 pc0 pz0 pc1 pz1 dr sd ds fd tw sw wn fw fr nr ra rd cc ch cp) A
theorem in_X8_key_X0 : ∀ w ∈ wsX00, w ∈ wsX8_key := fun _ h => List.mem_cons_of_mem _ (List.mem_append_right _ h)
theorem in_X8_key_X7 : ∀ w ∈ wsX70, w ∈ wsX8_key := fun _ h => List.mem_cons_of_mem _ (List.mem_append_left _ (List.mem_append_right _ h))
theorem in_X8_key_X8 : ∀ w ∈ wsX80, w ∈ wsX8_key := fun _ h => List.mem_cons_of_mem _ (List.mem_append_left _ (List.mem_append_left _ (List.mem_append_right _ h)))
set_option maxHeartbeats 4000000 in
set_option maxRecDepth 100000 in
theorem c_X8_key (l : Launch) (D : va_G) (cI cZ cR : ClassId) (A : Nat → Prop) (H0 : Heap) (x kk pr w wr wc ro wt : Nat) (need : Int32) (c0 : Int32) (c1 : Int32) (c2 : Int32) (hh : Int32) (pc0 : Int32) (pz0 : Int32) (pc1 : Int32) (pz1 : Int32) (dr : Nat) (sd : Nat) (ds : Nat) (fd : Nat → Int32) (tw : Nat) (sw : Nat) (wn : Nat) (fw : Nat → Int32) (fr : Nat → Int32) (nr : Nat) (ra : Nat → Nat) (rd : Nat → R6) (cc : Nat) (ch : Int32) (cp : Nat → Int32) (p0 : Int32) (p1 : Int32) (p2 : Int32) (p3 : Int32) : Met l yX8_key wsX8_key rm_X8_key (wr_P D cI cZ cR [.ref x, .int p0, .int p1, .int p2, .int p3] (cW cI cR x kk pr w wr wc ro wt need c0 c1 c2 hh pc0 pz0 pc1 pz1 dr sd ds fd tw sw wn fw fr nr ra rd cc ch cp) A H0) (pq_X8_key D cI cZ cR A x kk pr w wr wc ro wt need c0 c1 c2 hh pc0 pz0 pc1 pz1 dr sd ds fd tw sw wn fw fr nr ra rd cc ch cp (x_X8_key need c0 c1 c2 hh nr p0 p1 p2 p3)) 0 0 A := by
  refine Met.ofW (cc := cX8_key) (maxL := 5) (ret := (some .int)) (by decide +kernel) rfl ?_
  intro p e s m args below meth c s₁ B hml hv
  obtain ⟨rfl, rfl, hAM, hP, hD⟩ := hv
  have hx := B.exec
  have hb := B.bytes
  have hr := B.returns
  have hts := atoms_spec (ws := wsX8_key) B.pre
  have hown : s.vm.findClass RX8 = some m.cls := findClass_of_methodNamed B.named
  have hlocks := B.notSynchronized
  have hK := hAM.1
  have hS : va_S A s.heap s.heap [] := va_S.rf
  generalize hE : (x_X8_key need c0 c1 c2 hh nr p0 p1 p2 p3) = Rv
  rw [x_X8_key] at hE
  have hl := lv_entry ([.ref x, .int p0, .int p1, .int p2, .int p3]) (n := 5) (Nat.le_of_ble_eq_true rfl)
  rw [lg_entry_eq]
  generalize (lg_sl ([.ref x, .int p0, .int p1, .int p2, .int p3]) ++ List.replicate (5 - (lg_sl ([.ref x, .int p0, .int p1, .int p2, .int p3])).length) Slot.unset).toArray = ls at hl ⊢
  have hl : lv_has ls 5 [(0, .ref x), (1, .int p0), (2, .int p1), (3, .int p2), (4, .int p3)] := hl
  refine lv_iload_n hx hb dX8_key_0 rfl (lv_at hl 1 rfl) ?_
  refine lv_iconst (v := 1) hx hb dX8_key_1 (by decide) ?_
  refine lv_iconst (v := 3) hx hb dX8_key_2 (by decide) ?_
  refine ro_call (va_runS (As := [.int p0, .int 1, .int 3]) (rest := []) ⟨hx, hb, hml, hown, hts⟩ (c_X8_within l D cI cZ cR _ p0 1 3) (va_cwS 3 hts gX8_key_X8_within rfl rfl rfl hd_X8_within ⟨(Nat.le_of_ble_eq_true rfl), (Nat.le_of_ble_eq_true rfl)⟩) (po_pre hAM va_P.nil) rfl rfl hl.1 rfl (lv_room (Nat.le_of_ble_eq_true rfl)) dX8_key_3 ⟨(Nat.le_of_ble_eq_true rfl), (Nat.le_of_ble_eq_true rfl)⟩) ?_
  refine w_if_eqb (tgt := 31) hx hb dX8_key_6 (by decide) (fun c_6 => ?_) (fun c_6 => ?_)
  · have hE := itF hE c_6
    refine lv_bipush (v := (-2)) hx hb dX8_key_31 (by decide +kernel) ?_
    subst hE
    exact wr_iret (need, c0, c1, c2, hh) hx hb hr hlocks ⟨rfl, rfl, rfl, rfl, rfl, rfl⟩ hP hD hS dX8_key_33
  · have hE := itT hE c_6
    refine lv_iload_n hx hb dX8_key_9 rfl (lv_at hl 2 rfl) ?_
    refine ro_call (va_runS (As := [.int p1]) (rest := []) ⟨hx, hb, hml, hown, hts⟩ (c_X8_isExponent l D cI cZ cR _ p1) (va_cwS 1 hts gX8_key_X8_isExponent rfl rfl rfl hd_X8_isExponent ⟨(Nat.le_of_ble_eq_true rfl), (Nat.le_of_ble_eq_true rfl)⟩) (po_pre hAM va_P.nil) rfl rfl hl.1 rfl (lv_room (Nat.le_of_ble_eq_true rfl)) dX8_key_10 ⟨(Nat.le_of_ble_eq_true rfl), (Nat.le_of_ble_eq_true rfl)⟩) ?_
    refine w_if_eqb (tgt := 31) hx hb dX8_key_13 (by decide) (fun c_13 => ?_) (fun c_13 => ?_)
    · have hE := itF hE c_13
      refine lv_bipush (v := (-2)) hx hb dX8_key_31 (by decide +kernel) ?_
      subst hE
      exact wr_iret (need, c0, c1, c2, hh) hx hb hr hlocks ⟨rfl, rfl, rfl, rfl, rfl, rfl⟩ hP hD hS dX8_key_33
    · have hE := itT hE c_13
      refine lv_iload_n hx hb dX8_key_16 rfl (lv_at hl 3 rfl) ?_
      refine ro_call (va_runS (As := [.int p2]) (rest := []) ⟨hx, hb, hml, hown, hts⟩ (c_X8_isExponent l D cI cZ cR _ p2) (va_cwS 1 hts gX8_key_X8_isExponent rfl rfl rfl hd_X8_isExponent ⟨(Nat.le_of_ble_eq_true rfl), (Nat.le_of_ble_eq_true rfl)⟩) (po_pre hAM va_P.nil) rfl rfl hl.1 rfl (lv_room (Nat.le_of_ble_eq_true rfl)) dX8_key_17 ⟨(Nat.le_of_ble_eq_true rfl), (Nat.le_of_ble_eq_true rfl)⟩) ?_
      refine w_if_eqb (tgt := 31) hx hb dX8_key_20 (by decide) (fun c_20 => ?_) (fun c_20 => ?_)
      · have hE := itF hE c_20
        refine lv_bipush (v := (-2)) hx hb dX8_key_31 (by decide +kernel) ?_
        subst hE
        exact wr_iret (need, c0, c1, c2, hh) hx hb hr hlocks ⟨rfl, rfl, rfl, rfl, rfl, rfl⟩ hP hD hS dX8_key_33
      · have hE := itT hE c_20
        refine lv_iload hx hb dX8_key_23 (lv_at hl 4 rfl) ?_
        refine ro_call (va_runS (As := [.int p3]) (rest := []) ⟨hx, hb, hml, hown, hts⟩ (c_X8_isExponent l D cI cZ cR _ p3) (va_cwS 1 hts gX8_key_X8_isExponent rfl rfl rfl hd_X8_isExponent ⟨(Nat.le_of_ble_eq_true rfl), (Nat.le_of_ble_eq_true rfl)⟩) (po_pre hAM va_P.nil) rfl rfl hl.1 rfl (lv_room (Nat.le_of_ble_eq_true rfl)) dX8_key_25 ⟨(Nat.le_of_ble_eq_true rfl), (Nat.le_of_ble_eq_true rfl)⟩) ?_
        refine w_if_neb (tgt := 34) hx hb dX8_key_28 (by decide) (fun c_28 => ?_) (fun c_28 => ?_)
        · have hE := itT hE c_28
          refine lv_aload_n hx hb dX8_key_34 rfl (lv_at hl 0 rfl) ?_
          refine va_get (D := D) (ci := 6) (v := .ref w) (C := RX8) (T := TX8) (N := 4) hx hb hts in_X8_key_X8 hown hK hP 0 rfl rfl 3 (by decide) (hts (.fieldLink RX8 33 "WallCount" "wall" "LWallCount$Wall;") (List.mem_of_getElem? (i := 1) rfl)) (fun _ h9 => h9) rfl dX8_key_35 ?_
          refine ro_call (va_runV (As := []) (rest := []) ⟨hx, hb, hml, hown, hts⟩ (c_X7_size l D cI cZ cR _ w wr wc ro wt tw sw dr nr ra rd (nI cc) ch cp fr (nI wn) fw) (cwV 0 hts gX8_key_X7_size rfl rfl rfl ⟨rfl, hd_X7_size⟩ ⟨(Nat.le_of_ble_eq_true rfl), (Nat.le_of_ble_eq_true rfl)⟩) (po_preV hAM hP.tail.tail.tail.tail.tail (va_recv hK hP (ci := 5) (q0 := 5) rfl rfl)) rfl rfl hl.1 rfl (lv_room (Nat.le_of_ble_eq_true rfl)) dX8_key_38 ⟨(Nat.le_of_ble_eq_true rfl), (Nat.le_of_ble_eq_true rfl)⟩) ?_
          refine lv_if_le (tgt := 47) hx hb dX8_key_41 (by decide) (fun c_41 => ?_) (fun c_41 => ?_)
          · have hE := itT hE c_41
            refine lv_aload_n hx hb dX8_key_47 rfl (lv_at hl 0 rfl) ?_
            refine va_get (D := D) (ci := 6) (v := .ref kk) (C := RX8) (T := TX8) (N := 4) hx hb hts in_X8_key_X8 hown hK hP 0 rfl rfl 0 (by decide) (hts (.fieldLink RX8 10 "WallCount" "secret" "LWallCount$Key;") (List.mem_of_getElem? (i := 2) rfl)) (fun _ h9 => h9) rfl dX8_key_48 ?_
            refine lv_iload_n hx hb dX8_key_51 rfl (lv_at hl 1 rfl) ?_
            refine lv_iload_n hx hb dX8_key_52 rfl (lv_at hl 2 rfl) ?_
            refine lv_iload_n hx hb dX8_key_53 rfl (lv_at hl 3 rfl) ?_
            refine lv_iload hx hb dX8_key_54 (lv_at hl 4 rfl) ?_
            refine wr_call (va_runV (As := [.int p0, .int p1, .int p2, .int p3]) (rest := []) ⟨hx, hb, hml, hown, hts⟩ (c_X0_become l D cI cZ cR A _ x kk pr w wr wc ro wt need c0 c1 c2 hh pc0 pz0 pc1 pz1 dr sd ds fd tw sw wn fw fr nr ra rd cc ch cp p0 p1 p2 p3) (cwV 4 hts gX8_key_X0_become rfl rfl rfl ⟨rfl, hd_X0_become⟩ ⟨(Nat.le_of_ble_eq_true rfl), (Nat.le_of_ble_eq_true rfl)⟩) (wr_preV hAM hP hD (va_recv hK hP (ci := 0) (q0 := 1) rfl rfl)) rfl rfl hl.1 rfl (lv_room (Nat.le_of_ble_eq_true rfl)) dX8_key_56 ⟨(Nat.le_of_ble_eq_true rfl), (Nat.le_of_ble_eq_true rfl)⟩) hS (fun v u H locs hw hP hD _ hS => ?_)
            obtain ⟨need_56, c0_56, c1_56, c2_56, hh_56⟩ := u
            try dsimp only at hw
            obtain ⟨rfl, ew0, ew1, ew2, ew3, ew4⟩ := hw
            rw [ew0, ew1, ew2, ew3, ew4] at hP hD
            refine W.eq (g2 := F0 m 59 ls []) rfl ?_
            refine W.cs (cells' := 0) (slots' := 0) rfl rfl ?_
            have hP : va_P D vwCl (cW cI cR x kk pr w wr wc ro wt ((x_X0_become p0 p1 p2 p3).1) ((x_X0_become p0 p1 p2 p3).2.1) ((x_X0_become p0 p1 p2 p3).2.2.1) ((x_X0_become p0 p1 p2 p3).2.2.2.1) ((x_X0_become p0 p1 p2 p3).2.2.2.2) pc0 pz0 pc1 pz1 dr sd ds fd tw sw wn fw fr nr ra rd cc ch cp) H := hP
            have hD : va_D A (cW cI cR x kk pr w wr wc ro wt ((x_X0_become p0 p1 p2 p3).1) ((x_X0_become p0 p1 p2 p3).2.1) ((x_X0_become p0 p1 p2 p3).2.2.1) ((x_X0_become p0 p1 p2 p3).2.2.2.1) ((x_X0_become p0 p1 p2 p3).2.2.2.2) pc0 pz0 pc1 pz1 dr sd ds fd tw sw wn fw fr nr ra rd cc ch cp) := hD
            refine lv_aload_n hx hb dX8_key_59 rfl (lv_at hl 0 rfl) ?_
            refine va_get (D := D) (ci := 6) (v := .ref kk) (C := RX8) (T := TX8) (N := 4) hx hb hts in_X8_key_X8 hown hK hP 0 rfl rfl 0 (by decide) (hts (.fieldLink RX8 10 "WallCount" "secret" "LWallCount$Key;") (List.mem_of_getElem? (i := 2) rfl)) (fun _ h9 => h9) rfl dX8_key_60 ?_
            refine ro_call (va_runV (As := []) (rest := []) ⟨hx, hb, hml, hown, hts⟩ (c_X0_h l D cI cZ cR _ kk ((x_X0_become p0 p1 p2 p3).1) ((x_X0_become p0 p1 p2 p3).2.1) ((x_X0_become p0 p1 p2 p3).2.2.1) ((x_X0_become p0 p1 p2 p3).2.2.2.1) ((x_X0_become p0 p1 p2 p3).2.2.2.2)) (cwV 0 hts gX8_key_X0_h rfl rfl rfl ⟨rfl, hd_X0_h⟩ ⟨(Nat.le_of_ble_eq_true rfl), (Nat.le_of_ble_eq_true rfl)⟩) (po_preV hAM (hP.sub [1] rfl) (va_recv hK hP (ci := 0) (q0 := 1) rfl rfl)) rfl rfl hl.1 rfl (lv_room (Nat.le_of_ble_eq_true rfl)) dX8_key_63 ⟨(Nat.le_of_ble_eq_true rfl), (Nat.le_of_ble_eq_true rfl)⟩) ?_
            subst hE
            exact wr_iret (((x_X0_become p0 p1 p2 p3).1), ((x_X0_become p0 p1 p2 p3).2.1), ((x_X0_become p0 p1 p2 p3).2.2.1), ((x_X0_become p0 p1 p2 p3).2.2.2.1), ((x_X0_become p0 p1 p2 p3).2.2.2.2)) hx hb hr hlocks ⟨rfl, rfl, rfl, rfl, rfl, rfl⟩ hP hD hS dX8_key_66
          · have hE := itF hE c_41
            refine lv_bipush (v := (-3)) hx hb dX8_key_44 (by decide +kernel) ?_
            subst hE
            exact wr_iret (need, c0, c1, c2, hh) hx hb hr hlocks ⟨rfl, rfl, rfl, rfl, rfl, rfl⟩ hP hD hS dX8_key_46
        · have hE := itF hE c_28
          refine lv_bipush (v := (-2)) hx hb dX8_key_31 (by decide +kernel) ?_
          subst hE
          exact wr_iret (need, c0, c1, c2, hh) hx hb hr hlocks ⟨rfl, rfl, rfl, rfl, rfl, rfl⟩ hP hD hS dX8_key_33

theorem hd_X8_prove : yX8_prove.cls ≠ "java/lang/invoke/MethodHandle" ∧ yX8_prove.cls ≠ "java/lang/invoke/VarHandle" ∧ (parseMethodDescriptor yX8_prove.desc).map (fun d => d.parameters.length) = some 6 := by decide +kernel
def x_X8_prove (hh : Int32) (p0 : Int32) (p1 : Int32) (p2 : Int32) (p3 : Int32) (p4 : Int32) (p5 : Int32) : Int32 := (if (x_X8_within p0 0 1) = true then (if (x_X8_areLots p1 p2 p3 p4) = true then (if (x_X8_within p5 0 3) = true then (x_X3_number ((x_X3_make hh p0 p1 p2 p3 p4).1) ((x_X3_make hh p0 p1 p2 p3 p4).2.1) ((x_X3_make hh p0 p1 p2 p3 p4).2.2.1) ((x_X3_make hh p0 p1 p2 p3 p4).2.2.2) p5) else (-2)) else (-2)) else (-2))
def rm_X8_prove : Room := { frames := 5, cells := 0, slots := 0, locals := 127 }
abbrev pq_X8_prove (D : va_G) (cI cZ cR : ClassId) (A : Nat → Prop) (x kk pr w wr wc ro wt : Nat) (need : Int32) (c0 : Int32) (c1 : Int32) (c2 : Int32) (hh : Int32) (pc0 : Int32) (pz0 : Int32) (pc1 : Int32) (pz1 : Int32) (dr : Nat) (sd : Nat) (ds : Nat) (fd : Nat → Int32) (tw : Nat) (sw : Nat) (wn : Nat) (fw : Nat → Int32) (fr : Nat → Int32) (nr : Nat) (ra : Nat → Nat) (rd : Nat → R6) (cc : Nat) (ch : Int32) (cp : Nat → Int32) (Rv : Int32) : Array Value → State → Outcome → State → Prop := wr_Q D (fun (v : Option Value) (u : Int32 × Int32 × Int32 × Int32) => v = some (.int Rv)) (fun u => cW cI cR x kk pr w wr wc ro wt need c0 c1 c2 hh u.1 u.2.1 u.2.2.1 u.2.2.2 dr sd ds fd tw sw wn fw fr nr ra rd cc ch cp) A
theorem in_X8_prove_X0 : ∀ w ∈ wsX00, w ∈ wsX8_prove := fun _ h => List.mem_cons_of_mem _ (List.mem_append_left _ (List.mem_append_right _ h))
theorem in_X8_prove_X3 : ∀ w ∈ wsX30, w ∈ wsX8_prove := fun _ h => List.mem_cons_of_mem _ (List.mem_append_right _ h)
theorem in_X8_prove_X8 : ∀ w ∈ wsX80, w ∈ wsX8_prove := fun _ h => List.mem_cons_of_mem _ (List.mem_append_left _ (List.mem_append_left _ (List.mem_append_right _ h)))
set_option maxHeartbeats 4000000 in
set_option maxRecDepth 100000 in
theorem c_X8_prove (l : Launch) (D : va_G) (cI cZ cR : ClassId) (A : Nat → Prop) (H0 : Heap) (x kk pr w wr wc ro wt : Nat) (need : Int32) (c0 : Int32) (c1 : Int32) (c2 : Int32) (hh : Int32) (pc0 : Int32) (pz0 : Int32) (pc1 : Int32) (pz1 : Int32) (dr : Nat) (sd : Nat) (ds : Nat) (fd : Nat → Int32) (tw : Nat) (sw : Nat) (wn : Nat) (fw : Nat → Int32) (fr : Nat → Int32) (nr : Nat) (ra : Nat → Nat) (rd : Nat → R6) (cc : Nat) (ch : Int32) (cp : Nat → Int32) (p0 : Int32) (p1 : Int32) (p2 : Int32) (p3 : Int32) (p4 : Int32) (p5 : Int32) : Met l yX8_prove wsX8_prove rm_X8_prove (wr_P D cI cZ cR [.ref x, .int p0, .int p1, .int p2, .int p3, .int p4, .int p5] (cW cI cR x kk pr w wr wc ro wt need c0 c1 c2 hh pc0 pz0 pc1 pz1 dr sd ds fd tw sw wn fw fr nr ra rd cc ch cp) A H0) (pq_X8_prove D cI cZ cR A x kk pr w wr wc ro wt need c0 c1 c2 hh pc0 pz0 pc1 pz1 dr sd ds fd tw sw wn fw fr nr ra rd cc ch cp (x_X8_prove hh p0 p1 p2 p3 p4 p5)) 0 0 A := by
  refine Met.ofW (cc := cX8_prove) (maxL := 7) (ret := (some .int)) (by decide +kernel) rfl ?_
  intro p e s m args below meth c s₁ B hml hv
  obtain ⟨rfl, rfl, hAM, hP, hD⟩ := hv
  have hx := B.exec
  have hb := B.bytes
  have hr := B.returns
  have hts := atoms_spec (ws := wsX8_prove) B.pre
  have hown : s.vm.findClass RX8 = some m.cls := findClass_of_methodNamed B.named
  have hlocks := B.notSynchronized
  have hK := hAM.1
  have hS : va_S A s.heap s.heap [] := va_S.rf
  generalize hE : (x_X8_prove hh p0 p1 p2 p3 p4 p5) = Rv
  rw [x_X8_prove] at hE
  have hl := lv_entry ([.ref x, .int p0, .int p1, .int p2, .int p3, .int p4, .int p5]) (n := 7) (Nat.le_of_ble_eq_true rfl)
  rw [lg_entry_eq]
  generalize (lg_sl ([.ref x, .int p0, .int p1, .int p2, .int p3, .int p4, .int p5]) ++ List.replicate (7 - (lg_sl ([.ref x, .int p0, .int p1, .int p2, .int p3, .int p4, .int p5])).length) Slot.unset).toArray = ls at hl ⊢
  have hl : lv_has ls 7 [(0, .ref x), (1, .int p0), (2, .int p1), (3, .int p2), (4, .int p3), (5, .int p4), (6, .int p5)] := hl
  refine lv_iload_n hx hb dX8_prove_0 rfl (lv_at hl 1 rfl) ?_
  refine lv_iconst (v := 0) hx hb dX8_prove_1 (by decide) ?_
  refine lv_iconst (v := 1) hx hb dX8_prove_2 (by decide) ?_
  refine ro_call (va_runS (As := [.int p0, .int 0, .int 1]) (rest := []) ⟨hx, hb, hml, hown, hts⟩ (c_X8_within l D cI cZ cR _ p0 0 1) (va_cwS 3 hts gX8_prove_X8_within rfl rfl rfl hd_X8_within ⟨(Nat.le_of_ble_eq_true rfl), (Nat.le_of_ble_eq_true rfl)⟩) (po_pre hAM va_P.nil) rfl rfl hl.1 rfl (lv_room (Nat.le_of_ble_eq_true rfl)) dX8_prove_3 ⟨(Nat.le_of_ble_eq_true rfl), (Nat.le_of_ble_eq_true rfl)⟩) ?_
  refine w_if_eqb (tgt := 31) hx hb dX8_prove_6 (by decide) (fun c_6 => ?_) (fun c_6 => ?_)
  · have hE := itF hE c_6
    refine lv_bipush (v := (-2)) hx hb dX8_prove_31 (by decide +kernel) ?_
    subst hE
    exact wr_iret (pc0, pz0, pc1, pz1) hx hb hr hlocks rfl hP hD hS dX8_prove_33
  · have hE := itT hE c_6
    refine lv_iload_n hx hb dX8_prove_9 rfl (lv_at hl 2 rfl) ?_
    refine lv_iload_n hx hb dX8_prove_10 rfl (lv_at hl 3 rfl) ?_
    refine lv_iload hx hb dX8_prove_11 (lv_at hl 4 rfl) ?_
    refine lv_iload hx hb dX8_prove_13 (lv_at hl 5 rfl) ?_
    refine ro_call (va_runS (As := [.int p1, .int p2, .int p3, .int p4]) (rest := []) ⟨hx, hb, hml, hown, hts⟩ (c_X8_areLots l D cI cZ cR _ p1 p2 p3 p4) (va_cwS 4 hts gX8_prove_X8_areLots rfl rfl rfl hd_X8_areLots ⟨(Nat.le_of_ble_eq_true rfl), (Nat.le_of_ble_eq_true rfl)⟩) (po_pre hAM va_P.nil) rfl rfl hl.1 rfl (lv_room (Nat.le_of_ble_eq_true rfl)) dX8_prove_15 ⟨(Nat.le_of_ble_eq_true rfl), (Nat.le_of_ble_eq_true rfl)⟩) ?_
    refine w_if_eqb (tgt := 31) hx hb dX8_prove_18 (by decide) (fun c_18 => ?_) (fun c_18 => ?_)
    · have hE := itF hE c_18
      refine lv_bipush (v := (-2)) hx hb dX8_prove_31 (by decide +kernel) ?_
      subst hE
      exact wr_iret (pc0, pz0, pc1, pz1) hx hb hr hlocks rfl hP hD hS dX8_prove_33
    · have hE := itT hE c_18
      refine lv_iload hx hb dX8_prove_21 (lv_at hl 6 rfl) ?_
      refine lv_iconst (v := 0) hx hb dX8_prove_23 (by decide) ?_
      refine lv_iconst (v := 3) hx hb dX8_prove_24 (by decide) ?_
      refine ro_call (va_runS (As := [.int p5, .int 0, .int 3]) (rest := []) ⟨hx, hb, hml, hown, hts⟩ (c_X8_within l D cI cZ cR _ p5 0 3) (va_cwS 3 hts gX8_prove_X8_within rfl rfl rfl hd_X8_within ⟨(Nat.le_of_ble_eq_true rfl), (Nat.le_of_ble_eq_true rfl)⟩) (po_pre hAM va_P.nil) rfl rfl hl.1 rfl (lv_room (Nat.le_of_ble_eq_true rfl)) dX8_prove_25 ⟨(Nat.le_of_ble_eq_true rfl), (Nat.le_of_ble_eq_true rfl)⟩) ?_
      refine w_if_neb (tgt := 34) hx hb dX8_prove_28 (by decide) (fun c_28 => ?_) (fun c_28 => ?_)
      · have hE := itT hE c_28
        refine lv_aload_n hx hb dX8_prove_34 rfl (lv_at hl 0 rfl) ?_
        refine va_get (D := D) (ci := 6) (v := .ref pr) (C := RX8) (T := TX8) (N := 4) hx hb hts in_X8_prove_X8 hown hK hP 0 rfl rfl 1 (by decide) (hts (.fieldLink RX8 19 "WallCount" "proof" "LWallCount$Proof;") (List.mem_of_getElem? (i := 1) rfl)) (fun _ h9 => h9) rfl dX8_prove_35 ?_
        refine lv_aload_n hx hb dX8_prove_38 rfl (lv_at hl 0 rfl) ?_
        refine va_get (D := D) (ci := 6) (v := .ref kk) (C := RX8) (T := TX8) (N := 4) hx hb hts in_X8_prove_X8 hown hK hP 0 rfl rfl 0 (by decide) (hts (.fieldLink RX8 10 "WallCount" "secret" "LWallCount$Key;") (List.mem_of_getElem? (i := 2) rfl)) (fun _ h9 => h9) rfl dX8_prove_39 ?_
        refine lv_iload_n hx hb dX8_prove_42 rfl (lv_at hl 1 rfl) ?_
        refine lv_iload_n hx hb dX8_prove_43 rfl (lv_at hl 2 rfl) ?_
        refine lv_iload_n hx hb dX8_prove_44 rfl (lv_at hl 3 rfl) ?_
        refine lv_iload hx hb dX8_prove_45 (lv_at hl 4 rfl) ?_
        refine lv_iload hx hb dX8_prove_47 (lv_at hl 5 rfl) ?_
        refine wr_call (va_runV (As := [.ref kk, .int p0, .int p1, .int p2, .int p3, .int p4]) (rest := []) ⟨hx, hb, hml, hown, hts⟩ (c_X3_make l D cI cZ cR A _ x kk pr w wr wc ro wt need c0 c1 c2 hh pc0 pz0 pc1 pz1 dr sd ds fd tw sw wn fw fr nr ra rd cc ch cp p0 p1 p2 p3 p4) (cwV 6 hts gX8_prove_X3_make rfl rfl rfl ⟨rfl, hd_X3_make⟩ ⟨(Nat.le_of_ble_eq_true rfl), (Nat.le_of_ble_eq_true rfl)⟩) (wr_preV hAM hP hD (va_recv hK hP (ci := 1) (q0 := 2) rfl rfl)) rfl rfl hl.1 rfl (lv_room (Nat.le_of_ble_eq_true rfl)) dX8_prove_49 ⟨(Nat.le_of_ble_eq_true rfl), (Nat.le_of_ble_eq_true rfl)⟩) hS (fun v u H locs hw hP hD _ hS => ?_)
        obtain ⟨pc0_49, pz0_49, pc1_49, pz1_49⟩ := u
        try dsimp only at hw
        obtain ⟨rfl, ew0, ew1, ew2, ew3⟩ := hw
        rw [ew0, ew1, ew2, ew3] at hP hD
        refine W.eq (g2 := F0 m 52 ls []) rfl ?_
        refine W.cs (cells' := 0) (slots' := 0) rfl rfl ?_
        have hP : va_P D vwCl (cW cI cR x kk pr w wr wc ro wt need c0 c1 c2 hh ((x_X3_make hh p0 p1 p2 p3 p4).1) ((x_X3_make hh p0 p1 p2 p3 p4).2.1) ((x_X3_make hh p0 p1 p2 p3 p4).2.2.1) ((x_X3_make hh p0 p1 p2 p3 p4).2.2.2) dr sd ds fd tw sw wn fw fr nr ra rd cc ch cp) H := hP
        have hD : va_D A (cW cI cR x kk pr w wr wc ro wt need c0 c1 c2 hh ((x_X3_make hh p0 p1 p2 p3 p4).1) ((x_X3_make hh p0 p1 p2 p3 p4).2.1) ((x_X3_make hh p0 p1 p2 p3 p4).2.2.1) ((x_X3_make hh p0 p1 p2 p3 p4).2.2.2) dr sd ds fd tw sw wn fw fr nr ra rd cc ch cp) := hD
        refine lv_aload_n hx hb dX8_prove_52 rfl (lv_at hl 0 rfl) ?_
        refine va_get (D := D) (ci := 6) (v := .ref pr) (C := RX8) (T := TX8) (N := 4) hx hb hts in_X8_prove_X8 hown hK hP 0 rfl rfl 1 (by decide) (hts (.fieldLink RX8 19 "WallCount" "proof" "LWallCount$Proof;") (List.mem_of_getElem? (i := 1) rfl)) (fun _ h9 => h9) rfl dX8_prove_53 ?_
        refine lv_iload hx hb dX8_prove_56 (lv_at hl 6 rfl) ?_
        refine ro_call (va_runV (As := [.int p5]) (rest := []) ⟨hx, hb, hml, hown, hts⟩ (c_X3_number l D cI cZ cR _ pr ((x_X3_make hh p0 p1 p2 p3 p4).1) ((x_X3_make hh p0 p1 p2 p3 p4).2.1) ((x_X3_make hh p0 p1 p2 p3 p4).2.2.1) ((x_X3_make hh p0 p1 p2 p3 p4).2.2.2) p5) (cwV 1 hts gX8_prove_X3_number rfl rfl rfl ⟨rfl, hd_X3_number⟩ ⟨(Nat.le_of_ble_eq_true rfl), (Nat.le_of_ble_eq_true rfl)⟩) (po_preV hAM (hP.sub [2] rfl) (va_recv hK hP (ci := 1) (q0 := 2) rfl rfl)) rfl rfl hl.1 rfl (lv_room (Nat.le_of_ble_eq_true rfl)) dX8_prove_58 ⟨(Nat.le_of_ble_eq_true rfl), (Nat.le_of_ble_eq_true rfl)⟩) ?_
        subst hE
        exact wr_iret (((x_X3_make hh p0 p1 p2 p3 p4).1), ((x_X3_make hh p0 p1 p2 p3 p4).2.1), ((x_X3_make hh p0 p1 p2 p3 p4).2.2.1), ((x_X3_make hh p0 p1 p2 p3 p4).2.2.2)) hx hb hr hlocks rfl hP hD hS dX8_prove_61
      · have hE := itF hE c_28
        refine lv_bipush (v := (-2)) hx hb dX8_prove_31 (by decide +kernel) ?_
        subst hE
        exact wr_iret (pc0, pz0, pc1, pz1) hx hb hr hlocks rfl hP hD hS dX8_prove_33

theorem hd_X8_check : yX8_check.cls ≠ "java/lang/invoke/MethodHandle" ∧ yX8_check.cls ≠ "java/lang/invoke/VarHandle" ∧ (parseMethodDescriptor yX8_check.desc).map (fun d => d.parameters.length) = some 6 := by decide +kernel
def x_X8_check (hh : Int32) (p0 : Int32) (p1 : Int32) (p2 : Int32) (p3 : Int32) (p4 : Int32) (p5 : Int32) : Int32 := (if (x_X3_holds ((x_X3_become p2 p3 p4 p5).1) ((x_X3_become p2 p3 p4 p5).2.1) ((x_X3_become p2 p3 p4 p5).2.2.1) ((x_X3_become p2 p3 p4 p5).2.2.2) hh p0 p1) = true then 1 else 0)
def rm_X8_check : Room := { frames := 5, cells := 0, slots := 0, locals := 116 }
abbrev pq_X8_check (D : va_G) (cI cZ cR : ClassId) (A : Nat → Prop) (x kk pr w wr wc ro wt : Nat) (need : Int32) (c0 : Int32) (c1 : Int32) (c2 : Int32) (hh : Int32) (pc0 : Int32) (pz0 : Int32) (pc1 : Int32) (pz1 : Int32) (dr : Nat) (sd : Nat) (ds : Nat) (fd : Nat → Int32) (tw : Nat) (sw : Nat) (wn : Nat) (fw : Nat → Int32) (fr : Nat → Int32) (nr : Nat) (ra : Nat → Nat) (rd : Nat → R6) (cc : Nat) (ch : Int32) (cp : Nat → Int32) (Rv : Int32) : Array Value → State → Outcome → State → Prop := wr_Q D (fun (v : Option Value) (u : Int32 × Int32 × Int32 × Int32) => v = some (.int Rv)) (fun u => cW cI cR x kk pr w wr wc ro wt need c0 c1 c2 hh u.1 u.2.1 u.2.2.1 u.2.2.2 dr sd ds fd tw sw wn fw fr nr ra rd cc ch cp) A
theorem in_X8_check_X0 : ∀ w ∈ wsX00, w ∈ wsX8_check := fun _ h => List.mem_cons_of_mem _ (List.mem_append_right _ h)
theorem in_X8_check_X3 : ∀ w ∈ wsX30, w ∈ wsX8_check := fun _ h => List.mem_cons_of_mem _ (List.mem_append_left _ (List.mem_append_right _ h))
theorem in_X8_check_X8 : ∀ w ∈ wsX80, w ∈ wsX8_check := fun _ h => List.mem_cons_of_mem _ (List.mem_append_left _ (List.mem_append_left _ (List.mem_append_right _ h)))
set_option maxHeartbeats 4000000 in
set_option maxRecDepth 100000 in
theorem c_X8_check (l : Launch) (D : va_G) (cI cZ cR : ClassId) (A : Nat → Prop) (H0 : Heap) (x kk pr w wr wc ro wt : Nat) (need : Int32) (c0 : Int32) (c1 : Int32) (c2 : Int32) (hh : Int32) (pc0 : Int32) (pz0 : Int32) (pc1 : Int32) (pz1 : Int32) (dr : Nat) (sd : Nat) (ds : Nat) (fd : Nat → Int32) (tw : Nat) (sw : Nat) (wn : Nat) (fw : Nat → Int32) (fr : Nat → Int32) (nr : Nat) (ra : Nat → Nat) (rd : Nat → R6) (cc : Nat) (ch : Int32) (cp : Nat → Int32) (p0 : Int32) (p1 : Int32) (p2 : Int32) (p3 : Int32) (p4 : Int32) (p5 : Int32) : Met l yX8_check wsX8_check rm_X8_check (wr_P D cI cZ cR [.ref x, .int p0, .int p1, .int p2, .int p3, .int p4, .int p5] (cW cI cR x kk pr w wr wc ro wt need c0 c1 c2 hh pc0 pz0 pc1 pz1 dr sd ds fd tw sw wn fw fr nr ra rd cc ch cp) A H0) (pq_X8_check D cI cZ cR A x kk pr w wr wc ro wt need c0 c1 c2 hh pc0 pz0 pc1 pz1 dr sd ds fd tw sw wn fw fr nr ra rd cc ch cp (x_X8_check hh p0 p1 p2 p3 p4 p5)) 0 0 A := by
  refine Met.ofW (cc := cX8_check) (maxL := 7) (ret := (some .int)) (by decide +kernel) rfl ?_
  intro p e s m args below meth c s₁ B hml hv
  obtain ⟨rfl, rfl, hAM, hP, hD⟩ := hv
  have hx := B.exec
  have hb := B.bytes
  have hr := B.returns
  have hts := atoms_spec (ws := wsX8_check) B.pre
  have hown : s.vm.findClass RX8 = some m.cls := findClass_of_methodNamed B.named
  have hlocks := B.notSynchronized
  have hK := hAM.1
  have hS : va_S A s.heap s.heap [] := va_S.rf
  generalize hE : (x_X8_check hh p0 p1 p2 p3 p4 p5) = Rv
  rw [x_X8_check] at hE
  have hl := lv_entry ([.ref x, .int p0, .int p1, .int p2, .int p3, .int p4, .int p5]) (n := 7) (Nat.le_of_ble_eq_true rfl)
  rw [lg_entry_eq]
  generalize (lg_sl ([.ref x, .int p0, .int p1, .int p2, .int p3, .int p4, .int p5]) ++ List.replicate (7 - (lg_sl ([.ref x, .int p0, .int p1, .int p2, .int p3, .int p4, .int p5])).length) Slot.unset).toArray = ls at hl ⊢
  have hl : lv_has ls 7 [(0, .ref x), (1, .int p0), (2, .int p1), (3, .int p2), (4, .int p3), (5, .int p4), (6, .int p5)] := hl
  refine lv_aload_n hx hb dX8_check_0 rfl (lv_at hl 0 rfl) ?_
  refine va_get (D := D) (ci := 6) (v := .ref pr) (C := RX8) (T := TX8) (N := 4) hx hb hts in_X8_check_X8 hown hK hP 0 rfl rfl 1 (by decide) (hts (.fieldLink RX8 19 "WallCount" "proof" "LWallCount$Proof;") (List.mem_of_getElem? (i := 1) rfl)) (fun _ h9 => h9) rfl dX8_check_1 ?_
  refine lv_iload_n hx hb dX8_check_4 rfl (lv_at hl 3 rfl) ?_
  refine lv_iload hx hb dX8_check_5 (lv_at hl 4 rfl) ?_
  refine lv_iload hx hb dX8_check_7 (lv_at hl 5 rfl) ?_
  refine lv_iload hx hb dX8_check_9 (lv_at hl 6 rfl) ?_
  refine wr_call (va_runV (As := [.int p2, .int p3, .int p4, .int p5]) (rest := []) ⟨hx, hb, hml, hown, hts⟩ (c_X3_become l D cI cZ cR A _ x kk pr w wr wc ro wt need c0 c1 c2 hh pc0 pz0 pc1 pz1 dr sd ds fd tw sw wn fw fr nr ra rd cc ch cp p2 p3 p4 p5) (cwV 4 hts gX8_check_X3_become rfl rfl rfl ⟨rfl, hd_X3_become⟩ ⟨(Nat.le_of_ble_eq_true rfl), (Nat.le_of_ble_eq_true rfl)⟩) (wr_preV hAM hP hD (va_recv hK hP (ci := 1) (q0 := 2) rfl rfl)) rfl rfl hl.1 rfl (lv_room (Nat.le_of_ble_eq_true rfl)) dX8_check_11 ⟨(Nat.le_of_ble_eq_true rfl), (Nat.le_of_ble_eq_true rfl)⟩) hS (fun v u H locs hw hP hD _ hS => ?_)
  obtain ⟨pc0_11, pz0_11, pc1_11, pz1_11⟩ := u
  try dsimp only at hw
  obtain ⟨rfl, ew0, ew1, ew2, ew3⟩ := hw
  rw [ew0, ew1, ew2, ew3] at hP hD
  refine W.eq (g2 := F0 m 14 ls []) rfl ?_
  refine W.cs (cells' := 0) (slots' := 0) rfl rfl ?_
  have hP : va_P D vwCl (cW cI cR x kk pr w wr wc ro wt need c0 c1 c2 hh ((x_X3_become p2 p3 p4 p5).1) ((x_X3_become p2 p3 p4 p5).2.1) ((x_X3_become p2 p3 p4 p5).2.2.1) ((x_X3_become p2 p3 p4 p5).2.2.2) dr sd ds fd tw sw wn fw fr nr ra rd cc ch cp) H := hP
  have hD : va_D A (cW cI cR x kk pr w wr wc ro wt need c0 c1 c2 hh ((x_X3_become p2 p3 p4 p5).1) ((x_X3_become p2 p3 p4 p5).2.1) ((x_X3_become p2 p3 p4 p5).2.2.1) ((x_X3_become p2 p3 p4 p5).2.2.2) dr sd ds fd tw sw wn fw fr nr ra rd cc ch cp) := hD
  refine lv_aload_n hx hb dX8_check_14 rfl (lv_at hl 0 rfl) ?_
  refine va_get (D := D) (ci := 6) (v := .ref pr) (C := RX8) (T := TX8) (N := 4) hx hb hts in_X8_check_X8 hown hK hP 0 rfl rfl 1 (by decide) (hts (.fieldLink RX8 19 "WallCount" "proof" "LWallCount$Proof;") (List.mem_of_getElem? (i := 1) rfl)) (fun _ h9 => h9) rfl dX8_check_15 ?_
  refine lv_aload_n hx hb dX8_check_18 rfl (lv_at hl 0 rfl) ?_
  refine va_get (D := D) (ci := 6) (v := .ref kk) (C := RX8) (T := TX8) (N := 4) hx hb hts in_X8_check_X8 hown hK hP 0 rfl rfl 0 (by decide) (hts (.fieldLink RX8 10 "WallCount" "secret" "LWallCount$Key;") (List.mem_of_getElem? (i := 2) rfl)) (fun _ h9 => h9) rfl dX8_check_19 ?_
  refine lv_iload_n hx hb dX8_check_22 rfl (lv_at hl 1 rfl) ?_
  refine lv_iload_n hx hb dX8_check_23 rfl (lv_at hl 2 rfl) ?_
  refine ro_call (va_runV (As := [.ref kk, .int p0, .int p1]) (rest := []) ⟨hx, hb, hml, hown, hts⟩ (c_X3_holds l D cI cZ cR _ pr kk ((x_X3_become p2 p3 p4 p5).1) ((x_X3_become p2 p3 p4 p5).2.1) ((x_X3_become p2 p3 p4 p5).2.2.1) ((x_X3_become p2 p3 p4 p5).2.2.2) need c0 c1 c2 hh p0 p1) (cwV 3 hts gX8_check_X3_holds rfl rfl rfl ⟨rfl, hd_X3_holds⟩ ⟨(Nat.le_of_ble_eq_true rfl), (Nat.le_of_ble_eq_true rfl)⟩) (po_preV hAM (hP.sub [2, 1] rfl) (va_recv hK hP (ci := 1) (q0 := 2) rfl rfl)) rfl rfl hl.1 rfl (lv_room (Nat.le_of_ble_eq_true rfl)) dX8_check_24 ⟨(Nat.le_of_ble_eq_true rfl), (Nat.le_of_ble_eq_true rfl)⟩) ?_
  refine w_if_eqb (tgt := 34) hx hb dX8_check_27 (by decide) (fun c_27 => ?_) (fun c_27 => ?_)
  · have hE := itF hE c_27
    refine lv_iconst (v := 0) hx hb dX8_check_34 (by decide) ?_
    subst hE
    exact wr_iret (((x_X3_become p2 p3 p4 p5).1), ((x_X3_become p2 p3 p4 p5).2.1), ((x_X3_become p2 p3 p4 p5).2.2.1), ((x_X3_become p2 p3 p4 p5).2.2.2)) hx hb hr hlocks rfl hP hD hS dX8_check_35
  · have hE := itT hE c_27
    refine lv_iconst (v := 1) hx hb dX8_check_30 (by decide) ?_
    refine lv_goto (tgt := 35) hx hb dX8_check_31 (by decide) ?_
    subst hE
    exact wr_iret (((x_X3_become p2 p3 p4 p5).1), ((x_X3_become p2 p3 p4 p5).2.1), ((x_X3_become p2 p3 p4 p5).2.2.1), ((x_X3_become p2 p3 p4 p5).2.2.2)) hx hb hr hlocks rfl hP hD hS dX8_check_35

theorem hd_X8_voter : yX8_voter.cls ≠ "java/lang/invoke/MethodHandle" ∧ yX8_voter.cls ≠ "java/lang/invoke/VarHandle" ∧ (parseMethodDescriptor yX8_voter.desc).map (fun d => d.parameters.length) = some 3 := by decide +kernel
def x_X8_voter_lim (p1 : Int32) : Int32 := (if p1 = 2 then 1 else 120)
def x_X8_voter (fr : Nat → Int32) (p0 : Int32) (p1 : Int32) (p2 : Int32) : Int32 × (Nat → Int32) := (if (x_X8_isVoter p0) = true then (if (x_X8_within p1 0 2) = true then (if (x_X8_within p2 0 (x_X8_voter_lim p1)) = true then (((x_X4_change fr p0 p1 p2).1), ((x_X4_change fr p0 p1 p2).2)) else ((-2), fr)) else ((-2), fr)) else ((-1), fr))
def rm_X8_voter : Room := { frames := 2, cells := 0, slots := 0, locals := 48 }
abbrev pq_X8_voter (D : va_G) (cI cZ cR : ClassId) (A : Nat → Prop) (x kk pr w wr wc ro wt : Nat) (need : Int32) (c0 : Int32) (c1 : Int32) (c2 : Int32) (hh : Int32) (pc0 : Int32) (pz0 : Int32) (pc1 : Int32) (pz1 : Int32) (dr : Nat) (sd : Nat) (ds : Nat) (fd : Nat → Int32) (tw : Nat) (sw : Nat) (wn : Nat) (fw : Nat → Int32) (fr : Nat → Int32) (nr : Nat) (ra : Nat → Nat) (rd : Nat → R6) (cc : Nat) (ch : Int32) (cp : Nat → Int32) (Rv : Int32 × (Nat → Int32)) : Array Value → State → Outcome → State → Prop := wr_Q D (fun (v : Option Value) (u : (Nat → Int32)) => v = some (.int Rv.1) ∧ u = Rv.2) (fun u => cW cI cR x kk pr w wr wc ro wt need c0 c1 c2 hh pc0 pz0 pc1 pz1 dr sd ds fd tw sw wn fw u nr ra rd cc ch cp) A
theorem in_X8_voter_X4 : ∀ w ∈ wsX40, w ∈ wsX8_voter := fun _ h => List.mem_cons_of_mem _ (List.mem_append_right _ h)
theorem in_X8_voter_X8 : ∀ w ∈ wsX80, w ∈ wsX8_voter := fun _ h => List.mem_cons_of_mem _ (List.mem_append_left _ (List.mem_append_right _ h))
set_option maxHeartbeats 4000000 in
set_option maxRecDepth 100000 in
theorem c_X8_voter (l : Launch) (D : va_G) (cI cZ cR : ClassId) (A : Nat → Prop) (H0 : Heap) (x kk pr w wr wc ro wt : Nat) (need : Int32) (c0 : Int32) (c1 : Int32) (c2 : Int32) (hh : Int32) (pc0 : Int32) (pz0 : Int32) (pc1 : Int32) (pz1 : Int32) (dr : Nat) (sd : Nat) (ds : Nat) (fd : Nat → Int32) (tw : Nat) (sw : Nat) (wn : Nat) (fw : Nat → Int32) (fr : Nat → Int32) (nr : Nat) (ra : Nat → Nat) (rd : Nat → R6) (cc : Nat) (ch : Int32) (cp : Nat → Int32) (p0 : Int32) (p1 : Int32) (p2 : Int32) : Met l yX8_voter wsX8_voter rm_X8_voter (wr_P D cI cZ cR [.ref x, .int p0, .int p1, .int p2] (cW cI cR x kk pr w wr wc ro wt need c0 c1 c2 hh pc0 pz0 pc1 pz1 dr sd ds fd tw sw wn fw fr nr ra rd cc ch cp) A H0) (pq_X8_voter D cI cZ cR A x kk pr w wr wc ro wt need c0 c1 c2 hh pc0 pz0 pc1 pz1 dr sd ds fd tw sw wn fw fr nr ra rd cc ch cp (x_X8_voter fr p0 p1 p2)) 0 0 A := by
  refine Met.ofW (cc := cX8_voter) (maxL := 4) (ret := (some .int)) (by decide +kernel) rfl ?_
  intro p e s m args below meth c s₁ B hml hv
  obtain ⟨rfl, rfl, hAM, hP, hD⟩ := hv
  have hx := B.exec
  have hb := B.bytes
  have hr := B.returns
  have hts := atoms_spec (ws := wsX8_voter) B.pre
  have hown : s.vm.findClass RX8 = some m.cls := findClass_of_methodNamed B.named
  have hlocks := B.notSynchronized
  have hK := hAM.1
  have hS : va_S A s.heap s.heap [] := va_S.rf
  generalize hE : (x_X8_voter fr p0 p1 p2) = Rv
  rw [x_X8_voter] at hE
  have hl := lv_entry ([.ref x, .int p0, .int p1, .int p2]) (n := 4) (Nat.le_of_ble_eq_true rfl)
  rw [lg_entry_eq]
  generalize (lg_sl ([.ref x, .int p0, .int p1, .int p2]) ++ List.replicate (4 - (lg_sl ([.ref x, .int p0, .int p1, .int p2])).length) Slot.unset).toArray = ls at hl ⊢
  have hl : lv_has ls 4 [(0, .ref x), (1, .int p0), (2, .int p1), (3, .int p2)] := hl
  refine lv_iload_n hx hb dX8_voter_0 rfl (lv_at hl 1 rfl) ?_
  refine ro_call (va_runS (As := [.int p0]) (rest := []) ⟨hx, hb, hml, hown, hts⟩ (c_X8_isVoter l D cI cZ cR _ p0) (va_cwS 1 hts gX8_voter_X8_isVoter rfl rfl rfl hd_X8_isVoter ⟨(Nat.le_of_ble_eq_true rfl), (Nat.le_of_ble_eq_true rfl)⟩) (po_pre hAM va_P.nil) rfl rfl hl.1 rfl (lv_room (Nat.le_of_ble_eq_true rfl)) dX8_voter_1 ⟨(Nat.le_of_ble_eq_true rfl), (Nat.le_of_ble_eq_true rfl)⟩) ?_
  refine w_if_neb (tgt := 9) hx hb dX8_voter_4 (by decide) (fun c_4 => ?_) (fun c_4 => ?_)
  · have hE := itT hE c_4
    refine lv_iload_n hx hb dX8_voter_9 rfl (lv_at hl 2 rfl) ?_
    refine lv_iconst (v := 0) hx hb dX8_voter_10 (by decide) ?_
    refine lv_iconst (v := 2) hx hb dX8_voter_11 (by decide) ?_
    refine ro_call (va_runS (As := [.int p1, .int 0, .int 2]) (rest := []) ⟨hx, hb, hml, hown, hts⟩ (c_X8_within l D cI cZ cR _ p1 0 2) (va_cwS 3 hts gX8_voter_X8_within rfl rfl rfl hd_X8_within ⟨(Nat.le_of_ble_eq_true rfl), (Nat.le_of_ble_eq_true rfl)⟩) (po_pre hAM va_P.nil) rfl rfl hl.1 rfl (lv_room (Nat.le_of_ble_eq_true rfl)) dX8_voter_12 ⟨(Nat.le_of_ble_eq_true rfl), (Nat.le_of_ble_eq_true rfl)⟩) ?_
    refine w_if_eqb (tgt := 37) hx hb dX8_voter_15 (by decide) (fun c_15 => ?_) (fun c_15 => ?_)
    · have hE := itF hE c_15
      refine lv_bipush (v := (-2)) hx hb dX8_voter_37 (by decide +kernel) ?_
      subst hE
      exact wr_iret (fr) hx hb hr hlocks ⟨rfl, rfl⟩ hP hD hS dX8_voter_39
    · have hE := itT hE c_15
      refine lv_iload_n hx hb dX8_voter_18 rfl (lv_at hl 3 rfl) ?_
      refine lv_iconst (v := 0) hx hb dX8_voter_19 (by decide) ?_
      have j20 : W p l e (headSpec wsX8_voter rm_X8_voter).room s m ([.ref x, .int p0, .int p1, .int p2] : List Value).toArray below meth c s.heap [] 0 0 (MQ below (pq_X8_voter D cI cZ cR A x kk pr w wr wc ro wt need c0 c1 c2 hh pc0 pz0 pc1 pz1 dr sd ds fd tw sw wn fw fr nr ra rd cc ch cp Rv) ([.ref x, .int p0, .int p1, .int p2] : List Value).toArray s 0 0 A) (F0 m 31 ls [.int (x_X8_voter_lim p1), .int 0, .int p2]) → W p l e (headSpec wsX8_voter rm_X8_voter).room s m ([.ref x, .int p0, .int p1, .int p2] : List Value).toArray below meth c s.heap [] 0 0 (MQ below (pq_X8_voter D cI cZ cR A x kk pr w wr wc ro wt need c0 c1 c2 hh pc0 pz0 pc1 pz1 dr sd ds fd tw sw wn fw fr nr ra rd cc ch cp Rv) ([.ref x, .int p0, .int p1, .int p2] : List Value).toArray s 0 0 A) (F0 m 20 ls [.int 0, .int p2]) := by
        intro k20
        generalize hJ20 : (x_X8_voter_lim p1) = v20 at k20
        rw [x_X8_voter_lim] at hJ20
        refine lv_iload_n hx hb dX8_voter_20 rfl (lv_at hl 2 rfl) ?_
        refine lv_iconst (v := 2) hx hb dX8_voter_21 (by decide) ?_
        refine lv_icmp_ne (tgt := 29) hx hb dX8_voter_22 (by decide) (fun c_22 => ?_) (fun c_22 => ?_)
        · have hJ20 := itF hJ20 c_22
          refine lv_bipush (v := 120) hx hb dX8_voter_29 (by decide +kernel) ?_
          subst hJ20
          exact k20
        · have hJ20 := itT hJ20 c_22
          refine lv_iconst (v := 1) hx hb dX8_voter_25 (by decide) ?_
          refine lv_goto (tgt := 31) hx hb dX8_voter_26 (by decide) ?_
          subst hJ20
          exact k20
      refine j20 ?_
      refine ro_call (va_runS (As := [.int p2, .int 0, .int (x_X8_voter_lim p1)]) (rest := []) ⟨hx, hb, hml, hown, hts⟩ (c_X8_within l D cI cZ cR _ p2 0 (x_X8_voter_lim p1)) (va_cwS 3 hts gX8_voter_X8_within rfl rfl rfl hd_X8_within ⟨(Nat.le_of_ble_eq_true rfl), (Nat.le_of_ble_eq_true rfl)⟩) (po_pre hAM va_P.nil) rfl rfl hl.1 rfl (lv_room (Nat.le_of_ble_eq_true rfl)) dX8_voter_31 ⟨(Nat.le_of_ble_eq_true rfl), (Nat.le_of_ble_eq_true rfl)⟩) ?_
      refine w_if_neb (tgt := 40) hx hb dX8_voter_34 (by decide) (fun c_34 => ?_) (fun c_34 => ?_)
      · have hE := itT hE c_34
        refine lv_aload_n hx hb dX8_voter_40 rfl (lv_at hl 0 rfl) ?_
        refine va_get (D := D) (ci := 6) (v := .ref ro) (C := RX8) (T := TX8) (N := 4) hx hb hts in_X8_voter_X8 hown hK hP 0 rfl rfl 2 (by decide) (hts (.fieldLink RX8 26 "WallCount" "roll" "LWallCount$Roll;") (List.mem_of_getElem? (i := 1) rfl)) (fun _ h9 => h9) rfl dX8_voter_41 ?_
        refine lv_iload_n hx hb dX8_voter_44 rfl (lv_at hl 1 rfl) ?_
        refine lv_iload_n hx hb dX8_voter_45 rfl (lv_at hl 2 rfl) ?_
        refine lv_iload_n hx hb dX8_voter_46 rfl (lv_at hl 3 rfl) ?_
        refine wr_call (va_runV (As := [.int p0, .int p1, .int p2]) (rest := []) ⟨hx, hb, hml, hown, hts⟩ (c_X4_change l D cI cZ cR A _ x kk pr w wr wc ro wt need c0 c1 c2 hh pc0 pz0 pc1 pz1 dr sd ds fd tw sw wn fw fr nr ra rd cc ch cp p0 p1 p2) (cwV 3 hts gX8_voter_X4_change rfl rfl rfl ⟨rfl, hd_X4_change⟩ ⟨(Nat.le_of_ble_eq_true rfl), (Nat.le_of_ble_eq_true rfl)⟩) (wr_preV hAM hP hD (va_recv hK hP (ci := 2) (q0 := 8) rfl rfl)) rfl rfl hl.1 rfl (lv_room (Nat.le_of_ble_eq_true rfl)) dX8_voter_47 ⟨(Nat.le_of_ble_eq_true rfl), (Nat.le_of_ble_eq_true rfl)⟩) hS (fun v fr_47 H locs hw hP hD _ hS => ?_)
        try dsimp only at hw
        obtain ⟨rfl, ew0⟩ := hw
        rw [ew0] at hP hD
        refine W.eq (g2 := F0 m 50 ls [.int ((x_X4_change fr p0 p1 p2).1)]) rfl ?_
        refine W.cs (cells' := 0) (slots' := 0) rfl rfl ?_
        have hP : va_P D vwCl (cW cI cR x kk pr w wr wc ro wt need c0 c1 c2 hh pc0 pz0 pc1 pz1 dr sd ds fd tw sw wn fw ((x_X4_change fr p0 p1 p2).2) nr ra rd cc ch cp) H := hP
        have hD : va_D A (cW cI cR x kk pr w wr wc ro wt need c0 c1 c2 hh pc0 pz0 pc1 pz1 dr sd ds fd tw sw wn fw ((x_X4_change fr p0 p1 p2).2) nr ra rd cc ch cp) := hD
        subst hE
        exact wr_iret (((x_X4_change fr p0 p1 p2).2)) hx hb hr hlocks ⟨rfl, rfl⟩ hP hD hS dX8_voter_50
      · have hE := itF hE c_34
        refine lv_bipush (v := (-2)) hx hb dX8_voter_37 (by decide +kernel) ?_
        subst hE
        exact wr_iret (fr) hx hb hr hlocks ⟨rfl, rfl⟩ hP hD hS dX8_voter_39
  · have hE := itF hE c_4
    refine lv_iconst (v := (-1)) hx hb dX8_voter_7 (by decide) ?_
    subst hE
    exact wr_iret (fr) hx hb hr hlocks ⟨rfl, rfl⟩ hP hD hS dX8_voter_8

theorem hd_X8_say : yX8_say.cls ≠ "java/lang/invoke/MethodHandle" ∧ yX8_say.cls ≠ "java/lang/invoke/VarHandle" ∧ (parseMethodDescriptor yX8_say.desc).map (fun d => d.parameters.length) = some 1 := by decide +kernel
def x_X8_say (ds : Nat) (fd : Nat → Int32) (p0 : Int32) : Int32 × Nat × (Nat → Int32) := (if (x_X8_within p0 33 126) = true then (if ((x_X6_add ds fd p0).1) = true then ((x_X6_size (nI ((x_X6_add ds fd p0).2.1))), ((x_X6_add ds fd p0).2.1), ((x_X6_add ds fd p0).2.2)) else ((-4), ((x_X6_add ds fd p0).2.1), ((x_X6_add ds fd p0).2.2))) else ((-2), ds, fd))
def rm_X8_say : Room := { frames := 1, cells := 0, slots := 0, locals := 22 }
abbrev pq_X8_say (D : va_G) (cI cZ cR : ClassId) (A : Nat → Prop) (x kk pr w wr wc ro wt : Nat) (need : Int32) (c0 : Int32) (c1 : Int32) (c2 : Int32) (hh : Int32) (pc0 : Int32) (pz0 : Int32) (pc1 : Int32) (pz1 : Int32) (dr : Nat) (sd : Nat) (ds : Nat) (fd : Nat → Int32) (tw : Nat) (sw : Nat) (wn : Nat) (fw : Nat → Int32) (fr : Nat → Int32) (nr : Nat) (ra : Nat → Nat) (rd : Nat → R6) (cc : Nat) (ch : Int32) (cp : Nat → Int32) (Rv : Int32 × Nat × (Nat → Int32)) : Array Value → State → Outcome → State → Prop := wr_Q D (fun (v : Option Value) (u : Nat × (Nat → Int32)) => v = some (.int Rv.1) ∧ u.1 = Rv.2.1 ∧ u.2 = Rv.2.2) (fun u => cW cI cR x kk pr w wr wc ro wt need c0 c1 c2 hh pc0 pz0 pc1 pz1 dr sd u.1 u.2 tw sw wn fw fr nr ra rd cc ch cp) A
theorem in_X8_say_X4 : ∀ w ∈ wsX40, w ∈ wsX8_say := fun _ h => List.mem_cons_of_mem _ (List.mem_append_left _ (List.mem_append_right _ h))
theorem in_X8_say_X6 : ∀ w ∈ wsX60, w ∈ wsX8_say := fun _ h => List.mem_cons_of_mem _ (List.mem_append_right _ h)
theorem in_X8_say_X8 : ∀ w ∈ wsX80, w ∈ wsX8_say := fun _ h => List.mem_cons_of_mem _ (List.mem_append_left _ (List.mem_append_left _ (List.mem_append_right _ h)))
set_option maxHeartbeats 4000000 in
set_option maxRecDepth 100000 in
theorem c_X8_say (l : Launch) (D : va_G) (cI cZ cR : ClassId) (A : Nat → Prop) (H0 : Heap) (x kk pr w wr wc ro wt : Nat) (need : Int32) (c0 : Int32) (c1 : Int32) (c2 : Int32) (hh : Int32) (pc0 : Int32) (pz0 : Int32) (pc1 : Int32) (pz1 : Int32) (dr : Nat) (sd : Nat) (ds : Nat) (fd : Nat → Int32) (tw : Nat) (sw : Nat) (wn : Nat) (fw : Nat → Int32) (fr : Nat → Int32) (nr : Nat) (ra : Nat → Nat) (rd : Nat → R6) (cc : Nat) (ch : Int32) (cp : Nat → Int32) (p0 : Int32) : Met l yX8_say wsX8_say rm_X8_say (wr_P D cI cZ cR [.ref x, .int p0] (cW cI cR x kk pr w wr wc ro wt need c0 c1 c2 hh pc0 pz0 pc1 pz1 dr sd ds fd tw sw wn fw fr nr ra rd cc ch cp) A H0) (pq_X8_say D cI cZ cR A x kk pr w wr wc ro wt need c0 c1 c2 hh pc0 pz0 pc1 pz1 dr sd ds fd tw sw wn fw fr nr ra rd cc ch cp (x_X8_say ds fd p0)) 0 0 A := by
  refine Met.ofW (cc := cX8_say) (maxL := 2) (ret := (some .int)) (by decide +kernel) rfl ?_
  intro p e s m args below meth c s₁ B hml hv
  obtain ⟨rfl, rfl, hAM, hP, hD⟩ := hv
  have hx := B.exec
  have hb := B.bytes
  have hr := B.returns
  have hts := atoms_spec (ws := wsX8_say) B.pre
  have hown : s.vm.findClass RX8 = some m.cls := findClass_of_methodNamed B.named
  have hlocks := B.notSynchronized
  have hK := hAM.1
  have hS : va_S A s.heap s.heap [] := va_S.rf
  generalize hE : (x_X8_say ds fd p0) = Rv
  rw [x_X8_say] at hE
  have hl := lv_entry ([.ref x, .int p0]) (n := 2) (Nat.le_of_ble_eq_true rfl)
  rw [lg_entry_eq]
  generalize (lg_sl ([.ref x, .int p0]) ++ List.replicate (2 - (lg_sl ([.ref x, .int p0])).length) Slot.unset).toArray = ls at hl ⊢
  have hl : lv_has ls 2 [(0, .ref x), (1, .int p0)] := hl
  refine lv_iload_n hx hb dX8_say_0 rfl (lv_at hl 1 rfl) ?_
  refine lv_bipush (v := 33) hx hb dX8_say_1 (by decide +kernel) ?_
  refine lv_bipush (v := 126) hx hb dX8_say_3 (by decide +kernel) ?_
  refine ro_call (va_runS (As := [.int p0, .int 33, .int 126]) (rest := []) ⟨hx, hb, hml, hown, hts⟩ (c_X8_within l D cI cZ cR _ p0 33 126) (va_cwS 3 hts gX8_say_X8_within rfl rfl rfl hd_X8_within ⟨(Nat.le_of_ble_eq_true rfl), (Nat.le_of_ble_eq_true rfl)⟩) (po_pre hAM va_P.nil) rfl rfl hl.1 rfl (lv_room (Nat.le_of_ble_eq_true rfl)) dX8_say_5 ⟨(Nat.le_of_ble_eq_true rfl), (Nat.le_of_ble_eq_true rfl)⟩) ?_
  refine w_if_neb (tgt := 14) hx hb dX8_say_8 (by decide) (fun c_8 => ?_) (fun c_8 => ?_)
  · have hE := itT hE c_8
    refine lv_aload_n hx hb dX8_say_14 rfl (lv_at hl 0 rfl) ?_
    refine va_get (D := D) (ci := 6) (v := .ref ro) (C := RX8) (T := TX8) (N := 4) hx hb hts in_X8_say_X8 hown hK hP 0 rfl rfl 2 (by decide) (hts (.fieldLink RX8 26 "WallCount" "roll" "LWallCount$Roll;") (List.mem_of_getElem? (i := 1) rfl)) (fun _ h9 => h9) rfl dX8_say_15 ?_
    refine ro_call (va_runV (As := []) (rest := []) ⟨hx, hb, hml, hown, hts⟩ (c_X4_draft l D cI cZ cR _ ro wt tw dr fr) (cwV 0 hts gX8_say_X4_draft rfl rfl rfl ⟨rfl, hd_X4_draft⟩ ⟨(Nat.le_of_ble_eq_true rfl), (Nat.le_of_ble_eq_true rfl)⟩) (po_preV hAM (hP.sub [8, 9] rfl) (va_recv hK hP (ci := 2) (q0 := 8) rfl rfl)) rfl rfl hl.1 rfl (lv_room (Nat.le_of_ble_eq_true rfl)) dX8_say_18 ⟨(Nat.le_of_ble_eq_true rfl), (Nat.le_of_ble_eq_true rfl)⟩) ?_
    refine lv_iload_n hx hb dX8_say_21 rfl (lv_at hl 1 rfl) ?_
    refine wr_call (va_runV (As := [.int p0]) (rest := []) ⟨hx, hb, hml, hown, hts⟩ (c_X6_add l D cI cZ cR A _ x kk pr w wr wc ro wt need c0 c1 c2 hh pc0 pz0 pc1 pz1 dr sd ds fd tw sw wn fw fr nr ra rd cc ch cp p0) (cwV 1 hts gX8_say_X6_add rfl rfl rfl ⟨rfl, hd_X6_add⟩ ⟨(Nat.le_of_ble_eq_true rfl), (Nat.le_of_ble_eq_true rfl)⟩) (wr_preV hAM hP hD (va_recv hK hP (ci := 4) (q0 := 3) rfl rfl)) rfl rfl hl.1 rfl (lv_room (Nat.le_of_ble_eq_true rfl)) dX8_say_22 ⟨(Nat.le_of_ble_eq_true rfl), (Nat.le_of_ble_eq_true rfl)⟩) hS (fun v u H locs hw hP hD _ hS => ?_)
    obtain ⟨ds_22, fd_22⟩ := u
    try dsimp only at hw
    obtain ⟨rfl, ew0, ew1⟩ := hw
    rw [ew0, ew1] at hP hD
    refine W.eq (g2 := F0 m 25 ls [.int (bI ((x_X6_add ds fd p0).1))]) rfl ?_
    refine W.cs (cells' := 0) (slots' := 0) rfl rfl ?_
    have hP : va_P D vwCl (cW cI cR x kk pr w wr wc ro wt need c0 c1 c2 hh pc0 pz0 pc1 pz1 dr sd ((x_X6_add ds fd p0).2.1) ((x_X6_add ds fd p0).2.2) tw sw wn fw fr nr ra rd cc ch cp) H := hP
    have hD : va_D A (cW cI cR x kk pr w wr wc ro wt need c0 c1 c2 hh pc0 pz0 pc1 pz1 dr sd ((x_X6_add ds fd p0).2.1) ((x_X6_add ds fd p0).2.2) tw sw wn fw fr nr ra rd cc ch cp) := hD
    refine w_if_eqb (tgt := 41) hx hb dX8_say_25 (by decide) (fun c_25 => ?_) (fun c_25 => ?_)
    · have hE := itF hE c_25
      refine lv_bipush (v := (-4)) hx hb dX8_say_41 (by decide +kernel) ?_
      subst hE
      exact wr_iret (((x_X6_add ds fd p0).2.1), ((x_X6_add ds fd p0).2.2)) hx hb hr hlocks ⟨rfl, rfl, rfl⟩ hP hD hS dX8_say_43
    · have hE := itT hE c_25
      refine lv_aload_n hx hb dX8_say_28 rfl (lv_at hl 0 rfl) ?_
      refine va_get (D := D) (ci := 6) (v := .ref ro) (C := RX8) (T := TX8) (N := 4) hx hb hts in_X8_say_X8 hown hK hP 0 rfl rfl 2 (by decide) (hts (.fieldLink RX8 26 "WallCount" "roll" "LWallCount$Roll;") (List.mem_of_getElem? (i := 1) rfl)) (fun _ h9 => h9) rfl dX8_say_29 ?_
      refine ro_call (va_runV (As := []) (rest := []) ⟨hx, hb, hml, hown, hts⟩ (c_X4_draft l D cI cZ cR _ ro wt tw dr fr) (cwV 0 hts gX8_say_X4_draft rfl rfl rfl ⟨rfl, hd_X4_draft⟩ ⟨(Nat.le_of_ble_eq_true rfl), (Nat.le_of_ble_eq_true rfl)⟩) (po_preV hAM (hP.sub [8, 9] rfl) (va_recv hK hP (ci := 2) (q0 := 8) rfl rfl)) rfl rfl hl.1 rfl (lv_room (Nat.le_of_ble_eq_true rfl)) dX8_say_32 ⟨(Nat.le_of_ble_eq_true rfl), (Nat.le_of_ble_eq_true rfl)⟩) ?_
      refine ro_call (va_runV (As := []) (rest := []) ⟨hx, hb, hml, hown, hts⟩ (c_X6_size l D cI cZ cR _ dr sd (nI ((x_X6_add ds fd p0).2.1)) ((x_X6_add ds fd p0).2.2)) (cwV 0 hts gX8_say_X6_size rfl rfl rfl ⟨rfl, hd_X6_size⟩ ⟨(Nat.le_of_ble_eq_true rfl), (Nat.le_of_ble_eq_true rfl)⟩) (po_preV hAM (hP.sub [3, 4] rfl) (va_recv hK hP (ci := 4) (q0 := 3) rfl rfl)) rfl rfl hl.1 rfl (lv_room (Nat.le_of_ble_eq_true rfl)) dX8_say_35 ⟨(Nat.le_of_ble_eq_true rfl), (Nat.le_of_ble_eq_true rfl)⟩) ?_
      refine lv_goto (tgt := 43) hx hb dX8_say_38 (by decide) ?_
      subst hE
      exact wr_iret (((x_X6_add ds fd p0).2.1), ((x_X6_add ds fd p0).2.2)) hx hb hr hlocks ⟨rfl, rfl, rfl⟩ hP hD hS dX8_say_43
  · have hE := itF hE c_8
    refine lv_bipush (v := (-2)) hx hb dX8_say_11 (by decide +kernel) ?_
    subst hE
    exact wr_iret (ds, fd) hx hb hr hlocks ⟨rfl, rfl, rfl⟩ hP hD hS dX8_say_13

theorem hd_X8_wipe : yX8_wipe.cls ≠ "java/lang/invoke/MethodHandle" ∧ yX8_wipe.cls ≠ "java/lang/invoke/VarHandle" ∧ (parseMethodDescriptor yX8_wipe.desc).map (fun d => d.parameters.length) = some 0 := by decide +kernel
def x_X8_wipe (ds : Nat) : Int32 × Nat := ((x_X6_size (nI ds)), (x_X6_clear))
def rm_X8_wipe : Room := { frames := 1, cells := 0, slots := 0, locals := 20 }
abbrev pq_X8_wipe (D : va_G) (cI cZ cR : ClassId) (A : Nat → Prop) (x kk pr w wr wc ro wt : Nat) (need : Int32) (c0 : Int32) (c1 : Int32) (c2 : Int32) (hh : Int32) (pc0 : Int32) (pz0 : Int32) (pc1 : Int32) (pz1 : Int32) (dr : Nat) (sd : Nat) (ds : Nat) (fd : Nat → Int32) (tw : Nat) (sw : Nat) (wn : Nat) (fw : Nat → Int32) (fr : Nat → Int32) (nr : Nat) (ra : Nat → Nat) (rd : Nat → R6) (cc : Nat) (ch : Int32) (cp : Nat → Int32) (Rv : Int32 × Nat) : Array Value → State → Outcome → State → Prop := wr_Q D (fun (v : Option Value) (u : Nat) => v = some (.int Rv.1) ∧ u = Rv.2) (fun u => cW cI cR x kk pr w wr wc ro wt need c0 c1 c2 hh pc0 pz0 pc1 pz1 dr sd u fd tw sw wn fw fr nr ra rd cc ch cp) A
theorem in_X8_wipe_X4 : ∀ w ∈ wsX40, w ∈ wsX8_wipe := fun _ h => List.mem_cons_of_mem _ (List.mem_append_left _ (List.mem_append_right _ h))
theorem in_X8_wipe_X6 : ∀ w ∈ wsX60, w ∈ wsX8_wipe := fun _ h => List.mem_cons_of_mem _ (List.mem_append_right _ h)
theorem in_X8_wipe_X8 : ∀ w ∈ wsX80, w ∈ wsX8_wipe := fun _ h => List.mem_cons_of_mem _ (List.mem_append_left _ (List.mem_append_left _ (List.mem_append_right _ h)))
set_option maxHeartbeats 4000000 in
set_option maxRecDepth 100000 in
theorem c_X8_wipe (l : Launch) (D : va_G) (cI cZ cR : ClassId) (A : Nat → Prop) (H0 : Heap) (x kk pr w wr wc ro wt : Nat) (need : Int32) (c0 : Int32) (c1 : Int32) (c2 : Int32) (hh : Int32) (pc0 : Int32) (pz0 : Int32) (pc1 : Int32) (pz1 : Int32) (dr : Nat) (sd : Nat) (ds : Nat) (fd : Nat → Int32) (tw : Nat) (sw : Nat) (wn : Nat) (fw : Nat → Int32) (fr : Nat → Int32) (nr : Nat) (ra : Nat → Nat) (rd : Nat → R6) (cc : Nat) (ch : Int32) (cp : Nat → Int32) : Met l yX8_wipe wsX8_wipe rm_X8_wipe (wr_P D cI cZ cR [.ref x] (cW cI cR x kk pr w wr wc ro wt need c0 c1 c2 hh pc0 pz0 pc1 pz1 dr sd ds fd tw sw wn fw fr nr ra rd cc ch cp) A H0) (pq_X8_wipe D cI cZ cR A x kk pr w wr wc ro wt need c0 c1 c2 hh pc0 pz0 pc1 pz1 dr sd ds fd tw sw wn fw fr nr ra rd cc ch cp (x_X8_wipe ds)) 0 0 A := by
  refine Met.ofW (cc := cX8_wipe) (maxL := 2) (ret := (some .int)) (by decide +kernel) rfl ?_
  intro p e s m args below meth c s₁ B hml hv
  obtain ⟨rfl, rfl, hAM, hP, hD⟩ := hv
  have hx := B.exec
  have hb := B.bytes
  have hr := B.returns
  have hts := atoms_spec (ws := wsX8_wipe) B.pre
  have hown : s.vm.findClass RX8 = some m.cls := findClass_of_methodNamed B.named
  have hlocks := B.notSynchronized
  have hK := hAM.1
  have hS : va_S A s.heap s.heap [] := va_S.rf
  generalize hE : (x_X8_wipe ds) = Rv
  rw [x_X8_wipe] at hE
  have hl := lv_entry ([.ref x]) (n := 2) (Nat.le_of_ble_eq_true rfl)
  rw [lg_entry_eq]
  generalize (lg_sl ([.ref x]) ++ List.replicate (2 - (lg_sl ([.ref x])).length) Slot.unset).toArray = ls at hl ⊢
  have hl : lv_has ls 2 [(0, .ref x)] := hl
  refine lv_aload_n hx hb dX8_wipe_0 rfl (lv_at hl 0 rfl) ?_
  refine va_get (D := D) (ci := 6) (v := .ref ro) (C := RX8) (T := TX8) (N := 4) hx hb hts in_X8_wipe_X8 hown hK hP 0 rfl rfl 2 (by decide) (hts (.fieldLink RX8 26 "WallCount" "roll" "LWallCount$Roll;") (List.mem_of_getElem? (i := 1) rfl)) (fun _ h9 => h9) rfl dX8_wipe_1 ?_
  refine ro_call (va_runV (As := []) (rest := []) ⟨hx, hb, hml, hown, hts⟩ (c_X4_draft l D cI cZ cR _ ro wt tw dr fr) (cwV 0 hts gX8_wipe_X4_draft rfl rfl rfl ⟨rfl, hd_X4_draft⟩ ⟨(Nat.le_of_ble_eq_true rfl), (Nat.le_of_ble_eq_true rfl)⟩) (po_preV hAM (hP.sub [8, 9] rfl) (va_recv hK hP (ci := 2) (q0 := 8) rfl rfl)) rfl rfl hl.1 rfl (lv_room (Nat.le_of_ble_eq_true rfl)) dX8_wipe_4 ⟨(Nat.le_of_ble_eq_true rfl), (Nat.le_of_ble_eq_true rfl)⟩) ?_
  refine ro_call (va_runV (As := []) (rest := []) ⟨hx, hb, hml, hown, hts⟩ (c_X6_size l D cI cZ cR _ dr sd (nI ds) fd) (cwV 0 hts gX8_wipe_X6_size rfl rfl rfl ⟨rfl, hd_X6_size⟩ ⟨(Nat.le_of_ble_eq_true rfl), (Nat.le_of_ble_eq_true rfl)⟩) (po_preV hAM (hP.sub [3, 4] rfl) (va_recv hK hP (ci := 4) (q0 := 3) rfl rfl)) rfl rfl hl.1 rfl (lv_room (Nat.le_of_ble_eq_true rfl)) dX8_wipe_7 ⟨(Nat.le_of_ble_eq_true rfl), (Nat.le_of_ble_eq_true rfl)⟩) ?_
  refine lv_istore_n (lv' := [(1, .int (x_X6_size (nI ds))), (0, .ref x)]) hx hb dX8_wipe_10 rfl hl (by decide) rfl (fun ls hl => ?_)
  refine lv_aload_n hx hb dX8_wipe_11 rfl (lv_at hl 1 rfl) ?_
  refine va_get (D := D) (ci := 6) (v := .ref ro) (C := RX8) (T := TX8) (N := 4) hx hb hts in_X8_wipe_X8 hown hK hP 0 rfl rfl 2 (by decide) (hts (.fieldLink RX8 26 "WallCount" "roll" "LWallCount$Roll;") (List.mem_of_getElem? (i := 1) rfl)) (fun _ h9 => h9) rfl dX8_wipe_12 ?_
  refine ro_call (va_runV (As := []) (rest := []) ⟨hx, hb, hml, hown, hts⟩ (c_X4_draft l D cI cZ cR _ ro wt tw dr fr) (cwV 0 hts gX8_wipe_X4_draft rfl rfl rfl ⟨rfl, hd_X4_draft⟩ ⟨(Nat.le_of_ble_eq_true rfl), (Nat.le_of_ble_eq_true rfl)⟩) (po_preV hAM (hP.sub [8, 9] rfl) (va_recv hK hP (ci := 2) (q0 := 8) rfl rfl)) rfl rfl hl.1 rfl (lv_room (Nat.le_of_ble_eq_true rfl)) dX8_wipe_15 ⟨(Nat.le_of_ble_eq_true rfl), (Nat.le_of_ble_eq_true rfl)⟩) ?_
  refine wr_call (va_runV (As := []) (rest := []) ⟨hx, hb, hml, hown, hts⟩ (c_X6_clear l D cI cZ cR A _ x kk pr w wr wc ro wt need c0 c1 c2 hh pc0 pz0 pc1 pz1 dr sd ds fd tw sw wn fw fr nr ra rd cc ch cp) (cwV 0 hts gX8_wipe_X6_clear rfl rfl rfl ⟨rfl, hd_X6_clear⟩ ⟨(Nat.le_of_ble_eq_true rfl), (Nat.le_of_ble_eq_true rfl)⟩) (wr_preV hAM hP hD (va_recv hK hP (ci := 4) (q0 := 3) rfl rfl)) rfl rfl hl.1 rfl (lv_room (Nat.le_of_ble_eq_true rfl)) dX8_wipe_18 ⟨(Nat.le_of_ble_eq_true rfl), (Nat.le_of_ble_eq_true rfl)⟩) hS (fun v ds_18 H locs hw hP hD _ hS => ?_)
  try dsimp only at hw
  obtain ⟨rfl, ew0⟩ := hw
  rw [ew0] at hP hD
  refine W.eq (g2 := F0 m 21 ls []) rfl ?_
  refine W.cs (cells' := 0) (slots' := 0) rfl rfl ?_
  have hP : va_P D vwCl (cW cI cR x kk pr w wr wc ro wt need c0 c1 c2 hh pc0 pz0 pc1 pz1 dr sd (x_X6_clear) fd tw sw wn fw fr nr ra rd cc ch cp) H := hP
  have hD : va_D A (cW cI cR x kk pr w wr wc ro wt need c0 c1 c2 hh pc0 pz0 pc1 pz1 dr sd (x_X6_clear) fd tw sw wn fw fr nr ra rd cc ch cp) := hD
  refine lv_iload_n hx hb dX8_wipe_21 rfl (lv_at hl 0 rfl) ?_
  subst hE
  exact wr_iret ((x_X6_clear)) hx hb hr hlocks ⟨rfl, rfl⟩ hP hD hS dX8_wipe_22

theorem hd_X8_rule : yX8_rule.cls ≠ "java/lang/invoke/MethodHandle" ∧ yX8_rule.cls ≠ "java/lang/invoke/VarHandle" ∧ (parseMethodDescriptor yX8_rule.desc).map (fun d => d.parameters.length) = some 0 := by decide +kernel
def x_X8_rule (dr : Nat) (sd : Nat) (ds : Nat) (fd : Nat → Int32) (tw : Nat) (sw : Nat) (wn : Nat) (fw : Nat → Int32) : Int32 × Nat × Nat × Nat × (Nat → Int32) × Nat × Nat × Nat × (Nat → Int32) := (if (x_X6_faultPlace (nI ds) fd) = (-6) then (1, ((x_X4_adoptDraft dr sd ds fd tw sw wn fw).1), ((x_X4_adoptDraft dr sd ds fd tw sw wn fw).2.1), ((x_X4_adoptDraft dr sd ds fd tw sw wn fw).2.2.1), ((x_X4_adoptDraft dr sd ds fd tw sw wn fw).2.2.2.1), ((x_X4_adoptDraft dr sd ds fd tw sw wn fw).2.2.2.2.1), ((x_X4_adoptDraft dr sd ds fd tw sw wn fw).2.2.2.2.2.1), ((x_X4_adoptDraft dr sd ds fd tw sw wn fw).2.2.2.2.2.2.1), ((x_X4_adoptDraft dr sd ds fd tw sw wn fw).2.2.2.2.2.2.2)) else ((-5), dr, sd, ds, fd, tw, sw, wn, fw))
def rm_X8_rule : Room := { frames := 3, cells := 0, slots := 0, locals := 63 }
abbrev pq_X8_rule (D : va_G) (cI cZ cR : ClassId) (A : Nat → Prop) (x kk pr w wr wc ro wt : Nat) (need : Int32) (c0 : Int32) (c1 : Int32) (c2 : Int32) (hh : Int32) (pc0 : Int32) (pz0 : Int32) (pc1 : Int32) (pz1 : Int32) (dr : Nat) (sd : Nat) (ds : Nat) (fd : Nat → Int32) (tw : Nat) (sw : Nat) (wn : Nat) (fw : Nat → Int32) (fr : Nat → Int32) (nr : Nat) (ra : Nat → Nat) (rd : Nat → R6) (cc : Nat) (ch : Int32) (cp : Nat → Int32) (Rv : Int32 × Nat × Nat × Nat × (Nat → Int32) × Nat × Nat × Nat × (Nat → Int32)) : Array Value → State → Outcome → State → Prop := wr_Q D (fun (v : Option Value) (u : Nat × Nat × Nat × (Nat → Int32) × Nat × Nat × Nat × (Nat → Int32)) => v = some (.int Rv.1) ∧ u.1 = Rv.2.1 ∧ u.2.1 = Rv.2.2.1 ∧ u.2.2.1 = Rv.2.2.2.1 ∧ u.2.2.2.1 = Rv.2.2.2.2.1 ∧ u.2.2.2.2.1 = Rv.2.2.2.2.2.1 ∧ u.2.2.2.2.2.1 = Rv.2.2.2.2.2.2.1 ∧ u.2.2.2.2.2.2.1 = Rv.2.2.2.2.2.2.2.1 ∧ u.2.2.2.2.2.2.2 = Rv.2.2.2.2.2.2.2.2) (fun u => cW cI cR x kk pr w wr wc ro wt need c0 c1 c2 hh pc0 pz0 pc1 pz1 u.1 u.2.1 u.2.2.1 u.2.2.2.1 u.2.2.2.2.1 u.2.2.2.2.2.1 u.2.2.2.2.2.2.1 u.2.2.2.2.2.2.2 fr nr ra rd cc ch cp) A
theorem in_X8_rule_X4 : ∀ w ∈ wsX40, w ∈ wsX8_rule := fun _ h => List.mem_cons_of_mem _ (List.mem_append_left _ (List.mem_append_right _ h))
theorem in_X8_rule_X6 : ∀ w ∈ wsX60, w ∈ wsX8_rule := fun _ h => List.mem_cons_of_mem _ (List.mem_append_right _ h)
theorem in_X8_rule_X8 : ∀ w ∈ wsX80, w ∈ wsX8_rule := fun _ h => List.mem_cons_of_mem _ (List.mem_append_left _ (List.mem_append_left _ (List.mem_append_right _ h)))
set_option maxHeartbeats 4000000 in
set_option maxRecDepth 100000 in
theorem c_X8_rule (l : Launch) (D : va_G) (cI cZ cR : ClassId) (A : Nat → Prop) (H0 : Heap) (x kk pr w wr wc ro wt : Nat) (need : Int32) (c0 : Int32) (c1 : Int32) (c2 : Int32) (hh : Int32) (pc0 : Int32) (pz0 : Int32) (pc1 : Int32) (pz1 : Int32) (dr : Nat) (sd : Nat) (ds : Nat) (fd : Nat → Int32) (tw : Nat) (sw : Nat) (wn : Nat) (fw : Nat → Int32) (fr : Nat → Int32) (nr : Nat) (ra : Nat → Nat) (rd : Nat → R6) (cc : Nat) (ch : Int32) (cp : Nat → Int32) : Met l yX8_rule wsX8_rule rm_X8_rule (wr_P D cI cZ cR [.ref x] (cW cI cR x kk pr w wr wc ro wt need c0 c1 c2 hh pc0 pz0 pc1 pz1 dr sd ds fd tw sw wn fw fr nr ra rd cc ch cp) A H0) (pq_X8_rule D cI cZ cR A x kk pr w wr wc ro wt need c0 c1 c2 hh pc0 pz0 pc1 pz1 dr sd ds fd tw sw wn fw fr nr ra rd cc ch cp (x_X8_rule dr sd ds fd tw sw wn fw)) 0 0 A := by
  refine Met.ofW (cc := cX8_rule) (maxL := 1) (ret := (some .int)) (by decide +kernel) rfl ?_
  intro p e s m args below meth c s₁ B hml hv
  obtain ⟨rfl, rfl, hAM, hP, hD⟩ := hv
  have hx := B.exec
  have hb := B.bytes
  have hr := B.returns
  have hts := atoms_spec (ws := wsX8_rule) B.pre
  have hown : s.vm.findClass RX8 = some m.cls := findClass_of_methodNamed B.named
  have hlocks := B.notSynchronized
  have hK := hAM.1
  have hS : va_S A s.heap s.heap [] := va_S.rf
  generalize hE : (x_X8_rule dr sd ds fd tw sw wn fw) = Rv
  rw [x_X8_rule] at hE
  have hl := lv_entry ([.ref x]) (n := 1) (Nat.le_of_ble_eq_true rfl)
  rw [lg_entry_eq]
  generalize (lg_sl ([.ref x]) ++ List.replicate (1 - (lg_sl ([.ref x])).length) Slot.unset).toArray = ls at hl ⊢
  have hl : lv_has ls 1 [(0, .ref x)] := hl
  refine lv_aload_n hx hb dX8_rule_0 rfl (lv_at hl 0 rfl) ?_
  refine va_get (D := D) (ci := 6) (v := .ref ro) (C := RX8) (T := TX8) (N := 4) hx hb hts in_X8_rule_X8 hown hK hP 0 rfl rfl 2 (by decide) (hts (.fieldLink RX8 26 "WallCount" "roll" "LWallCount$Roll;") (List.mem_of_getElem? (i := 1) rfl)) (fun _ h9 => h9) rfl dX8_rule_1 ?_
  refine ro_call (va_runV (As := []) (rest := []) ⟨hx, hb, hml, hown, hts⟩ (c_X4_draft l D cI cZ cR _ ro wt tw dr fr) (cwV 0 hts gX8_rule_X4_draft rfl rfl rfl ⟨rfl, hd_X4_draft⟩ ⟨(Nat.le_of_ble_eq_true rfl), (Nat.le_of_ble_eq_true rfl)⟩) (po_preV hAM (hP.sub [8, 9] rfl) (va_recv hK hP (ci := 2) (q0 := 8) rfl rfl)) rfl rfl hl.1 rfl (lv_room (Nat.le_of_ble_eq_true rfl)) dX8_rule_4 ⟨(Nat.le_of_ble_eq_true rfl), (Nat.le_of_ble_eq_true rfl)⟩) ?_
  refine ro_call (va_runV (As := []) (rest := []) ⟨hx, hb, hml, hown, hts⟩ (c_X6_faultPlace l D cI cZ cR _ dr sd (nI ds) fd) (cwV 0 hts gX8_rule_X6_faultPlace rfl rfl rfl ⟨rfl, hd_X6_faultPlace⟩ ⟨(Nat.le_of_ble_eq_true rfl), (Nat.le_of_ble_eq_true rfl)⟩) (po_preV hAM (hP.sub [3, 4] rfl) (va_recv hK hP (ci := 4) (q0 := 3) rfl rfl)) rfl rfl hl.1 rfl (lv_room (Nat.le_of_ble_eq_true rfl)) dX8_rule_7 ⟨(Nat.le_of_ble_eq_true rfl), (Nat.le_of_ble_eq_true rfl)⟩) ?_
  refine lv_bipush (v := (-6)) hx hb dX8_rule_10 (by decide +kernel) ?_
  refine lv_icmp_eq (tgt := 18) hx hb dX8_rule_12 (by decide) (fun c_12 => ?_) (fun c_12 => ?_)
  · have hE := itT hE c_12
    refine lv_aload_n hx hb dX8_rule_18 rfl (lv_at hl 0 rfl) ?_
    refine va_get (D := D) (ci := 6) (v := .ref ro) (C := RX8) (T := TX8) (N := 4) hx hb hts in_X8_rule_X8 hown hK hP 0 rfl rfl 2 (by decide) (hts (.fieldLink RX8 26 "WallCount" "roll" "LWallCount$Roll;") (List.mem_of_getElem? (i := 1) rfl)) (fun _ h9 => h9) rfl dX8_rule_19 ?_
    refine wr_call (va_runV (As := []) (rest := []) ⟨hx, hb, hml, hown, hts⟩ (c_X4_adoptDraft l D cI cZ cR A _ x kk pr w wr wc ro wt need c0 c1 c2 hh pc0 pz0 pc1 pz1 dr sd ds fd tw sw wn fw fr nr ra rd cc ch cp) (cwV 0 hts gX8_rule_X4_adoptDraft rfl rfl rfl ⟨rfl, hd_X4_adoptDraft⟩ ⟨(Nat.le_of_ble_eq_true rfl), (Nat.le_of_ble_eq_true rfl)⟩) (wr_preV hAM hP hD (va_recv hK hP (ci := 2) (q0 := 8) rfl rfl)) rfl rfl hl.1 rfl (lv_room (Nat.le_of_ble_eq_true rfl)) dX8_rule_22 ⟨(Nat.le_of_ble_eq_true rfl), (Nat.le_of_ble_eq_true rfl)⟩) hS (fun v u H locs hw hP hD _ hS => ?_)
    obtain ⟨dr_22, sd_22, ds_22, fd_22, tw_22, sw_22, wn_22, fw_22⟩ := u
    try dsimp only at hw
    obtain ⟨rfl, ew0, ew1, ew2, ew3, ew4, ew5, ew6, ew7⟩ := hw
    rw [ew0, ew1, ew2, ew3, ew4, ew5, ew6, ew7] at hP hD
    refine W.eq (g2 := F0 m 25 ls []) rfl ?_
    refine W.cs (cells' := 0) (slots' := 0) rfl rfl ?_
    have hP : va_P D vwCl (cW cI cR x kk pr w wr wc ro wt need c0 c1 c2 hh pc0 pz0 pc1 pz1 ((x_X4_adoptDraft dr sd ds fd tw sw wn fw).1) ((x_X4_adoptDraft dr sd ds fd tw sw wn fw).2.1) ((x_X4_adoptDraft dr sd ds fd tw sw wn fw).2.2.1) ((x_X4_adoptDraft dr sd ds fd tw sw wn fw).2.2.2.1) ((x_X4_adoptDraft dr sd ds fd tw sw wn fw).2.2.2.2.1) ((x_X4_adoptDraft dr sd ds fd tw sw wn fw).2.2.2.2.2.1) ((x_X4_adoptDraft dr sd ds fd tw sw wn fw).2.2.2.2.2.2.1) ((x_X4_adoptDraft dr sd ds fd tw sw wn fw).2.2.2.2.2.2.2) fr nr ra rd cc ch cp) H := hP
    have hD : va_D A (cW cI cR x kk pr w wr wc ro wt need c0 c1 c2 hh pc0 pz0 pc1 pz1 ((x_X4_adoptDraft dr sd ds fd tw sw wn fw).1) ((x_X4_adoptDraft dr sd ds fd tw sw wn fw).2.1) ((x_X4_adoptDraft dr sd ds fd tw sw wn fw).2.2.1) ((x_X4_adoptDraft dr sd ds fd tw sw wn fw).2.2.2.1) ((x_X4_adoptDraft dr sd ds fd tw sw wn fw).2.2.2.2.1) ((x_X4_adoptDraft dr sd ds fd tw sw wn fw).2.2.2.2.2.1) ((x_X4_adoptDraft dr sd ds fd tw sw wn fw).2.2.2.2.2.2.1) ((x_X4_adoptDraft dr sd ds fd tw sw wn fw).2.2.2.2.2.2.2) fr nr ra rd cc ch cp) := hD
    refine lv_iconst (v := 1) hx hb dX8_rule_25 (by decide) ?_
    subst hE
    exact wr_iret (((x_X4_adoptDraft dr sd ds fd tw sw wn fw).1), ((x_X4_adoptDraft dr sd ds fd tw sw wn fw).2.1), ((x_X4_adoptDraft dr sd ds fd tw sw wn fw).2.2.1), ((x_X4_adoptDraft dr sd ds fd tw sw wn fw).2.2.2.1), ((x_X4_adoptDraft dr sd ds fd tw sw wn fw).2.2.2.2.1), ((x_X4_adoptDraft dr sd ds fd tw sw wn fw).2.2.2.2.2.1), ((x_X4_adoptDraft dr sd ds fd tw sw wn fw).2.2.2.2.2.2.1), ((x_X4_adoptDraft dr sd ds fd tw sw wn fw).2.2.2.2.2.2.2)) hx hb hr hlocks ⟨rfl, rfl, rfl, rfl, rfl, rfl, rfl, rfl, rfl⟩ hP hD hS dX8_rule_26
  · have hE := itF hE c_12
    refine lv_bipush (v := (-5)) hx hb dX8_rule_15 (by decide +kernel) ?_
    subst hE
    exact wr_iret (dr, sd, ds, fd, tw, sw, wn, fw) hx hb hr hlocks ⟨rfl, rfl, rfl, rfl, rfl, rfl, rfl, rfl, rfl⟩ hP hD hS dX8_rule_17

theorem hd_X8_close : yX8_close.cls ≠ "java/lang/invoke/MethodHandle" ∧ yX8_close.cls ≠ "java/lang/invoke/VarHandle" ∧ (parseMethodDescriptor yX8_close.desc).map (fun d => d.parameters.length) = some 1 := by decide +kernel
def x_X8_close (ch : Int32) (p0 : Int32) : Int32 × Int32 := (if (x_X8_within p0 0 999) = true then (((x_X7_changeClose ch p0).1), ((x_X7_changeClose ch p0).2)) else ((-2), ch))
def rm_X8_close : Room := { frames := 1, cells := 0, slots := 0, locals := 22 }
abbrev pq_X8_close (D : va_G) (cI cZ cR : ClassId) (A : Nat → Prop) (x kk pr w wr wc ro wt : Nat) (need : Int32) (c0 : Int32) (c1 : Int32) (c2 : Int32) (hh : Int32) (pc0 : Int32) (pz0 : Int32) (pc1 : Int32) (pz1 : Int32) (dr : Nat) (sd : Nat) (ds : Nat) (fd : Nat → Int32) (tw : Nat) (sw : Nat) (wn : Nat) (fw : Nat → Int32) (fr : Nat → Int32) (nr : Nat) (ra : Nat → Nat) (rd : Nat → R6) (cc : Nat) (ch : Int32) (cp : Nat → Int32) (Rv : Int32 × Int32) : Array Value → State → Outcome → State → Prop := wr_Q D (fun (v : Option Value) (u : Int32) => v = some (.int Rv.1) ∧ u = Rv.2) (fun u => cW cI cR x kk pr w wr wc ro wt need c0 c1 c2 hh pc0 pz0 pc1 pz1 dr sd ds fd tw sw wn fw fr nr ra rd cc u cp) A
theorem in_X8_close_X7 : ∀ w ∈ wsX70, w ∈ wsX8_close := fun _ h => List.mem_cons_of_mem _ (List.mem_append_right _ h)
theorem in_X8_close_X8 : ∀ w ∈ wsX80, w ∈ wsX8_close := fun _ h => List.mem_cons_of_mem _ (List.mem_append_left _ (List.mem_append_right _ h))
set_option maxHeartbeats 4000000 in
set_option maxRecDepth 100000 in
theorem c_X8_close (l : Launch) (D : va_G) (cI cZ cR : ClassId) (A : Nat → Prop) (H0 : Heap) (x kk pr w wr wc ro wt : Nat) (need : Int32) (c0 : Int32) (c1 : Int32) (c2 : Int32) (hh : Int32) (pc0 : Int32) (pz0 : Int32) (pc1 : Int32) (pz1 : Int32) (dr : Nat) (sd : Nat) (ds : Nat) (fd : Nat → Int32) (tw : Nat) (sw : Nat) (wn : Nat) (fw : Nat → Int32) (fr : Nat → Int32) (nr : Nat) (ra : Nat → Nat) (rd : Nat → R6) (cc : Nat) (ch : Int32) (cp : Nat → Int32) (p0 : Int32) : Met l yX8_close wsX8_close rm_X8_close (wr_P D cI cZ cR [.ref x, .int p0] (cW cI cR x kk pr w wr wc ro wt need c0 c1 c2 hh pc0 pz0 pc1 pz1 dr sd ds fd tw sw wn fw fr nr ra rd cc ch cp) A H0) (pq_X8_close D cI cZ cR A x kk pr w wr wc ro wt need c0 c1 c2 hh pc0 pz0 pc1 pz1 dr sd ds fd tw sw wn fw fr nr ra rd cc ch cp (x_X8_close ch p0)) 0 0 A := by
  refine Met.ofW (cc := cX8_close) (maxL := 2) (ret := (some .int)) (by decide +kernel) rfl ?_
  intro p e s m args below meth c s₁ B hml hv
  obtain ⟨rfl, rfl, hAM, hP, hD⟩ := hv
  have hx := B.exec
  have hb := B.bytes
  have hr := B.returns
  have hts := atoms_spec (ws := wsX8_close) B.pre
  have hown : s.vm.findClass RX8 = some m.cls := findClass_of_methodNamed B.named
  have hlocks := B.notSynchronized
  have hK := hAM.1
  have hS : va_S A s.heap s.heap [] := va_S.rf
  generalize hE : (x_X8_close ch p0) = Rv
  rw [x_X8_close] at hE
  have hl := lv_entry ([.ref x, .int p0]) (n := 2) (Nat.le_of_ble_eq_true rfl)
  rw [lg_entry_eq]
  generalize (lg_sl ([.ref x, .int p0]) ++ List.replicate (2 - (lg_sl ([.ref x, .int p0])).length) Slot.unset).toArray = ls at hl ⊢
  have hl : lv_has ls 2 [(0, .ref x), (1, .int p0)] := hl
  refine lv_iload_n hx hb dX8_close_0 rfl (lv_at hl 1 rfl) ?_
  refine lv_iconst (v := 0) hx hb dX8_close_1 (by decide) ?_
  refine lv_sipush (v := 999) hx hb dX8_close_2 (by decide +kernel) ?_
  refine ro_call (va_runS (As := [.int p0, .int 0, .int 999]) (rest := []) ⟨hx, hb, hml, hown, hts⟩ (c_X8_within l D cI cZ cR _ p0 0 999) (va_cwS 3 hts gX8_close_X8_within rfl rfl rfl hd_X8_within ⟨(Nat.le_of_ble_eq_true rfl), (Nat.le_of_ble_eq_true rfl)⟩) (po_pre hAM va_P.nil) rfl rfl hl.1 rfl (lv_room (Nat.le_of_ble_eq_true rfl)) dX8_close_5 ⟨(Nat.le_of_ble_eq_true rfl), (Nat.le_of_ble_eq_true rfl)⟩) ?_
  refine w_if_neb (tgt := 14) hx hb dX8_close_8 (by decide) (fun c_8 => ?_) (fun c_8 => ?_)
  · have hE := itT hE c_8
    refine lv_aload_n hx hb dX8_close_14 rfl (lv_at hl 0 rfl) ?_
    refine va_get (D := D) (ci := 6) (v := .ref w) (C := RX8) (T := TX8) (N := 4) hx hb hts in_X8_close_X8 hown hK hP 0 rfl rfl 3 (by decide) (hts (.fieldLink RX8 33 "WallCount" "wall" "LWallCount$Wall;") (List.mem_of_getElem? (i := 1) rfl)) (fun _ h9 => h9) rfl dX8_close_15 ?_
    refine lv_iload_n hx hb dX8_close_18 rfl (lv_at hl 1 rfl) ?_
    refine wr_call (va_runV (As := [.int p0]) (rest := []) ⟨hx, hb, hml, hown, hts⟩ (c_X7_changeClose l D cI cZ cR A _ x kk pr w wr wc ro wt need c0 c1 c2 hh pc0 pz0 pc1 pz1 dr sd ds fd tw sw wn fw fr nr ra rd cc ch cp p0) (cwV 1 hts gX8_close_X7_changeClose rfl rfl rfl ⟨rfl, hd_X7_changeClose⟩ ⟨(Nat.le_of_ble_eq_true rfl), (Nat.le_of_ble_eq_true rfl)⟩) (wr_preV hAM hP hD (va_recv hK hP (ci := 5) (q0 := 5) rfl rfl)) rfl rfl hl.1 rfl (lv_room (Nat.le_of_ble_eq_true rfl)) dX8_close_19 ⟨(Nat.le_of_ble_eq_true rfl), (Nat.le_of_ble_eq_true rfl)⟩) hS (fun v ch_19 H locs hw hP hD _ hS => ?_)
    try dsimp only at hw
    obtain ⟨rfl, ew0⟩ := hw
    rw [ew0] at hP hD
    refine W.eq (g2 := F0 m 22 ls [.int ((x_X7_changeClose ch p0).1)]) rfl ?_
    refine W.cs (cells' := 0) (slots' := 0) rfl rfl ?_
    have hP : va_P D vwCl (cW cI cR x kk pr w wr wc ro wt need c0 c1 c2 hh pc0 pz0 pc1 pz1 dr sd ds fd tw sw wn fw fr nr ra rd cc ((x_X7_changeClose ch p0).2) cp) H := hP
    have hD : va_D A (cW cI cR x kk pr w wr wc ro wt need c0 c1 c2 hh pc0 pz0 pc1 pz1 dr sd ds fd tw sw wn fw fr nr ra rd cc ((x_X7_changeClose ch p0).2) cp) := hD
    subst hE
    exact wr_iret (((x_X7_changeClose ch p0).2)) hx hb hr hlocks ⟨rfl, rfl⟩ hP hD hS dX8_close_22
  · have hE := itF hE c_8
    refine lv_bipush (v := (-2)) hx hb dX8_close_11 (by decide +kernel) ?_
    subst hE
    exact wr_iret (ch) hx hb hr hlocks ⟨rfl, rfl⟩ hP hD hS dX8_close_13

theorem hd_X8_copy : yX8_copy.cls ≠ "java/lang/invoke/MethodHandle" ∧ yX8_copy.cls ≠ "java/lang/invoke/VarHandle" ∧ (parseMethodDescriptor yX8_copy.desc).map (fun d => d.parameters.length) = some 1 := by decide +kernel
def x_X8_copy (cc : Nat) (cp : Nat → Int32) (p0 : Int32) : Int32 × Nat × (Nat → Int32) := (if (x_X8_within p0 0 9972) = true then (if ((x_X7_addCopied cc cp p0).1) = true then ((x_X7_copiedSize (nI ((x_X7_addCopied cc cp p0).2.1))), ((x_X7_addCopied cc cp p0).2.1), ((x_X7_addCopied cc cp p0).2.2)) else ((-4), ((x_X7_addCopied cc cp p0).2.1), ((x_X7_addCopied cc cp p0).2.2))) else ((-2), cc, cp))
def rm_X8_copy : Room := { frames := 1, cells := 0, slots := 0, locals := 22 }
abbrev pq_X8_copy (D : va_G) (cI cZ cR : ClassId) (A : Nat → Prop) (x kk pr w wr wc ro wt : Nat) (need : Int32) (c0 : Int32) (c1 : Int32) (c2 : Int32) (hh : Int32) (pc0 : Int32) (pz0 : Int32) (pc1 : Int32) (pz1 : Int32) (dr : Nat) (sd : Nat) (ds : Nat) (fd : Nat → Int32) (tw : Nat) (sw : Nat) (wn : Nat) (fw : Nat → Int32) (fr : Nat → Int32) (nr : Nat) (ra : Nat → Nat) (rd : Nat → R6) (cc : Nat) (ch : Int32) (cp : Nat → Int32) (Rv : Int32 × Nat × (Nat → Int32)) : Array Value → State → Outcome → State → Prop := wr_Q D (fun (v : Option Value) (u : Nat × (Nat → Int32)) => v = some (.int Rv.1) ∧ u.1 = Rv.2.1 ∧ u.2 = Rv.2.2) (fun u => cW cI cR x kk pr w wr wc ro wt need c0 c1 c2 hh pc0 pz0 pc1 pz1 dr sd ds fd tw sw wn fw fr nr ra rd u.1 ch u.2) A
theorem in_X8_copy_X7 : ∀ w ∈ wsX70, w ∈ wsX8_copy := fun _ h => List.mem_cons_of_mem _ (List.mem_append_right _ h)
theorem in_X8_copy_X8 : ∀ w ∈ wsX80, w ∈ wsX8_copy := fun _ h => List.mem_cons_of_mem _ (List.mem_append_left _ (List.mem_append_right _ h))
set_option maxHeartbeats 4000000 in
set_option maxRecDepth 100000 in
theorem c_X8_copy (l : Launch) (D : va_G) (cI cZ cR : ClassId) (A : Nat → Prop) (H0 : Heap) (x kk pr w wr wc ro wt : Nat) (need : Int32) (c0 : Int32) (c1 : Int32) (c2 : Int32) (hh : Int32) (pc0 : Int32) (pz0 : Int32) (pc1 : Int32) (pz1 : Int32) (dr : Nat) (sd : Nat) (ds : Nat) (fd : Nat → Int32) (tw : Nat) (sw : Nat) (wn : Nat) (fw : Nat → Int32) (fr : Nat → Int32) (nr : Nat) (ra : Nat → Nat) (rd : Nat → R6) (cc : Nat) (ch : Int32) (cp : Nat → Int32) (p0 : Int32) : Met l yX8_copy wsX8_copy rm_X8_copy (wr_P D cI cZ cR [.ref x, .int p0] (cW cI cR x kk pr w wr wc ro wt need c0 c1 c2 hh pc0 pz0 pc1 pz1 dr sd ds fd tw sw wn fw fr nr ra rd cc ch cp) A H0) (pq_X8_copy D cI cZ cR A x kk pr w wr wc ro wt need c0 c1 c2 hh pc0 pz0 pc1 pz1 dr sd ds fd tw sw wn fw fr nr ra rd cc ch cp (x_X8_copy cc cp p0)) 0 0 A := by
  refine Met.ofW (cc := cX8_copy) (maxL := 2) (ret := (some .int)) (by decide +kernel) rfl ?_
  intro p e s m args below meth c s₁ B hml hv
  obtain ⟨rfl, rfl, hAM, hP, hD⟩ := hv
  have hx := B.exec
  have hb := B.bytes
  have hr := B.returns
  have hts := atoms_spec (ws := wsX8_copy) B.pre
  have hown : s.vm.findClass RX8 = some m.cls := findClass_of_methodNamed B.named
  have hlocks := B.notSynchronized
  have hK := hAM.1
  have hS : va_S A s.heap s.heap [] := va_S.rf
  generalize hE : (x_X8_copy cc cp p0) = Rv
  rw [x_X8_copy] at hE
  have hl := lv_entry ([.ref x, .int p0]) (n := 2) (Nat.le_of_ble_eq_true rfl)
  rw [lg_entry_eq]
  generalize (lg_sl ([.ref x, .int p0]) ++ List.replicate (2 - (lg_sl ([.ref x, .int p0])).length) Slot.unset).toArray = ls at hl ⊢
  have hl : lv_has ls 2 [(0, .ref x), (1, .int p0)] := hl
  refine lv_iload_n hx hb dX8_copy_0 rfl (lv_at hl 1 rfl) ?_
  refine lv_iconst (v := 0) hx hb dX8_copy_1 (by decide) ?_
  refine lv_sipush (v := 9972) hx hb dX8_copy_2 (by decide +kernel) ?_
  refine ro_call (va_runS (As := [.int p0, .int 0, .int 9972]) (rest := []) ⟨hx, hb, hml, hown, hts⟩ (c_X8_within l D cI cZ cR _ p0 0 9972) (va_cwS 3 hts gX8_copy_X8_within rfl rfl rfl hd_X8_within ⟨(Nat.le_of_ble_eq_true rfl), (Nat.le_of_ble_eq_true rfl)⟩) (po_pre hAM va_P.nil) rfl rfl hl.1 rfl (lv_room (Nat.le_of_ble_eq_true rfl)) dX8_copy_5 ⟨(Nat.le_of_ble_eq_true rfl), (Nat.le_of_ble_eq_true rfl)⟩) ?_
  refine w_if_neb (tgt := 14) hx hb dX8_copy_8 (by decide) (fun c_8 => ?_) (fun c_8 => ?_)
  · have hE := itT hE c_8
    refine lv_aload_n hx hb dX8_copy_14 rfl (lv_at hl 0 rfl) ?_
    refine va_get (D := D) (ci := 6) (v := .ref w) (C := RX8) (T := TX8) (N := 4) hx hb hts in_X8_copy_X8 hown hK hP 0 rfl rfl 3 (by decide) (hts (.fieldLink RX8 33 "WallCount" "wall" "LWallCount$Wall;") (List.mem_of_getElem? (i := 1) rfl)) (fun _ h9 => h9) rfl dX8_copy_15 ?_
    refine lv_iload_n hx hb dX8_copy_18 rfl (lv_at hl 1 rfl) ?_
    refine wr_call (va_runV (As := [.int p0]) (rest := []) ⟨hx, hb, hml, hown, hts⟩ (c_X7_addCopied l D cI cZ cR A _ x kk pr w wr wc ro wt need c0 c1 c2 hh pc0 pz0 pc1 pz1 dr sd ds fd tw sw wn fw fr nr ra rd cc ch cp p0) (cwV 1 hts gX8_copy_X7_addCopied rfl rfl rfl ⟨rfl, hd_X7_addCopied⟩ ⟨(Nat.le_of_ble_eq_true rfl), (Nat.le_of_ble_eq_true rfl)⟩) (wr_preV hAM hP hD (va_recv hK hP (ci := 5) (q0 := 5) rfl rfl)) rfl rfl hl.1 rfl (lv_room (Nat.le_of_ble_eq_true rfl)) dX8_copy_19 ⟨(Nat.le_of_ble_eq_true rfl), (Nat.le_of_ble_eq_true rfl)⟩) hS (fun v u H locs hw hP hD _ hS => ?_)
    obtain ⟨cc_19, cp_19⟩ := u
    try dsimp only at hw
    obtain ⟨rfl, ew0, ew1⟩ := hw
    rw [ew0, ew1] at hP hD
    refine W.eq (g2 := F0 m 22 ls [.int (bI ((x_X7_addCopied cc cp p0).1))]) rfl ?_
    refine W.cs (cells' := 0) (slots' := 0) rfl rfl ?_
    have hP : va_P D vwCl (cW cI cR x kk pr w wr wc ro wt need c0 c1 c2 hh pc0 pz0 pc1 pz1 dr sd ds fd tw sw wn fw fr nr ra rd ((x_X7_addCopied cc cp p0).2.1) ch ((x_X7_addCopied cc cp p0).2.2)) H := hP
    have hD : va_D A (cW cI cR x kk pr w wr wc ro wt need c0 c1 c2 hh pc0 pz0 pc1 pz1 dr sd ds fd tw sw wn fw fr nr ra rd ((x_X7_addCopied cc cp p0).2.1) ch ((x_X7_addCopied cc cp p0).2.2)) := hD
    refine w_if_eqb (tgt := 35) hx hb dX8_copy_22 (by decide) (fun c_22 => ?_) (fun c_22 => ?_)
    · have hE := itF hE c_22
      refine lv_bipush (v := (-4)) hx hb dX8_copy_35 (by decide +kernel) ?_
      subst hE
      exact wr_iret (((x_X7_addCopied cc cp p0).2.1), ((x_X7_addCopied cc cp p0).2.2)) hx hb hr hlocks ⟨rfl, rfl, rfl⟩ hP hD hS dX8_copy_37
    · have hE := itT hE c_22
      refine lv_aload_n hx hb dX8_copy_25 rfl (lv_at hl 0 rfl) ?_
      refine va_get (D := D) (ci := 6) (v := .ref w) (C := RX8) (T := TX8) (N := 4) hx hb hts in_X8_copy_X8 hown hK hP 0 rfl rfl 3 (by decide) (hts (.fieldLink RX8 33 "WallCount" "wall" "LWallCount$Wall;") (List.mem_of_getElem? (i := 1) rfl)) (fun _ h9 => h9) rfl dX8_copy_26 ?_
      refine ro_call (va_runV (As := []) (rest := []) ⟨hx, hb, hml, hown, hts⟩ (c_X7_copiedSize l D cI cZ cR _ w wr wc ro wt tw sw dr nr ra rd (nI ((x_X7_addCopied cc cp p0).2.1)) ch ((x_X7_addCopied cc cp p0).2.2) fr (nI wn) fw) (cwV 0 hts gX8_copy_X7_copiedSize rfl rfl rfl ⟨rfl, hd_X7_copiedSize⟩ ⟨(Nat.le_of_ble_eq_true rfl), (Nat.le_of_ble_eq_true rfl)⟩) (po_preV hAM hP.tail.tail.tail.tail.tail (va_recv hK hP (ci := 5) (q0 := 5) rfl rfl)) rfl rfl hl.1 rfl (lv_room (Nat.le_of_ble_eq_true rfl)) dX8_copy_29 ⟨(Nat.le_of_ble_eq_true rfl), (Nat.le_of_ble_eq_true rfl)⟩) ?_
      refine lv_goto (tgt := 37) hx hb dX8_copy_32 (by decide) ?_
      subst hE
      exact wr_iret (((x_X7_addCopied cc cp p0).2.1), ((x_X7_addCopied cc cp p0).2.2)) hx hb hr hlocks ⟨rfl, rfl, rfl⟩ hP hD hS dX8_copy_37
  · have hE := itF hE c_8
    refine lv_bipush (v := (-2)) hx hb dX8_copy_11 (by decide +kernel) ?_
    subst hE
    exact wr_iret (cc, cp) hx hb hr hlocks ⟨rfl, rfl, rfl⟩ hP hD hS dX8_copy_13
