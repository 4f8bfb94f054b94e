/-- the counter of Roll's constructor: by threes -/
def TH (n : Nat) (v : Int32) : Prop := ∃ i : Nat, v = nI (3 * i) ∧ i ≤ 12 ∧ 12 < i + n
theorem TH.zero {v : Int32} : ¬ TH 0 v := by
  rintro ⟨i, h1, h2, h3⟩
  omega
theorem TH.start : TH 13 0 := ⟨0, rfl, by omega, by omega⟩
theorem TH.step {n : Nat} {v : Int32} (hI : TH (n + 1) v) (hc : ¬ (36 : Int32) ≤ v + 1) : TH n (v + 3) ∧ vp_in v 36 ∧ vp_in (v + 1) 36 := by
  obtain ⟨i, rfl, h1, h2⟩ := hI
  rw [nI_1] at hc ⊢
  have hlt : 3 * i + 1 < 36 := by
    rcases Nat.lt_or_ge (3 * i + 1) 36 with q | q
    · exact q
    · exact absurd (nI_le (a := 36) q (by omega)) hc
  refine ⟨⟨i + 1, ?_, by omega, by omega⟩, vp_in_nI (by omega) (by decide), vp_in_nI (by omega) (by decide)⟩
  rw [show (3 : Int32) = nI 3 from rfl, nI_add]
  rfl
theorem hs_in0 {v : Int32} (h : ∃ i : Nat, v = nI i ∧ 0 ≤ i ∧ i < 12) : vp_in (3 * v) 36 := by
  obtain ⟨i, rfl, -, h2⟩ := h
  rw [show (3 : Int32) = nI 3 from rfl, pk_mul]
  exact vp_in_nI (by omega) (by decide)
theorem hs_in1 {v : Int32} (h : ∃ i : Nat, v = nI i ∧ 0 ≤ i ∧ i < 12) : vp_in (3 * v + 1) 36 := by
  obtain ⟨i, rfl, -, h2⟩ := h
  rw [show (3 : Int32) = nI 3 from rfl, pk_mul, nI_1]
  exact vp_in_nI (by omega) (by decide)
theorem hd_X5_init : yX5_init.cls ≠ "java/lang/invoke/MethodHandle" ∧ yX5_init.cls ≠ "java/lang/invoke/VarHandle" ∧ (parseMethodDescriptor yX5_init.desc).map (fun d => d.parameters.length) = some 6 := by decide +kernel
def rm_X5_init : Room := { frames := 1, cells := 0, slots := 0, locals := 21 }
abbrev pq_X5_init (D : va_G) (cI cZ cR : ClassId) (A : Nat → Prop) (W9 : va_W) (q : Nat) (p0 : Int32) (p1 : Int32) (p2 : Int32) (p3 : Int32) (p4 : Bool) (p5 : Bool) (Rv : Unit) : Array Value → State → Outcome → State → Prop := wr_Q D (fun (v : Option Value) (_ : Unit) => v = none) (fun u => W9 ++ [(q, .inr (3, [.int p0, .int p1, .int p2, .int p3, .int (bI p4), .int (bI p5)]))]) A
theorem in_X5_init_X5 : ∀ w ∈ wsX50, w ∈ wsX5_init := fun _ h => List.mem_cons_of_mem _ (List.mem_append_right _ h)
set_option maxHeartbeats 4000000 in
set_option maxRecDepth 100000 in
theorem c_X5_init (l : Launch) (D : va_G) (cI cZ cR : ClassId) (A : Nat → Prop) (H0 : Heap) (W9 : va_W) (q : Nat) (p0 : Int32) (p1 : Int32) (p2 : Int32) (p3 : Int32) (p4 : Bool) (p5 : Bool) : Met l yX5_init wsX5_init rm_X5_init (al_P D cI cZ cR [.ref q, .int p0, .int p1, .int p2, .int p3, .int (bI p4), .int (bI p5)] (W9 ++ [(q, .inr (3, [.int 0, .int 0, .int 0, .int 0, .int 0, .int 0]))]) A H0) (pq_X5_init D cI cZ cR A W9 q p0 p1 p2 p3 p4 p5 ()) 0 0 A := by
  refine Met.ofW (cc := cX5_init) (maxL := 7) (ret := none) (by decide +kernel) rfl ?_
  intro p e s m args below meth c s₁ B hml hv
  obtain ⟨rfl, rfl, hAM, hP, hD, hA, hO⟩ := hv
  have hx := B.exec
  have hb := B.bytes
  have hr := B.returns
  have hts := atoms_spec (ws := wsX5_init) B.pre
  have hown : s.vm.findClass RX5 = some m.cls := findClass_of_methodNamed B.named
  have hlocks := B.notSynchronized
  have hin0 : meth.name = "<init>" := (name_of_methodNamed B.named B.method).1
  have hK := hAM.1
  have hS : va_S A s.heap s.heap [] := va_S.rf
  have hl := lv_entry ([.ref q, .int p0, .int p1, .int p2, .int p3, .int (bI p4), .int (bI p5)]) (n := 7) (Nat.le_of_ble_eq_true rfl)
  rw [lg_entry_eq]
  generalize (lg_sl ([.ref q, .int p0, .int p1, .int p2, .int p3, .int (bI p4), .int (bI p5)]) ++ List.replicate (7 - (lg_sl ([.ref q, .int p0, .int p1, .int p2, .int p3, .int (bI p4), .int (bI p5)])).length) Slot.unset).toArray = ls at hl ⊢
  have hl : lv_has ls 7 [(0, .ref q), (1, .int p0), (2, .int p1), (3, .int p2), (4, .int p3), (5, .int (bI p4)), (6, .int (bI p5))] := hl
  refine lv_aload_n hx hb dX5_init_0 rfl (lv_at hl 0 rfl) ?_
  refine W.objInit hx hb hown (hts (.methodLink RX5 3 objectInit) (List.mem_of_getElem? (i := 1) rfl)) (hts (.instanceMethod objectInit) (List.mem_of_getElem? (i := 2) rfl)) (hts _ (List.mem_of_getElem? (i := 3) rfl)) rfl (by rw [hml]; exact hl.1) rfl dX5_init_1 (Nat.le_of_ble_eq_true rfl) (Nat.le_of_ble_eq_true rfl) ?_
  refine W.eq (g2 := F0 m 4 ls []) rfl ?_
  refine lv_aload_n hx hb dX5_init_4 rfl (lv_at hl 0 rfl) ?_
  refine lv_iload_n hx hb dX5_init_5 rfl (lv_at hl 1 rfl) ?_
  refine va_putF (D := D) (ci := 3) (v := .int p0) (ty := .int) (C := RX5) (T := TX5) (N := 6) hx hb hts in_X5_init_X5 tyX5 tyX5_ok nmX5 hown hK hP hD hS (W9.length + 0) (pre_at 0 rfl) rfl 0 (by decide) (hts (.fieldLink RX5 9 "WallCount$Row" "voter" "I") (List.mem_of_getElem? (i := 4) rfl)) (fun _ h9 => h9) rfl hin0 rfl (by decide +kernel) rfl rfl (Nat.le_of_ble_eq_true rfl) dX5_init_6 (fun H locs hP hD hS => ?_)
  rw [pre_set] at hP hD
  have hP : va_P D vwCl (W9 ++ [(q, .inr (3, [.int p0, .int 0, .int 0, .int 0, .int 0, .int 0]))]) H := hP
  have hD : va_D A (W9 ++ [(q, .inr (3, [.int p0, .int 0, .int 0, .int 0, .int 0, .int 0]))]) := hD
  refine lv_aload_n hx hb dX5_init_9 rfl (lv_at hl 0 rfl) ?_
  refine lv_iload_n hx hb dX5_init_10 rfl (lv_at hl 2 rfl) ?_
  refine va_putF (D := D) (ci := 3) (v := .int p1) (ty := .int) (C := RX5) (T := TX5) (N := 6) hx hb hts in_X5_init_X5 tyX5 tyX5_ok nmX5 hown hK hP hD hS (W9.length + 0) (pre_at 0 rfl) rfl 1 (by decide) (hts (.fieldLink RX5 15 "WallCount$Row" "a" "I") (List.mem_of_getElem? (i := 5) rfl)) (fun _ h9 => h9) rfl hin0 rfl (by decide +kernel) rfl rfl (Nat.le_of_ble_eq_true rfl) dX5_init_11 (fun H locs hP hD hS => ?_)
  rw [pre_set] at hP hD
  have hP : va_P D vwCl (W9 ++ [(q, .inr (3, [.int p0, .int p1, .int 0, .int 0, .int 0, .int 0]))]) H := hP
  have hD : va_D A (W9 ++ [(q, .inr (3, [.int p0, .int p1, .int 0, .int 0, .int 0, .int 0]))]) := hD
  refine lv_aload_n hx hb dX5_init_14 rfl (lv_at hl 0 rfl) ?_
  refine lv_iload_n hx hb dX5_init_15 rfl (lv_at hl 3 rfl) ?_
  refine va_putF (D := D) (ci := 3) (v := .int p2) (ty := .int) (C := RX5) (T := TX5) (N := 6) hx hb hts in_X5_init_X5 tyX5 tyX5_ok nmX5 hown hK hP hD hS (W9.length + 0) (pre_at 0 rfl) rfl 2 (by decide) (hts (.fieldLink RX5 18 "WallCount$Row" "b" "I") (List.mem_of_getElem? (i := 6) rfl)) (fun _ h9 => h9) rfl hin0 rfl (by decide +kernel) rfl rfl (Nat.le_of_ble_eq_true rfl) dX5_init_16 (fun H locs hP hD hS => ?_)
  rw [pre_set] at hP hD
  have hP : va_P D vwCl (W9 ++ [(q, .inr (3, [.int p0, .int p1, .int p2, .int 0, .int 0, .int 0]))]) H := hP
  have hD : va_D A (W9 ++ [(q, .inr (3, [.int p0, .int p1, .int p2, .int 0, .int 0, .int 0]))]) := hD
  refine lv_aload_n hx hb dX5_init_19 rfl (lv_at hl 0 rfl) ?_
  refine lv_iload hx hb dX5_init_20 (lv_at hl 4 rfl) ?_
  refine va_putF (D := D) (ci := 3) (v := .int p3) (ty := .int) (C := RX5) (T := TX5) (N := 6) hx hb hts in_X5_init_X5 tyX5 tyX5_ok nmX5 hown hK hP hD hS (W9.length + 0) (pre_at 0 rfl) rfl 3 (by decide) (hts (.fieldLink RX5 21 "WallCount$Row" "hour" "I") (List.mem_of_getElem? (i := 7) rfl)) (fun _ h9 => h9) rfl hin0 rfl (by decide +kernel) rfl rfl (Nat.le_of_ble_eq_true rfl) dX5_init_22 (fun H locs hP hD hS => ?_)
  rw [pre_set] at hP hD
  have hP : va_P D vwCl (W9 ++ [(q, .inr (3, [.int p0, .int p1, .int p2, .int p3, .int 0, .int 0]))]) H := hP
  have hD : va_D A (W9 ++ [(q, .inr (3, [.int p0, .int p1, .int p2, .int p3, .int 0, .int 0]))]) := hD
  refine lv_aload_n hx hb dX5_init_25 rfl (lv_at hl 0 rfl) ?_
  refine lv_iload hx hb dX5_init_26 (lv_at hl 5 rfl) ?_
  refine va_put (D := D) (ci := 3) (v := .int (bI p4)) (ty := .boolean) (C := RX5) (T := TX5) (N := 6) hx hb hts in_X5_init_X5 tyX5 tyX5_ok nmX5 hown hK hP hD hS (W9.length + 0) (pre_at 0 rfl) rfl 4 (by decide) (hts (.fieldLink RX5 24 "WallCount$Row" "sound" "Z") (List.mem_of_getElem? (i := 8) rfl)) (fun _ h9 => h9) rfl (by decide +kernel) (bI_nar _) (bI_fit _) (Nat.le_of_ble_eq_true rfl) dX5_init_28 (fun H locs hP hD hS => ?_)
  rw [pre_set] at hP hD
  have hP : va_P D vwCl (W9 ++ [(q, .inr (3, [.int p0, .int p1, .int p2, .int p3, .int (bI p4), .int 0]))]) H := hP
  have hD : va_D A (W9 ++ [(q, .inr (3, [.int p0, .int p1, .int p2, .int p3, .int (bI p4), .int 0]))]) := hD
  refine lv_aload_n hx hb dX5_init_31 rfl (lv_at hl 0 rfl) ?_
  refine lv_iload hx hb dX5_init_32 (lv_at hl 6 rfl) ?_
  refine va_put (D := D) (ci := 3) (v := .int (bI p5)) (ty := .boolean) (C := RX5) (T := TX5) (N := 6) hx hb hts in_X5_init_X5 tyX5 tyX5_ok nmX5 hown hK hP hD hS (W9.length + 0) (pre_at 0 rfl) rfl 5 (by decide) (hts (.fieldLink RX5 28 "WallCount$Row" "proved" "Z") (List.mem_of_getElem? (i := 9) rfl)) (fun _ h9 => h9) rfl (by decide +kernel) (bI_nar _) (bI_fit _) (Nat.le_of_ble_eq_true rfl) dX5_init_34 (fun H locs hP hD hS => ?_)
  rw [pre_set] at hP hD
  have hP : va_P D vwCl (W9 ++ [(q, .inr (3, [.int p0, .int p1, .int p2, .int p3, .int (bI p4), .int (bI p5)]))]) H := hP
  have hD : va_D A (W9 ++ [(q, .inr (3, [.int p0, .int p1, .int p2, .int p3, .int (bI p4), .int (bI p5)]))]) := hD
  exact wr_vret () hx hb hr hlocks rfl hP hD hS dX5_init_37

theorem hd_X0_init : yX0_init.cls ≠ "java/lang/invoke/MethodHandle" ∧ yX0_init.cls ≠ "java/lang/invoke/VarHandle" ∧ (parseMethodDescriptor yX0_init.desc).map (fun d => d.parameters.length) = some 0 := by decide +kernel
def rm_X0_init : Room := { frames := 1, cells := 0, slots := 0, locals := 21 }
abbrev pq_X0_init (D : va_G) (cI cZ cR : ClassId) (A : Nat → Prop) (W9 : va_W) (q : Nat) (Rv : Unit) : Array Value → State → Outcome → State → Prop := wr_Q D (fun (v : Option Value) (_ : Unit) => v = none) (fun u => W9 ++ [(q, .inr (0, [.int 1, .int 1, .int 0, .int 0, .int 4]))]) A
theorem in_X0_init_X0 : ∀ w ∈ wsX00, w ∈ wsX0_init := fun _ h => List.mem_cons_of_mem _ (List.mem_append_right _ h)
set_option maxHeartbeats 4000000 in
set_option maxRecDepth 100000 in
theorem c_X0_init (l : Launch) (D : va_G) (cI cZ cR : ClassId) (A : Nat → Prop) (H0 : Heap) (W9 : va_W) (q : Nat) : Met l yX0_init wsX0_init rm_X0_init (al_P D cI cZ cR [.ref q] (W9 ++ [(q, .inr (0, [.int 0, .int 0, .int 0, .int 0, .int 0]))]) A H0) (pq_X0_init D cI cZ cR A W9 q ()) 0 0 A := by
  refine Met.ofW (cc := cX0_init) (maxL := 1) (ret := none) (by decide +kernel) rfl ?_
  intro p e s m args below meth c s₁ B hml hv
  obtain ⟨rfl, rfl, hAM, hP, hD, hA, hO⟩ := hv
  have hx := B.exec
  have hb := B.bytes
  have hr := B.returns
  have hts := atoms_spec (ws := wsX0_init) B.pre
  have hown : s.vm.findClass RX0 = some m.cls := findClass_of_methodNamed B.named
  have hlocks := B.notSynchronized
  have hin0 : meth.name = "<init>" := (name_of_methodNamed B.named B.method).1
  have hK := hAM.1
  have hS : va_S A s.heap s.heap [] := va_S.rf
  have hl := lv_entry ([.ref q]) (n := 1) (Nat.le_of_ble_eq_true rfl)
  rw [lg_entry_eq]
  generalize (lg_sl ([.ref q]) ++ List.replicate (1 - (lg_sl ([.ref q])).length) Slot.unset).toArray = ls at hl ⊢
  have hl : lv_has ls 1 [(0, .ref q)] := hl
  refine lv_aload_n hx hb dX0_init_0 rfl (lv_at hl 0 rfl) ?_
  refine W.objInit hx hb hown (hts (.methodLink RX0 3 objectInit) (List.mem_of_getElem? (i := 1) rfl)) (hts (.instanceMethod objectInit) (List.mem_of_getElem? (i := 2) rfl)) (hts _ (List.mem_of_getElem? (i := 3) rfl)) rfl (by rw [hml]; exact hl.1) rfl dX0_init_1 (Nat.le_of_ble_eq_true rfl) (Nat.le_of_ble_eq_true rfl) ?_
  refine W.eq (g2 := F0 m 4 ls []) rfl ?_
  refine lv_aload_n hx hb dX0_init_4 rfl (lv_at hl 0 rfl) ?_
  refine lv_iconst (v := 1) hx hb dX0_init_5 (by decide) ?_
  refine va_put (D := D) (ci := 0) (v := .int 1) (ty := .int) (C := RX0) (T := TX0) (N := 5) hx hb hts in_X0_init_X0 tyX0 tyX0_ok nmX0 hown hK hP hD hS (W9.length + 0) (pre_at 0 rfl) rfl 0 (by decide) (hts (.fieldLink RX0 9 "WallCount$Key" "need" "I") (List.mem_of_getElem? (i := 4) rfl)) (fun _ h9 => h9) rfl (by decide +kernel) rfl rfl (Nat.le_of_ble_eq_true rfl) dX0_init_6 (fun H locs hP hD hS => ?_)
  rw [pre_set] at hP hD
  have hP : va_P D vwCl (W9 ++ [(q, .inr (0, [.int 1, .int 0, .int 0, .int 0, .int 0]))]) H := hP
  have hD : va_D A (W9 ++ [(q, .inr (0, [.int 1, .int 0, .int 0, .int 0, .int 0]))]) := hD
  refine lv_aload_n hx hb dX0_init_9 rfl (lv_at hl 0 rfl) ?_
  refine lv_iconst (v := 1) hx hb dX0_init_10 (by decide) ?_
  refine va_put (D := D) (ci := 0) (v := .int 1) (ty := .int) (C := RX0) (T := TX0) (N := 5) hx hb hts in_X0_init_X0 tyX0 tyX0_ok nmX0 hown hK hP hD hS (W9.length + 0) (pre_at 0 rfl) rfl 1 (by decide) (hts (.fieldLink RX0 15 "WallCount$Key" "c0" "I") (List.mem_of_getElem? (i := 5) rfl)) (fun _ h9 => h9) rfl (by decide +kernel) rfl rfl (Nat.le_of_ble_eq_true rfl) dX0_init_11 (fun H locs hP hD hS => ?_)
  rw [pre_set] at hP hD
  have hP : va_P D vwCl (W9 ++ [(q, .inr (0, [.int 1, .int 1, .int 0, .int 0, .int 0]))]) H := hP
  have hD : va_D A (W9 ++ [(q, .inr (0, [.int 1, .int 1, .int 0, .int 0, .int 0]))]) := hD
  refine lv_aload_n hx hb dX0_init_14 rfl (lv_at hl 0 rfl) ?_
  refine lv_iconst (v := 0) hx hb dX0_init_15 (by decide) ?_
  refine va_put (D := D) (ci := 0) (v := .int 0) (ty := .int) (C := RX0) (T := TX0) (N := 5) hx hb hts in_X0_init_X0 tyX0 tyX0_ok nmX0 hown hK hP hD hS (W9.length + 0) (pre_at 0 rfl) rfl 2 (by decide) (hts (.fieldLink RX0 18 "WallCount$Key" "c1" "I") (List.mem_of_getElem? (i := 6) rfl)) (fun _ h9 => h9) rfl (by decide +kernel) rfl rfl (Nat.le_of_ble_eq_true rfl) dX0_init_16 (fun H locs hP hD hS => ?_)
  rw [pre_set] at hP hD
  have hP : va_P D vwCl (W9 ++ [(q, .inr (0, [.int 1, .int 1, .int 0, .int 0, .int 0]))]) H := hP
  have hD : va_D A (W9 ++ [(q, .inr (0, [.int 1, .int 1, .int 0, .int 0, .int 0]))]) := hD
  refine lv_aload_n hx hb dX0_init_19 rfl (lv_at hl 0 rfl) ?_
  refine lv_iconst (v := 0) hx hb dX0_init_20 (by decide) ?_
  refine va_put (D := D) (ci := 0) (v := .int 0) (ty := .int) (C := RX0) (T := TX0) (N := 5) hx hb hts in_X0_init_X0 tyX0 tyX0_ok nmX0 hown hK hP hD hS (W9.length + 0) (pre_at 0 rfl) rfl 3 (by decide) (hts (.fieldLink RX0 21 "WallCount$Key" "c2" "I") (List.mem_of_getElem? (i := 7) rfl)) (fun _ h9 => h9) rfl (by decide +kernel) rfl rfl (Nat.le_of_ble_eq_true rfl) dX0_init_21 (fun H locs hP hD hS => ?_)
  rw [pre_set] at hP hD
  have hP : va_P D vwCl (W9 ++ [(q, .inr (0, [.int 1, .int 1, .int 0, .int 0, .int 0]))]) H := hP
  have hD : va_D A (W9 ++ [(q, .inr (0, [.int 1, .int 1, .int 0, .int 0, .int 0]))]) := hD
  refine lv_aload_n hx hb dX0_init_24 rfl (lv_at hl 0 rfl) ?_
  refine lv_iconst (v := 4) hx hb dX0_init_25 (by decide) ?_
  refine va_put (D := D) (ci := 0) (v := .int 4) (ty := .int) (C := RX0) (T := TX0) (N := 5) hx hb hts in_X0_init_X0 tyX0 tyX0_ok nmX0 hown hK hP hD hS (W9.length + 0) (pre_at 0 rfl) rfl 4 (by decide) (hts (.fieldLink RX0 24 "WallCount$Key" "h" "I") (List.mem_of_getElem? (i := 8) rfl)) (fun _ h9 => h9) rfl (by decide +kernel) rfl rfl (Nat.le_of_ble_eq_true rfl) dX0_init_26 (fun H locs hP hD hS => ?_)
  rw [pre_set] at hP hD
  have hP : va_P D vwCl (W9 ++ [(q, .inr (0, [.int 1, .int 1, .int 0, .int 0, .int 4]))]) H := hP
  have hD : va_D A (W9 ++ [(q, .inr (0, [.int 1, .int 1, .int 0, .int 0, .int 4]))]) := hD
  exact wr_vret () hx hb hr hlocks rfl hP hD hS dX0_init_29

theorem hd_X3_init : yX3_init.cls ≠ "java/lang/invoke/MethodHandle" ∧ yX3_init.cls ≠ "java/lang/invoke/VarHandle" ∧ (parseMethodDescriptor yX3_init.desc).map (fun d => d.parameters.length) = some 0 := by decide +kernel
def rm_X3_init : Room := { frames := 1, cells := 0, slots := 0, locals := 21 }
abbrev pq_X3_init (D : va_G) (cI cZ cR : ClassId) (A : Nat → Prop) (W9 : va_W) (q : Nat) (Rv : Unit) : Array Value → State → Outcome → State → Prop := wr_Q D (fun (v : Option Value) (_ : Unit) => v = none) (fun u => W9 ++ [(q, .inr (1, [.int 0, .int 0, .int 0, .int 0]))]) A
set_option maxHeartbeats 4000000 in
set_option maxRecDepth 100000 in
theorem c_X3_init (l : Launch) (D : va_G) (cI cZ cR : ClassId) (A : Nat → Prop) (H0 : Heap) (W9 : va_W) (q : Nat) : Met l yX3_init wsX3_init rm_X3_init (al_P D cI cZ cR [.ref q] (W9 ++ [(q, .inr (1, [.int 0, .int 0, .int 0, .int 0]))]) A H0) (pq_X3_init D cI cZ cR A W9 q ()) 0 0 A := by
  refine Met.ofW (cc := cX3_init) (maxL := 1) (ret := none) (by decide +kernel) rfl ?_
  intro p e s m args below meth c s₁ B hml hv
  obtain ⟨rfl, rfl, hAM, hP, hD, hA, hO⟩ := hv
  have hx := B.exec
  have hb := B.bytes
  have hr := B.returns
  have hts := atoms_spec (ws := wsX3_init) B.pre
  have hown : s.vm.findClass RX3 = some m.cls := findClass_of_methodNamed B.named
  have hlocks := B.notSynchronized
  have hin0 : meth.name = "<init>" := (name_of_methodNamed B.named B.method).1
  have hK := hAM.1
  have hS : va_S A s.heap s.heap [] := va_S.rf
  have hl := lv_entry ([.ref q]) (n := 1) (Nat.le_of_ble_eq_true rfl)
  rw [lg_entry_eq]
  generalize (lg_sl ([.ref q]) ++ List.replicate (1 - (lg_sl ([.ref q])).length) Slot.unset).toArray = ls at hl ⊢
  have hl : lv_has ls 1 [(0, .ref q)] := hl
  refine lv_aload_n hx hb dX3_init_0 rfl (lv_at hl 0 rfl) ?_
  refine W.objInit hx hb hown (hts (.methodLink RX3 3 objectInit) (List.mem_of_getElem? (i := 1) rfl)) (hts (.instanceMethod objectInit) (List.mem_of_getElem? (i := 2) rfl)) (hts _ (List.mem_of_getElem? (i := 3) rfl)) rfl (by rw [hml]; exact hl.1) rfl dX3_init_1 (Nat.le_of_ble_eq_true rfl) (Nat.le_of_ble_eq_true rfl) ?_
  refine W.eq (g2 := F0 m 4 ls []) rfl ?_
  exact wr_vret () hx hb hr hlocks rfl hP hD hS dX3_init_4

theorem hd_X6_init : yX6_init.cls ≠ "java/lang/invoke/MethodHandle" ∧ yX6_init.cls ≠ "java/lang/invoke/VarHandle" ∧ (parseMethodDescriptor yX6_init.desc).map (fun d => d.parameters.length) = some 0 := by decide +kernel
def rm_X6_init : Room := { frames := 1, cells := 1, slots := 40, locals := 21 }
abbrev pq_X6_init (D : va_G) (cI cZ cR : ClassId) (A : Nat → Prop) (W9 : va_W) (q : Nat) (Rv : Unit) : Array Value → State → Outcome → State → Prop := wr_Q D (fun (v : Option Value) (_ : Nat) => v = none) (fun u => W9 ++ [(q, .inr (4, [.ref u, .int 0])), (u, .inl (cI, 40, .inl (fun _ => 0)))]) A
theorem in_X6_init_X6 : ∀ w ∈ wsX60, w ∈ wsX6_init := fun _ h => List.mem_cons_of_mem _ (List.mem_append_right _ h)
set_option maxHeartbeats 4000000 in
set_option maxRecDepth 100000 in
theorem c_X6_init (l : Launch) (D : va_G) (cI cZ cR : ClassId) (A : Nat → Prop) (H0 : Heap) (W9 : va_W) (q : Nat) : Met l yX6_init wsX6_init rm_X6_init (al_P D cI cZ cR [.ref q] (W9 ++ [(q, .inr (4, [.null, .int 0]))]) A H0) (pq_X6_init D cI cZ cR A W9 q ()) 1 40 A := by
  refine Met.ofW (cc := cX6_init) (maxL := 1) (ret := none) (by decide +kernel) rfl ?_
  intro p e s m args below meth c s₁ B hml hv
  obtain ⟨rfl, rfl, hAM, hP, hD, hA, hO⟩ := hv
  have hx := B.exec
  have hb := B.bytes
  have hr := B.returns
  have hts := atoms_spec (ws := wsX6_init) B.pre
  have hown : s.vm.findClass RX6 = some m.cls := findClass_of_methodNamed B.named
  have hlocks := B.notSynchronized
  have hin0 : meth.name = "<init>" := (name_of_methodNamed B.named B.method).1
  have hK := hAM.1
  have hS : va_S A s.heap s.heap [] := va_S.rf
  have hl := lv_entry ([.ref q]) (n := 1) (Nat.le_of_ble_eq_true rfl)
  rw [lg_entry_eq]
  generalize (lg_sl ([.ref q]) ++ List.replicate (1 - (lg_sl ([.ref q])).length) Slot.unset).toArray = ls at hl ⊢
  have hl : lv_has ls 1 [(0, .ref q)] := hl
  refine lv_aload_n hx hb dX6_init_0 rfl (lv_at hl 0 rfl) ?_
  refine W.objInit hx hb hown (hts (.methodLink RX6 3 objectInit) (List.mem_of_getElem? (i := 1) rfl)) (hts (.instanceMethod objectInit) (List.mem_of_getElem? (i := 2) rfl)) (hts _ (List.mem_of_getElem? (i := 3) rfl)) rfl (by rw [hml]; exact hl.1) rfl dX6_init_1 (Nat.le_of_ble_eq_true rfl) (Nat.le_of_ble_eq_true rfl) ?_
  refine W.eq (g2 := F0 m 4 ls []) rfl ?_
  refine lv_aload_n hx hb dX6_init_4 rfl (lv_at hl 0 rfl) ?_
  refine lv_bipush (v := 40) hx hb dX6_init_5 (by decide +kernel) ?_
  refine va_newa (atype := .int) (ty := .int) (n := 40) (N' := 40) (a0 := (40, .inl (fun _ => 0))) hx hb (hts (.arrayClass .int) (List.mem_of_getElem? (i := 4) rfl)) rfl hK hP hD hS hA (fun _ => rfl) (by decide +kernel) (by decide +kernel) (by decide +kernel) (Nat.le_of_ble_eq_true rfl) (Nat.le_of_ble_eq_true rfl) dX6_init_7 (fun q7 cA H hK4 hP hD hS => ?_)
  rw [arr_I hK4] at hP hD
  clear hK4
  rw [List.append_assoc] at hP hD
  have hP : va_P D vwCl (W9 ++ [(q, .inr (4, [.null, .int 0])), (q7, .inl (cI, 40, .inl (fun _ => 0)))]) H := hP
  have hD : va_D A (W9 ++ [(q, .inr (4, [.null, .int 0])), (q7, .inl (cI, 40, .inl (fun _ => 0)))]) := hD
  refine W.cs (cells' := 1) (slots' := 40) rfl rfl ?_
  refine va_putF (D := D) (ci := 4) (v := .ref q7) (ty := .array .int) (C := RX6) (T := TX6) (N := 2) hx hb hts in_X6_init_X6 tyX6 tyX6_ok nmX6 hown hK hP hD hS (W9.length + 0) (pre_at 0 rfl) rfl 0 (by decide) (hts (.fieldLink RX6 9 "WallCount$Text" "signs" "[I") (List.mem_of_getElem? (i := 5) rfl)) (fun _ h9 => h9) rfl hin0 rfl (by decide +kernel) rfl rfl (Nat.le_of_ble_eq_true rfl) dX6_init_9 (fun H locs hP hD hS => ?_)
  rw [pre_set] at hP hD
  have hP : va_P D vwCl (W9 ++ [(q, .inr (4, [.ref q7, .int 0])), (q7, .inl (cI, 40, .inl (fun _ => 0)))]) H := hP
  have hD : va_D A (W9 ++ [(q, .inr (4, [.ref q7, .int 0])), (q7, .inl (cI, 40, .inl (fun _ => 0)))]) := hD
  refine lv_aload_n hx hb dX6_init_12 rfl (lv_at hl 0 rfl) ?_
  refine lv_iconst (v := 0) hx hb dX6_init_13 (by decide) ?_
  refine va_put (D := D) (ci := 4) (v := .int 0) (ty := .int) (C := RX6) (T := TX6) (N := 2) hx hb hts in_X6_init_X6 tyX6 tyX6_ok nmX6 hown hK hP hD hS (W9.length + 0) (pre_at 0 rfl) rfl 1 (by decide) (hts (.fieldLink RX6 15 "WallCount$Text" "size" "I") (List.mem_of_getElem? (i := 6) rfl)) (fun _ h9 => h9) rfl (by decide +kernel) rfl rfl (Nat.le_of_ble_eq_true rfl) dX6_init_14 (fun H locs hP hD hS => ?_)
  rw [pre_set] at hP hD
  have hP : va_P D vwCl (W9 ++ [(q, .inr (4, [.ref q7, .int 0])), (q7, .inl (cI, 40, .inl (fun _ => 0)))]) H := hP
  have hD : va_D A (W9 ++ [(q, .inr (4, [.ref q7, .int 0])), (q7, .inl (cI, 40, .inl (fun _ => 0)))]) := hD
  exact wr_vret (q7) hx hb hr hlocks rfl hP hD hS dX6_init_17

theorem hd_X4_init : yX4_init.cls ≠ "java/lang/invoke/MethodHandle" ∧ yX4_init.cls ≠ "java/lang/invoke/VarHandle" ∧ (parseMethodDescriptor yX4_init.desc).map (fun d => d.parameters.length) = some 0 := by decide +kernel
def x_X4_init_L14 : Nat → Int32 → (Nat → Int32) → (Nat → Int32)
  | 0, v1, fx => fx
  | n + 1, v1, fx => (if 36 ≤ (v1 + 1) then fx else (x_X4_init_L14 n (v1 + 3) (upd (upd fx (ix v1) 30) (ix (v1 + 1)) 10)))
def x_X4_init : Nat → Int32 := (x_X4_init_L14 (13) 0 (fun _ => 0))
def rm_X4_init : Room := { frames := 2, cells := 5, slots := 120, locals := 41 }
abbrev pq_X4_init (D : va_G) (cI cZ cR : ClassId) (A : Nat → Prop) (W9 : va_W) (q : Nat) (Rv : Nat → Int32) : Array Value → State → Outcome → State → Prop := wr_Q D (fun (v : Option Value) (_ : Nat × Nat × Nat × Nat × Nat) => v = none) (fun u => W9 ++ [(q, .inr (2, [.ref u.1, .ref u.2.1, .ref u.2.2.2.1])), (u.1, .inl (cI, 36, .inl Rv)), (u.2.1, .inr (4, [.ref u.2.2.1, .int 0])), (u.2.2.1, .inl (cI, 40, .inl (fun _ => 0))), (u.2.2.2.1, .inr (4, [.ref u.2.2.2.2, .int 0])), (u.2.2.2.2, .inl (cI, 40, .inl (fun _ => 0)))]) A
theorem in_X4_init_X4 : ∀ w ∈ wsX40, w ∈ wsX4_init := fun _ h => List.mem_cons_of_mem _ (List.mem_append_left _ (List.mem_append_right _ h))
theorem in_X4_init_X6 : ∀ w ∈ wsX60, w ∈ wsX4_init := fun _ h => List.mem_cons_of_mem _ (List.mem_append_right _ h)
set_option maxHeartbeats 4000000 in
set_option maxRecDepth 100000 in
theorem c_X4_init (l : Launch) (D : va_G) (cI cZ cR : ClassId) (A : Nat → Prop) (H0 : Heap) (W9 : va_W) (q : Nat) : Met l yX4_init wsX4_init rm_X4_init (al_P D cI cZ cR [.ref q] (W9 ++ [(q, .inr (2, [.null, .null, .null]))]) A H0) (pq_X4_init D cI cZ cR A W9 q x_X4_init) 5 120 A := by
  refine Met.ofW (cc := cX4_init) (maxL := 2) (ret := none) (by decide +kernel) rfl ?_
  intro p e s m args below meth c s₁ B hml hv
  obtain ⟨rfl, rfl, hAM, hP, hD, hA, hO⟩ := hv
  have hx := B.exec
  have hb := B.bytes
  have hr := B.returns
  have hts := atoms_spec (ws := wsX4_init) B.pre
  have hown : s.vm.findClass RX4 = some m.cls := findClass_of_methodNamed B.named
  have hlocks := B.notSynchronized
  have hin0 : meth.name = "<init>" := (name_of_methodNamed B.named B.method).1
  have hK := hAM.1
  have hS : va_S A s.heap s.heap [] := va_S.rf
  generalize hE : x_X4_init = Rv
  rw [x_X4_init] at hE
  have hl := lv_entry ([.ref q]) (n := 2) (Nat.le_of_ble_eq_true rfl)
  rw [lg_entry_eq]
  generalize (lg_sl ([.ref q]) ++ List.replicate (2 - (lg_sl ([.ref q])).length) Slot.unset).toArray = ls at hl ⊢
  have hl : lv_has ls 2 [(0, .ref q)] := hl
  refine lv_aload_n hx hb dX4_init_0 rfl (lv_at hl 0 rfl) ?_
  refine W.objInit hx hb hown (hts (.methodLink RX4 3 objectInit) (List.mem_of_getElem? (i := 1) rfl)) (hts (.instanceMethod objectInit) (List.mem_of_getElem? (i := 2) rfl)) (hts _ (List.mem_of_getElem? (i := 3) rfl)) rfl (by rw [hml]; exact hl.1) rfl dX4_init_1 (Nat.le_of_ble_eq_true rfl) (Nat.le_of_ble_eq_true rfl) ?_
  refine W.eq (g2 := F0 m 4 ls []) rfl ?_
  refine lv_aload_n hx hb dX4_init_4 rfl (lv_at hl 0 rfl) ?_
  refine lv_bipush (v := 36) hx hb dX4_init_5 (by decide +kernel) ?_
  refine va_newa (atype := .int) (ty := .int) (n := 36) (N' := 36) (a0 := (36, .inl (fun _ => 0))) hx hb (hts (.arrayClass .int) (List.mem_of_getElem? (i := 4) rfl)) rfl hK hP hD hS hA (fun _ => rfl) (by decide +kernel) (by decide +kernel) (by decide +kernel) (Nat.le_of_ble_eq_true rfl) (Nat.le_of_ble_eq_true rfl) dX4_init_7 (fun q7 cA H hK4 hP hD hS => ?_)
  rw [arr_I hK4] at hP hD
  clear hK4
  rw [List.append_assoc] at hP hD
  have hP : va_P D vwCl (W9 ++ [(q, .inr (2, [.null, .null, .null])), (q7, .inl (cI, 36, .inl (fun _ => 0)))]) H := hP
  have hD : va_D A (W9 ++ [(q, .inr (2, [.null, .null, .null])), (q7, .inl (cI, 36, .inl (fun _ => 0)))]) := hD
  refine W.cs (cells' := 1) (slots' := 36) rfl rfl ?_
  refine va_putF (D := D) (ci := 2) (v := .ref q7) (ty := .array .int) (C := RX4) (T := TX4) (N := 3) hx hb hts in_X4_init_X4 tyX4 tyX4_ok nmX4 hown hK hP hD hS (W9.length + 0) (pre_at 0 rfl) rfl 0 (by decide) (hts (.fieldLink RX4 9 "WallCount$Roll" "traits" "[I") (List.mem_of_getElem? (i := 5) rfl)) (fun _ h9 => h9) rfl hin0 rfl (by decide +kernel) rfl rfl (Nat.le_of_ble_eq_true rfl) dX4_init_9 (fun H locs hP hD hS => ?_)
  rw [pre_set] at hP hD
  have hP : va_P D vwCl (W9 ++ [(q, .inr (2, [.ref q7, .null, .null])), (q7, .inl (cI, 36, .inl (fun _ => 0)))]) H := hP
  have hD : va_D A (W9 ++ [(q, .inr (2, [.ref q7, .null, .null])), (q7, .inl (cI, 36, .inl (fun _ => 0)))]) := hD
  refine lv_iconst (v := 0) hx hb dX4_init_12 (by decide) ?_
  refine lv_istore_n (lv' := [(1, .int 0), (0, .ref q)]) hx hb dX4_init_13 rfl hl (by decide) rfl (fun ls hl => ?_)
  suffices loop : ∀ (n : Nat) (v1 : Int32) (fx : Nat → Int32) (H : Heap) (locs : List Loc), (TH n v1) → x_X4_init_L14 n v1 fx = Rv → va_P D vwCl (W9 ++ [(q, .inr (2, [.ref q7, .null, .null])), (q7, .inl (cI, 36, .inl fx))]) H → va_D A (W9 ++ [(q, .inr (2, [.ref q7, .null, .null])), (q7, .inl (cI, 36, .inl fx))]) → va_S A s.heap H locs → ∀ ls : Array Slot, lv_has ls 2 [(1, .int v1), (0, .ref q)] → W p l e (headSpec wsX4_init rm_X4_init).room s m ([.ref q] : List Value).toArray below meth c H locs 1 36 (MQ below (pq_X4_init D cI cZ cR A W9 q Rv) ([.ref q] : List Value).toArray s 5 120 A) (F0 m 14 ls []) from
    loop (13) 0 (fun _ => 0) _ _ (TH.start) hE hP hD hS ls (lv_sub hl [0, 1] rfl)
  clear hE hl ls hP hD hS
  intro n
  induction n with
  | zero =>
    intro v1 fx H locs hI _ _ _ _ _ _
    exact absurd hI (TH.zero)
  | succ n ih =>
    intro v1 fx H locs hI hE hP hD hS ls hl
    rw [x_X4_init_L14] at hE
    refine lv_iload_n hx hb dX4_init_14 rfl (lv_at hl 0 rfl) ?_
    refine lv_iconst (v := 1) hx hb dX4_init_15 (by decide) ?_
    refine lv_iadd hx hb dX4_init_16 ?_
    refine lv_aload_n hx hb dX4_init_17 rfl (lv_at hl 1 rfl) ?_
    refine va_get (D := D) (ci := 2) (v := .ref q7) (C := RX4) (T := TX4) (N := 3) hx hb hts in_X4_init_X4 hown hK hP (W9.length + 0) (pre_at 0 rfl) rfl 0 (by decide) (hts (.fieldLink RX4 9 "WallCount$Roll" "traits" "[I") (List.mem_of_getElem? (i := 5) rfl)) (fun _ h9 => h9) rfl dX4_init_18 ?_
    refine va_alen (v := 36) hx hb hK hP (W9.length + 1) 0 (pre_at 1 rfl) rfl rfl dX4_init_21 ?_
    refine lv_icmp_ge (tgt := 49) hx hb dX4_init_22 (by decide) (fun c_22 => ?_) (fun c_22 => ?_)
    · have hE := itT hE c_22
      refine lv_aload_n hx hb dX4_init_49 rfl (lv_at hl 1 rfl) ?_
      refine va_new (ci := 4) (fs := [.null, .int 0]) (C := RX6) (T := TX6) (N := 2) hx hb hts in_X4_init_X6 tyX6 tyX6_ok hown (hts (.classLink RX4 15 RX6) (List.mem_of_getElem? (i := 6) rfl)) (hts (.instantiable RX6 2) (List.mem_of_getElem? (i := 7) rfl)) (hts (.initialized RX6) (List.mem_of_getElem? (i := 8) rfl)) hK hP hD hS hA rfl (by decide +kernel) (Nat.le_of_ble_eq_true rfl) (Nat.le_of_ble_eq_true rfl) dX4_init_50 (fun q50 H hP hD hS => ?_)
      rw [List.append_assoc] at hP hD
      have hP : va_P D vwCl (W9 ++ [(q, .inr (2, [.ref q7, .null, .null])), (q7, .inl (cI, 36, .inl fx)), (q50, .inr (4, [.null, .int 0]))]) H := hP
      have hD : va_D A (W9 ++ [(q, .inr (2, [.ref q7, .null, .null])), (q7, .inl (cI, 36, .inl fx)), (q50, .inr (4, [.null, .int 0]))]) := hD
      refine W.cs (cells' := 2) (slots' := 38) rfl rfl ?_
      refine lv_dup hx hb dX4_init_53 rfl ?_
      have hP0 : va_P D vwCl ((W9 ++ [(q, .inr (2, [.ref q7, .null, .null])), (q7, .inl (cI, 36, .inl fx))]) ++ [(q50, .inr (4, [.null, .int 0]))]) H := paO (b := [(q50, .inr (4, [.null, .int 0]))]) hP
      have hD0 : va_D A ((W9 ++ [(q, .inr (2, [.ref q7, .null, .null])), (q7, .inl (cI, 36, .inl fx))]) ++ [(q50, .inr (4, [.null, .int 0]))]) := daO (b := [(q50, .inr (4, [.null, .int 0]))]) hD
      refine wr_call (va_runI (As := []) (rest := [.ref q50, .ref q]) ⟨hx, hb, hml, hown, hts⟩ (c_X6_init l D cI cZ cR A _ (W9 ++ [(q, .inr (2, [.ref q7, .null, .null])), (q7, .inl (cI, 36, .inl fx))]) q50) (cwI 0 hts gX4_init_X6_init rfl rfl rfl (hts (.initialized RX6) (List.mem_of_getElem? (i := 8) rfl)) (hts (.methodLink RX4 17 yX6_init) (List.mem_of_getElem? (i := 11) rfl)) (hts (.instanceMethod yX6_init) (List.mem_of_getElem? (i := 12) rfl)) rfl hd_X6_init ⟨(Nat.le_of_ble_eq_true rfl), (Nat.le_of_ble_eq_true rfl)⟩) (al_pre hAM hO hP0 hD0 (hA_up hA hS)) rfl rfl hl.1 rfl (lv_room (Nat.le_of_ble_eq_true rfl)) dX4_init_54 ⟨(Nat.le_of_ble_eq_true rfl), (Nat.le_of_ble_eq_true rfl)⟩) hS (fun v s_54 H locs hw hP hD _ hS => ?_)
      clear hP0 hD0
      subst hw
      have hP := paI hP
      have hD := daI hD
      have hP : va_P D vwCl (W9 ++ [(q, .inr (2, [.ref q7, .null, .null])), (q7, .inl (cI, 36, .inl fx)), (q50, .inr (4, [.ref s_54, .int 0])), (s_54, .inl (cI, 40, .inl (fun _ => 0)))]) H := hP
      have hD : va_D A (W9 ++ [(q, .inr (2, [.ref q7, .null, .null])), (q7, .inl (cI, 36, .inl fx)), (q50, .inr (4, [.ref s_54, .int 0])), (s_54, .inl (cI, 40, .inl (fun _ => 0)))]) := hD
      refine W.eq (g2 := F0 m 57 ls [.ref q50, .ref q]) rfl ?_
      refine W.cs (cells' := 3) (slots' := 78) rfl rfl ?_
      refine va_put (D := D) (ci := 2) (v := .ref q50) (ty := .object "WallCount$Text") (C := RX4) (T := TX4) (N := 3) hx hb hts in_X4_init_X4 tyX4 tyX4_ok nmX4 hown hK hP hD hS (W9.length + 0) (pre_at 0 rfl) rfl 1 (by decide) (hts (.fieldLink RX4 18 "WallCount$Roll" "whoMay" "LWallCount$Text;") (List.mem_of_getElem? (i := 9) rfl)) (fun _ h9 => h9) rfl (by decide +kernel) rfl rfl (Nat.le_of_ble_eq_true rfl) dX4_init_57 (fun H locs hP hD hS => ?_)
      rw [pre_set] at hP hD
      have hP : va_P D vwCl (W9 ++ [(q, .inr (2, [.ref q7, .ref q50, .null])), (q7, .inl (cI, 36, .inl fx)), (q50, .inr (4, [.ref s_54, .int 0])), (s_54, .inl (cI, 40, .inl (fun _ => 0)))]) H := hP
      have hD : va_D A (W9 ++ [(q, .inr (2, [.ref q7, .ref q50, .null])), (q7, .inl (cI, 36, .inl fx)), (q50, .inr (4, [.ref s_54, .int 0])), (s_54, .inl (cI, 40, .inl (fun _ => 0)))]) := hD
      refine lv_aload_n hx hb dX4_init_60 rfl (lv_at hl 1 rfl) ?_
      refine va_new (ci := 4) (fs := [.null, .int 0]) (C := RX6) (T := TX6) (N := 2) hx hb hts in_X4_init_X6 tyX6 tyX6_ok hown (hts (.classLink RX4 15 RX6) (List.mem_of_getElem? (i := 6) rfl)) (hts (.instantiable RX6 2) (List.mem_of_getElem? (i := 7) rfl)) (hts (.initialized RX6) (List.mem_of_getElem? (i := 8) rfl)) hK hP hD hS hA rfl (by decide +kernel) (Nat.le_of_ble_eq_true rfl) (Nat.le_of_ble_eq_true rfl) dX4_init_61 (fun q61 H hP hD hS => ?_)
      rw [List.append_assoc] at hP hD
      have hP : va_P D vwCl (W9 ++ [(q, .inr (2, [.ref q7, .ref q50, .null])), (q7, .inl (cI, 36, .inl fx)), (q50, .inr (4, [.ref s_54, .int 0])), (s_54, .inl (cI, 40, .inl (fun _ => 0))), (q61, .inr (4, [.null, .int 0]))]) H := hP
      have hD : va_D A (W9 ++ [(q, .inr (2, [.ref q7, .ref q50, .null])), (q7, .inl (cI, 36, .inl fx)), (q50, .inr (4, [.ref s_54, .int 0])), (s_54, .inl (cI, 40, .inl (fun _ => 0))), (q61, .inr (4, [.null, .int 0]))]) := hD
      refine W.cs (cells' := 4) (slots' := 80) rfl rfl ?_
      refine lv_dup hx hb dX4_init_64 rfl ?_
      have hP0 : va_P D vwCl ((W9 ++ [(q, .inr (2, [.ref q7, .ref q50, .null])), (q7, .inl (cI, 36, .inl fx)), (q50, .inr (4, [.ref s_54, .int 0])), (s_54, .inl (cI, 40, .inl (fun _ => 0)))]) ++ [(q61, .inr (4, [.null, .int 0]))]) H := paO (b := [(q61, .inr (4, [.null, .int 0]))]) hP
      have hD0 : va_D A ((W9 ++ [(q, .inr (2, [.ref q7, .ref q50, .null])), (q7, .inl (cI, 36, .inl fx)), (q50, .inr (4, [.ref s_54, .int 0])), (s_54, .inl (cI, 40, .inl (fun _ => 0)))]) ++ [(q61, .inr (4, [.null, .int 0]))]) := daO (b := [(q61, .inr (4, [.null, .int 0]))]) hD
      refine wr_call (va_runI (As := []) (rest := [.ref q61, .ref q]) ⟨hx, hb, hml, hown, hts⟩ (c_X6_init l D cI cZ cR A _ (W9 ++ [(q, .inr (2, [.ref q7, .ref q50, .null])), (q7, .inl (cI, 36, .inl fx)), (q50, .inr (4, [.ref s_54, .int 0])), (s_54, .inl (cI, 40, .inl (fun _ => 0)))]) q61) (cwI 0 hts gX4_init_X6_init rfl rfl rfl (hts (.initialized RX6) (List.mem_of_getElem? (i := 8) rfl)) (hts (.methodLink RX4 17 yX6_init) (List.mem_of_getElem? (i := 11) rfl)) (hts (.instanceMethod yX6_init) (List.mem_of_getElem? (i := 12) rfl)) rfl hd_X6_init ⟨(Nat.le_of_ble_eq_true rfl), (Nat.le_of_ble_eq_true rfl)⟩) (al_pre hAM hO hP0 hD0 (hA_up hA hS)) rfl rfl hl.1 rfl (lv_room (Nat.le_of_ble_eq_true rfl)) dX4_init_65 ⟨(Nat.le_of_ble_eq_true rfl), (Nat.le_of_ble_eq_true rfl)⟩) hS (fun v s_65 H locs hw hP hD _ hS => ?_)
      clear hP0 hD0
      subst hw
      have hP := paI hP
      have hD := daI hD
      have hP : va_P D vwCl (W9 ++ [(q, .inr (2, [.ref q7, .ref q50, .null])), (q7, .inl (cI, 36, .inl fx)), (q50, .inr (4, [.ref s_54, .int 0])), (s_54, .inl (cI, 40, .inl (fun _ => 0))), (q61, .inr (4, [.ref s_65, .int 0])), (s_65, .inl (cI, 40, .inl (fun _ => 0)))]) H := hP
      have hD : va_D A (W9 ++ [(q, .inr (2, [.ref q7, .ref q50, .null])), (q7, .inl (cI, 36, .inl fx)), (q50, .inr (4, [.ref s_54, .int 0])), (s_54, .inl (cI, 40, .inl (fun _ => 0))), (q61, .inr (4, [.ref s_65, .int 0])), (s_65, .inl (cI, 40, .inl (fun _ => 0)))]) := hD
      refine W.eq (g2 := F0 m 68 ls [.ref q61, .ref q]) rfl ?_
      refine W.cs (cells' := 5) (slots' := 120) rfl rfl ?_
      refine va_put (D := D) (ci := 2) (v := .ref q61) (ty := .object "WallCount$Text") (C := RX4) (T := TX4) (N := 3) hx hb hts in_X4_init_X4 tyX4 tyX4_ok nmX4 hown hK hP hD hS (W9.length + 0) (pre_at 0 rfl) rfl 2 (by decide) (hts (.fieldLink RX4 22 "WallCount$Roll" "draft" "LWallCount$Text;") (List.mem_of_getElem? (i := 10) rfl)) (fun _ h9 => h9) rfl (by decide +kernel) rfl rfl (Nat.le_of_ble_eq_true rfl) dX4_init_68 (fun H locs hP hD hS => ?_)
      rw [pre_set] at hP hD
      have hP : va_P D vwCl (W9 ++ [(q, .inr (2, [.ref q7, .ref q50, .ref q61])), (q7, .inl (cI, 36, .inl fx)), (q50, .inr (4, [.ref s_54, .int 0])), (s_54, .inl (cI, 40, .inl (fun _ => 0))), (q61, .inr (4, [.ref s_65, .int 0])), (s_65, .inl (cI, 40, .inl (fun _ => 0)))]) H := hP
      have hD : va_D A (W9 ++ [(q, .inr (2, [.ref q7, .ref q50, .ref q61])), (q7, .inl (cI, 36, .inl fx)), (q50, .inr (4, [.ref s_54, .int 0])), (s_54, .inl (cI, 40, .inl (fun _ => 0))), (q61, .inr (4, [.ref s_65, .int 0])), (s_65, .inl (cI, 40, .inl (fun _ => 0)))]) := hD
      subst hE
      exact wr_vret (q7, q50, s_54, q61, s_65) hx hb hr hlocks rfl hP hD hS dX4_init_71
    · have hE := itF hE c_22
      refine lv_aload_n hx hb dX4_init_25 rfl (lv_at hl 1 rfl) ?_
      refine va_get (D := D) (ci := 2) (v := .ref q7) (C := RX4) (T := TX4) (N := 3) hx hb hts in_X4_init_X4 hown hK hP (W9.length + 0) (pre_at 0 rfl) rfl 0 (by decide) (hts (.fieldLink RX4 9 "WallCount$Roll" "traits" "[I") (List.mem_of_getElem? (i := 5) rfl)) (fun _ h9 => h9) rfl dX4_init_26 ?_
      refine lv_iload_n hx hb dX4_init_29 rfl (lv_at hl 0 rfl) ?_
      refine lv_bipush (v := 30) hx hb dX4_init_30 (by decide +kernel) ?_
      refine va_iast hx hb hK hP hD hS (W9.length + 1) 0 (pre_at 1 rfl) rfl (hI.step c_22).2.1 dX4_init_32 (fun H locs hP hD hS => ?_)
      rw [pre_set] at hP hD
      have hP : va_P D vwCl (W9 ++ [(q, .inr (2, [.ref q7, .null, .null])), (q7, .inl (cI, 36, .inl (upd fx (ix v1) 30)))]) H := hP
      have hD : va_D A (W9 ++ [(q, .inr (2, [.ref q7, .null, .null])), (q7, .inl (cI, 36, .inl (upd fx (ix v1) 30)))]) := hD
      refine lv_aload_n hx hb dX4_init_33 rfl (lv_at hl 1 rfl) ?_
      refine va_get (D := D) (ci := 2) (v := .ref q7) (C := RX4) (T := TX4) (N := 3) hx hb hts in_X4_init_X4 hown hK hP (W9.length + 0) (pre_at 0 rfl) rfl 0 (by decide) (hts (.fieldLink RX4 9 "WallCount$Roll" "traits" "[I") (List.mem_of_getElem? (i := 5) rfl)) (fun _ h9 => h9) rfl dX4_init_34 ?_
      refine lv_iload_n hx hb dX4_init_37 rfl (lv_at hl 0 rfl) ?_
      refine lv_iconst (v := 1) hx hb dX4_init_38 (by decide) ?_
      refine lv_iadd hx hb dX4_init_39 ?_
      refine lv_bipush (v := 10) hx hb dX4_init_40 (by decide +kernel) ?_
      refine va_iast hx hb hK hP hD hS (W9.length + 1) 0 (pre_at 1 rfl) rfl (hI.step c_22).2.2 dX4_init_42 (fun H locs hP hD hS => ?_)
      rw [pre_set] at hP hD
      have hP : va_P D vwCl (W9 ++ [(q, .inr (2, [.ref q7, .null, .null])), (q7, .inl (cI, 36, .inl (upd (upd fx (ix v1) 30) (ix (v1 + 1)) 10)))]) H := hP
      have hD : va_D A (W9 ++ [(q, .inr (2, [.ref q7, .null, .null])), (q7, .inl (cI, 36, .inl (upd (upd fx (ix v1) 30) (ix (v1 + 1)) 10)))]) := hD
      refine lv_iinc (v := (v1 + 3)) (lv' := [(1, .int (v1 + 3)), (0, .ref q)]) hx hb dX4_init_43 hl (k := 0) rfl rfl (by decide) rfl (fun ls hl => ?_)
      refine lv_goto (tgt := 14) hx hb dX4_init_46 (by decide) ?_
      exact ih (v1 + 3) (upd (upd fx (ix v1) 30) (ix (v1 + 1)) 10) _ _ ((hI.step c_22).1) hE hP hD hS ls (lv_sub hl [0, 1] rfl)

theorem hd_X7_init : yX7_init.cls ≠ "java/lang/invoke/MethodHandle" ∧ yX7_init.cls ≠ "java/lang/invoke/VarHandle" ∧ (parseMethodDescriptor yX7_init.desc).map (fun d => d.parameters.length) = some 0 := by decide +kernel
def rm_X7_init : Room := { frames := 1, cells := 2, slots := 60, locals := 21 }
abbrev pq_X7_init (D : va_G) (cI cZ cR : ClassId) (A : Nat → Prop) (W9 : va_W) (q : Nat) (Rv : Unit) : Array Value → State → Outcome → State → Prop := wr_Q D (fun (v : Option Value) (_ : Nat × Nat) => v = none) (fun u => W9 ++ [(q, .inr (5, [.ref u.1, .ref u.2, .int 0, .int 0, .int 100])), (u.1, .inl (cR, 30, .inr (.inr (.inr (.inr (fun _ => none)))))), (u.2, .inl (cI, 30, .inl (fun _ => 0)))]) A
theorem in_X7_init_X7 : ∀ w ∈ wsX70, w ∈ wsX7_init := fun _ h => List.mem_cons_of_mem _ (List.mem_append_right _ h)
set_option maxHeartbeats 4000000 in
set_option maxRecDepth 100000 in
theorem c_X7_init (l : Launch) (D : va_G) (cI cZ cR : ClassId) (A : Nat → Prop) (H0 : Heap) (W9 : va_W) (q : Nat) : Met l yX7_init wsX7_init rm_X7_init (al_P D cI cZ cR [.ref q] (W9 ++ [(q, .inr (5, [.null, .null, .int 0, .int 0, .int 0]))]) A H0) (pq_X7_init D cI cZ cR A W9 q ()) 2 60 A := by
  refine Met.ofW (cc := cX7_init) (maxL := 1) (ret := none) (by decide +kernel) rfl ?_
  intro p e s m args below meth c s₁ B hml hv
  obtain ⟨rfl, rfl, hAM, hP, hD, hA, hO⟩ := hv
  have hx := B.exec
  have hb := B.bytes
  have hr := B.returns
  have hts := atoms_spec (ws := wsX7_init) B.pre
  have hown : s.vm.findClass RX7 = some m.cls := findClass_of_methodNamed B.named
  have hlocks := B.notSynchronized
  have hin0 : meth.name = "<init>" := (name_of_methodNamed B.named B.method).1
  have hK := hAM.1
  have hS : va_S A s.heap s.heap [] := va_S.rf
  have hl := lv_entry ([.ref q]) (n := 1) (Nat.le_of_ble_eq_true rfl)
  rw [lg_entry_eq]
  generalize (lg_sl ([.ref q]) ++ List.replicate (1 - (lg_sl ([.ref q])).length) Slot.unset).toArray = ls at hl ⊢
  have hl : lv_has ls 1 [(0, .ref q)] := hl
  refine lv_aload_n hx hb dX7_init_0 rfl (lv_at hl 0 rfl) ?_
  refine W.objInit hx hb hown (hts (.methodLink RX7 3 objectInit) (List.mem_of_getElem? (i := 1) rfl)) (hts (.instanceMethod objectInit) (List.mem_of_getElem? (i := 2) rfl)) (hts _ (List.mem_of_getElem? (i := 3) rfl)) rfl (by rw [hml]; exact hl.1) rfl dX7_init_1 (Nat.le_of_ble_eq_true rfl) (Nat.le_of_ble_eq_true rfl) ?_
  refine W.eq (g2 := F0 m 4 ls []) rfl ?_
  refine lv_aload_n hx hb dX7_init_4 rfl (lv_at hl 0 rfl) ?_
  refine lv_bipush (v := 30) hx hb dX7_init_5 (by decide +kernel) ?_
  refine va_newq (C := RX5) (n := 30) (N' := 30) hx hb hown (hts (.classLink RX7 9 RX5) (List.mem_of_getElem? (i := 4) rfl)) hO hK hP hD hS hA (by decide +kernel) (by decide +kernel) (by decide +kernel) (Nat.le_of_ble_eq_true rfl) (Nat.le_of_ble_eq_true rfl) dX7_init_7 (fun q7 cA H hK4 hP hD hS => ?_)
  rw [arr_R hK4] at hP hD
  clear hK4
  rw [List.append_assoc] at hP hD
  have hP : va_P D vwCl (W9 ++ [(q, .inr (5, [.null, .null, .int 0, .int 0, .int 0])), (q7, .inl (cR, 30, .inr (.inr (.inr (.inr (fun _ => none))))))]) H := hP
  have hD : va_D A (W9 ++ [(q, .inr (5, [.null, .null, .int 0, .int 0, .int 0])), (q7, .inl (cR, 30, .inr (.inr (.inr (.inr (fun _ => none))))))]) := hD
  refine W.cs (cells' := 1) (slots' := 30) rfl rfl ?_
  refine va_putF (D := D) (ci := 5) (v := .ref q7) (ty := .array (.object "WallCount$Row")) (C := RX7) (T := TX7) (N := 5) hx hb hts in_X7_init_X7 tyX7 tyX7_ok nmX7 hown hK hP hD hS (W9.length + 0) (pre_at 0 rfl) rfl 0 (by decide) (hts (.fieldLink RX7 11 "WallCount$Wall" "rows" "[LWallCount$Row;") (List.mem_of_getElem? (i := 5) rfl)) (fun _ h9 => h9) rfl hin0 rfl (by decide +kernel) rfl rfl (Nat.le_of_ble_eq_true rfl) dX7_init_10 (fun H locs hP hD hS => ?_)
  rw [pre_set] at hP hD
  have hP : va_P D vwCl (W9 ++ [(q, .inr (5, [.ref q7, .null, .int 0, .int 0, .int 0])), (q7, .inl (cR, 30, .inr (.inr (.inr (.inr (fun _ => none))))))]) H := hP
  have hD : va_D A (W9 ++ [(q, .inr (5, [.ref q7, .null, .int 0, .int 0, .int 0])), (q7, .inl (cR, 30, .inr (.inr (.inr (.inr (fun _ => none))))))]) := hD
  refine lv_aload_n hx hb dX7_init_13 rfl (lv_at hl 0 rfl) ?_
  refine lv_bipush (v := 30) hx hb dX7_init_14 (by decide +kernel) ?_
  refine va_newa (atype := .int) (ty := .int) (n := 30) (N' := 30) (a0 := (30, .inl (fun _ => 0))) hx hb (hts (.arrayClass .int) (List.mem_of_getElem? (i := 6) rfl)) rfl hK hP hD hS hA (fun _ => rfl) (by decide +kernel) (by decide +kernel) (by decide +kernel) (Nat.le_of_ble_eq_true rfl) (Nat.le_of_ble_eq_true rfl) dX7_init_16 (fun q16 cA H hK4 hP hD hS => ?_)
  rw [arr_I hK4] at hP hD
  clear hK4
  rw [List.append_assoc] at hP hD
  have hP : va_P D vwCl (W9 ++ [(q, .inr (5, [.ref q7, .null, .int 0, .int 0, .int 0])), (q7, .inl (cR, 30, .inr (.inr (.inr (.inr (fun _ => none)))))), (q16, .inl (cI, 30, .inl (fun _ => 0)))]) H := hP
  have hD : va_D A (W9 ++ [(q, .inr (5, [.ref q7, .null, .int 0, .int 0, .int 0])), (q7, .inl (cR, 30, .inr (.inr (.inr (.inr (fun _ => none)))))), (q16, .inl (cI, 30, .inl (fun _ => 0)))]) := hD
  refine W.cs (cells' := 2) (slots' := 60) rfl rfl ?_
  refine va_putF (D := D) (ci := 5) (v := .ref q16) (ty := .array .int) (C := RX7) (T := TX7) (N := 5) hx hb hts in_X7_init_X7 tyX7 tyX7_ok nmX7 hown hK hP hD hS (W9.length + 0) (pre_at 0 rfl) rfl 1 (by decide) (hts (.fieldLink RX7 17 "WallCount$Wall" "copied" "[I") (List.mem_of_getElem? (i := 7) rfl)) (fun _ h9 => h9) rfl hin0 rfl (by decide +kernel) rfl rfl (Nat.le_of_ble_eq_true rfl) dX7_init_18 (fun H locs hP hD hS => ?_)
  rw [pre_set] at hP hD
  have hP : va_P D vwCl (W9 ++ [(q, .inr (5, [.ref q7, .ref q16, .int 0, .int 0, .int 0])), (q7, .inl (cR, 30, .inr (.inr (.inr (.inr (fun _ => none)))))), (q16, .inl (cI, 30, .inl (fun _ => 0)))]) H := hP
  have hD : va_D A (W9 ++ [(q, .inr (5, [.ref q7, .ref q16, .int 0, .int 0, .int 0])), (q7, .inl (cR, 30, .inr (.inr (.inr (.inr (fun _ => none)))))), (q16, .inl (cI, 30, .inl (fun _ => 0)))]) := hD
  refine lv_aload_n hx hb dX7_init_21 rfl (lv_at hl 0 rfl) ?_
  refine lv_iconst (v := 0) hx hb dX7_init_22 (by decide) ?_
  refine va_put (D := D) (ci := 5) (v := .int 0) (ty := .int) (C := RX7) (T := TX7) (N := 5) hx hb hts in_X7_init_X7 tyX7 tyX7_ok nmX7 hown hK hP hD hS (W9.length + 0) (pre_at 0 rfl) rfl 2 (by decide) (hts (.fieldLink RX7 21 "WallCount$Wall" "size" "I") (List.mem_of_getElem? (i := 8) rfl)) (fun _ h9 => h9) rfl (by decide +kernel) rfl rfl (Nat.le_of_ble_eq_true rfl) dX7_init_23 (fun H locs hP hD hS => ?_)
  rw [pre_set] at hP hD
  have hP : va_P D vwCl (W9 ++ [(q, .inr (5, [.ref q7, .ref q16, .int 0, .int 0, .int 0])), (q7, .inl (cR, 30, .inr (.inr (.inr (.inr (fun _ => none)))))), (q16, .inl (cI, 30, .inl (fun _ => 0)))]) H := hP
  have hD : va_D A (W9 ++ [(q, .inr (5, [.ref q7, .ref q16, .int 0, .int 0, .int 0])), (q7, .inl (cR, 30, .inr (.inr (.inr (.inr (fun _ => none)))))), (q16, .inl (cI, 30, .inl (fun _ => 0)))]) := hD
  refine lv_aload_n hx hb dX7_init_26 rfl (lv_at hl 0 rfl) ?_
  refine lv_iconst (v := 0) hx hb dX7_init_27 (by decide) ?_
  refine va_put (D := D) (ci := 5) (v := .int 0) (ty := .int) (C := RX7) (T := TX7) (N := 5) hx hb hts in_X7_init_X7 tyX7 tyX7_ok nmX7 hown hK hP hD hS (W9.length + 0) (pre_at 0 rfl) rfl 3 (by decide) (hts (.fieldLink RX7 25 "WallCount$Wall" "copiedSize" "I") (List.mem_of_getElem? (i := 9) rfl)) (fun _ h9 => h9) rfl (by decide +kernel) rfl rfl (Nat.le_of_ble_eq_true rfl) dX7_init_28 (fun H locs hP hD hS => ?_)
  rw [pre_set] at hP hD
  have hP : va_P D vwCl (W9 ++ [(q, .inr (5, [.ref q7, .ref q16, .int 0, .int 0, .int 0])), (q7, .inl (cR, 30, .inr (.inr (.inr (.inr (fun _ => none)))))), (q16, .inl (cI, 30, .inl (fun _ => 0)))]) H := hP
  have hD : va_D A (W9 ++ [(q, .inr (5, [.ref q7, .ref q16, .int 0, .int 0, .int 0])), (q7, .inl (cR, 30, .inr (.inr (.inr (.inr (fun _ => none)))))), (q16, .inl (cI, 30, .inl (fun _ => 0)))]) := hD
  refine lv_aload_n hx hb dX7_init_31 rfl (lv_at hl 0 rfl) ?_
  refine lv_bipush (v := 100) hx hb dX7_init_32 (by decide +kernel) ?_
  refine va_put (D := D) (ci := 5) (v := .int 100) (ty := .int) (C := RX7) (T := TX7) (N := 5) hx hb hts in_X7_init_X7 tyX7 tyX7_ok nmX7 hown hK hP hD hS (W9.length + 0) (pre_at 0 rfl) rfl 4 (by decide) (hts (.fieldLink RX7 28 "WallCount$Wall" "closeHour" "I") (List.mem_of_getElem? (i := 10) rfl)) (fun _ h9 => h9) rfl (by decide +kernel) rfl rfl (Nat.le_of_ble_eq_true rfl) dX7_init_34 (fun H locs hP hD hS => ?_)
  rw [pre_set] at hP hD
  have hP : va_P D vwCl (W9 ++ [(q, .inr (5, [.ref q7, .ref q16, .int 0, .int 0, .int 100])), (q7, .inl (cR, 30, .inr (.inr (.inr (.inr (fun _ => none)))))), (q16, .inl (cI, 30, .inl (fun _ => 0)))]) H := hP
  have hD : va_D A (W9 ++ [(q, .inr (5, [.ref q7, .ref q16, .int 0, .int 0, .int 100])), (q7, .inl (cR, 30, .inr (.inr (.inr (.inr (fun _ => none)))))), (q16, .inl (cI, 30, .inl (fun _ => 0)))]) := hD
  exact wr_vret (q7, q16) hx hb hr hlocks rfl hP hD hS dX7_init_37

theorem hd_X8_init : yX8_init.cls ≠ "java/lang/invoke/MethodHandle" ∧ yX8_init.cls ≠ "java/lang/invoke/VarHandle" ∧ (parseMethodDescriptor yX8_init.desc).map (fun d => d.parameters.length) = some 0 := by decide +kernel
def rm_X8_init : Room := { frames := 3, cells := 11, slots := 197, locals := 62 }
abbrev pq_X8_init (D : va_G) (cI cZ cR : ClassId) (A : Nat → Prop) (W9 : va_W) (q : Nat) (Rv : Unit) : Array Value → State → Outcome → State → Prop := wr_Q D (fun (v : Option Value) (_ : Nat × Nat × Nat × Nat × Nat × Nat × Nat × Nat × Nat × Nat × Nat) => v = none) (fun u => W9 ++ [(q, .inr (6, [.ref u.1, .ref u.2.1, .ref u.2.2.1, .ref u.2.2.2.2.2.2.2.2.1])), (u.1, .inr (0, [.int 1, .int 1, .int 0, .int 0, .int 4])), (u.2.1, .inr (1, [.int 0, .int 0, .int 0, .int 0])), (u.2.2.1, .inr (2, [.ref u.2.2.2.1, .ref u.2.2.2.2.1, .ref u.2.2.2.2.2.2.1])), (u.2.2.2.1, .inl (cI, 36, .inl x_X4_init)), (u.2.2.2.2.1, .inr (4, [.ref u.2.2.2.2.2.1, .int 0])), (u.2.2.2.2.2.1, .inl (cI, 40, .inl (fun _ => 0))), (u.2.2.2.2.2.2.1, .inr (4, [.ref u.2.2.2.2.2.2.2.1, .int 0])), (u.2.2.2.2.2.2.2.1, .inl (cI, 40, .inl (fun _ => 0))), (u.2.2.2.2.2.2.2.2.1, .inr (5, [.ref u.2.2.2.2.2.2.2.2.2.1, .ref u.2.2.2.2.2.2.2.2.2.2, .int 0, .int 0, .int 100])), (u.2.2.2.2.2.2.2.2.2.1, .inl (cR, 30, .inr (.inr (.inr (.inr (fun _ => none)))))), (u.2.2.2.2.2.2.2.2.2.2, .inl (cI, 30, .inl (fun _ => 0)))]) A
theorem in_X8_init_X0 : ∀ w ∈ wsX00, w ∈ wsX8_init := fun _ h => List.mem_cons_of_mem _ (List.mem_append_left _ (List.mem_append_left _ (List.mem_append_left _ (List.mem_append_left _ (List.mem_append_left _ (List.mem_append_right _ h))))))
theorem in_X8_init_X3 : ∀ w ∈ wsX30, w ∈ wsX8_init := fun _ h => List.mem_cons_of_mem _ (List.mem_append_left _ (List.mem_append_left _ (List.mem_append_left _ (List.mem_append_right _ h))))
theorem in_X8_init_X4 : ∀ w ∈ wsX40, w ∈ wsX8_init := fun _ h => List.mem_cons_of_mem _ (List.mem_append_left _ (List.mem_append_left _ (List.mem_append_right _ h)))
theorem in_X8_init_X6 : ∀ w ∈ wsX60, w ∈ wsX8_init := fun _ h => List.mem_cons_of_mem _ (List.mem_append_right _ h)
theorem in_X8_init_X7 : ∀ w ∈ wsX70, w ∈ wsX8_init := fun _ h => List.mem_cons_of_mem _ (List.mem_append_left _ (List.mem_append_right _ h))
theorem in_X8_init_X8 : ∀ w ∈ wsX80, w ∈ wsX8_init := fun _ h => List.mem_cons_of_mem _ (List.mem_append_left _ (List.mem_append_left _ (List.mem_append_left _ (List.mem_append_left _ (List.mem_append_right _ h)))))
set_option maxHeartbeats 4000000 in
set_option maxRecDepth 100000 in
theorem c_X8_init (l : Launch) (D : va_G) (cI cZ cR : ClassId) (A : Nat → Prop) (H0 : Heap) (W9 : va_W) (q : Nat) : Met l yX8_init wsX8_init rm_X8_init (al_P D cI cZ cR [.ref q] (W9 ++ [(q, .inr (6, [.null, .null, .null, .null]))]) A H0) (pq_X8_init D cI cZ cR A W9 q ()) 11 197 A := by
  refine Met.ofW (cc := cX8_init) (maxL := 1) (ret := none) (by decide +kernel) rfl ?_
  intro p e s m args below meth c s₁ B hml hv
  obtain ⟨rfl, rfl, hAM, hP, hD, hA, hO⟩ := hv
  have hx := B.exec
  have hb := B.bytes
  have hr := B.returns
  have hts := atoms_spec (ws := wsX8_init) B.pre
  have hown : s.vm.findClass RX8 = some m.cls := findClass_of_methodNamed B.named
  have hlocks := B.notSynchronized
  have hin0 : meth.name = "<init>" := (name_of_methodNamed B.named B.method).1
  have hK := hAM.1
  have hS : va_S A s.heap s.heap [] := va_S.rf
  have hl := lv_entry ([.ref q]) (n := 1) (Nat.le_of_ble_eq_true rfl)
  rw [lg_entry_eq]
  generalize (lg_sl ([.ref q]) ++ List.replicate (1 - (lg_sl ([.ref q])).length) Slot.unset).toArray = ls at hl ⊢
  have hl : lv_has ls 1 [(0, .ref q)] := hl
  refine lv_aload_n hx hb dX8_init_0 rfl (lv_at hl 0 rfl) ?_
  refine W.objInit hx hb hown (hts (.methodLink RX8 1 objectInit) (List.mem_of_getElem? (i := 1) rfl)) (hts (.instanceMethod objectInit) (List.mem_of_getElem? (i := 2) rfl)) (hts _ (List.mem_of_getElem? (i := 3) rfl)) rfl (by rw [hml]; exact hl.1) rfl dX8_init_1 (Nat.le_of_ble_eq_true rfl) (Nat.le_of_ble_eq_true rfl) ?_
  refine W.eq (g2 := F0 m 4 ls []) rfl ?_
  refine lv_aload_n hx hb dX8_init_4 rfl (lv_at hl 0 rfl) ?_
  refine va_new (ci := 0) (fs := [.int 0, .int 0, .int 0, .int 0, .int 0]) (C := RX0) (T := TX0) (N := 5) hx hb hts in_X8_init_X0 tyX0 tyX0_ok hown (hts (.classLink RX8 7 RX0) (List.mem_of_getElem? (i := 4) rfl)) (hts (.instantiable RX0 5) (List.mem_of_getElem? (i := 5) rfl)) (hts (.initialized RX0) (List.mem_of_getElem? (i := 6) rfl)) hK hP hD hS hA rfl (by decide +kernel) (Nat.le_of_ble_eq_true rfl) (Nat.le_of_ble_eq_true rfl) dX8_init_5 (fun q5 H hP hD hS => ?_)
  rw [List.append_assoc] at hP hD
  have hP : va_P D vwCl (W9 ++ [(q, .inr (6, [.null, .null, .null, .null])), (q5, .inr (0, [.int 0, .int 0, .int 0, .int 0, .int 0]))]) H := hP
  have hD : va_D A (W9 ++ [(q, .inr (6, [.null, .null, .null, .null])), (q5, .inr (0, [.int 0, .int 0, .int 0, .int 0, .int 0]))]) := hD
  refine W.cs (cells' := 1) (slots' := 5) rfl rfl ?_
  refine lv_dup hx hb dX8_init_8 rfl ?_
  have hP0 : va_P D vwCl ((W9 ++ [(q, .inr (6, [.null, .null, .null, .null]))]) ++ [(q5, .inr (0, [.int 0, .int 0, .int 0, .int 0, .int 0]))]) H := paO (b := [(q5, .inr (0, [.int 0, .int 0, .int 0, .int 0, .int 0]))]) hP
  have hD0 : va_D A ((W9 ++ [(q, .inr (6, [.null, .null, .null, .null]))]) ++ [(q5, .inr (0, [.int 0, .int 0, .int 0, .int 0, .int 0]))]) := daO (b := [(q5, .inr (0, [.int 0, .int 0, .int 0, .int 0, .int 0]))]) hD
  refine wr_call (va_runI (As := []) (rest := [.ref q5, .ref q]) ⟨hx, hb, hml, hown, hts⟩ (c_X0_init l D cI cZ cR A _ (W9 ++ [(q, .inr (6, [.null, .null, .null, .null]))]) q5) (cwI 0 hts gX8_init_X0_init rfl rfl rfl (hts (.initialized RX0) (List.mem_of_getElem? (i := 6) rfl)) (hts (.methodLink RX8 9 yX0_init) (List.mem_of_getElem? (i := 20) rfl)) (hts (.instanceMethod yX0_init) (List.mem_of_getElem? (i := 21) rfl)) rfl hd_X0_init ⟨(Nat.le_of_ble_eq_true rfl), (Nat.le_of_ble_eq_true rfl)⟩) (al_pre hAM hO hP0 hD0 (hA_up hA hS)) rfl rfl hl.1 rfl (lv_room (Nat.le_of_ble_eq_true rfl)) dX8_init_9 ⟨(Nat.le_of_ble_eq_true rfl), (Nat.le_of_ble_eq_true rfl)⟩) hS (fun v u H locs hw hP hD _ hS => ?_)
  clear hP0 hD0
  subst hw
  have hP := paI hP
  have hD := daI hD
  have hP : va_P D vwCl (W9 ++ [(q, .inr (6, [.null, .null, .null, .null])), (q5, .inr (0, [.int 1, .int 1, .int 0, .int 0, .int 4]))]) H := hP
  have hD : va_D A (W9 ++ [(q, .inr (6, [.null, .null, .null, .null])), (q5, .inr (0, [.int 1, .int 1, .int 0, .int 0, .int 4]))]) := hD
  refine W.eq (g2 := F0 m 12 ls [.ref q5, .ref q]) rfl ?_
  refine W.cs (cells' := 1) (slots' := 5) rfl rfl ?_
  refine va_putF (D := D) (ci := 6) (v := .ref q5) (ty := .object "WallCount$Key") (C := RX8) (T := TX8) (N := 4) hx hb hts in_X8_init_X8 tyX8 tyX8_ok nmX8 hown hK hP hD hS (W9.length + 0) (pre_at 0 rfl) rfl 0 (by decide) (hts (.fieldLink RX8 10 "WallCount" "secret" "LWallCount$Key;") (List.mem_of_getElem? (i := 7) rfl)) (fun _ h9 => h9) rfl hin0 rfl (by decide +kernel) rfl rfl (Nat.le_of_ble_eq_true rfl) dX8_init_12 (fun H locs hP hD hS => ?_)
  rw [pre_set] at hP hD
  have hP : va_P D vwCl (W9 ++ [(q, .inr (6, [.ref q5, .null, .null, .null])), (q5, .inr (0, [.int 1, .int 1, .int 0, .int 0, .int 4]))]) H := hP
  have hD : va_D A (W9 ++ [(q, .inr (6, [.ref q5, .null, .null, .null])), (q5, .inr (0, [.int 1, .int 1, .int 0, .int 0, .int 4]))]) := hD
  refine lv_aload_n hx hb dX8_init_15 rfl (lv_at hl 0 rfl) ?_
  refine va_new (ci := 1) (fs := [.int 0, .int 0, .int 0, .int 0]) (C := RX3) (T := TX3) (N := 4) hx hb hts in_X8_init_X3 tyX3 tyX3_ok hown (hts (.classLink RX8 16 RX3) (List.mem_of_getElem? (i := 8) rfl)) (hts (.instantiable RX3 4) (List.mem_of_getElem? (i := 9) rfl)) (hts (.initialized RX3) (List.mem_of_getElem? (i := 10) rfl)) hK hP hD hS hA rfl (by decide +kernel) (Nat.le_of_ble_eq_true rfl) (Nat.le_of_ble_eq_true rfl) dX8_init_16 (fun q16 H hP hD hS => ?_)
  rw [List.append_assoc] at hP hD
  have hP : va_P D vwCl (W9 ++ [(q, .inr (6, [.ref q5, .null, .null, .null])), (q5, .inr (0, [.int 1, .int 1, .int 0, .int 0, .int 4])), (q16, .inr (1, [.int 0, .int 0, .int 0, .int 0]))]) H := hP
  have hD : va_D A (W9 ++ [(q, .inr (6, [.ref q5, .null, .null, .null])), (q5, .inr (0, [.int 1, .int 1, .int 0, .int 0, .int 4])), (q16, .inr (1, [.int 0, .int 0, .int 0, .int 0]))]) := hD
  refine W.cs (cells' := 2) (slots' := 9) rfl rfl ?_
  refine lv_dup hx hb dX8_init_19 rfl ?_
  have hP0 : va_P D vwCl ((W9 ++ [(q, .inr (6, [.ref q5, .null, .null, .null])), (q5, .inr (0, [.int 1, .int 1, .int 0, .int 0, .int 4]))]) ++ [(q16, .inr (1, [.int 0, .int 0, .int 0, .int 0]))]) H := paO (b := [(q16, .inr (1, [.int 0, .int 0, .int 0, .int 0]))]) hP
  have hD0 : va_D A ((W9 ++ [(q, .inr (6, [.ref q5, .null, .null, .null])), (q5, .inr (0, [.int 1, .int 1, .int 0, .int 0, .int 4]))]) ++ [(q16, .inr (1, [.int 0, .int 0, .int 0, .int 0]))]) := daO (b := [(q16, .inr (1, [.int 0, .int 0, .int 0, .int 0]))]) hD
  refine wr_call (va_runIN (As := []) (rest := [.ref q16, .ref q]) ⟨hx, hb, hml, hown, hts⟩ (c_X3_init l D cI cZ cR A _ (W9 ++ [(q, .inr (6, [.ref q5, .null, .null, .null])), (q5, .inr (0, [.int 1, .int 1, .int 0, .int 0, .int 4]))]) q16) ⟨va_cnB 0 hts gX8_init_X3_init_n18 rfl rfl rfl hAM.2.1 (hts (.initialized RX3) (List.mem_of_getElem? (i := 10) rfl)) hd_X3_init ⟨(Nat.le_of_ble_eq_true rfl), (Nat.le_of_ble_eq_true rfl)⟩, rfl, (hts (.instanceMethod yX3_init) (List.mem_of_getElem? (i := 29) rfl))⟩ (al_pre hAM hO hP0 hD0 (hA_up hA hS)) rfl rfl hl.1 rfl (lv_room (Nat.le_of_ble_eq_true rfl)) dX8_init_20 ⟨(Nat.le_of_ble_eq_true rfl), (Nat.le_of_ble_eq_true rfl)⟩) hS (fun v u H locs hw hP hD _ hS => ?_)
  clear hP0 hD0
  subst hw
  have hP := paI hP
  have hD := daI hD
  have hP : va_P D vwCl (W9 ++ [(q, .inr (6, [.ref q5, .null, .null, .null])), (q5, .inr (0, [.int 1, .int 1, .int 0, .int 0, .int 4])), (q16, .inr (1, [.int 0, .int 0, .int 0, .int 0]))]) H := hP
  have hD : va_D A (W9 ++ [(q, .inr (6, [.ref q5, .null, .null, .null])), (q5, .inr (0, [.int 1, .int 1, .int 0, .int 0, .int 4])), (q16, .inr (1, [.int 0, .int 0, .int 0, .int 0]))]) := hD
  refine W.eq (g2 := F0 m 23 ls [.ref q16, .ref q]) rfl ?_
  refine W.cs (cells' := 2) (slots' := 9) rfl rfl ?_
  refine va_putF (D := D) (ci := 6) (v := .ref q16) (ty := .object "WallCount$Proof") (C := RX8) (T := TX8) (N := 4) hx hb hts in_X8_init_X8 tyX8 tyX8_ok nmX8 hown hK hP hD hS (W9.length + 0) (pre_at 0 rfl) rfl 1 (by decide) (hts (.fieldLink RX8 19 "WallCount" "proof" "LWallCount$Proof;") (List.mem_of_getElem? (i := 11) rfl)) (fun _ h9 => h9) rfl hin0 rfl (by decide +kernel) rfl rfl (Nat.le_of_ble_eq_true rfl) dX8_init_23 (fun H locs hP hD hS => ?_)
  rw [pre_set] at hP hD
  have hP : va_P D vwCl (W9 ++ [(q, .inr (6, [.ref q5, .ref q16, .null, .null])), (q5, .inr (0, [.int 1, .int 1, .int 0, .int 0, .int 4])), (q16, .inr (1, [.int 0, .int 0, .int 0, .int 0]))]) H := hP
  have hD : va_D A (W9 ++ [(q, .inr (6, [.ref q5, .ref q16, .null, .null])), (q5, .inr (0, [.int 1, .int 1, .int 0, .int 0, .int 4])), (q16, .inr (1, [.int 0, .int 0, .int 0, .int 0]))]) := hD
  refine lv_aload_n hx hb dX8_init_26 rfl (lv_at hl 0 rfl) ?_
  refine va_new (ci := 2) (fs := [.null, .null, .null]) (C := RX4) (T := TX4) (N := 3) hx hb hts in_X8_init_X4 tyX4 tyX4_ok hown (hts (.classLink RX8 23 RX4) (List.mem_of_getElem? (i := 12) rfl)) (hts (.instantiable RX4 3) (List.mem_of_getElem? (i := 13) rfl)) (hts (.initialized RX4) (List.mem_of_getElem? (i := 14) rfl)) hK hP hD hS hA rfl (by decide +kernel) (Nat.le_of_ble_eq_true rfl) (Nat.le_of_ble_eq_true rfl) dX8_init_27 (fun q27 H hP hD hS => ?_)
  rw [List.append_assoc] at hP hD
  have hP : va_P D vwCl (W9 ++ [(q, .inr (6, [.ref q5, .ref q16, .null, .null])), (q5, .inr (0, [.int 1, .int 1, .int 0, .int 0, .int 4])), (q16, .inr (1, [.int 0, .int 0, .int 0, .int 0])), (q27, .inr (2, [.null, .null, .null]))]) H := hP
  have hD : va_D A (W9 ++ [(q, .inr (6, [.ref q5, .ref q16, .null, .null])), (q5, .inr (0, [.int 1, .int 1, .int 0, .int 0, .int 4])), (q16, .inr (1, [.int 0, .int 0, .int 0, .int 0])), (q27, .inr (2, [.null, .null, .null]))]) := hD
  refine W.cs (cells' := 3) (slots' := 12) rfl rfl ?_
  refine lv_dup hx hb dX8_init_30 rfl ?_
  have hP0 : va_P D vwCl ((W9 ++ [(q, .inr (6, [.ref q5, .ref q16, .null, .null])), (q5, .inr (0, [.int 1, .int 1, .int 0, .int 0, .int 4])), (q16, .inr (1, [.int 0, .int 0, .int 0, .int 0]))]) ++ [(q27, .inr (2, [.null, .null, .null]))]) H := paO (b := [(q27, .inr (2, [.null, .null, .null]))]) hP
  have hD0 : va_D A ((W9 ++ [(q, .inr (6, [.ref q5, .ref q16, .null, .null])), (q5, .inr (0, [.int 1, .int 1, .int 0, .int 0, .int 4])), (q16, .inr (1, [.int 0, .int 0, .int 0, .int 0]))]) ++ [(q27, .inr (2, [.null, .null, .null]))]) := daO (b := [(q27, .inr (2, [.null, .null, .null]))]) hD
  refine wr_call (va_runI (As := []) (rest := [.ref q27, .ref q]) ⟨hx, hb, hml, hown, hts⟩ (c_X4_init l D cI cZ cR A _ (W9 ++ [(q, .inr (6, [.ref q5, .ref q16, .null, .null])), (q5, .inr (0, [.int 1, .int 1, .int 0, .int 0, .int 4])), (q16, .inr (1, [.int 0, .int 0, .int 0, .int 0]))]) q27) (cwI 0 hts gX8_init_X4_init rfl rfl rfl (hts (.initialized RX4) (List.mem_of_getElem? (i := 14) rfl)) (hts (.methodLink RX8 25 yX4_init) (List.mem_of_getElem? (i := 32) rfl)) (hts (.instanceMethod yX4_init) (List.mem_of_getElem? (i := 33) rfl)) rfl hd_X4_init ⟨(Nat.le_of_ble_eq_true rfl), (Nat.le_of_ble_eq_true rfl)⟩) (al_pre hAM hO hP0 hD0 (hA_up hA hS)) rfl rfl hl.1 rfl (lv_room (Nat.le_of_ble_eq_true rfl)) dX8_init_31 ⟨(Nat.le_of_ble_eq_true rfl), (Nat.le_of_ble_eq_true rfl)⟩) hS (fun v u H locs hw hP hD _ hS => ?_)
  clear hP0 hD0
  obtain ⟨t_31, a_31, sa_31, b_31, sb_31⟩ := u
  subst hw
  have hP := paI hP
  have hD := daI hD
  have hP : va_P D vwCl (W9 ++ [(q, .inr (6, [.ref q5, .ref q16, .null, .null])), (q5, .inr (0, [.int 1, .int 1, .int 0, .int 0, .int 4])), (q16, .inr (1, [.int 0, .int 0, .int 0, .int 0])), (q27, .inr (2, [.ref t_31, .ref a_31, .ref b_31])), (t_31, .inl (cI, 36, .inl x_X4_init)), (a_31, .inr (4, [.ref sa_31, .int 0])), (sa_31, .inl (cI, 40, .inl (fun _ => 0))), (b_31, .inr (4, [.ref sb_31, .int 0])), (sb_31, .inl (cI, 40, .inl (fun _ => 0)))]) H := hP
  have hD : va_D A (W9 ++ [(q, .inr (6, [.ref q5, .ref q16, .null, .null])), (q5, .inr (0, [.int 1, .int 1, .int 0, .int 0, .int 4])), (q16, .inr (1, [.int 0, .int 0, .int 0, .int 0])), (q27, .inr (2, [.ref t_31, .ref a_31, .ref b_31])), (t_31, .inl (cI, 36, .inl x_X4_init)), (a_31, .inr (4, [.ref sa_31, .int 0])), (sa_31, .inl (cI, 40, .inl (fun _ => 0))), (b_31, .inr (4, [.ref sb_31, .int 0])), (sb_31, .inl (cI, 40, .inl (fun _ => 0)))]) := hD
  refine W.eq (g2 := F0 m 34 ls [.ref q27, .ref q]) rfl ?_
  refine W.cs (cells' := 8) (slots' := 132) rfl rfl ?_
  refine va_putF (D := D) (ci := 6) (v := .ref q27) (ty := .object "WallCount$Roll") (C := RX8) (T := TX8) (N := 4) hx hb hts in_X8_init_X8 tyX8 tyX8_ok nmX8 hown hK hP hD hS (W9.length + 0) (pre_at 0 rfl) rfl 2 (by decide) (hts (.fieldLink RX8 26 "WallCount" "roll" "LWallCount$Roll;") (List.mem_of_getElem? (i := 15) rfl)) (fun _ h9 => h9) rfl hin0 rfl (by decide +kernel) rfl rfl (Nat.le_of_ble_eq_true rfl) dX8_init_34 (fun H locs hP hD hS => ?_)
  rw [pre_set] at hP hD
  have hP : va_P D vwCl (W9 ++ [(q, .inr (6, [.ref q5, .ref q16, .ref q27, .null])), (q5, .inr (0, [.int 1, .int 1, .int 0, .int 0, .int 4])), (q16, .inr (1, [.int 0, .int 0, .int 0, .int 0])), (q27, .inr (2, [.ref t_31, .ref a_31, .ref b_31])), (t_31, .inl (cI, 36, .inl x_X4_init)), (a_31, .inr (4, [.ref sa_31, .int 0])), (sa_31, .inl (cI, 40, .inl (fun _ => 0))), (b_31, .inr (4, [.ref sb_31, .int 0])), (sb_31, .inl (cI, 40, .inl (fun _ => 0)))]) H := hP
  have hD : va_D A (W9 ++ [(q, .inr (6, [.ref q5, .ref q16, .ref q27, .null])), (q5, .inr (0, [.int 1, .int 1, .int 0, .int 0, .int 4])), (q16, .inr (1, [.int 0, .int 0, .int 0, .int 0])), (q27, .inr (2, [.ref t_31, .ref a_31, .ref b_31])), (t_31, .inl (cI, 36, .inl x_X4_init)), (a_31, .inr (4, [.ref sa_31, .int 0])), (sa_31, .inl (cI, 40, .inl (fun _ => 0))), (b_31, .inr (4, [.ref sb_31, .int 0])), (sb_31, .inl (cI, 40, .inl (fun _ => 0)))]) := hD
  refine lv_aload_n hx hb dX8_init_37 rfl (lv_at hl 0 rfl) ?_
  refine va_new (ci := 5) (fs := [.null, .null, .int 0, .int 0, .int 0]) (C := RX7) (T := TX7) (N := 5) hx hb hts in_X8_init_X7 tyX7 tyX7_ok hown (hts (.classLink RX8 30 RX7) (List.mem_of_getElem? (i := 16) rfl)) (hts (.instantiable RX7 5) (List.mem_of_getElem? (i := 17) rfl)) (hts (.initialized RX7) (List.mem_of_getElem? (i := 18) rfl)) hK hP hD hS hA rfl (by decide +kernel) (Nat.le_of_ble_eq_true rfl) (Nat.le_of_ble_eq_true rfl) dX8_init_38 (fun q38 H hP hD hS => ?_)
  rw [List.append_assoc] at hP hD
  have hP : va_P D vwCl (W9 ++ [(q, .inr (6, [.ref q5, .ref q16, .ref q27, .null])), (q5, .inr (0, [.int 1, .int 1, .int 0, .int 0, .int 4])), (q16, .inr (1, [.int 0, .int 0, .int 0, .int 0])), (q27, .inr (2, [.ref t_31, .ref a_31, .ref b_31])), (t_31, .inl (cI, 36, .inl x_X4_init)), (a_31, .inr (4, [.ref sa_31, .int 0])), (sa_31, .inl (cI, 40, .inl (fun _ => 0))), (b_31, .inr (4, [.ref sb_31, .int 0])), (sb_31, .inl (cI, 40, .inl (fun _ => 0))), (q38, .inr (5, [.null, .null, .int 0, .int 0, .int 0]))]) H := hP
  have hD : va_D A (W9 ++ [(q, .inr (6, [.ref q5, .ref q16, .ref q27, .null])), (q5, .inr (0, [.int 1, .int 1, .int 0, .int 0, .int 4])), (q16, .inr (1, [.int 0, .int 0, .int 0, .int 0])), (q27, .inr (2, [.ref t_31, .ref a_31, .ref b_31])), (t_31, .inl (cI, 36, .inl x_X4_init)), (a_31, .inr (4, [.ref sa_31, .int 0])), (sa_31, .inl (cI, 40, .inl (fun _ => 0))), (b_31, .inr (4, [.ref sb_31, .int 0])), (sb_31, .inl (cI, 40, .inl (fun _ => 0))), (q38, .inr (5, [.null, .null, .int 0, .int 0, .int 0]))]) := hD
  refine W.cs (cells' := 9) (slots' := 137) rfl rfl ?_
  refine lv_dup hx hb dX8_init_41 rfl ?_
  have hP0 : va_P D vwCl ((W9 ++ [(q, .inr (6, [.ref q5, .ref q16, .ref q27, .null])), (q5, .inr (0, [.int 1, .int 1, .int 0, .int 0, .int 4])), (q16, .inr (1, [.int 0, .int 0, .int 0, .int 0])), (q27, .inr (2, [.ref t_31, .ref a_31, .ref b_31])), (t_31, .inl (cI, 36, .inl x_X4_init)), (a_31, .inr (4, [.ref sa_31, .int 0])), (sa_31, .inl (cI, 40, .inl (fun _ => 0))), (b_31, .inr (4, [.ref sb_31, .int 0])), (sb_31, .inl (cI, 40, .inl (fun _ => 0)))]) ++ [(q38, .inr (5, [.null, .null, .int 0, .int 0, .int 0]))]) H := paO (b := [(q38, .inr (5, [.null, .null, .int 0, .int 0, .int 0]))]) hP
  have hD0 : va_D A ((W9 ++ [(q, .inr (6, [.ref q5, .ref q16, .ref q27, .null])), (q5, .inr (0, [.int 1, .int 1, .int 0, .int 0, .int 4])), (q16, .inr (1, [.int 0, .int 0, .int 0, .int 0])), (q27, .inr (2, [.ref t_31, .ref a_31, .ref b_31])), (t_31, .inl (cI, 36, .inl x_X4_init)), (a_31, .inr (4, [.ref sa_31, .int 0])), (sa_31, .inl (cI, 40, .inl (fun _ => 0))), (b_31, .inr (4, [.ref sb_31, .int 0])), (sb_31, .inl (cI, 40, .inl (fun _ => 0)))]) ++ [(q38, .inr (5, [.null, .null, .int 0, .int 0, .int 0]))]) := daO (b := [(q38, .inr (5, [.null, .null, .int 0, .int 0, .int 0]))]) hD
  refine wr_call (va_runI (As := []) (rest := [.ref q38, .ref q]) ⟨hx, hb, hml, hown, hts⟩ (c_X7_init l D cI cZ cR A _ (W9 ++ [(q, .inr (6, [.ref q5, .ref q16, .ref q27, .null])), (q5, .inr (0, [.int 1, .int 1, .int 0, .int 0, .int 4])), (q16, .inr (1, [.int 0, .int 0, .int 0, .int 0])), (q27, .inr (2, [.ref t_31, .ref a_31, .ref b_31])), (t_31, .inl (cI, 36, .inl x_X4_init)), (a_31, .inr (4, [.ref sa_31, .int 0])), (sa_31, .inl (cI, 40, .inl (fun _ => 0))), (b_31, .inr (4, [.ref sb_31, .int 0])), (sb_31, .inl (cI, 40, .inl (fun _ => 0)))]) q38) (cwI 0 hts gX8_init_X7_init rfl rfl rfl (hts (.initialized RX7) (List.mem_of_getElem? (i := 18) rfl)) (hts (.methodLink RX8 32 yX7_init) (List.mem_of_getElem? (i := 49) rfl)) (hts (.instanceMethod yX7_init) (List.mem_of_getElem? (i := 50) rfl)) rfl hd_X7_init ⟨(Nat.le_of_ble_eq_true rfl), (Nat.le_of_ble_eq_true rfl)⟩) (al_pre hAM hO hP0 hD0 (hA_up hA hS)) rfl rfl hl.1 rfl (lv_room (Nat.le_of_ble_eq_true rfl)) dX8_init_42 ⟨(Nat.le_of_ble_eq_true rfl), (Nat.le_of_ble_eq_true rfl)⟩) hS (fun v u H locs hw hP hD _ hS => ?_)
  clear hP0 hD0
  obtain ⟨r_42, k_42⟩ := u
  subst hw
  have hP := paI hP
  have hD := daI hD
  have hP : va_P D vwCl (W9 ++ [(q, .inr (6, [.ref q5, .ref q16, .ref q27, .null])), (q5, .inr (0, [.int 1, .int 1, .int 0, .int 0, .int 4])), (q16, .inr (1, [.int 0, .int 0, .int 0, .int 0])), (q27, .inr (2, [.ref t_31, .ref a_31, .ref b_31])), (t_31, .inl (cI, 36, .inl x_X4_init)), (a_31, .inr (4, [.ref sa_31, .int 0])), (sa_31, .inl (cI, 40, .inl (fun _ => 0))), (b_31, .inr (4, [.ref sb_31, .int 0])), (sb_31, .inl (cI, 40, .inl (fun _ => 0))), (q38, .inr (5, [.ref r_42, .ref k_42, .int 0, .int 0, .int 100])), (r_42, .inl (cR, 30, .inr (.inr (.inr (.inr (fun _ => none)))))), (k_42, .inl (cI, 30, .inl (fun _ => 0)))]) H := hP
  have hD : va_D A (W9 ++ [(q, .inr (6, [.ref q5, .ref q16, .ref q27, .null])), (q5, .inr (0, [.int 1, .int 1, .int 0, .int 0, .int 4])), (q16, .inr (1, [.int 0, .int 0, .int 0, .int 0])), (q27, .inr (2, [.ref t_31, .ref a_31, .ref b_31])), (t_31, .inl (cI, 36, .inl x_X4_init)), (a_31, .inr (4, [.ref sa_31, .int 0])), (sa_31, .inl (cI, 40, .inl (fun _ => 0))), (b_31, .inr (4, [.ref sb_31, .int 0])), (sb_31, .inl (cI, 40, .inl (fun _ => 0))), (q38, .inr (5, [.ref r_42, .ref k_42, .int 0, .int 0, .int 100])), (r_42, .inl (cR, 30, .inr (.inr (.inr (.inr (fun _ => none)))))), (k_42, .inl (cI, 30, .inl (fun _ => 0)))]) := hD
  refine W.eq (g2 := F0 m 45 ls [.ref q38, .ref q]) rfl ?_
  refine W.cs (cells' := 11) (slots' := 197) rfl rfl ?_
  refine va_putF (D := D) (ci := 6) (v := .ref q38) (ty := .object "WallCount$Wall") (C := RX8) (T := TX8) (N := 4) hx hb hts in_X8_init_X8 tyX8 tyX8_ok nmX8 hown hK hP hD hS (W9.length + 0) (pre_at 0 rfl) rfl 3 (by decide) (hts (.fieldLink RX8 33 "WallCount" "wall" "LWallCount$Wall;") (List.mem_of_getElem? (i := 19) rfl)) (fun _ h9 => h9) rfl hin0 rfl (by decide +kernel) rfl rfl (Nat.le_of_ble_eq_true rfl) dX8_init_45 (fun H locs hP hD hS => ?_)
  rw [pre_set] at hP hD
  have hP : va_P D vwCl (W9 ++ [(q, .inr (6, [.ref q5, .ref q16, .ref q27, .ref q38])), (q5, .inr (0, [.int 1, .int 1, .int 0, .int 0, .int 4])), (q16, .inr (1, [.int 0, .int 0, .int 0, .int 0])), (q27, .inr (2, [.ref t_31, .ref a_31, .ref b_31])), (t_31, .inl (cI, 36, .inl x_X4_init)), (a_31, .inr (4, [.ref sa_31, .int 0])), (sa_31, .inl (cI, 40, .inl (fun _ => 0))), (b_31, .inr (4, [.ref sb_31, .int 0])), (sb_31, .inl (cI, 40, .inl (fun _ => 0))), (q38, .inr (5, [.ref r_42, .ref k_42, .int 0, .int 0, .int 100])), (r_42, .inl (cR, 30, .inr (.inr (.inr (.inr (fun _ => none)))))), (k_42, .inl (cI, 30, .inl (fun _ => 0)))]) H := hP
  have hD : va_D A (W9 ++ [(q, .inr (6, [.ref q5, .ref q16, .ref q27, .ref q38])), (q5, .inr (0, [.int 1, .int 1, .int 0, .int 0, .int 4])), (q16, .inr (1, [.int 0, .int 0, .int 0, .int 0])), (q27, .inr (2, [.ref t_31, .ref a_31, .ref b_31])), (t_31, .inl (cI, 36, .inl x_X4_init)), (a_31, .inr (4, [.ref sa_31, .int 0])), (sa_31, .inl (cI, 40, .inl (fun _ => 0))), (b_31, .inr (4, [.ref sb_31, .int 0])), (sb_31, .inl (cI, 40, .inl (fun _ => 0))), (q38, .inr (5, [.ref r_42, .ref k_42, .int 0, .int 0, .int 100])), (r_42, .inl (cR, 30, .inr (.inr (.inr (.inr (fun _ => none)))))), (k_42, .inl (cI, 30, .inl (fun _ => 0)))]) := hD
  exact wr_vret (q5, q16, q27, t_31, a_31, sa_31, b_31, sb_31, q38, r_42, k_42) hx hb hr hlocks rfl hP hD hS dX8_init_48

theorem hd_X9_init : yX9_init.cls ≠ "java/lang/invoke/MethodHandle" ∧ yX9_init.cls ≠ "java/lang/invoke/VarHandle" ∧ (parseMethodDescriptor yX9_init.desc).map (fun d => d.parameters.length) = some 0 := by decide +kernel
def x_X9_init_L111 : Nat → Int32 → (Nat → Int32) → (Nat → Int32)
  | 0, v1, fx => fx
  | n + 1, v1, fx => (if 12 ≤ v1 then fx else (x_X9_init_L111 n (v1 + 1) (upd (upd fx (ix (3 * v1)) 30) (ix ((3 * v1) + 1)) 10)))
def x_X9_init : Nat → Int32 := (x_X9_init_L111 (13) 0 (fun _ => 0))
def rm_X9_init : Room := { frames := 1, cells := 11, slots := 419, locals := 21 }
abbrev pq_X9_init (D : va_G) (cI cZ cR : ClassId) (A : Nat → Prop) (W9 : va_W) (q : Nat) (Rv : Nat → Int32) : Array Value → State → Outcome → State → Prop := wr_Q D (fun (v : Option Value) (_ : Nat × Nat × Nat × Nat × Nat × Nat × Nat × Nat × Nat × Nat × Nat) => v = none) (fun u => W9 ++ [(q, .inr (7, [.int 1, .ref u.1, .ref u.2.1, .int 0, .ref u.2.2.1, .int 0, .ref u.2.2.2.1, .int 100, .int 0, .ref u.2.2.2.2.1, .ref u.2.2.2.2.2.1, .ref u.2.2.2.2.2.2.1, .ref u.2.2.2.2.2.2.2.1, .ref u.2.2.2.2.2.2.2.2.1, .ref u.2.2.2.2.2.2.2.2.2.1, .int 0, .ref u.2.2.2.2.2.2.2.2.2.2, .int 0])), (u.1, .inl (cI, 3, .inl (upd (fun _ => 0) (ix 0) 1))), (u.2.1, .inl (cI, 36, .inl Rv)), (u.2.2.1, .inl (cI, 40, .inl (fun _ => 0))), (u.2.2.2.1, .inl (cI, 40, .inl (fun _ => 0))), (u.2.2.2.2.1, .inl (cI, 30, .inl (fun _ => 0))), (u.2.2.2.2.2.1, .inl (cI, 30, .inl (fun _ => 0))), (u.2.2.2.2.2.2.1, .inl (cI, 30, .inl (fun _ => 0))), (u.2.2.2.2.2.2.2.1, .inl (cI, 30, .inl (fun _ => 0))), (u.2.2.2.2.2.2.2.2.1, .inl (cZ, 30, .inl (fun _ => 0))), (u.2.2.2.2.2.2.2.2.2.1, .inl (cI, 120, .inl (fun _ => 0))), (u.2.2.2.2.2.2.2.2.2.2, .inl (cI, 30, .inl (fun _ => 0)))]) A
theorem in_X9_init_X9 : ∀ w ∈ wsX90, w ∈ wsX9_init := fun _ h => List.mem_cons_of_mem _ (List.mem_append_right _ h)
set_option maxHeartbeats 4000000 in
set_option maxRecDepth 100000 in
theorem c_X9_init (l : Launch) (D : va_G) (cI cZ cR : ClassId) (A : Nat → Prop) (H0 : Heap) (W9 : va_W) (q : Nat) : Met l yX9_init wsX9_init rm_X9_init (al_P D cI cZ cR [.ref q] (W9 ++ [(q, .inr (7, [.int 0, .null, .null, .int 0, .null, .int 0, .null, .int 0, .int 0, .null, .null, .null, .null, .null, .null, .int 0, .null, .int 0]))]) A H0) (pq_X9_init D cI cZ cR A W9 q x_X9_init) 11 419 A := by
  refine Met.ofW (cc := cX9_init) (maxL := 2) (ret := none) (by decide +kernel) rfl ?_
  intro p e s m args below meth c s₁ B hml hv
  obtain ⟨rfl, rfl, hAM, hP, hD, hA, hO⟩ := hv
  have hx := B.exec
  have hb := B.bytes
  have hr := B.returns
  have hts := atoms_spec (ws := wsX9_init) B.pre
  have hown : s.vm.findClass RX9 = some m.cls := findClass_of_methodNamed B.named
  have hlocks := B.notSynchronized
  have hin0 : meth.name = "<init>" := (name_of_methodNamed B.named B.method).1
  have hK := hAM.1
  have hS : va_S A s.heap s.heap [] := va_S.rf
  generalize hE : x_X9_init = Rv
  rw [x_X9_init] at hE
  have hl := lv_entry ([.ref q]) (n := 2) (Nat.le_of_ble_eq_true rfl)
  rw [lg_entry_eq]
  generalize (lg_sl ([.ref q]) ++ List.replicate (2 - (lg_sl ([.ref q])).length) Slot.unset).toArray = ls at hl ⊢
  have hl : lv_has ls 2 [(0, .ref q)] := hl
  refine lv_aload_n hx hb dX9_init_0 rfl (lv_at hl 0 rfl) ?_
  refine W.objInit hx hb hown (hts (.methodLink RX9 1 objectInit) (List.mem_of_getElem? (i := 1) rfl)) (hts (.instanceMethod objectInit) (List.mem_of_getElem? (i := 2) rfl)) (hts _ (List.mem_of_getElem? (i := 3) rfl)) rfl (by rw [hml]; exact hl.1) rfl dX9_init_1 (Nat.le_of_ble_eq_true rfl) (Nat.le_of_ble_eq_true rfl) ?_
  refine W.eq (g2 := F0 m 4 ls []) rfl ?_
  refine lv_aload_n hx hb dX9_init_4 rfl (lv_at hl 0 rfl) ?_
  refine lv_iconst (v := 1) hx hb dX9_init_5 (by decide) ?_
  refine va_put (D := D) (ci := 7) (v := .int 1) (ty := .int) (C := RX9) (T := TX9) (N := 18) hx hb hts in_X9_init_X9 tyX9 tyX9_ok nmX9 hown hK hP hD hS (W9.length + 0) (pre_at 0 rfl) rfl 0 (by decide) (hts (.fieldLink RX9 7 "WallCountModel" "need" "I") (List.mem_of_getElem? (i := 4) rfl)) (fun _ h9 => h9) rfl (by decide +kernel) rfl rfl (Nat.le_of_ble_eq_true rfl) dX9_init_6 (fun H locs hP hD hS => ?_)
  rw [pre_set] at hP hD
  have hP : va_P D vwCl (W9 ++ [(q, .inr (7, [.int 1, .null, .null, .int 0, .null, .int 0, .null, .int 0, .int 0, .null, .null, .null, .null, .null, .null, .int 0, .null, .int 0]))]) H := hP
  have hD : va_D A (W9 ++ [(q, .inr (7, [.int 1, .null, .null, .int 0, .null, .int 0, .null, .int 0, .int 0, .null, .null, .null, .null, .null, .null, .int 0, .null, .int 0]))]) := hD
  refine lv_aload_n hx hb dX9_init_9 rfl (lv_at hl 0 rfl) ?_
  refine lv_iconst (v := 3) hx hb dX9_init_10 (by decide) ?_
  refine va_newa (atype := .int) (ty := .int) (n := 3) (N' := 3) (a0 := (3, .inl (fun _ => 0))) hx hb (hts (.arrayClass .int) (List.mem_of_getElem? (i := 5) rfl)) rfl hK hP hD hS hA (fun _ => rfl) (by decide +kernel) (by decide +kernel) (by decide +kernel) (Nat.le_of_ble_eq_true rfl) (Nat.le_of_ble_eq_true rfl) dX9_init_11 (fun q11 cA H hK4 hP hD hS => ?_)
  rw [arr_I hK4] at hP hD
  clear hK4
  rw [List.append_assoc] at hP hD
  have hP : va_P D vwCl (W9 ++ [(q, .inr (7, [.int 1, .null, .null, .int 0, .null, .int 0, .null, .int 0, .int 0, .null, .null, .null, .null, .null, .null, .int 0, .null, .int 0])), (q11, .inl (cI, 3, .inl (fun _ => 0)))]) H := hP
  have hD : va_D A (W9 ++ [(q, .inr (7, [.int 1, .null, .null, .int 0, .null, .int 0, .null, .int 0, .int 0, .null, .null, .null, .null, .null, .null, .int 0, .null, .int 0])), (q11, .inl (cI, 3, .inl (fun _ => 0)))]) := hD
  refine W.cs (cells' := 1) (slots' := 3) rfl rfl ?_
  refine va_putF (D := D) (ci := 7) (v := .ref q11) (ty := .array .int) (C := RX9) (T := TX9) (N := 18) hx hb hts in_X9_init_X9 tyX9 tyX9_ok nmX9 hown hK hP hD hS (W9.length + 0) (pre_at 0 rfl) rfl 1 (by decide) (hts (.fieldLink RX9 13 "WallCountModel" "secret" "[I") (List.mem_of_getElem? (i := 6) rfl)) (fun _ h9 => h9) rfl hin0 rfl (by decide +kernel) rfl rfl (Nat.le_of_ble_eq_true rfl) dX9_init_13 (fun H locs hP hD hS => ?_)
  rw [pre_set] at hP hD
  have hP : va_P D vwCl (W9 ++ [(q, .inr (7, [.int 1, .ref q11, .null, .int 0, .null, .int 0, .null, .int 0, .int 0, .null, .null, .null, .null, .null, .null, .int 0, .null, .int 0])), (q11, .inl (cI, 3, .inl (fun _ => 0)))]) H := hP
  have hD : va_D A (W9 ++ [(q, .inr (7, [.int 1, .ref q11, .null, .int 0, .null, .int 0, .null, .int 0, .int 0, .null, .null, .null, .null, .null, .null, .int 0, .null, .int 0])), (q11, .inl (cI, 3, .inl (fun _ => 0)))]) := hD
  refine lv_aload_n hx hb dX9_init_16 rfl (lv_at hl 0 rfl) ?_
  refine lv_bipush (v := 36) hx hb dX9_init_17 (by decide +kernel) ?_
  refine va_newa (atype := .int) (ty := .int) (n := 36) (N' := 36) (a0 := (36, .inl (fun _ => 0))) hx hb (hts (.arrayClass .int) (List.mem_of_getElem? (i := 5) rfl)) rfl hK hP hD hS hA (fun _ => rfl) (by decide +kernel) (by decide +kernel) (by decide +kernel) (Nat.le_of_ble_eq_true rfl) (Nat.le_of_ble_eq_true rfl) dX9_init_19 (fun q19 cA H hK4 hP hD hS => ?_)
  rw [arr_I hK4] at hP hD
  clear hK4
  rw [List.append_assoc] at hP hD
  have hP : va_P D vwCl (W9 ++ [(q, .inr (7, [.int 1, .ref q11, .null, .int 0, .null, .int 0, .null, .int 0, .int 0, .null, .null, .null, .null, .null, .null, .int 0, .null, .int 0])), (q11, .inl (cI, 3, .inl (fun _ => 0))), (q19, .inl (cI, 36, .inl (fun _ => 0)))]) H := hP
  have hD : va_D A (W9 ++ [(q, .inr (7, [.int 1, .ref q11, .null, .int 0, .null, .int 0, .null, .int 0, .int 0, .null, .null, .null, .null, .null, .null, .int 0, .null, .int 0])), (q11, .inl (cI, 3, .inl (fun _ => 0))), (q19, .inl (cI, 36, .inl (fun _ => 0)))]) := hD
  refine W.cs (cells' := 2) (slots' := 39) rfl rfl ?_
  refine va_putF (D := D) (ci := 7) (v := .ref q19) (ty := .array .int) (C := RX9) (T := TX9) (N := 18) hx hb hts in_X9_init_X9 tyX9 tyX9_ok nmX9 hown hK hP hD hS (W9.length + 0) (pre_at 0 rfl) rfl 2 (by decide) (hts (.fieldLink RX9 17 "WallCountModel" "has" "[I") (List.mem_of_getElem? (i := 7) rfl)) (fun _ h9 => h9) rfl hin0 rfl (by decide +kernel) rfl rfl (Nat.le_of_ble_eq_true rfl) dX9_init_21 (fun H locs hP hD hS => ?_)
  rw [pre_set] at hP hD
  have hP : va_P D vwCl (W9 ++ [(q, .inr (7, [.int 1, .ref q11, .ref q19, .int 0, .null, .int 0, .null, .int 0, .int 0, .null, .null, .null, .null, .null, .null, .int 0, .null, .int 0])), (q11, .inl (cI, 3, .inl (fun _ => 0))), (q19, .inl (cI, 36, .inl (fun _ => 0)))]) H := hP
  have hD : va_D A (W9 ++ [(q, .inr (7, [.int 1, .ref q11, .ref q19, .int 0, .null, .int 0, .null, .int 0, .int 0, .null, .null, .null, .null, .null, .null, .int 0, .null, .int 0])), (q11, .inl (cI, 3, .inl (fun _ => 0))), (q19, .inl (cI, 36, .inl (fun _ => 0)))]) := hD
  refine lv_aload_n hx hb dX9_init_24 rfl (lv_at hl 0 rfl) ?_
  refine lv_bipush (v := 40) hx hb dX9_init_25 (by decide +kernel) ?_
  refine va_newa (atype := .int) (ty := .int) (n := 40) (N' := 40) (a0 := (40, .inl (fun _ => 0))) hx hb (hts (.arrayClass .int) (List.mem_of_getElem? (i := 5) rfl)) rfl hK hP hD hS hA (fun _ => rfl) (by decide +kernel) (by decide +kernel) (by decide +kernel) (Nat.le_of_ble_eq_true rfl) (Nat.le_of_ble_eq_true rfl) dX9_init_27 (fun q27 cA H hK4 hP hD hS => ?_)
  rw [arr_I hK4] at hP hD
  clear hK4
  rw [List.append_assoc] at hP hD
  have hP : va_P D vwCl (W9 ++ [(q, .inr (7, [.int 1, .ref q11, .ref q19, .int 0, .null, .int 0, .null, .int 0, .int 0, .null, .null, .null, .null, .null, .null, .int 0, .null, .int 0])), (q11, .inl (cI, 3, .inl (fun _ => 0))), (q19, .inl (cI, 36, .inl (fun _ => 0))), (q27, .inl (cI, 40, .inl (fun _ => 0)))]) H := hP
  have hD : va_D A (W9 ++ [(q, .inr (7, [.int 1, .ref q11, .ref q19, .int 0, .null, .int 0, .null, .int 0, .int 0, .null, .null, .null, .null, .null, .null, .int 0, .null, .int 0])), (q11, .inl (cI, 3, .inl (fun _ => 0))), (q19, .inl (cI, 36, .inl (fun _ => 0))), (q27, .inl (cI, 40, .inl (fun _ => 0)))]) := hD
  refine W.cs (cells' := 3) (slots' := 79) rfl rfl ?_
  refine va_putF (D := D) (ci := 7) (v := .ref q27) (ty := .array .int) (C := RX9) (T := TX9) (N := 18) hx hb hts in_X9_init_X9 tyX9 tyX9_ok nmX9 hown hK hP hD hS (W9.length + 0) (pre_at 0 rfl) rfl 4 (by decide) (hts (.fieldLink RX9 20 "WallCountModel" "sign" "[I") (List.mem_of_getElem? (i := 8) rfl)) (fun _ h9 => h9) rfl hin0 rfl (by decide +kernel) rfl rfl (Nat.le_of_ble_eq_true rfl) dX9_init_29 (fun H locs hP hD hS => ?_)
  rw [pre_set] at hP hD
  have hP : va_P D vwCl (W9 ++ [(q, .inr (7, [.int 1, .ref q11, .ref q19, .int 0, .ref q27, .int 0, .null, .int 0, .int 0, .null, .null, .null, .null, .null, .null, .int 0, .null, .int 0])), (q11, .inl (cI, 3, .inl (fun _ => 0))), (q19, .inl (cI, 36, .inl (fun _ => 0))), (q27, .inl (cI, 40, .inl (fun _ => 0)))]) H := hP
  have hD : va_D A (W9 ++ [(q, .inr (7, [.int 1, .ref q11, .ref q19, .int 0, .ref q27, .int 0, .null, .int 0, .int 0, .null, .null, .null, .null, .null, .null, .int 0, .null, .int 0])), (q11, .inl (cI, 3, .inl (fun _ => 0))), (q19, .inl (cI, 36, .inl (fun _ => 0))), (q27, .inl (cI, 40, .inl (fun _ => 0)))]) := hD
  refine lv_aload_n hx hb dX9_init_32 rfl (lv_at hl 0 rfl) ?_
  refine lv_bipush (v := 40) hx hb dX9_init_33 (by decide +kernel) ?_
  refine va_newa (atype := .int) (ty := .int) (n := 40) (N' := 40) (a0 := (40, .inl (fun _ => 0))) hx hb (hts (.arrayClass .int) (List.mem_of_getElem? (i := 5) rfl)) rfl hK hP hD hS hA (fun _ => rfl) (by decide +kernel) (by decide +kernel) (by decide +kernel) (Nat.le_of_ble_eq_true rfl) (Nat.le_of_ble_eq_true rfl) dX9_init_35 (fun q35 cA H hK4 hP hD hS => ?_)
  rw [arr_I hK4] at hP hD
  clear hK4
  rw [List.append_assoc] at hP hD
  have hP : va_P D vwCl (W9 ++ [(q, .inr (7, [.int 1, .ref q11, .ref q19, .int 0, .ref q27, .int 0, .null, .int 0, .int 0, .null, .null, .null, .null, .null, .null, .int 0, .null, .int 0])), (q11, .inl (cI, 3, .inl (fun _ => 0))), (q19, .inl (cI, 36, .inl (fun _ => 0))), (q27, .inl (cI, 40, .inl (fun _ => 0))), (q35, .inl (cI, 40, .inl (fun _ => 0)))]) H := hP
  have hD : va_D A (W9 ++ [(q, .inr (7, [.int 1, .ref q11, .ref q19, .int 0, .ref q27, .int 0, .null, .int 0, .int 0, .null, .null, .null, .null, .null, .null, .int 0, .null, .int 0])), (q11, .inl (cI, 3, .inl (fun _ => 0))), (q19, .inl (cI, 36, .inl (fun _ => 0))), (q27, .inl (cI, 40, .inl (fun _ => 0))), (q35, .inl (cI, 40, .inl (fun _ => 0)))]) := hD
  refine W.cs (cells' := 4) (slots' := 119) rfl rfl ?_
  refine va_putF (D := D) (ci := 7) (v := .ref q35) (ty := .array .int) (C := RX9) (T := TX9) (N := 18) hx hb hts in_X9_init_X9 tyX9 tyX9_ok nmX9 hown hK hP hD hS (W9.length + 0) (pre_at 0 rfl) rfl 6 (by decide) (hts (.fieldLink RX9 23 "WallCountModel" "ruleSign" "[I") (List.mem_of_getElem? (i := 9) rfl)) (fun _ h9 => h9) rfl hin0 rfl (by decide +kernel) rfl rfl (Nat.le_of_ble_eq_true rfl) dX9_init_37 (fun H locs hP hD hS => ?_)
  rw [pre_set] at hP hD
  have hP : va_P D vwCl (W9 ++ [(q, .inr (7, [.int 1, .ref q11, .ref q19, .int 0, .ref q27, .int 0, .ref q35, .int 0, .int 0, .null, .null, .null, .null, .null, .null, .int 0, .null, .int 0])), (q11, .inl (cI, 3, .inl (fun _ => 0))), (q19, .inl (cI, 36, .inl (fun _ => 0))), (q27, .inl (cI, 40, .inl (fun _ => 0))), (q35, .inl (cI, 40, .inl (fun _ => 0)))]) H := hP
  have hD : va_D A (W9 ++ [(q, .inr (7, [.int 1, .ref q11, .ref q19, .int 0, .ref q27, .int 0, .ref q35, .int 0, .int 0, .null, .null, .null, .null, .null, .null, .int 0, .null, .int 0])), (q11, .inl (cI, 3, .inl (fun _ => 0))), (q19, .inl (cI, 36, .inl (fun _ => 0))), (q27, .inl (cI, 40, .inl (fun _ => 0))), (q35, .inl (cI, 40, .inl (fun _ => 0)))]) := hD
  refine lv_aload_n hx hb dX9_init_40 rfl (lv_at hl 0 rfl) ?_
  refine lv_bipush (v := 100) hx hb dX9_init_41 (by decide +kernel) ?_
  refine va_put (D := D) (ci := 7) (v := .int 100) (ty := .int) (C := RX9) (T := TX9) (N := 18) hx hb hts in_X9_init_X9 tyX9 tyX9_ok nmX9 hown hK hP hD hS (W9.length + 0) (pre_at 0 rfl) rfl 7 (by decide) (hts (.fieldLink RX9 26 "WallCountModel" "close" "I") (List.mem_of_getElem? (i := 10) rfl)) (fun _ h9 => h9) rfl (by decide +kernel) rfl rfl (Nat.le_of_ble_eq_true rfl) dX9_init_43 (fun H locs hP hD hS => ?_)
  rw [pre_set] at hP hD
  have hP : va_P D vwCl (W9 ++ [(q, .inr (7, [.int 1, .ref q11, .ref q19, .int 0, .ref q27, .int 0, .ref q35, .int 100, .int 0, .null, .null, .null, .null, .null, .null, .int 0, .null, .int 0])), (q11, .inl (cI, 3, .inl (fun _ => 0))), (q19, .inl (cI, 36, .inl (fun _ => 0))), (q27, .inl (cI, 40, .inl (fun _ => 0))), (q35, .inl (cI, 40, .inl (fun _ => 0)))]) H := hP
  have hD : va_D A (W9 ++ [(q, .inr (7, [.int 1, .ref q11, .ref q19, .int 0, .ref q27, .int 0, .ref q35, .int 100, .int 0, .null, .null, .null, .null, .null, .null, .int 0, .null, .int 0])), (q11, .inl (cI, 3, .inl (fun _ => 0))), (q19, .inl (cI, 36, .inl (fun _ => 0))), (q27, .inl (cI, 40, .inl (fun _ => 0))), (q35, .inl (cI, 40, .inl (fun _ => 0)))]) := hD
  refine lv_aload_n hx hb dX9_init_46 rfl (lv_at hl 0 rfl) ?_
  refine lv_bipush (v := 30) hx hb dX9_init_47 (by decide +kernel) ?_
  refine va_newa (atype := .int) (ty := .int) (n := 30) (N' := 30) (a0 := (30, .inl (fun _ => 0))) hx hb (hts (.arrayClass .int) (List.mem_of_getElem? (i := 5) rfl)) rfl hK hP hD hS hA (fun _ => rfl) (by decide +kernel) (by decide +kernel) (by decide +kernel) (Nat.le_of_ble_eq_true rfl) (Nat.le_of_ble_eq_true rfl) dX9_init_49 (fun q49 cA H hK4 hP hD hS => ?_)
  rw [arr_I hK4] at hP hD
  clear hK4
  rw [List.append_assoc] at hP hD
  have hP : va_P D vwCl (W9 ++ [(q, .inr (7, [.int 1, .ref q11, .ref q19, .int 0, .ref q27, .int 0, .ref q35, .int 100, .int 0, .null, .null, .null, .null, .null, .null, .int 0, .null, .int 0])), (q11, .inl (cI, 3, .inl (fun _ => 0))), (q19, .inl (cI, 36, .inl (fun _ => 0))), (q27, .inl (cI, 40, .inl (fun _ => 0))), (q35, .inl (cI, 40, .inl (fun _ => 0))), (q49, .inl (cI, 30, .inl (fun _ => 0)))]) H := hP
  have hD : va_D A (W9 ++ [(q, .inr (7, [.int 1, .ref q11, .ref q19, .int 0, .ref q27, .int 0, .ref q35, .int 100, .int 0, .null, .null, .null, .null, .null, .null, .int 0, .null, .int 0])), (q11, .inl (cI, 3, .inl (fun _ => 0))), (q19, .inl (cI, 36, .inl (fun _ => 0))), (q27, .inl (cI, 40, .inl (fun _ => 0))), (q35, .inl (cI, 40, .inl (fun _ => 0))), (q49, .inl (cI, 30, .inl (fun _ => 0)))]) := hD
  refine W.cs (cells' := 5) (slots' := 149) rfl rfl ?_
  refine va_putF (D := D) (ci := 7) (v := .ref q49) (ty := .array .int) (C := RX9) (T := TX9) (N := 18) hx hb hts in_X9_init_X9 tyX9 tyX9_ok nmX9 hown hK hP hD hS (W9.length + 0) (pre_at 0 rfl) rfl 9 (by decide) (hts (.fieldLink RX9 29 "WallCountModel" "rowVoter" "[I") (List.mem_of_getElem? (i := 11) rfl)) (fun _ h9 => h9) rfl hin0 rfl (by decide +kernel) rfl rfl (Nat.le_of_ble_eq_true rfl) dX9_init_51 (fun H locs hP hD hS => ?_)
  rw [pre_set] at hP hD
  have hP : va_P D vwCl (W9 ++ [(q, .inr (7, [.int 1, .ref q11, .ref q19, .int 0, .ref q27, .int 0, .ref q35, .int 100, .int 0, .ref q49, .null, .null, .null, .null, .null, .int 0, .null, .int 0])), (q11, .inl (cI, 3, .inl (fun _ => 0))), (q19, .inl (cI, 36, .inl (fun _ => 0))), (q27, .inl (cI, 40, .inl (fun _ => 0))), (q35, .inl (cI, 40, .inl (fun _ => 0))), (q49, .inl (cI, 30, .inl (fun _ => 0)))]) H := hP
  have hD : va_D A (W9 ++ [(q, .inr (7, [.int 1, .ref q11, .ref q19, .int 0, .ref q27, .int 0, .ref q35, .int 100, .int 0, .ref q49, .null, .null, .null, .null, .null, .int 0, .null, .int 0])), (q11, .inl (cI, 3, .inl (fun _ => 0))), (q19, .inl (cI, 36, .inl (fun _ => 0))), (q27, .inl (cI, 40, .inl (fun _ => 0))), (q35, .inl (cI, 40, .inl (fun _ => 0))), (q49, .inl (cI, 30, .inl (fun _ => 0)))]) := hD
  refine lv_aload_n hx hb dX9_init_54 rfl (lv_at hl 0 rfl) ?_
  refine lv_bipush (v := 30) hx hb dX9_init_55 (by decide +kernel) ?_
  refine va_newa (atype := .int) (ty := .int) (n := 30) (N' := 30) (a0 := (30, .inl (fun _ => 0))) hx hb (hts (.arrayClass .int) (List.mem_of_getElem? (i := 5) rfl)) rfl hK hP hD hS hA (fun _ => rfl) (by decide +kernel) (by decide +kernel) (by decide +kernel) (Nat.le_of_ble_eq_true rfl) (Nat.le_of_ble_eq_true rfl) dX9_init_57 (fun q57 cA H hK4 hP hD hS => ?_)
  rw [arr_I hK4] at hP hD
  clear hK4
  rw [List.append_assoc] at hP hD
  have hP : va_P D vwCl (W9 ++ [(q, .inr (7, [.int 1, .ref q11, .ref q19, .int 0, .ref q27, .int 0, .ref q35, .int 100, .int 0, .ref q49, .null, .null, .null, .null, .null, .int 0, .null, .int 0])), (q11, .inl (cI, 3, .inl (fun _ => 0))), (q19, .inl (cI, 36, .inl (fun _ => 0))), (q27, .inl (cI, 40, .inl (fun _ => 0))), (q35, .inl (cI, 40, .inl (fun _ => 0))), (q49, .inl (cI, 30, .inl (fun _ => 0))), (q57, .inl (cI, 30, .inl (fun _ => 0)))]) H := hP
  have hD : va_D A (W9 ++ [(q, .inr (7, [.int 1, .ref q11, .ref q19, .int 0, .ref q27, .int 0, .ref q35, .int 100, .int 0, .ref q49, .null, .null, .null, .null, .null, .int 0, .null, .int 0])), (q11, .inl (cI, 3, .inl (fun _ => 0))), (q19, .inl (cI, 36, .inl (fun _ => 0))), (q27, .inl (cI, 40, .inl (fun _ => 0))), (q35, .inl (cI, 40, .inl (fun _ => 0))), (q49, .inl (cI, 30, .inl (fun _ => 0))), (q57, .inl (cI, 30, .inl (fun _ => 0)))]) := hD
  refine W.cs (cells' := 6) (slots' := 179) rfl rfl ?_
  refine va_putF (D := D) (ci := 7) (v := .ref q57) (ty := .array .int) (C := RX9) (T := TX9) (N := 18) hx hb hts in_X9_init_X9 tyX9 tyX9_ok nmX9 hown hK hP hD hS (W9.length + 0) (pre_at 0 rfl) rfl 10 (by decide) (hts (.fieldLink RX9 32 "WallCountModel" "rowA" "[I") (List.mem_of_getElem? (i := 12) rfl)) (fun _ h9 => h9) rfl hin0 rfl (by decide +kernel) rfl rfl (Nat.le_of_ble_eq_true rfl) dX9_init_59 (fun H locs hP hD hS => ?_)
  rw [pre_set] at hP hD
  have hP : va_P D vwCl (W9 ++ [(q, .inr (7, [.int 1, .ref q11, .ref q19, .int 0, .ref q27, .int 0, .ref q35, .int 100, .int 0, .ref q49, .ref q57, .null, .null, .null, .null, .int 0, .null, .int 0])), (q11, .inl (cI, 3, .inl (fun _ => 0))), (q19, .inl (cI, 36, .inl (fun _ => 0))), (q27, .inl (cI, 40, .inl (fun _ => 0))), (q35, .inl (cI, 40, .inl (fun _ => 0))), (q49, .inl (cI, 30, .inl (fun _ => 0))), (q57, .inl (cI, 30, .inl (fun _ => 0)))]) H := hP
  have hD : va_D A (W9 ++ [(q, .inr (7, [.int 1, .ref q11, .ref q19, .int 0, .ref q27, .int 0, .ref q35, .int 100, .int 0, .ref q49, .ref q57, .null, .null, .null, .null, .int 0, .null, .int 0])), (q11, .inl (cI, 3, .inl (fun _ => 0))), (q19, .inl (cI, 36, .inl (fun _ => 0))), (q27, .inl (cI, 40, .inl (fun _ => 0))), (q35, .inl (cI, 40, .inl (fun _ => 0))), (q49, .inl (cI, 30, .inl (fun _ => 0))), (q57, .inl (cI, 30, .inl (fun _ => 0)))]) := hD
  refine lv_aload_n hx hb dX9_init_62 rfl (lv_at hl 0 rfl) ?_
  refine lv_bipush (v := 30) hx hb dX9_init_63 (by decide +kernel) ?_
  refine va_newa (atype := .int) (ty := .int) (n := 30) (N' := 30) (a0 := (30, .inl (fun _ => 0))) hx hb (hts (.arrayClass .int) (List.mem_of_getElem? (i := 5) rfl)) rfl hK hP hD hS hA (fun _ => rfl) (by decide +kernel) (by decide +kernel) (by decide +kernel) (Nat.le_of_ble_eq_true rfl) (Nat.le_of_ble_eq_true rfl) dX9_init_65 (fun q65 cA H hK4 hP hD hS => ?_)
  rw [arr_I hK4] at hP hD
  clear hK4
  rw [List.append_assoc] at hP hD
  have hP : va_P D vwCl (W9 ++ [(q, .inr (7, [.int 1, .ref q11, .ref q19, .int 0, .ref q27, .int 0, .ref q35, .int 100, .int 0, .ref q49, .ref q57, .null, .null, .null, .null, .int 0, .null, .int 0])), (q11, .inl (cI, 3, .inl (fun _ => 0))), (q19, .inl (cI, 36, .inl (fun _ => 0))), (q27, .inl (cI, 40, .inl (fun _ => 0))), (q35, .inl (cI, 40, .inl (fun _ => 0))), (q49, .inl (cI, 30, .inl (fun _ => 0))), (q57, .inl (cI, 30, .inl (fun _ => 0))), (q65, .inl (cI, 30, .inl (fun _ => 0)))]) H := hP
  have hD : va_D A (W9 ++ [(q, .inr (7, [.int 1, .ref q11, .ref q19, .int 0, .ref q27, .int 0, .ref q35, .int 100, .int 0, .ref q49, .ref q57, .null, .null, .null, .null, .int 0, .null, .int 0])), (q11, .inl (cI, 3, .inl (fun _ => 0))), (q19, .inl (cI, 36, .inl (fun _ => 0))), (q27, .inl (cI, 40, .inl (fun _ => 0))), (q35, .inl (cI, 40, .inl (fun _ => 0))), (q49, .inl (cI, 30, .inl (fun _ => 0))), (q57, .inl (cI, 30, .inl (fun _ => 0))), (q65, .inl (cI, 30, .inl (fun _ => 0)))]) := hD
  refine W.cs (cells' := 7) (slots' := 209) rfl rfl ?_
  refine va_putF (D := D) (ci := 7) (v := .ref q65) (ty := .array .int) (C := RX9) (T := TX9) (N := 18) hx hb hts in_X9_init_X9 tyX9 tyX9_ok nmX9 hown hK hP hD hS (W9.length + 0) (pre_at 0 rfl) rfl 11 (by decide) (hts (.fieldLink RX9 35 "WallCountModel" "rowB" "[I") (List.mem_of_getElem? (i := 13) rfl)) (fun _ h9 => h9) rfl hin0 rfl (by decide +kernel) rfl rfl (Nat.le_of_ble_eq_true rfl) dX9_init_67 (fun H locs hP hD hS => ?_)
  rw [pre_set] at hP hD
  have hP : va_P D vwCl (W9 ++ [(q, .inr (7, [.int 1, .ref q11, .ref q19, .int 0, .ref q27, .int 0, .ref q35, .int 100, .int 0, .ref q49, .ref q57, .ref q65, .null, .null, .null, .int 0, .null, .int 0])), (q11, .inl (cI, 3, .inl (fun _ => 0))), (q19, .inl (cI, 36, .inl (fun _ => 0))), (q27, .inl (cI, 40, .inl (fun _ => 0))), (q35, .inl (cI, 40, .inl (fun _ => 0))), (q49, .inl (cI, 30, .inl (fun _ => 0))), (q57, .inl (cI, 30, .inl (fun _ => 0))), (q65, .inl (cI, 30, .inl (fun _ => 0)))]) H := hP
  have hD : va_D A (W9 ++ [(q, .inr (7, [.int 1, .ref q11, .ref q19, .int 0, .ref q27, .int 0, .ref q35, .int 100, .int 0, .ref q49, .ref q57, .ref q65, .null, .null, .null, .int 0, .null, .int 0])), (q11, .inl (cI, 3, .inl (fun _ => 0))), (q19, .inl (cI, 36, .inl (fun _ => 0))), (q27, .inl (cI, 40, .inl (fun _ => 0))), (q35, .inl (cI, 40, .inl (fun _ => 0))), (q49, .inl (cI, 30, .inl (fun _ => 0))), (q57, .inl (cI, 30, .inl (fun _ => 0))), (q65, .inl (cI, 30, .inl (fun _ => 0)))]) := hD
  refine lv_aload_n hx hb dX9_init_70 rfl (lv_at hl 0 rfl) ?_
  refine lv_bipush (v := 30) hx hb dX9_init_71 (by decide +kernel) ?_
  refine va_newa (atype := .int) (ty := .int) (n := 30) (N' := 30) (a0 := (30, .inl (fun _ => 0))) hx hb (hts (.arrayClass .int) (List.mem_of_getElem? (i := 5) rfl)) rfl hK hP hD hS hA (fun _ => rfl) (by decide +kernel) (by decide +kernel) (by decide +kernel) (Nat.le_of_ble_eq_true rfl) (Nat.le_of_ble_eq_true rfl) dX9_init_73 (fun q73 cA H hK4 hP hD hS => ?_)
  rw [arr_I hK4] at hP hD
  clear hK4
  rw [List.append_assoc] at hP hD
  have hP : va_P D vwCl (W9 ++ [(q, .inr (7, [.int 1, .ref q11, .ref q19, .int 0, .ref q27, .int 0, .ref q35, .int 100, .int 0, .ref q49, .ref q57, .ref q65, .null, .null, .null, .int 0, .null, .int 0])), (q11, .inl (cI, 3, .inl (fun _ => 0))), (q19, .inl (cI, 36, .inl (fun _ => 0))), (q27, .inl (cI, 40, .inl (fun _ => 0))), (q35, .inl (cI, 40, .inl (fun _ => 0))), (q49, .inl (cI, 30, .inl (fun _ => 0))), (q57, .inl (cI, 30, .inl (fun _ => 0))), (q65, .inl (cI, 30, .inl (fun _ => 0))), (q73, .inl (cI, 30, .inl (fun _ => 0)))]) H := hP
  have hD : va_D A (W9 ++ [(q, .inr (7, [.int 1, .ref q11, .ref q19, .int 0, .ref q27, .int 0, .ref q35, .int 100, .int 0, .ref q49, .ref q57, .ref q65, .null, .null, .null, .int 0, .null, .int 0])), (q11, .inl (cI, 3, .inl (fun _ => 0))), (q19, .inl (cI, 36, .inl (fun _ => 0))), (q27, .inl (cI, 40, .inl (fun _ => 0))), (q35, .inl (cI, 40, .inl (fun _ => 0))), (q49, .inl (cI, 30, .inl (fun _ => 0))), (q57, .inl (cI, 30, .inl (fun _ => 0))), (q65, .inl (cI, 30, .inl (fun _ => 0))), (q73, .inl (cI, 30, .inl (fun _ => 0)))]) := hD
  refine W.cs (cells' := 8) (slots' := 239) rfl rfl ?_
  refine va_putF (D := D) (ci := 7) (v := .ref q73) (ty := .array .int) (C := RX9) (T := TX9) (N := 18) hx hb hts in_X9_init_X9 tyX9 tyX9_ok nmX9 hown hK hP hD hS (W9.length + 0) (pre_at 0 rfl) rfl 12 (by decide) (hts (.fieldLink RX9 38 "WallCountModel" "rowHour" "[I") (List.mem_of_getElem? (i := 14) rfl)) (fun _ h9 => h9) rfl hin0 rfl (by decide +kernel) rfl rfl (Nat.le_of_ble_eq_true rfl) dX9_init_75 (fun H locs hP hD hS => ?_)
  rw [pre_set] at hP hD
  have hP : va_P D vwCl (W9 ++ [(q, .inr (7, [.int 1, .ref q11, .ref q19, .int 0, .ref q27, .int 0, .ref q35, .int 100, .int 0, .ref q49, .ref q57, .ref q65, .ref q73, .null, .null, .int 0, .null, .int 0])), (q11, .inl (cI, 3, .inl (fun _ => 0))), (q19, .inl (cI, 36, .inl (fun _ => 0))), (q27, .inl (cI, 40, .inl (fun _ => 0))), (q35, .inl (cI, 40, .inl (fun _ => 0))), (q49, .inl (cI, 30, .inl (fun _ => 0))), (q57, .inl (cI, 30, .inl (fun _ => 0))), (q65, .inl (cI, 30, .inl (fun _ => 0))), (q73, .inl (cI, 30, .inl (fun _ => 0)))]) H := hP
  have hD : va_D A (W9 ++ [(q, .inr (7, [.int 1, .ref q11, .ref q19, .int 0, .ref q27, .int 0, .ref q35, .int 100, .int 0, .ref q49, .ref q57, .ref q65, .ref q73, .null, .null, .int 0, .null, .int 0])), (q11, .inl (cI, 3, .inl (fun _ => 0))), (q19, .inl (cI, 36, .inl (fun _ => 0))), (q27, .inl (cI, 40, .inl (fun _ => 0))), (q35, .inl (cI, 40, .inl (fun _ => 0))), (q49, .inl (cI, 30, .inl (fun _ => 0))), (q57, .inl (cI, 30, .inl (fun _ => 0))), (q65, .inl (cI, 30, .inl (fun _ => 0))), (q73, .inl (cI, 30, .inl (fun _ => 0)))]) := hD
  refine lv_aload_n hx hb dX9_init_78 rfl (lv_at hl 0 rfl) ?_
  refine lv_bipush (v := 30) hx hb dX9_init_79 (by decide +kernel) ?_
  refine va_newa (atype := .boolean) (ty := .boolean) (n := 30) (N' := 30) (a0 := (30, .inl (fun _ => 0))) hx hb (hts (.arrayClass .boolean) (List.mem_of_getElem? (i := 15) rfl)) rfl hK hP hD hS hA (fun _ => rfl) (by decide +kernel) (by decide +kernel) (by decide +kernel) (Nat.le_of_ble_eq_true rfl) (Nat.le_of_ble_eq_true rfl) dX9_init_81 (fun q81 cA H hK4 hP hD hS => ?_)
  rw [arr_Z hK4] at hP hD
  clear hK4
  rw [List.append_assoc] at hP hD
  have hP : va_P D vwCl (W9 ++ [(q, .inr (7, [.int 1, .ref q11, .ref q19, .int 0, .ref q27, .int 0, .ref q35, .int 100, .int 0, .ref q49, .ref q57, .ref q65, .ref q73, .null, .null, .int 0, .null, .int 0])), (q11, .inl (cI, 3, .inl (fun _ => 0))), (q19, .inl (cI, 36, .inl (fun _ => 0))), (q27, .inl (cI, 40, .inl (fun _ => 0))), (q35, .inl (cI, 40, .inl (fun _ => 0))), (q49, .inl (cI, 30, .inl (fun _ => 0))), (q57, .inl (cI, 30, .inl (fun _ => 0))), (q65, .inl (cI, 30, .inl (fun _ => 0))), (q73, .inl (cI, 30, .inl (fun _ => 0))), (q81, .inl (cZ, 30, .inl (fun _ => 0)))]) H := hP
  have hD : va_D A (W9 ++ [(q, .inr (7, [.int 1, .ref q11, .ref q19, .int 0, .ref q27, .int 0, .ref q35, .int 100, .int 0, .ref q49, .ref q57, .ref q65, .ref q73, .null, .null, .int 0, .null, .int 0])), (q11, .inl (cI, 3, .inl (fun _ => 0))), (q19, .inl (cI, 36, .inl (fun _ => 0))), (q27, .inl (cI, 40, .inl (fun _ => 0))), (q35, .inl (cI, 40, .inl (fun _ => 0))), (q49, .inl (cI, 30, .inl (fun _ => 0))), (q57, .inl (cI, 30, .inl (fun _ => 0))), (q65, .inl (cI, 30, .inl (fun _ => 0))), (q73, .inl (cI, 30, .inl (fun _ => 0))), (q81, .inl (cZ, 30, .inl (fun _ => 0)))]) := hD
  refine W.cs (cells' := 9) (slots' := 269) rfl rfl ?_
  refine va_putF (D := D) (ci := 7) (v := .ref q81) (ty := .array .boolean) (C := RX9) (T := TX9) (N := 18) hx hb hts in_X9_init_X9 tyX9 tyX9_ok nmX9 hown hK hP hD hS (W9.length + 0) (pre_at 0 rfl) rfl 13 (by decide) (hts (.fieldLink RX9 41 "WallCountModel" "isProved" "[Z") (List.mem_of_getElem? (i := 16) rfl)) (fun _ h9 => h9) rfl hin0 rfl (by decide +kernel) rfl rfl (Nat.le_of_ble_eq_true rfl) dX9_init_83 (fun H locs hP hD hS => ?_)
  rw [pre_set] at hP hD
  have hP : va_P D vwCl (W9 ++ [(q, .inr (7, [.int 1, .ref q11, .ref q19, .int 0, .ref q27, .int 0, .ref q35, .int 100, .int 0, .ref q49, .ref q57, .ref q65, .ref q73, .ref q81, .null, .int 0, .null, .int 0])), (q11, .inl (cI, 3, .inl (fun _ => 0))), (q19, .inl (cI, 36, .inl (fun _ => 0))), (q27, .inl (cI, 40, .inl (fun _ => 0))), (q35, .inl (cI, 40, .inl (fun _ => 0))), (q49, .inl (cI, 30, .inl (fun _ => 0))), (q57, .inl (cI, 30, .inl (fun _ => 0))), (q65, .inl (cI, 30, .inl (fun _ => 0))), (q73, .inl (cI, 30, .inl (fun _ => 0))), (q81, .inl (cZ, 30, .inl (fun _ => 0)))]) H := hP
  have hD : va_D A (W9 ++ [(q, .inr (7, [.int 1, .ref q11, .ref q19, .int 0, .ref q27, .int 0, .ref q35, .int 100, .int 0, .ref q49, .ref q57, .ref q65, .ref q73, .ref q81, .null, .int 0, .null, .int 0])), (q11, .inl (cI, 3, .inl (fun _ => 0))), (q19, .inl (cI, 36, .inl (fun _ => 0))), (q27, .inl (cI, 40, .inl (fun _ => 0))), (q35, .inl (cI, 40, .inl (fun _ => 0))), (q49, .inl (cI, 30, .inl (fun _ => 0))), (q57, .inl (cI, 30, .inl (fun _ => 0))), (q65, .inl (cI, 30, .inl (fun _ => 0))), (q73, .inl (cI, 30, .inl (fun _ => 0))), (q81, .inl (cZ, 30, .inl (fun _ => 0)))]) := hD
  refine lv_aload_n hx hb dX9_init_86 rfl (lv_at hl 0 rfl) ?_
  refine lv_bipush (v := 120) hx hb dX9_init_87 (by decide +kernel) ?_
  refine va_newa (atype := .int) (ty := .int) (n := 120) (N' := 120) (a0 := (120, .inl (fun _ => 0))) hx hb (hts (.arrayClass .int) (List.mem_of_getElem? (i := 5) rfl)) rfl hK hP hD hS hA (fun _ => rfl) (by decide +kernel) (by decide +kernel) (by decide +kernel) (Nat.le_of_ble_eq_true rfl) (Nat.le_of_ble_eq_true rfl) dX9_init_89 (fun q89 cA H hK4 hP hD hS => ?_)
  rw [arr_I hK4] at hP hD
  clear hK4
  rw [List.append_assoc] at hP hD
  have hP : va_P D vwCl (W9 ++ [(q, .inr (7, [.int 1, .ref q11, .ref q19, .int 0, .ref q27, .int 0, .ref q35, .int 100, .int 0, .ref q49, .ref q57, .ref q65, .ref q73, .ref q81, .null, .int 0, .null, .int 0])), (q11, .inl (cI, 3, .inl (fun _ => 0))), (q19, .inl (cI, 36, .inl (fun _ => 0))), (q27, .inl (cI, 40, .inl (fun _ => 0))), (q35, .inl (cI, 40, .inl (fun _ => 0))), (q49, .inl (cI, 30, .inl (fun _ => 0))), (q57, .inl (cI, 30, .inl (fun _ => 0))), (q65, .inl (cI, 30, .inl (fun _ => 0))), (q73, .inl (cI, 30, .inl (fun _ => 0))), (q81, .inl (cZ, 30, .inl (fun _ => 0))), (q89, .inl (cI, 120, .inl (fun _ => 0)))]) H := hP
  have hD : va_D A (W9 ++ [(q, .inr (7, [.int 1, .ref q11, .ref q19, .int 0, .ref q27, .int 0, .ref q35, .int 100, .int 0, .ref q49, .ref q57, .ref q65, .ref q73, .ref q81, .null, .int 0, .null, .int 0])), (q11, .inl (cI, 3, .inl (fun _ => 0))), (q19, .inl (cI, 36, .inl (fun _ => 0))), (q27, .inl (cI, 40, .inl (fun _ => 0))), (q35, .inl (cI, 40, .inl (fun _ => 0))), (q49, .inl (cI, 30, .inl (fun _ => 0))), (q57, .inl (cI, 30, .inl (fun _ => 0))), (q65, .inl (cI, 30, .inl (fun _ => 0))), (q73, .inl (cI, 30, .inl (fun _ => 0))), (q81, .inl (cZ, 30, .inl (fun _ => 0))), (q89, .inl (cI, 120, .inl (fun _ => 0)))]) := hD
  refine W.cs (cells' := 10) (slots' := 389) rfl rfl ?_
  refine va_putF (D := D) (ci := 7) (v := .ref q89) (ty := .array .int) (C := RX9) (T := TX9) (N := 18) hx hb hts in_X9_init_X9 tyX9 tyX9_ok nmX9 hown hK hP hD hS (W9.length + 0) (pre_at 0 rfl) rfl 14 (by decide) (hts (.fieldLink RX9 45 "WallCountModel" "proof" "[I") (List.mem_of_getElem? (i := 17) rfl)) (fun _ h9 => h9) rfl hin0 rfl (by decide +kernel) rfl rfl (Nat.le_of_ble_eq_true rfl) dX9_init_91 (fun H locs hP hD hS => ?_)
  rw [pre_set] at hP hD
  have hP : va_P D vwCl (W9 ++ [(q, .inr (7, [.int 1, .ref q11, .ref q19, .int 0, .ref q27, .int 0, .ref q35, .int 100, .int 0, .ref q49, .ref q57, .ref q65, .ref q73, .ref q81, .ref q89, .int 0, .null, .int 0])), (q11, .inl (cI, 3, .inl (fun _ => 0))), (q19, .inl (cI, 36, .inl (fun _ => 0))), (q27, .inl (cI, 40, .inl (fun _ => 0))), (q35, .inl (cI, 40, .inl (fun _ => 0))), (q49, .inl (cI, 30, .inl (fun _ => 0))), (q57, .inl (cI, 30, .inl (fun _ => 0))), (q65, .inl (cI, 30, .inl (fun _ => 0))), (q73, .inl (cI, 30, .inl (fun _ => 0))), (q81, .inl (cZ, 30, .inl (fun _ => 0))), (q89, .inl (cI, 120, .inl (fun _ => 0)))]) H := hP
  have hD : va_D A (W9 ++ [(q, .inr (7, [.int 1, .ref q11, .ref q19, .int 0, .ref q27, .int 0, .ref q35, .int 100, .int 0, .ref q49, .ref q57, .ref q65, .ref q73, .ref q81, .ref q89, .int 0, .null, .int 0])), (q11, .inl (cI, 3, .inl (fun _ => 0))), (q19, .inl (cI, 36, .inl (fun _ => 0))), (q27, .inl (cI, 40, .inl (fun _ => 0))), (q35, .inl (cI, 40, .inl (fun _ => 0))), (q49, .inl (cI, 30, .inl (fun _ => 0))), (q57, .inl (cI, 30, .inl (fun _ => 0))), (q65, .inl (cI, 30, .inl (fun _ => 0))), (q73, .inl (cI, 30, .inl (fun _ => 0))), (q81, .inl (cZ, 30, .inl (fun _ => 0))), (q89, .inl (cI, 120, .inl (fun _ => 0)))]) := hD
  refine lv_aload_n hx hb dX9_init_94 rfl (lv_at hl 0 rfl) ?_
  refine lv_bipush (v := 30) hx hb dX9_init_95 (by decide +kernel) ?_
  refine va_newa (atype := .int) (ty := .int) (n := 30) (N' := 30) (a0 := (30, .inl (fun _ => 0))) hx hb (hts (.arrayClass .int) (List.mem_of_getElem? (i := 5) rfl)) rfl hK hP hD hS hA (fun _ => rfl) (by decide +kernel) (by decide +kernel) (by decide +kernel) (Nat.le_of_ble_eq_true rfl) (Nat.le_of_ble_eq_true rfl) dX9_init_97 (fun q97 cA H hK4 hP hD hS => ?_)
  rw [arr_I hK4] at hP hD
  clear hK4
  rw [List.append_assoc] at hP hD
  have hP : va_P D vwCl (W9 ++ [(q, .inr (7, [.int 1, .ref q11, .ref q19, .int 0, .ref q27, .int 0, .ref q35, .int 100, .int 0, .ref q49, .ref q57, .ref q65, .ref q73, .ref q81, .ref q89, .int 0, .null, .int 0])), (q11, .inl (cI, 3, .inl (fun _ => 0))), (q19, .inl (cI, 36, .inl (fun _ => 0))), (q27, .inl (cI, 40, .inl (fun _ => 0))), (q35, .inl (cI, 40, .inl (fun _ => 0))), (q49, .inl (cI, 30, .inl (fun _ => 0))), (q57, .inl (cI, 30, .inl (fun _ => 0))), (q65, .inl (cI, 30, .inl (fun _ => 0))), (q73, .inl (cI, 30, .inl (fun _ => 0))), (q81, .inl (cZ, 30, .inl (fun _ => 0))), (q89, .inl (cI, 120, .inl (fun _ => 0))), (q97, .inl (cI, 30, .inl (fun _ => 0)))]) H := hP
  have hD : va_D A (W9 ++ [(q, .inr (7, [.int 1, .ref q11, .ref q19, .int 0, .ref q27, .int 0, .ref q35, .int 100, .int 0, .ref q49, .ref q57, .ref q65, .ref q73, .ref q81, .ref q89, .int 0, .null, .int 0])), (q11, .inl (cI, 3, .inl (fun _ => 0))), (q19, .inl (cI, 36, .inl (fun _ => 0))), (q27, .inl (cI, 40, .inl (fun _ => 0))), (q35, .inl (cI, 40, .inl (fun _ => 0))), (q49, .inl (cI, 30, .inl (fun _ => 0))), (q57, .inl (cI, 30, .inl (fun _ => 0))), (q65, .inl (cI, 30, .inl (fun _ => 0))), (q73, .inl (cI, 30, .inl (fun _ => 0))), (q81, .inl (cZ, 30, .inl (fun _ => 0))), (q89, .inl (cI, 120, .inl (fun _ => 0))), (q97, .inl (cI, 30, .inl (fun _ => 0)))]) := hD
  refine W.cs (cells' := 11) (slots' := 419) rfl rfl ?_
  refine va_putF (D := D) (ci := 7) (v := .ref q97) (ty := .array .int) (C := RX9) (T := TX9) (N := 18) hx hb hts in_X9_init_X9 tyX9 tyX9_ok nmX9 hown hK hP hD hS (W9.length + 0) (pre_at 0 rfl) rfl 16 (by decide) (hts (.fieldLink RX9 48 "WallCountModel" "copied" "[I") (List.mem_of_getElem? (i := 18) rfl)) (fun _ h9 => h9) rfl hin0 rfl (by decide +kernel) rfl rfl (Nat.le_of_ble_eq_true rfl) dX9_init_99 (fun H locs hP hD hS => ?_)
  rw [pre_set] at hP hD
  have hP : va_P D vwCl (W9 ++ [(q, .inr (7, [.int 1, .ref q11, .ref q19, .int 0, .ref q27, .int 0, .ref q35, .int 100, .int 0, .ref q49, .ref q57, .ref q65, .ref q73, .ref q81, .ref q89, .int 0, .ref q97, .int 0])), (q11, .inl (cI, 3, .inl (fun _ => 0))), (q19, .inl (cI, 36, .inl (fun _ => 0))), (q27, .inl (cI, 40, .inl (fun _ => 0))), (q35, .inl (cI, 40, .inl (fun _ => 0))), (q49, .inl (cI, 30, .inl (fun _ => 0))), (q57, .inl (cI, 30, .inl (fun _ => 0))), (q65, .inl (cI, 30, .inl (fun _ => 0))), (q73, .inl (cI, 30, .inl (fun _ => 0))), (q81, .inl (cZ, 30, .inl (fun _ => 0))), (q89, .inl (cI, 120, .inl (fun _ => 0))), (q97, .inl (cI, 30, .inl (fun _ => 0)))]) H := hP
  have hD : va_D A (W9 ++ [(q, .inr (7, [.int 1, .ref q11, .ref q19, .int 0, .ref q27, .int 0, .ref q35, .int 100, .int 0, .ref q49, .ref q57, .ref q65, .ref q73, .ref q81, .ref q89, .int 0, .ref q97, .int 0])), (q11, .inl (cI, 3, .inl (fun _ => 0))), (q19, .inl (cI, 36, .inl (fun _ => 0))), (q27, .inl (cI, 40, .inl (fun _ => 0))), (q35, .inl (cI, 40, .inl (fun _ => 0))), (q49, .inl (cI, 30, .inl (fun _ => 0))), (q57, .inl (cI, 30, .inl (fun _ => 0))), (q65, .inl (cI, 30, .inl (fun _ => 0))), (q73, .inl (cI, 30, .inl (fun _ => 0))), (q81, .inl (cZ, 30, .inl (fun _ => 0))), (q89, .inl (cI, 120, .inl (fun _ => 0))), (q97, .inl (cI, 30, .inl (fun _ => 0)))]) := hD
  refine lv_aload_n hx hb dX9_init_102 rfl (lv_at hl 0 rfl) ?_
  refine va_get (D := D) (ci := 7) (v := .ref q11) (C := RX9) (T := TX9) (N := 18) hx hb hts in_X9_init_X9 hown hK hP (W9.length + 0) (pre_at 0 rfl) rfl 1 (by decide) (hts (.fieldLink RX9 13 "WallCountModel" "secret" "[I") (List.mem_of_getElem? (i := 6) rfl)) (fun _ h9 => h9) rfl dX9_init_103 ?_
  refine lv_iconst (v := 0) hx hb dX9_init_106 (by decide) ?_
  refine lv_iconst (v := 1) hx hb dX9_init_107 (by decide) ?_
  refine va_iast hx hb hK hP hD hS (W9.length + 1) 0 (pre_at 1 rfl) rfl vp3_0 dX9_init_108 (fun H locs hP hD hS => ?_)
  rw [pre_set] at hP hD
  have hP : va_P D vwCl (W9 ++ [(q, .inr (7, [.int 1, .ref q11, .ref q19, .int 0, .ref q27, .int 0, .ref q35, .int 100, .int 0, .ref q49, .ref q57, .ref q65, .ref q73, .ref q81, .ref q89, .int 0, .ref q97, .int 0])), (q11, .inl (cI, 3, .inl (upd (fun _ => 0) (ix 0) 1))), (q19, .inl (cI, 36, .inl (fun _ => 0))), (q27, .inl (cI, 40, .inl (fun _ => 0))), (q35, .inl (cI, 40, .inl (fun _ => 0))), (q49, .inl (cI, 30, .inl (fun _ => 0))), (q57, .inl (cI, 30, .inl (fun _ => 0))), (q65, .inl (cI, 30, .inl (fun _ => 0))), (q73, .inl (cI, 30, .inl (fun _ => 0))), (q81, .inl (cZ, 30, .inl (fun _ => 0))), (q89, .inl (cI, 120, .inl (fun _ => 0))), (q97, .inl (cI, 30, .inl (fun _ => 0)))]) H := hP
  have hD : va_D A (W9 ++ [(q, .inr (7, [.int 1, .ref q11, .ref q19, .int 0, .ref q27, .int 0, .ref q35, .int 100, .int 0, .ref q49, .ref q57, .ref q65, .ref q73, .ref q81, .ref q89, .int 0, .ref q97, .int 0])), (q11, .inl (cI, 3, .inl (upd (fun _ => 0) (ix 0) 1))), (q19, .inl (cI, 36, .inl (fun _ => 0))), (q27, .inl (cI, 40, .inl (fun _ => 0))), (q35, .inl (cI, 40, .inl (fun _ => 0))), (q49, .inl (cI, 30, .inl (fun _ => 0))), (q57, .inl (cI, 30, .inl (fun _ => 0))), (q65, .inl (cI, 30, .inl (fun _ => 0))), (q73, .inl (cI, 30, .inl (fun _ => 0))), (q81, .inl (cZ, 30, .inl (fun _ => 0))), (q89, .inl (cI, 120, .inl (fun _ => 0))), (q97, .inl (cI, 30, .inl (fun _ => 0)))]) := hD
  refine lv_iconst (v := 0) hx hb dX9_init_109 (by decide) ?_
  refine lv_istore_n (lv' := [(1, .int 0), (0, .ref q)]) hx hb dX9_init_110 rfl hl (by decide) rfl (fun ls hl => ?_)
  suffices loop : ∀ (n : Nat) (v1 : Int32) (fx : Nat → Int32) (H : Heap) (locs : List Loc), (UP 0 12 n v1) → x_X9_init_L111 n v1 fx = Rv → va_P D vwCl (W9 ++ [(q, .inr (7, [.int 1, .ref q11, .ref q19, .int 0, .ref q27, .int 0, .ref q35, .int 100, .int 0, .ref q49, .ref q57, .ref q65, .ref q73, .ref q81, .ref q89, .int 0, .ref q97, .int 0])), (q11, .inl (cI, 3, .inl (upd (fun _ => 0) (ix 0) 1))), (q19, .inl (cI, 36, .inl fx)), (q27, .inl (cI, 40, .inl (fun _ => 0))), (q35, .inl (cI, 40, .inl (fun _ => 0))), (q49, .inl (cI, 30, .inl (fun _ => 0))), (q57, .inl (cI, 30, .inl (fun _ => 0))), (q65, .inl (cI, 30, .inl (fun _ => 0))), (q73, .inl (cI, 30, .inl (fun _ => 0))), (q81, .inl (cZ, 30, .inl (fun _ => 0))), (q89, .inl (cI, 120, .inl (fun _ => 0))), (q97, .inl (cI, 30, .inl (fun _ => 0)))]) H → va_D A (W9 ++ [(q, .inr (7, [.int 1, .ref q11, .ref q19, .int 0, .ref q27, .int 0, .ref q35, .int 100, .int 0, .ref q49, .ref q57, .ref q65, .ref q73, .ref q81, .ref q89, .int 0, .ref q97, .int 0])), (q11, .inl (cI, 3, .inl (upd (fun _ => 0) (ix 0) 1))), (q19, .inl (cI, 36, .inl fx)), (q27, .inl (cI, 40, .inl (fun _ => 0))), (q35, .inl (cI, 40, .inl (fun _ => 0))), (q49, .inl (cI, 30, .inl (fun _ => 0))), (q57, .inl (cI, 30, .inl (fun _ => 0))), (q65, .inl (cI, 30, .inl (fun _ => 0))), (q73, .inl (cI, 30, .inl (fun _ => 0))), (q81, .inl (cZ, 30, .inl (fun _ => 0))), (q89, .inl (cI, 120, .inl (fun _ => 0))), (q97, .inl (cI, 30, .inl (fun _ => 0)))]) → va_S A s.heap H locs → ∀ ls : Array Slot, lv_has ls 2 [(1, .int v1), (0, .ref q)] → W p l e (headSpec wsX9_init rm_X9_init).room s m ([.ref q] : List Value).toArray below meth c H locs 11 419 (MQ below (pq_X9_init D cI cZ cR A W9 q Rv) ([.ref q] : List Value).toArray s 11 419 A) (F0 m 111 ls []) from
    loop (13) 0 (fun _ => 0) _ _ (UP.start 0 (by omega) (by omega)) hE hP hD hS ls (lv_sub hl [0, 1] rfl)
  clear hE hl ls hP hD hS
  intro n
  induction n with
  | zero =>
    intro v1 fx H locs hI _ _ _ _ _ _
    exact absurd hI (UP.zero)
  | succ n ih =>
    intro v1 fx H locs hI hE hP hD hS ls hl
    rw [x_X9_init_L111] at hE
    refine lv_iload_n hx hb dX9_init_111 rfl (lv_at hl 0 rfl) ?_
    refine lv_bipush (v := 12) hx hb dX9_init_112 (by decide +kernel) ?_
    refine lv_icmp_ge (tgt := 145) hx hb dX9_init_114 (by decide) (fun c_114 => ?_) (fun c_114 => ?_)
    · have hE := itT hE c_114
      subst hE
      exact wr_vret (q11, q19, q27, q35, q49, q57, q65, q73, q81, q89, q97) hx hb hr hlocks rfl hP hD hS dX9_init_145
    · have hE := itF hE c_114
      refine lv_aload_n hx hb dX9_init_117 rfl (lv_at hl 1 rfl) ?_
      refine va_get (D := D) (ci := 7) (v := .ref q19) (C := RX9) (T := TX9) (N := 18) hx hb hts in_X9_init_X9 hown hK hP (W9.length + 0) (pre_at 0 rfl) rfl 2 (by decide) (hts (.fieldLink RX9 17 "WallCountModel" "has" "[I") (List.mem_of_getElem? (i := 7) rfl)) (fun _ h9 => h9) rfl dX9_init_118 ?_
      refine lv_iconst (v := 3) hx hb dX9_init_121 (by decide) ?_
      refine lv_iload_n hx hb dX9_init_122 rfl (lv_at hl 0 rfl) ?_
      refine lv_imul hx hb dX9_init_123 ?_
      refine lv_bipush (v := 30) hx hb dX9_init_124 (by decide +kernel) ?_
      refine va_iast hx hb hK hP hD hS (W9.length + 2) 0 (pre_at 2 rfl) rfl (hs_in0 (hI.ge (by decide) rfl c_114).2) dX9_init_126 (fun H locs hP hD hS => ?_)
      rw [pre_set] at hP hD
      have hP : va_P D vwCl (W9 ++ [(q, .inr (7, [.int 1, .ref q11, .ref q19, .int 0, .ref q27, .int 0, .ref q35, .int 100, .int 0, .ref q49, .ref q57, .ref q65, .ref q73, .ref q81, .ref q89, .int 0, .ref q97, .int 0])), (q11, .inl (cI, 3, .inl (upd (fun _ => 0) (ix 0) 1))), (q19, .inl (cI, 36, .inl (upd fx (ix (3 * v1)) 30))), (q27, .inl (cI, 40, .inl (fun _ => 0))), (q35, .inl (cI, 40, .inl (fun _ => 0))), (q49, .inl (cI, 30, .inl (fun _ => 0))), (q57, .inl (cI, 30, .inl (fun _ => 0))), (q65, .inl (cI, 30, .inl (fun _ => 0))), (q73, .inl (cI, 30, .inl (fun _ => 0))), (q81, .inl (cZ, 30, .inl (fun _ => 0))), (q89, .inl (cI, 120, .inl (fun _ => 0))), (q97, .inl (cI, 30, .inl (fun _ => 0)))]) H := hP
      have hD : va_D A (W9 ++ [(q, .inr (7, [.int 1, .ref q11, .ref q19, .int 0, .ref q27, .int 0, .ref q35, .int 100, .int 0, .ref q49, .ref q57, .ref q65, .ref q73, .ref q81, .ref q89, .int 0, .ref q97, .int 0])), (q11, .inl (cI, 3, .inl (upd (fun _ => 0) (ix 0) 1))), (q19, .inl (cI, 36, .inl (upd fx (ix (3 * v1)) 30))), (q27, .inl (cI, 40, .inl (fun _ => 0))), (q35, .inl (cI, 40, .inl (fun _ => 0))), (q49, .inl (cI, 30, .inl (fun _ => 0))), (q57, .inl (cI, 30, .inl (fun _ => 0))), (q65, .inl (cI, 30, .inl (fun _ => 0))), (q73, .inl (cI, 30, .inl (fun _ => 0))), (q81, .inl (cZ, 30, .inl (fun _ => 0))), (q89, .inl (cI, 120, .inl (fun _ => 0))), (q97, .inl (cI, 30, .inl (fun _ => 0)))]) := hD
      refine lv_aload_n hx hb dX9_init_127 rfl (lv_at hl 1 rfl) ?_
      refine va_get (D := D) (ci := 7) (v := .ref q19) (C := RX9) (T := TX9) (N := 18) hx hb hts in_X9_init_X9 hown hK hP (W9.length + 0) (pre_at 0 rfl) rfl 2 (by decide) (hts (.fieldLink RX9 17 "WallCountModel" "has" "[I") (List.mem_of_getElem? (i := 7) rfl)) (fun _ h9 => h9) rfl dX9_init_128 ?_
      refine lv_iconst (v := 3) hx hb dX9_init_131 (by decide) ?_
      refine lv_iload_n hx hb dX9_init_132 rfl (lv_at hl 0 rfl) ?_
      refine lv_imul hx hb dX9_init_133 ?_
      refine lv_iconst (v := 1) hx hb dX9_init_134 (by decide) ?_
      refine lv_iadd hx hb dX9_init_135 ?_
      refine lv_bipush (v := 10) hx hb dX9_init_136 (by decide +kernel) ?_
      refine va_iast hx hb hK hP hD hS (W9.length + 2) 0 (pre_at 2 rfl) rfl (hs_in1 (hI.ge (by decide) rfl c_114).2) dX9_init_138 (fun H locs hP hD hS => ?_)
      rw [pre_set] at hP hD
      have hP : va_P D vwCl (W9 ++ [(q, .inr (7, [.int 1, .ref q11, .ref q19, .int 0, .ref q27, .int 0, .ref q35, .int 100, .int 0, .ref q49, .ref q57, .ref q65, .ref q73, .ref q81, .ref q89, .int 0, .ref q97, .int 0])), (q11, .inl (cI, 3, .inl (upd (fun _ => 0) (ix 0) 1))), (q19, .inl (cI, 36, .inl (upd (upd fx (ix (3 * v1)) 30) (ix ((3 * v1) + 1)) 10))), (q27, .inl (cI, 40, .inl (fun _ => 0))), (q35, .inl (cI, 40, .inl (fun _ => 0))), (q49, .inl (cI, 30, .inl (fun _ => 0))), (q57, .inl (cI, 30, .inl (fun _ => 0))), (q65, .inl (cI, 30, .inl (fun _ => 0))), (q73, .inl (cI, 30, .inl (fun _ => 0))), (q81, .inl (cZ, 30, .inl (fun _ => 0))), (q89, .inl (cI, 120, .inl (fun _ => 0))), (q97, .inl (cI, 30, .inl (fun _ => 0)))]) H := hP
      have hD : va_D A (W9 ++ [(q, .inr (7, [.int 1, .ref q11, .ref q19, .int 0, .ref q27, .int 0, .ref q35, .int 100, .int 0, .ref q49, .ref q57, .ref q65, .ref q73, .ref q81, .ref q89, .int 0, .ref q97, .int 0])), (q11, .inl (cI, 3, .inl (upd (fun _ => 0) (ix 0) 1))), (q19, .inl (cI, 36, .inl (upd (upd fx (ix (3 * v1)) 30) (ix ((3 * v1) + 1)) 10))), (q27, .inl (cI, 40, .inl (fun _ => 0))), (q35, .inl (cI, 40, .inl (fun _ => 0))), (q49, .inl (cI, 30, .inl (fun _ => 0))), (q57, .inl (cI, 30, .inl (fun _ => 0))), (q65, .inl (cI, 30, .inl (fun _ => 0))), (q73, .inl (cI, 30, .inl (fun _ => 0))), (q81, .inl (cZ, 30, .inl (fun _ => 0))), (q89, .inl (cI, 120, .inl (fun _ => 0))), (q97, .inl (cI, 30, .inl (fun _ => 0)))]) := hD
      refine lv_iinc (v := (v1 + 1)) (lv' := [(1, .int (v1 + 1)), (0, .ref q)]) hx hb dX9_init_139 hl (k := 0) rfl rfl (by decide) rfl (fun ls hl => ?_)
      refine lv_goto (tgt := 111) hx hb dX9_init_142 (by decide) ?_
      exact ih (v1 + 1) (upd (upd fx (ix (3 * v1)) 30) (ix ((3 * v1) + 1)) 10) _ _ ((hI.ge (by decide) rfl c_114).1) hE hP hD hS ls (lv_sub hl [0, 1] rfl)
