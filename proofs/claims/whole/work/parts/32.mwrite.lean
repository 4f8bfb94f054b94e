theorem hd_X9_mix : yX9_mix.cls ≠ "java/lang/invoke/MethodHandle" ∧ yX9_mix.cls ≠ "java/lang/invoke/VarHandle" ∧ (parseMethodDescriptor yX9_mix.desc).map (fun d => d.parameters.length) = some 1 := by decide +kernel
def x_X9_mix (mx : Int32) (p0 : Int32) : Int32 := (Int64.toInt32 (xRemL (((Int32.toInt64 mx) * 31) + (Int32.toInt64 p0)) 5003))
def rm_X9_mix : Room := { frames := 0, cells := 0, slots := 0, locals := 0 }
abbrev pq_X9_mix (D : va_G) (cI cZ cR : ClassId) (A : Nat → Prop) (o aS aH aG aR aV aA aB aO aP aF aC : Nat) (nd : Int32) (fs : Nat → Int32) (fh : Nat → Int32) (sg : Nat) (fg : Nat → Int32) (rq : Nat) (fq : Nat → Int32) (cl : Int32) (nr : Nat) (fV : Nat → Int32) (fA : Nat → Int32) (fB : Nat → Int32) (fO : Nat → Int32) (fP : Nat → Int32) (fF : Nat → Int32) (cn : Nat) (fC : Nat → Int32) (mx : Int32) (Rv : Int32) : Array Value → State → Outcome → State → Prop := wr_Q D (fun (v : Option Value) (u : Int32) => v = none ∧ u = Rv) (fun u => mW cI cZ o aS aH aG aR aV aA aB aO aP aF aC nd fs fh sg fg rq fq cl nr fV fA fB fO fP fF cn fC u) A
theorem in_X9_mix_X9 : ∀ w ∈ wsX90, w ∈ wsX9_mix := fun _ h => List.mem_cons_of_mem _ (List.mem_append_right _ h)
set_option maxHeartbeats 4000000 in
set_option maxRecDepth 100000 in
theorem c_X9_mix (l : Launch) (D : va_G) (cI cZ cR : ClassId) (A : Nat → Prop) (H0 : Heap) (o aS aH aG aR aV aA aB aO aP aF aC : Nat) (nd : Int32) (fs : Nat → Int32) (fh : Nat → Int32) (sg : Nat) (fg : Nat → Int32) (rq : Nat) (fq : Nat → Int32) (cl : Int32) (nr : Nat) (fV : Nat → Int32) (fA : Nat → Int32) (fB : Nat → Int32) (fO : Nat → Int32) (fP : Nat → Int32) (fF : Nat → Int32) (cn : Nat) (fC : Nat → Int32) (mx : Int32) (p0 : Int32) : Met l yX9_mix wsX9_mix rm_X9_mix (wr_P D cI cZ cR [.ref o, .int p0] (mW cI cZ o aS aH aG aR aV aA aB aO aP aF aC nd fs fh sg fg rq fq cl nr fV fA fB fO fP fF cn fC mx) A H0) (pq_X9_mix D cI cZ cR A o aS aH aG aR aV aA aB aO aP aF aC nd fs fh sg fg rq fq cl nr fV fA fB fO fP fF cn fC mx (x_X9_mix mx p0)) 0 0 A := by
  refine Met.ofW (cc := cX9_mix) (maxL := 2) (ret := none) (by decide +kernel) rfl ?_
  intro p e s m args below meth c s₁ B hml hv
  obtain ⟨rfl, rfl, hAM, hP, hD⟩ := hv
  have hx := B.exec
  have hb := B.bytes
  have hr := B.returns
  have hts := atoms_spec (ws := wsX9_mix) B.pre
  have hown : s.vm.findClass RX9 = some m.cls := findClass_of_methodNamed B.named
  have hlocks := B.notSynchronized
  have hK := hAM.1
  have hS : va_S A s.heap s.heap [] := va_S.rf
  generalize hE : (x_X9_mix mx p0) = Rv
  rw [x_X9_mix] at hE
  have hl := lv_entry ([.ref o, .int p0]) (n := 2) (Nat.le_of_ble_eq_true rfl)
  rw [lg_entry_eq]
  generalize (lg_sl ([.ref o, .int p0]) ++ List.replicate (2 - (lg_sl ([.ref o, .int p0])).length) Slot.unset).toArray = ls at hl ⊢
  have hl : lv_has ls 2 [(0, .ref o), (1, .int p0)] := hl
  refine lv_aload_n hx hb dX9_mix_0 rfl (lv_at hl 0 rfl) ?_
  refine lv_aload_n hx hb dX9_mix_1 rfl (lv_at hl 0 rfl) ?_
  refine va_get (D := D) (ci := 7) (v := .int mx) (C := RX9) (T := TX9) (N := 18) hx hb hts in_X9_mix_X9 hown hK hP 0 rfl rfl 17 (by decide) (hts (.fieldLink RX9 108 "WallCountModel" "mixed" "I") (List.mem_of_getElem? (i := 1) rfl)) (fun _ h9 => h9) rfl dX9_mix_2 ?_
  refine lv_i2l hx hb dX9_mix_5 rfl ?_
  refine lv_ldc2 hx hb hown (hts (.constantLong RX9 111 (31)) (List.mem_of_getElem? (i := 2) rfl)) dX9_mix_6 ?_
  refine lv_lmul hx hb dX9_mix_9 ?_
  refine lv_iload_n hx hb dX9_mix_10 rfl (lv_at hl 1 rfl) ?_
  refine lv_i2l hx hb dX9_mix_11 rfl ?_
  refine lv_ladd hx hb dX9_mix_12 ?_
  refine lv_ldc2 hx hb hown (hts (.constantLong RX9 97 (5003)) (List.mem_of_getElem? (i := 3) rfl)) dX9_mix_13 ?_
  refine w_lrem hx hb dX9_mix_16 (by decide +kernel) ?_
  refine lv_l2i hx hb dX9_mix_17 rfl ?_
  refine va_put (D := D) (ci := 7) (v := .int (Int64.toInt32 (xRemL (((Int32.toInt64 mx) * 31) + (Int32.toInt64 p0)) 5003))) (ty := .int) (C := RX9) (T := TX9) (N := 18) hx hb hts in_X9_mix_X9 tyX9 tyX9_ok nmX9 hown hK hP hD hS 0 rfl rfl 17 (by decide) (hts (.fieldLink RX9 108 "WallCountModel" "mixed" "I") (List.mem_of_getElem? (i := 1) rfl)) (fun _ h9 => h9) rfl (by decide +kernel) rfl rfl (Nat.le_of_ble_eq_true rfl) dX9_mix_18 (fun H locs hP hD hS => ?_)
  have hP : va_P D vwCl (mW cI cZ o aS aH aG aR aV aA aB aO aP aF aC nd fs fh sg fg rq fq cl nr fV fA fB fO fP fF cn fC (Int64.toInt32 (xRemL (((Int32.toInt64 mx) * 31) + (Int32.toInt64 p0)) 5003))) H := hP
  have hD : va_D A (mW cI cZ o aS aH aG aR aV aA aB aO aP aF aC nd fs fh sg fg rq fq cl nr fV fA fB fO fP fF cn fC (Int64.toInt32 (xRemL (((Int32.toInt64 mx) * 31) + (Int32.toInt64 p0)) 5003))) := hD
  subst hE
  exact wr_vret ((Int64.toInt32 (xRemL (((Int32.toInt64 mx) * 31) + (Int32.toInt64 p0)) 5003))) hx hb hr hlocks ⟨rfl, rfl⟩ hP hD hS dX9_mix_21

theorem hd_X9_holds : yX9_holds.cls ≠ "java/lang/invoke/MethodHandle" ∧ yX9_holds.cls ≠ "java/lang/invoke/VarHandle" ∧ (parseMethodDescriptor yX9_holds.desc).map (fun d => d.parameters.length) = some 6 := by decide +kernel
def x_X9_holds (fs : Nat → Int32) (p0 : Int32) (p1 : Int32) (p2 : Int32) (p3 : Int32) (p4 : Int32) (p5 : Int32) : Bool := (if (x_X9_isRight p0 p1) = true then (if (x_X9_isPower p2) = true then (if (x_X9_isPower p3) = true then (if (x_X9_isPower p4) = true then (if (x_X9_isPower p5) = true then (if (xRem (p2 + p4) 5003) = (x_X9_mix (x_X9_mix (x_X9_mix (x_X9_mix (x_X9_mix (x_X9_mix 1 p0) p1) (x_X9_sOf p0 p2 p3)) (x_X9_tOf fs p1 0 p2 p3)) (x_X9_sOf p0 p4 p5)) (x_X9_tOf fs p1 1 p4 p5)) then true else false) else false) else false) else false) else false) else false)
def rm_X9_holds : Room := { frames := 4, cells := 0, slots := 0, locals := 94 }
abbrev pq_X9_holds (D : va_G) (cI cZ cR : ClassId) (A : Nat → Prop) (o aS aH aG aR aV aA aB aO aP aF aC : Nat) (nd : Int32) (fs : Nat → Int32) (fh : Nat → Int32) (sg : Nat) (fg : Nat → Int32) (rq : Nat) (fq : Nat → Int32) (cl : Int32) (nr : Nat) (fV : Nat → Int32) (fA : Nat → Int32) (fB : Nat → Int32) (fO : Nat → Int32) (fP : Nat → Int32) (fF : Nat → Int32) (cn : Nat) (fC : Nat → Int32) (mx : Int32) (Rv : Bool) : Array Value → State → Outcome → State → Prop := wr_Q D (fun (v : Option Value) (u : Int32) => v = some (.int (bI Rv))) (fun u => mW cI cZ o aS aH aG aR aV aA aB aO aP aF aC nd fs fh sg fg rq fq cl nr fV fA fB fO fP fF cn fC u) A
theorem in_X9_holds_X9 : ∀ w ∈ wsX90, w ∈ wsX9_holds := fun _ h => List.mem_cons_of_mem _ (List.mem_append_right _ h)
set_option maxHeartbeats 4000000 in
set_option maxRecDepth 100000 in
theorem c_X9_holds (l : Launch) (D : va_G) (cI cZ cR : ClassId) (A : Nat → Prop) (H0 : Heap) (o aS aH aG aR aV aA aB aO aP aF aC : Nat) (nd : Int32) (fs : Nat → Int32) (fh : Nat → Int32) (sg : Nat) (fg : Nat → Int32) (rq : Nat) (fq : Nat → Int32) (cl : Int32) (nr : Nat) (fV : Nat → Int32) (fA : Nat → Int32) (fB : Nat → Int32) (fO : Nat → Int32) (fP : Nat → Int32) (fF : Nat → Int32) (cn : Nat) (fC : Nat → Int32) (mx : Int32) (p0 : Int32) (p1 : Int32) (p2 : Int32) (p3 : Int32) (p4 : Int32) (p5 : Int32) : Met l yX9_holds wsX9_holds rm_X9_holds (wr_P D cI cZ cR [.ref o, .int p0, .int p1, .int p2, .int p3, .int p4, .int p5] (mW cI cZ o aS aH aG aR aV aA aB aO aP aF aC nd fs fh sg fg rq fq cl nr fV fA fB fO fP fF cn fC mx) A H0) (pq_X9_holds D cI cZ cR A o aS aH aG aR aV aA aB aO aP aF aC nd fs fh sg fg rq fq cl nr fV fA fB fO fP fF cn fC mx (x_X9_holds fs p0 p1 p2 p3 p4 p5)) 0 0 A := by
  refine Met.ofW (cc := cX9_holds) (maxL := 7) (ret := (some .boolean)) (by decide +kernel) rfl ?_
  intro p e s m args below meth c s₁ B hml hv
  obtain ⟨rfl, rfl, hAM, hP, hD⟩ := hv
  have hx := B.exec
  have hb := B.bytes
  have hr := B.returns
  have hts := atoms_spec (ws := wsX9_holds) B.pre
  have hown : s.vm.findClass RX9 = some m.cls := findClass_of_methodNamed B.named
  have hlocks := B.notSynchronized
  have hK := hAM.1
  have hS : va_S A s.heap s.heap [] := va_S.rf
  generalize hE : (x_X9_holds fs p0 p1 p2 p3 p4 p5) = Rv
  rw [x_X9_holds] at hE
  have hl := lv_entry ([.ref o, .int p0, .int p1, .int p2, .int p3, .int p4, .int p5]) (n := 7) (Nat.le_of_ble_eq_true rfl)
  rw [lg_entry_eq]
  generalize (lg_sl ([.ref o, .int p0, .int p1, .int p2, .int p3, .int p4, .int p5]) ++ List.replicate (7 - (lg_sl ([.ref o, .int p0, .int p1, .int p2, .int p3, .int p4, .int p5])).length) Slot.unset).toArray = ls at hl ⊢
  have hl : lv_has ls 7 [(0, .ref o), (1, .int p0), (2, .int p1), (3, .int p2), (4, .int p3), (5, .int p4), (6, .int p5)] := hl
  refine lv_iload_n hx hb dX9_holds_0 rfl (lv_at hl 1 rfl) ?_
  refine lv_iload_n hx hb dX9_holds_1 rfl (lv_at hl 2 rfl) ?_
  refine ro_call (va_runS (As := [.int p0, .int p1]) (rest := []) ⟨hx, hb, hml, hown, hts⟩ (c_X9_isRight l D cI cZ cR _ p0 p1) (va_cwS 2 hts gX9_holds_X9_isRight rfl rfl rfl hd_X9_isRight ⟨(Nat.le_of_ble_eq_true rfl), (Nat.le_of_ble_eq_true rfl)⟩) (po_pre hAM va_P.nil) rfl rfl hl.1 rfl (lv_room (Nat.le_of_ble_eq_true rfl)) dX9_holds_2 ⟨(Nat.le_of_ble_eq_true rfl), (Nat.le_of_ble_eq_true rfl)⟩) ?_
  refine w_if_eqb (tgt := 39) hx hb dX9_holds_5 (by decide) (fun c_5 => ?_) (fun c_5 => ?_)
  · have hE := itF hE c_5
    refine lv_iconst (v := 0) hx hb dX9_holds_39 (by decide) ?_
    subst hE
    exact wr_zret (r := false) (mx) hx hb hr hlocks rfl hP hD hS dX9_holds_40
  · have hE := itT hE c_5
    refine lv_iload_n hx hb dX9_holds_8 rfl (lv_at hl 3 rfl) ?_
    refine ro_call (va_runS (As := [.int p2]) (rest := []) ⟨hx, hb, hml, hown, hts⟩ (c_X9_isPower l D cI cZ cR _ p2) (va_cwS 1 hts gX9_holds_X9_isPower rfl rfl rfl hd_X9_isPower ⟨(Nat.le_of_ble_eq_true rfl), (Nat.le_of_ble_eq_true rfl)⟩) (po_pre hAM va_P.nil) rfl rfl hl.1 rfl (lv_room (Nat.le_of_ble_eq_true rfl)) dX9_holds_9 ⟨(Nat.le_of_ble_eq_true rfl), (Nat.le_of_ble_eq_true rfl)⟩) ?_
    refine w_if_eqb (tgt := 39) hx hb dX9_holds_12 (by decide) (fun c_12 => ?_) (fun c_12 => ?_)
    · have hE := itF hE c_12
      refine lv_iconst (v := 0) hx hb dX9_holds_39 (by decide) ?_
      subst hE
      exact wr_zret (r := false) (mx) hx hb hr hlocks rfl hP hD hS dX9_holds_40
    · have hE := itT hE c_12
      refine lv_iload hx hb dX9_holds_15 (lv_at hl 4 rfl) ?_
      refine ro_call (va_runS (As := [.int p3]) (rest := []) ⟨hx, hb, hml, hown, hts⟩ (c_X9_isPower l D cI cZ cR _ p3) (va_cwS 1 hts gX9_holds_X9_isPower rfl rfl rfl hd_X9_isPower ⟨(Nat.le_of_ble_eq_true rfl), (Nat.le_of_ble_eq_true rfl)⟩) (po_pre hAM va_P.nil) rfl rfl hl.1 rfl (lv_room (Nat.le_of_ble_eq_true rfl)) dX9_holds_17 ⟨(Nat.le_of_ble_eq_true rfl), (Nat.le_of_ble_eq_true rfl)⟩) ?_
      refine w_if_eqb (tgt := 39) hx hb dX9_holds_20 (by decide) (fun c_20 => ?_) (fun c_20 => ?_)
      · have hE := itF hE c_20
        refine lv_iconst (v := 0) hx hb dX9_holds_39 (by decide) ?_
        subst hE
        exact wr_zret (r := false) (mx) hx hb hr hlocks rfl hP hD hS dX9_holds_40
      · have hE := itT hE c_20
        refine lv_iload hx hb dX9_holds_23 (lv_at hl 5 rfl) ?_
        refine ro_call (va_runS (As := [.int p4]) (rest := []) ⟨hx, hb, hml, hown, hts⟩ (c_X9_isPower l D cI cZ cR _ p4) (va_cwS 1 hts gX9_holds_X9_isPower rfl rfl rfl hd_X9_isPower ⟨(Nat.le_of_ble_eq_true rfl), (Nat.le_of_ble_eq_true rfl)⟩) (po_pre hAM va_P.nil) rfl rfl hl.1 rfl (lv_room (Nat.le_of_ble_eq_true rfl)) dX9_holds_25 ⟨(Nat.le_of_ble_eq_true rfl), (Nat.le_of_ble_eq_true rfl)⟩) ?_
        refine w_if_eqb (tgt := 39) hx hb dX9_holds_28 (by decide) (fun c_28 => ?_) (fun c_28 => ?_)
        · have hE := itF hE c_28
          refine lv_iconst (v := 0) hx hb dX9_holds_39 (by decide) ?_
          subst hE
          exact wr_zret (r := false) (mx) hx hb hr hlocks rfl hP hD hS dX9_holds_40
        · have hE := itT hE c_28
          refine lv_iload hx hb dX9_holds_31 (lv_at hl 6 rfl) ?_
          refine ro_call (va_runS (As := [.int p5]) (rest := []) ⟨hx, hb, hml, hown, hts⟩ (c_X9_isPower l D cI cZ cR _ p5) (va_cwS 1 hts gX9_holds_X9_isPower rfl rfl rfl hd_X9_isPower ⟨(Nat.le_of_ble_eq_true rfl), (Nat.le_of_ble_eq_true rfl)⟩) (po_pre hAM va_P.nil) rfl rfl hl.1 rfl (lv_room (Nat.le_of_ble_eq_true rfl)) dX9_holds_33 ⟨(Nat.le_of_ble_eq_true rfl), (Nat.le_of_ble_eq_true rfl)⟩) ?_
          refine w_if_neb (tgt := 41) hx hb dX9_holds_36 (by decide) (fun c_36 => ?_) (fun c_36 => ?_)
          · have hE := itT hE c_36
            refine lv_aload_n hx hb dX9_holds_41 rfl (lv_at hl 0 rfl) ?_
            refine lv_iconst (v := 1) hx hb dX9_holds_42 (by decide) ?_
            refine va_put (D := D) (ci := 7) (v := .int 1) (ty := .int) (C := RX9) (T := TX9) (N := 18) hx hb hts in_X9_holds_X9 tyX9 tyX9_ok nmX9 hown hK hP hD hS 0 rfl rfl 17 (by decide) (hts (.fieldLink RX9 108 "WallCountModel" "mixed" "I") (List.mem_of_getElem? (i := 1) rfl)) (fun _ h9 => h9) rfl (by decide +kernel) rfl rfl (Nat.le_of_ble_eq_true rfl) dX9_holds_43 (fun H locs hP hD hS => ?_)
            have hP : va_P D vwCl (mW cI cZ o aS aH aG aR aV aA aB aO aP aF aC nd fs fh sg fg rq fq cl nr fV fA fB fO fP fF cn fC 1) H := hP
            have hD : va_D A (mW cI cZ o aS aH aG aR aV aA aB aO aP aF aC nd fs fh sg fg rq fq cl nr fV fA fB fO fP fF cn fC 1) := hD
            refine lv_aload_n hx hb dX9_holds_46 rfl (lv_at hl 0 rfl) ?_
            refine lv_iload_n hx hb dX9_holds_47 rfl (lv_at hl 1 rfl) ?_
            refine wr_call (va_runV (As := [.int p0]) (rest := []) ⟨hx, hb, hml, hown, hts⟩ (c_X9_mix l D cI cZ cR A _ o aS aH aG aR aV aA aB aO aP aF aC nd fs fh sg fg rq fq cl nr fV fA fB fO fP fF cn fC 1 p0) (cwV 1 hts gX9_holds_X9_mix rfl rfl rfl ⟨rfl, hd_X9_mix⟩ ⟨(Nat.le_of_ble_eq_true rfl), (Nat.le_of_ble_eq_true rfl)⟩) (wr_preV hAM hP hD (va_recv hK hP (ci := 7) (q0 := 0) rfl rfl)) rfl rfl hl.1 rfl (lv_room (Nat.le_of_ble_eq_true rfl)) dX9_holds_48 ⟨(Nat.le_of_ble_eq_true rfl), (Nat.le_of_ble_eq_true rfl)⟩) hS (fun v mx_48 H locs hw hP hD _ hS => ?_)
            try dsimp only at hw
            obtain ⟨rfl, rfl⟩ := hw
            refine W.eq (g2 := F0 m 51 ls []) rfl ?_
            refine W.cs (cells' := 0) (slots' := 0) rfl rfl ?_
            have hP : va_P D vwCl (mW cI cZ o aS aH aG aR aV aA aB aO aP aF aC nd fs fh sg fg rq fq cl nr fV fA fB fO fP fF cn fC (x_X9_mix 1 p0)) H := hP
            have hD : va_D A (mW cI cZ o aS aH aG aR aV aA aB aO aP aF aC nd fs fh sg fg rq fq cl nr fV fA fB fO fP fF cn fC (x_X9_mix 1 p0)) := hD
            refine lv_aload_n hx hb dX9_holds_51 rfl (lv_at hl 0 rfl) ?_
            refine lv_iload_n hx hb dX9_holds_52 rfl (lv_at hl 2 rfl) ?_
            refine wr_call (va_runV (As := [.int p1]) (rest := []) ⟨hx, hb, hml, hown, hts⟩ (c_X9_mix l D cI cZ cR A _ o aS aH aG aR aV aA aB aO aP aF aC nd fs fh sg fg rq fq cl nr fV fA fB fO fP fF cn fC (x_X9_mix 1 p0) p1) (cwV 1 hts gX9_holds_X9_mix rfl rfl rfl ⟨rfl, hd_X9_mix⟩ ⟨(Nat.le_of_ble_eq_true rfl), (Nat.le_of_ble_eq_true rfl)⟩) (wr_preV hAM hP hD (va_recv hK hP (ci := 7) (q0 := 0) rfl rfl)) rfl rfl hl.1 rfl (lv_room (Nat.le_of_ble_eq_true rfl)) dX9_holds_53 ⟨(Nat.le_of_ble_eq_true rfl), (Nat.le_of_ble_eq_true rfl)⟩) hS (fun v mx_53 H locs hw hP hD _ hS => ?_)
            try dsimp only at hw
            obtain ⟨rfl, rfl⟩ := hw
            refine W.eq (g2 := F0 m 56 ls []) rfl ?_
            refine W.cs (cells' := 0) (slots' := 0) rfl rfl ?_
            have hP : va_P D vwCl (mW cI cZ o aS aH aG aR aV aA aB aO aP aF aC nd fs fh sg fg rq fq cl nr fV fA fB fO fP fF cn fC (x_X9_mix (x_X9_mix 1 p0) p1)) H := hP
            have hD : va_D A (mW cI cZ o aS aH aG aR aV aA aB aO aP aF aC nd fs fh sg fg rq fq cl nr fV fA fB fO fP fF cn fC (x_X9_mix (x_X9_mix 1 p0) p1)) := hD
            refine lv_aload_n hx hb dX9_holds_56 rfl (lv_at hl 0 rfl) ?_
            refine lv_iload_n hx hb dX9_holds_57 rfl (lv_at hl 1 rfl) ?_
            refine lv_iload_n hx hb dX9_holds_58 rfl (lv_at hl 3 rfl) ?_
            refine lv_iload hx hb dX9_holds_59 (lv_at hl 4 rfl) ?_
            refine ro_call (va_runS (As := [.int p0, .int p2, .int p3]) (rest := [.ref o]) ⟨hx, hb, hml, hown, hts⟩ (c_X9_sOf l D cI cZ cR _ p0 p2 p3) (va_cwS 3 hts gX9_holds_X9_sOf rfl rfl rfl hd_X9_sOf ⟨(Nat.le_of_ble_eq_true rfl), (Nat.le_of_ble_eq_true rfl)⟩) (po_pre hAM va_P.nil) rfl rfl hl.1 rfl (lv_room (Nat.le_of_ble_eq_true rfl)) dX9_holds_61 ⟨(Nat.le_of_ble_eq_true rfl), (Nat.le_of_ble_eq_true rfl)⟩) ?_
            refine wr_call (va_runV (As := [.int (x_X9_sOf p0 p2 p3)]) (rest := []) ⟨hx, hb, hml, hown, hts⟩ (c_X9_mix l D cI cZ cR A _ o aS aH aG aR aV aA aB aO aP aF aC nd fs fh sg fg rq fq cl nr fV fA fB fO fP fF cn fC (x_X9_mix (x_X9_mix 1 p0) p1) (x_X9_sOf p0 p2 p3)) (cwV 1 hts gX9_holds_X9_mix rfl rfl rfl ⟨rfl, hd_X9_mix⟩ ⟨(Nat.le_of_ble_eq_true rfl), (Nat.le_of_ble_eq_true rfl)⟩) (wr_preV hAM hP hD (va_recv hK hP (ci := 7) (q0 := 0) rfl rfl)) rfl rfl hl.1 rfl (lv_room (Nat.le_of_ble_eq_true rfl)) dX9_holds_64 ⟨(Nat.le_of_ble_eq_true rfl), (Nat.le_of_ble_eq_true rfl)⟩) hS (fun v mx_64 H locs hw hP hD _ hS => ?_)
            try dsimp only at hw
            obtain ⟨rfl, rfl⟩ := hw
            refine W.eq (g2 := F0 m 67 ls []) rfl ?_
            refine W.cs (cells' := 0) (slots' := 0) rfl rfl ?_
            have hP : va_P D vwCl (mW cI cZ o aS aH aG aR aV aA aB aO aP aF aC nd fs fh sg fg rq fq cl nr fV fA fB fO fP fF cn fC (x_X9_mix (x_X9_mix (x_X9_mix 1 p0) p1) (x_X9_sOf p0 p2 p3))) H := hP
            have hD : va_D A (mW cI cZ o aS aH aG aR aV aA aB aO aP aF aC nd fs fh sg fg rq fq cl nr fV fA fB fO fP fF cn fC (x_X9_mix (x_X9_mix (x_X9_mix 1 p0) p1) (x_X9_sOf p0 p2 p3))) := hD
            refine lv_aload_n hx hb dX9_holds_67 rfl (lv_at hl 0 rfl) ?_
            refine lv_aload_n hx hb dX9_holds_68 rfl (lv_at hl 0 rfl) ?_
            refine lv_iload_n hx hb dX9_holds_69 rfl (lv_at hl 2 rfl) ?_
            refine lv_iconst (v := 0) hx hb dX9_holds_70 (by decide) ?_
            refine lv_iload_n hx hb dX9_holds_71 rfl (lv_at hl 3 rfl) ?_
            refine lv_iload hx hb dX9_holds_72 (lv_at hl 4 rfl) ?_
            refine ro_call (va_runV (As := [.int p1, .int 0, .int p2, .int p3]) (rest := [.ref o]) ⟨hx, hb, hml, hown, hts⟩ (c_X9_tOf l D cI cZ cR _ o aS aH aG aR aV aA aB aO aP aF aC nd fs fh sg fg rq fq cl nr fV fA fB fO fP fF cn fC (x_X9_mix (x_X9_mix (x_X9_mix 1 p0) p1) (x_X9_sOf p0 p2 p3)) p1 0 p2 p3) (cwV 4 hts gX9_holds_X9_tOf rfl rfl rfl ⟨rfl, hd_X9_tOf⟩ ⟨(Nat.le_of_ble_eq_true rfl), (Nat.le_of_ble_eq_true rfl)⟩) (po_preV hAM (hP.sub [0, 1, 2, 3, 4, 5, 6, 7, 8, 9, 10, 11] rfl) (va_recv hK hP (ci := 7) (q0 := 0) rfl rfl)) rfl rfl hl.1 rfl (lv_room (Nat.le_of_ble_eq_true rfl)) dX9_holds_74 ⟨(Nat.le_of_ble_eq_true rfl), (Nat.le_of_ble_eq_true rfl)⟩) ?_
            refine wr_call (va_runV (As := [.int (x_X9_tOf fs p1 0 p2 p3)]) (rest := []) ⟨hx, hb, hml, hown, hts⟩ (c_X9_mix l D cI cZ cR A _ o aS aH aG aR aV aA aB aO aP aF aC nd fs fh sg fg rq fq cl nr fV fA fB fO fP fF cn fC (x_X9_mix (x_X9_mix (x_X9_mix 1 p0) p1) (x_X9_sOf p0 p2 p3)) (x_X9_tOf fs p1 0 p2 p3)) (cwV 1 hts gX9_holds_X9_mix rfl rfl rfl ⟨rfl, hd_X9_mix⟩ ⟨(Nat.le_of_ble_eq_true rfl), (Nat.le_of_ble_eq_true rfl)⟩) (wr_preV hAM hP hD (va_recv hK hP (ci := 7) (q0 := 0) rfl rfl)) rfl rfl hl.1 rfl (lv_room (Nat.le_of_ble_eq_true rfl)) dX9_holds_77 ⟨(Nat.le_of_ble_eq_true rfl), (Nat.le_of_ble_eq_true rfl)⟩) hS (fun v mx_77 H locs hw hP hD _ hS => ?_)
            try dsimp only at hw
            obtain ⟨rfl, rfl⟩ := hw
            refine W.eq (g2 := F0 m 80 ls []) rfl ?_
            refine W.cs (cells' := 0) (slots' := 0) rfl rfl ?_
            have hP : va_P D vwCl (mW cI cZ o aS aH aG aR aV aA aB aO aP aF aC nd fs fh sg fg rq fq cl nr fV fA fB fO fP fF cn fC (x_X9_mix (x_X9_mix (x_X9_mix (x_X9_mix 1 p0) p1) (x_X9_sOf p0 p2 p3)) (x_X9_tOf fs p1 0 p2 p3))) H := hP
            have hD : va_D A (mW cI cZ o aS aH aG aR aV aA aB aO aP aF aC nd fs fh sg fg rq fq cl nr fV fA fB fO fP fF cn fC (x_X9_mix (x_X9_mix (x_X9_mix (x_X9_mix 1 p0) p1) (x_X9_sOf p0 p2 p3)) (x_X9_tOf fs p1 0 p2 p3))) := hD
            refine lv_aload_n hx hb dX9_holds_80 rfl (lv_at hl 0 rfl) ?_
            refine lv_iload_n hx hb dX9_holds_81 rfl (lv_at hl 1 rfl) ?_
            refine lv_iload hx hb dX9_holds_82 (lv_at hl 5 rfl) ?_
            refine lv_iload hx hb dX9_holds_84 (lv_at hl 6 rfl) ?_
            refine ro_call (va_runS (As := [.int p0, .int p4, .int p5]) (rest := [.ref o]) ⟨hx, hb, hml, hown, hts⟩ (c_X9_sOf l D cI cZ cR _ p0 p4 p5) (va_cwS 3 hts gX9_holds_X9_sOf rfl rfl rfl hd_X9_sOf ⟨(Nat.le_of_ble_eq_true rfl), (Nat.le_of_ble_eq_true rfl)⟩) (po_pre hAM va_P.nil) rfl rfl hl.1 rfl (lv_room (Nat.le_of_ble_eq_true rfl)) dX9_holds_86 ⟨(Nat.le_of_ble_eq_true rfl), (Nat.le_of_ble_eq_true rfl)⟩) ?_
            refine wr_call (va_runV (As := [.int (x_X9_sOf p0 p4 p5)]) (rest := []) ⟨hx, hb, hml, hown, hts⟩ (c_X9_mix l D cI cZ cR A _ o aS aH aG aR aV aA aB aO aP aF aC nd fs fh sg fg rq fq cl nr fV fA fB fO fP fF cn fC (x_X9_mix (x_X9_mix (x_X9_mix (x_X9_mix 1 p0) p1) (x_X9_sOf p0 p2 p3)) (x_X9_tOf fs p1 0 p2 p3)) (x_X9_sOf p0 p4 p5)) (cwV 1 hts gX9_holds_X9_mix rfl rfl rfl ⟨rfl, hd_X9_mix⟩ ⟨(Nat.le_of_ble_eq_true rfl), (Nat.le_of_ble_eq_true rfl)⟩) (wr_preV hAM hP hD (va_recv hK hP (ci := 7) (q0 := 0) rfl rfl)) rfl rfl hl.1 rfl (lv_room (Nat.le_of_ble_eq_true rfl)) dX9_holds_89 ⟨(Nat.le_of_ble_eq_true rfl), (Nat.le_of_ble_eq_true rfl)⟩) hS (fun v mx_89 H locs hw hP hD _ hS => ?_)
            try dsimp only at hw
            obtain ⟨rfl, rfl⟩ := hw
            refine W.eq (g2 := F0 m 92 ls []) rfl ?_
            refine W.cs (cells' := 0) (slots' := 0) rfl rfl ?_
            have hP : va_P D vwCl (mW cI cZ o aS aH aG aR aV aA aB aO aP aF aC nd fs fh sg fg rq fq cl nr fV fA fB fO fP fF cn fC (x_X9_mix (x_X9_mix (x_X9_mix (x_X9_mix (x_X9_mix 1 p0) p1) (x_X9_sOf p0 p2 p3)) (x_X9_tOf fs p1 0 p2 p3)) (x_X9_sOf p0 p4 p5))) H := hP
            have hD : va_D A (mW cI cZ o aS aH aG aR aV aA aB aO aP aF aC nd fs fh sg fg rq fq cl nr fV fA fB fO fP fF cn fC (x_X9_mix (x_X9_mix (x_X9_mix (x_X9_mix (x_X9_mix 1 p0) p1) (x_X9_sOf p0 p2 p3)) (x_X9_tOf fs p1 0 p2 p3)) (x_X9_sOf p0 p4 p5))) := hD
            refine lv_aload_n hx hb dX9_holds_92 rfl (lv_at hl 0 rfl) ?_
            refine lv_aload_n hx hb dX9_holds_93 rfl (lv_at hl 0 rfl) ?_
            refine lv_iload_n hx hb dX9_holds_94 rfl (lv_at hl 2 rfl) ?_
            refine lv_iconst (v := 1) hx hb dX9_holds_95 (by decide) ?_
            refine lv_iload hx hb dX9_holds_96 (lv_at hl 5 rfl) ?_
            refine lv_iload hx hb dX9_holds_98 (lv_at hl 6 rfl) ?_
            refine ro_call (va_runV (As := [.int p1, .int 1, .int p4, .int p5]) (rest := [.ref o]) ⟨hx, hb, hml, hown, hts⟩ (c_X9_tOf l D cI cZ cR _ o aS aH aG aR aV aA aB aO aP aF aC nd fs fh sg fg rq fq cl nr fV fA fB fO fP fF cn fC (x_X9_mix (x_X9_mix (x_X9_mix (x_X9_mix (x_X9_mix 1 p0) p1) (x_X9_sOf p0 p2 p3)) (x_X9_tOf fs p1 0 p2 p3)) (x_X9_sOf p0 p4 p5)) p1 1 p4 p5) (cwV 4 hts gX9_holds_X9_tOf rfl rfl rfl ⟨rfl, hd_X9_tOf⟩ ⟨(Nat.le_of_ble_eq_true rfl), (Nat.le_of_ble_eq_true rfl)⟩) (po_preV hAM (hP.sub [0, 1, 2, 3, 4, 5, 6, 7, 8, 9, 10, 11] rfl) (va_recv hK hP (ci := 7) (q0 := 0) rfl rfl)) rfl rfl hl.1 rfl (lv_room (Nat.le_of_ble_eq_true rfl)) dX9_holds_100 ⟨(Nat.le_of_ble_eq_true rfl), (Nat.le_of_ble_eq_true rfl)⟩) ?_
            refine wr_call (va_runV (As := [.int (x_X9_tOf fs p1 1 p4 p5)]) (rest := []) ⟨hx, hb, hml, hown, hts⟩ (c_X9_mix l D cI cZ cR A _ o aS aH aG aR aV aA aB aO aP aF aC nd fs fh sg fg rq fq cl nr fV fA fB fO fP fF cn fC (x_X9_mix (x_X9_mix (x_X9_mix (x_X9_mix (x_X9_mix 1 p0) p1) (x_X9_sOf p0 p2 p3)) (x_X9_tOf fs p1 0 p2 p3)) (x_X9_sOf p0 p4 p5)) (x_X9_tOf fs p1 1 p4 p5)) (cwV 1 hts gX9_holds_X9_mix rfl rfl rfl ⟨rfl, hd_X9_mix⟩ ⟨(Nat.le_of_ble_eq_true rfl), (Nat.le_of_ble_eq_true rfl)⟩) (wr_preV hAM hP hD (va_recv hK hP (ci := 7) (q0 := 0) rfl rfl)) rfl rfl hl.1 rfl (lv_room (Nat.le_of_ble_eq_true rfl)) dX9_holds_103 ⟨(Nat.le_of_ble_eq_true rfl), (Nat.le_of_ble_eq_true rfl)⟩) hS (fun v mx_103 H locs hw hP hD _ hS => ?_)
            try dsimp only at hw
            obtain ⟨rfl, rfl⟩ := hw
            refine W.eq (g2 := F0 m 106 ls []) rfl ?_
            refine W.cs (cells' := 0) (slots' := 0) rfl rfl ?_
            have hP : va_P D vwCl (mW cI cZ o aS aH aG aR aV aA aB aO aP aF aC nd fs fh sg fg rq fq cl nr fV fA fB fO fP fF cn fC (x_X9_mix (x_X9_mix (x_X9_mix (x_X9_mix (x_X9_mix (x_X9_mix 1 p0) p1) (x_X9_sOf p0 p2 p3)) (x_X9_tOf fs p1 0 p2 p3)) (x_X9_sOf p0 p4 p5)) (x_X9_tOf fs p1 1 p4 p5))) H := hP
            have hD : va_D A (mW cI cZ o aS aH aG aR aV aA aB aO aP aF aC nd fs fh sg fg rq fq cl nr fV fA fB fO fP fF cn fC (x_X9_mix (x_X9_mix (x_X9_mix (x_X9_mix (x_X9_mix (x_X9_mix 1 p0) p1) (x_X9_sOf p0 p2 p3)) (x_X9_tOf fs p1 0 p2 p3)) (x_X9_sOf p0 p4 p5)) (x_X9_tOf fs p1 1 p4 p5))) := hD
            refine lv_iload_n hx hb dX9_holds_106 rfl (lv_at hl 3 rfl) ?_
            refine lv_iload hx hb dX9_holds_107 (lv_at hl 5 rfl) ?_
            refine lv_iadd hx hb dX9_holds_109 ?_
            refine lv_sipush (v := 5003) hx hb dX9_holds_110 (by decide +kernel) ?_
            refine w_irem hx hb dX9_holds_113 (by decide +kernel) ?_
            refine lv_aload_n hx hb dX9_holds_114 rfl (lv_at hl 0 rfl) ?_
            refine va_get (D := D) (ci := 7) (v := .int (x_X9_mix (x_X9_mix (x_X9_mix (x_X9_mix (x_X9_mix (x_X9_mix 1 p0) p1) (x_X9_sOf p0 p2 p3)) (x_X9_tOf fs p1 0 p2 p3)) (x_X9_sOf p0 p4 p5)) (x_X9_tOf fs p1 1 p4 p5))) (C := RX9) (T := TX9) (N := 18) hx hb hts in_X9_holds_X9 hown hK hP 0 rfl rfl 17 (by decide) (hts (.fieldLink RX9 108 "WallCountModel" "mixed" "I") (List.mem_of_getElem? (i := 1) rfl)) (fun _ h9 => h9) rfl dX9_holds_115 ?_
            refine lv_icmp_ne (tgt := 125) hx hb dX9_holds_118 (by decide) (fun c_118 => ?_) (fun c_118 => ?_)
            · have hE := itF hE c_118
              refine lv_iconst (v := 0) hx hb dX9_holds_125 (by decide) ?_
              subst hE
              exact wr_zret (r := false) ((x_X9_mix (x_X9_mix (x_X9_mix (x_X9_mix (x_X9_mix (x_X9_mix 1 p0) p1) (x_X9_sOf p0 p2 p3)) (x_X9_tOf fs p1 0 p2 p3)) (x_X9_sOf p0 p4 p5)) (x_X9_tOf fs p1 1 p4 p5))) hx hb hr hlocks rfl hP hD hS dX9_holds_126
            · have hE := itT hE c_118
              refine lv_iconst (v := 1) hx hb dX9_holds_121 (by decide) ?_
              refine lv_goto (tgt := 126) hx hb dX9_holds_122 (by decide) ?_
              subst hE
              exact wr_zret (r := true) ((x_X9_mix (x_X9_mix (x_X9_mix (x_X9_mix (x_X9_mix (x_X9_mix 1 p0) p1) (x_X9_sOf p0 p2 p3)) (x_X9_tOf fs p1 0 p2 p3)) (x_X9_sOf p0 p4 p5)) (x_X9_tOf fs p1 1 p4 p5))) hx hb hr hlocks rfl hP hD hS dX9_holds_126
          · have hE := itF hE c_36
            refine lv_iconst (v := 0) hx hb dX9_holds_39 (by decide) ?_
            subst hE
            exact wr_zret (r := false) (mx) hx hb hr hlocks rfl hP hD hS dX9_holds_40

theorem hd_X9_proved : yX9_proved.cls ≠ "java/lang/invoke/MethodHandle" ∧ yX9_proved.cls ≠ "java/lang/invoke/VarHandle" ∧ (parseMethodDescriptor yX9_proved.desc).map (fun d => d.parameters.length) = some 6 := by decide +kernel
def x_X9_proved_L38 (fs : Nat → Int32) (p0 : Int32) (p1 : Int32) (p2 : Int32) (p3 : Int32) (p4 : Int32) (p5 : Int32) : Nat → Int32 → Int32 → Int32
  | 0, v9, mx => 0
  | n + 1, v9, mx => (if 2 ≤ v9 then (if (p5 / 2) = p0 then (if (xRem p5 2) = 0 then (xRem ((mx + 5003) - p3) 5003) else (Int64.toInt32 (xRemL ((Int32.toInt64 p2) + ((Int32.toInt64 (xRem ((mx + 5003) - p3) 5003)) * (Int32.toInt64 p1))) 5003))) else (if (xRem p5 2) = 0 then p3 else p4)) else (if v9 = p0 then (x_X9_proved_L38 fs p0 p1 p2 p3 p4 p5 n (v9 + 1) (x_X9_mix (x_X9_mix mx (x_X9_power 4 p2)) (x_X9_power (x_X9_h fs) p2))) else (x_X9_proved_L38 fs p0 p1 p2 p3 p4 p5 n (v9 + 1) (x_X9_mix (x_X9_mix mx (x_X9_sOf (x_X9_sealOf fs p0 p1 0) p3 p4)) (x_X9_tOf fs (x_X9_sealOf fs p0 p1 1) v9 p3 p4)))))
def x_X9_proved (fs : Nat → Int32) (p0 : Int32) (p1 : Int32) (p2 : Int32) (p3 : Int32) (p4 : Int32) (p5 : Int32) : Int32 := (x_X9_proved_L38 fs p0 p1 p2 p3 p4 p5 (3) 0 (x_X9_mix (x_X9_mix 1 (x_X9_sealOf fs p0 p1 0)) (x_X9_sealOf fs p0 p1 1)))
def rm_X9_proved : Room := { frames := 4, cells := 0, slots := 0, locals := 94 }
abbrev pq_X9_proved (D : va_G) (cI cZ cR : ClassId) (A : Nat → Prop) (o aS aH aG aR aV aA aB aO aP aF aC : Nat) (nd : Int32) (fs : Nat → Int32) (fh : Nat → Int32) (sg : Nat) (fg : Nat → Int32) (rq : Nat) (fq : Nat → Int32) (cl : Int32) (nr : Nat) (fV : Nat → Int32) (fA : Nat → Int32) (fB : Nat → Int32) (fO : Nat → Int32) (fP : Nat → Int32) (fF : Nat → Int32) (cn : Nat) (fC : Nat → Int32) (mx : Int32) (Rv : Int32) : Array Value → State → Outcome → State → Prop := wr_Q D (fun (v : Option Value) (u : Int32) => v = some (.int Rv)) (fun u => mW cI cZ o aS aH aG aR aV aA aB aO aP aF aC nd fs fh sg fg rq fq cl nr fV fA fB fO fP fF cn fC u) A
theorem in_X9_proved_X9 : ∀ w ∈ wsX90, w ∈ wsX9_proved := fun _ h => List.mem_cons_of_mem _ (List.mem_append_right _ h)
set_option maxHeartbeats 4000000 in
set_option maxRecDepth 100000 in
theorem c_X9_proved (l : Launch) (D : va_G) (cI cZ cR : ClassId) (A : Nat → Prop) (H0 : Heap) (o aS aH aG aR aV aA aB aO aP aF aC : Nat) (nd : Int32) (fs : Nat → Int32) (fh : Nat → Int32) (sg : Nat) (fg : Nat → Int32) (rq : Nat) (fq : Nat → Int32) (cl : Int32) (nr : Nat) (fV : Nat → Int32) (fA : Nat → Int32) (fB : Nat → Int32) (fO : Nat → Int32) (fP : Nat → Int32) (fF : Nat → Int32) (cn : Nat) (fC : Nat → Int32) (mx : Int32) (p0 : Int32) (p1 : Int32) (p2 : Int32) (p3 : Int32) (p4 : Int32) (p5 : Int32) : Met l yX9_proved wsX9_proved rm_X9_proved (wr_P D cI cZ cR [.ref o, .int p0, .int p1, .int p2, .int p3, .int p4, .int p5] (mW cI cZ o aS aH aG aR aV aA aB aO aP aF aC nd fs fh sg fg rq fq cl nr fV fA fB fO fP fF cn fC mx) A H0) (pq_X9_proved D cI cZ cR A o aS aH aG aR aV aA aB aO aP aF aC nd fs fh sg fg rq fq cl nr fV fA fB fO fP fF cn fC mx (x_X9_proved fs p0 p1 p2 p3 p4 p5)) 0 0 A := by
  refine Met.ofW (cc := cX9_proved) (maxL := 12) (ret := (some .int)) (by decide +kernel) rfl ?_
  intro p e s m args below meth c s₁ B hml hv
  obtain ⟨rfl, rfl, hAM, hP, hD⟩ := hv
  have hx := B.exec
  have hb := B.bytes
  have hr := B.returns
  have hts := atoms_spec (ws := wsX9_proved) B.pre
  have hown : s.vm.findClass RX9 = some m.cls := findClass_of_methodNamed B.named
  have hlocks := B.notSynchronized
  have hK := hAM.1
  have hS : va_S A s.heap s.heap [] := va_S.rf
  generalize hE : (x_X9_proved fs p0 p1 p2 p3 p4 p5) = Rv
  rw [x_X9_proved] at hE
  have hl := lv_entry ([.ref o, .int p0, .int p1, .int p2, .int p3, .int p4, .int p5]) (n := 12) (Nat.le_of_ble_eq_true rfl)
  rw [lg_entry_eq]
  generalize (lg_sl ([.ref o, .int p0, .int p1, .int p2, .int p3, .int p4, .int p5]) ++ List.replicate (12 - (lg_sl ([.ref o, .int p0, .int p1, .int p2, .int p3, .int p4, .int p5])).length) Slot.unset).toArray = ls at hl ⊢
  have hl : lv_has ls 12 [(0, .ref o), (1, .int p0), (2, .int p1), (3, .int p2), (4, .int p3), (5, .int p4), (6, .int p5)] := hl
  refine lv_aload_n hx hb dX9_proved_0 rfl (lv_at hl 0 rfl) ?_
  refine lv_iload_n hx hb dX9_proved_1 rfl (lv_at hl 1 rfl) ?_
  refine lv_iload_n hx hb dX9_proved_2 rfl (lv_at hl 2 rfl) ?_
  refine lv_iconst (v := 0) hx hb dX9_proved_3 (by decide) ?_
  refine ro_call (va_runV (As := [.int p0, .int p1, .int 0]) (rest := []) ⟨hx, hb, hml, hown, hts⟩ (c_X9_sealOf l D cI cZ cR _ o aS aH aG aR aV aA aB aO aP aF aC nd fs fh sg fg rq fq cl nr fV fA fB fO fP fF cn fC mx p0 p1 0) (cwV 3 hts gX9_proved_X9_sealOf rfl rfl rfl ⟨rfl, hd_X9_sealOf⟩ ⟨(Nat.le_of_ble_eq_true rfl), (Nat.le_of_ble_eq_true rfl)⟩) (po_preV hAM (hP.sub [0, 1, 2, 3, 4, 5, 6, 7, 8, 9, 10, 11] rfl) (va_recv hK hP (ci := 7) (q0 := 0) rfl rfl)) rfl rfl hl.1 rfl (lv_room (Nat.le_of_ble_eq_true rfl)) dX9_proved_4 ⟨(Nat.le_of_ble_eq_true rfl), (Nat.le_of_ble_eq_true rfl)⟩) ?_
  refine lv_istore (lv' := [(7, .int (x_X9_sealOf fs p0 p1 0)), (0, .ref o), (1, .int p0), (2, .int p1), (3, .int p2), (4, .int p3), (5, .int p4), (6, .int p5)]) hx hb dX9_proved_7 hl (by decide) rfl (fun ls hl => ?_)
  refine lv_aload_n hx hb dX9_proved_9 rfl (lv_at hl 1 rfl) ?_
  refine lv_iload_n hx hb dX9_proved_10 rfl (lv_at hl 2 rfl) ?_
  refine lv_iload_n hx hb dX9_proved_11 rfl (lv_at hl 3 rfl) ?_
  refine lv_iconst (v := 1) hx hb dX9_proved_12 (by decide) ?_
  refine ro_call (va_runV (As := [.int p0, .int p1, .int 1]) (rest := []) ⟨hx, hb, hml, hown, hts⟩ (c_X9_sealOf l D cI cZ cR _ o aS aH aG aR aV aA aB aO aP aF aC nd fs fh sg fg rq fq cl nr fV fA fB fO fP fF cn fC mx p0 p1 1) (cwV 3 hts gX9_proved_X9_sealOf rfl rfl rfl ⟨rfl, hd_X9_sealOf⟩ ⟨(Nat.le_of_ble_eq_true rfl), (Nat.le_of_ble_eq_true rfl)⟩) (po_preV hAM (hP.sub [0, 1, 2, 3, 4, 5, 6, 7, 8, 9, 10, 11] rfl) (va_recv hK hP (ci := 7) (q0 := 0) rfl rfl)) rfl rfl hl.1 rfl (lv_room (Nat.le_of_ble_eq_true rfl)) dX9_proved_13 ⟨(Nat.le_of_ble_eq_true rfl), (Nat.le_of_ble_eq_true rfl)⟩) ?_
  refine lv_istore (lv' := [(8, .int (x_X9_sealOf fs p0 p1 1)), (7, .int (x_X9_sealOf fs p0 p1 0)), (0, .ref o), (1, .int p0), (2, .int p1), (3, .int p2), (4, .int p3), (5, .int p4), (6, .int p5)]) hx hb dX9_proved_16 hl (by decide) rfl (fun ls hl => ?_)
  refine lv_aload_n hx hb dX9_proved_18 rfl (lv_at hl 2 rfl) ?_
  refine lv_iconst (v := 1) hx hb dX9_proved_19 (by decide) ?_
  refine va_put (D := D) (ci := 7) (v := .int 1) (ty := .int) (C := RX9) (T := TX9) (N := 18) hx hb hts in_X9_proved_X9 tyX9 tyX9_ok nmX9 hown hK hP hD hS 0 rfl rfl 17 (by decide) (hts (.fieldLink RX9 108 "WallCountModel" "mixed" "I") (List.mem_of_getElem? (i := 1) rfl)) (fun _ h9 => h9) rfl (by decide +kernel) rfl rfl (Nat.le_of_ble_eq_true rfl) dX9_proved_20 (fun H locs hP hD hS => ?_)
  have hP : va_P D vwCl (mW cI cZ o aS aH aG aR aV aA aB aO aP aF aC nd fs fh sg fg rq fq cl nr fV fA fB fO fP fF cn fC 1) H := hP
  have hD : va_D A (mW cI cZ o aS aH aG aR aV aA aB aO aP aF aC nd fs fh sg fg rq fq cl nr fV fA fB fO fP fF cn fC 1) := hD
  refine lv_aload_n hx hb dX9_proved_23 rfl (lv_at hl 2 rfl) ?_
  refine lv_iload hx hb dX9_proved_24 (lv_at hl 1 rfl) ?_
  refine wr_call (va_runV (As := [.int (x_X9_sealOf fs p0 p1 0)]) (rest := []) ⟨hx, hb, hml, hown, hts⟩ (c_X9_mix l D cI cZ cR A _ o aS aH aG aR aV aA aB aO aP aF aC nd fs fh sg fg rq fq cl nr fV fA fB fO fP fF cn fC 1 (x_X9_sealOf fs p0 p1 0)) (cwV 1 hts gX9_proved_X9_mix rfl rfl rfl ⟨rfl, hd_X9_mix⟩ ⟨(Nat.le_of_ble_eq_true rfl), (Nat.le_of_ble_eq_true rfl)⟩) (wr_preV hAM hP hD (va_recv hK hP (ci := 7) (q0 := 0) rfl rfl)) rfl rfl hl.1 rfl (lv_room (Nat.le_of_ble_eq_true rfl)) dX9_proved_26 ⟨(Nat.le_of_ble_eq_true rfl), (Nat.le_of_ble_eq_true rfl)⟩) hS (fun v mx_26 H locs hw hP hD _ hS => ?_)
  try dsimp only at hw
  obtain ⟨rfl, rfl⟩ := hw
  refine W.eq (g2 := F0 m 29 ls []) rfl ?_
  refine W.cs (cells' := 0) (slots' := 0) rfl rfl ?_
  have hP : va_P D vwCl (mW cI cZ o aS aH aG aR aV aA aB aO aP aF aC nd fs fh sg fg rq fq cl nr fV fA fB fO fP fF cn fC (x_X9_mix 1 (x_X9_sealOf fs p0 p1 0))) H := hP
  have hD : va_D A (mW cI cZ o aS aH aG aR aV aA aB aO aP aF aC nd fs fh sg fg rq fq cl nr fV fA fB fO fP fF cn fC (x_X9_mix 1 (x_X9_sealOf fs p0 p1 0))) := hD
  refine lv_aload_n hx hb dX9_proved_29 rfl (lv_at hl 2 rfl) ?_
  refine lv_iload hx hb dX9_proved_30 (lv_at hl 0 rfl) ?_
  refine wr_call (va_runV (As := [.int (x_X9_sealOf fs p0 p1 1)]) (rest := []) ⟨hx, hb, hml, hown, hts⟩ (c_X9_mix l D cI cZ cR A _ o aS aH aG aR aV aA aB aO aP aF aC nd fs fh sg fg rq fq cl nr fV fA fB fO fP fF cn fC (x_X9_mix 1 (x_X9_sealOf fs p0 p1 0)) (x_X9_sealOf fs p0 p1 1)) (cwV 1 hts gX9_proved_X9_mix rfl rfl rfl ⟨rfl, hd_X9_mix⟩ ⟨(Nat.le_of_ble_eq_true rfl), (Nat.le_of_ble_eq_true rfl)⟩) (wr_preV hAM hP hD (va_recv hK hP (ci := 7) (q0 := 0) rfl rfl)) rfl rfl hl.1 rfl (lv_room (Nat.le_of_ble_eq_true rfl)) dX9_proved_32 ⟨(Nat.le_of_ble_eq_true rfl), (Nat.le_of_ble_eq_true rfl)⟩) hS (fun v mx_32 H locs hw hP hD _ hS => ?_)
  try dsimp only at hw
  obtain ⟨rfl, rfl⟩ := hw
  refine W.eq (g2 := F0 m 35 ls []) rfl ?_
  refine W.cs (cells' := 0) (slots' := 0) rfl rfl ?_
  have hP : va_P D vwCl (mW cI cZ o aS aH aG aR aV aA aB aO aP aF aC nd fs fh sg fg rq fq cl nr fV fA fB fO fP fF cn fC (x_X9_mix (x_X9_mix 1 (x_X9_sealOf fs p0 p1 0)) (x_X9_sealOf fs p0 p1 1))) H := hP
  have hD : va_D A (mW cI cZ o aS aH aG aR aV aA aB aO aP aF aC nd fs fh sg fg rq fq cl nr fV fA fB fO fP fF cn fC (x_X9_mix (x_X9_mix 1 (x_X9_sealOf fs p0 p1 0)) (x_X9_sealOf fs p0 p1 1))) := hD
  refine lv_iconst (v := 0) hx hb dX9_proved_35 (by decide) ?_
  refine lv_istore (lv' := [(9, .int 0), (8, .int (x_X9_sealOf fs p0 p1 1)), (7, .int (x_X9_sealOf fs p0 p1 0)), (0, .ref o), (1, .int p0), (2, .int p1), (3, .int p2), (4, .int p3), (5, .int p4), (6, .int p5)]) hx hb dX9_proved_36 hl (by decide) rfl (fun ls hl => ?_)
  suffices loop : ∀ (n : Nat) (v9 : Int32) (mx : Int32) (H : Heap) (locs : List Loc), (UP 0 2 n v9) → x_X9_proved_L38 fs p0 p1 p2 p3 p4 p5 n v9 mx = Rv → va_P D vwCl (mW cI cZ o aS aH aG aR aV aA aB aO aP aF aC nd fs fh sg fg rq fq cl nr fV fA fB fO fP fF cn fC mx) H → va_D A (mW cI cZ o aS aH aG aR aV aA aB aO aP aF aC nd fs fh sg fg rq fq cl nr fV fA fB fO fP fF cn fC mx) → va_S A s.heap H locs → ∀ ls : Array Slot, lv_has ls 12 [(9, .int v9), (8, .int (x_X9_sealOf fs p0 p1 1)), (7, .int (x_X9_sealOf fs p0 p1 0)), (0, .ref o), (1, .int p0), (2, .int p1), (3, .int p2), (4, .int p3), (5, .int p4), (6, .int p5)] → W p l e (headSpec wsX9_proved rm_X9_proved).room s m ([.ref o, .int p0, .int p1, .int p2, .int p3, .int p4, .int p5] : List Value).toArray below meth c H locs 0 0 (MQ below (pq_X9_proved D cI cZ cR A o aS aH aG aR aV aA aB aO aP aF aC nd fs fh sg fg rq fq cl nr fV fA fB fO fP fF cn fC mx Rv) ([.ref o, .int p0, .int p1, .int p2, .int p3, .int p4, .int p5] : List Value).toArray s 0 0 A) (F0 m 38 ls []) from
    loop (3) 0 (x_X9_mix (x_X9_mix 1 (x_X9_sealOf fs p0 p1 0)) (x_X9_sealOf fs p0 p1 1)) _ _ (UP.start 0 (by omega) (by omega)) hE hP hD hS ls (lv_sub hl [0, 1, 2, 3, 4, 5, 6, 7, 8, 9] rfl)
  clear hE hl ls hP hD hS
  intro n
  induction n with
  | zero =>
    intro v9 mx H locs hI _ _ _ _ _ _
    exact absurd hI (UP.zero)
  | succ n ih =>
    intro v9 mx H locs hI hE hP hD hS ls hl
    rw [x_X9_proved_L38] at hE
    refine lv_iload hx hb dX9_proved_38 (lv_at hl 0 rfl) ?_
    refine lv_iconst (v := 2) hx hb dX9_proved_40 (by decide) ?_
    refine lv_icmp_ge (tgt := 110) hx hb dX9_proved_41 (by decide) (fun c_41 => ?_) (fun c_41 => ?_)
    · have hE := itT hE c_41
      refine lv_aload_n hx hb dX9_proved_110 rfl (lv_at hl 3 rfl) ?_
      refine va_get (D := D) (ci := 7) (v := .int mx) (C := RX9) (T := TX9) (N := 18) hx hb hts in_X9_proved_X9 hown hK hP 0 rfl rfl 17 (by decide) (hts (.fieldLink RX9 108 "WallCountModel" "mixed" "I") (List.mem_of_getElem? (i := 1) rfl)) (fun _ h9 => h9) rfl dX9_proved_111 ?_
      refine lv_sipush (v := 5003) hx hb dX9_proved_114 (by decide +kernel) ?_
      refine lv_iadd hx hb dX9_proved_117 ?_
      refine lv_iload hx hb dX9_proved_118 (lv_at hl 7 rfl) ?_
      refine lv_isub hx hb dX9_proved_120 ?_
      refine lv_sipush (v := 5003) hx hb dX9_proved_121 (by decide +kernel) ?_
      refine w_irem hx hb dX9_proved_124 (by decide +kernel) ?_
      refine lv_istore (lv' := [(9, .int (xRem ((mx + 5003) - p3) 5003)), (8, .int (x_X9_sealOf fs p0 p1 1)), (7, .int (x_X9_sealOf fs p0 p1 0)), (0, .ref o), (1, .int p0), (2, .int p1), (3, .int p2), (4, .int p3), (5, .int p4), (6, .int p5)]) hx hb dX9_proved_125 hl (by decide) rfl (fun ls hl => ?_)
      refine lv_iload_n hx hb dX9_proved_127 rfl (lv_at hl 6 rfl) ?_
      refine lv_i2l hx hb dX9_proved_128 rfl ?_
      refine lv_iload hx hb dX9_proved_129 (lv_at hl 0 rfl) ?_
      refine lv_i2l hx hb dX9_proved_131 rfl ?_
      refine lv_iload_n hx hb dX9_proved_132 rfl (lv_at hl 5 rfl) ?_
      refine lv_i2l hx hb dX9_proved_133 rfl ?_
      refine lv_lmul hx hb dX9_proved_134 ?_
      refine lv_ladd hx hb dX9_proved_135 ?_
      refine lv_ldc2 hx hb hown (hts (.constantLong RX9 97 (5003)) (List.mem_of_getElem? (i := 2) rfl)) dX9_proved_136 ?_
      refine w_lrem hx hb dX9_proved_139 (by decide +kernel) ?_
      refine lv_l2i hx hb dX9_proved_140 rfl ?_
      refine lv_istore (lv' := [(10, .int (Int64.toInt32 (xRemL ((Int32.toInt64 p2) + ((Int32.toInt64 (xRem ((mx + 5003) - p3) 5003)) * (Int32.toInt64 p1))) 5003))), (9, .int (xRem ((mx + 5003) - p3) 5003)), (8, .int (x_X9_sealOf fs p0 p1 1)), (7, .int (x_X9_sealOf fs p0 p1 0)), (0, .ref o), (1, .int p0), (2, .int p1), (3, .int p2), (4, .int p3), (5, .int p4), (6, .int p5)]) hx hb dX9_proved_141 hl (by decide) rfl (fun ls hl => ?_)
      refine lv_iload hx hb dX9_proved_143 (lv_at hl 10 rfl) ?_
      refine lv_iconst (v := 2) hx hb dX9_proved_145 (by decide) ?_
      refine lv_idiv hx hb dX9_proved_146 (by decide +kernel) ?_
      refine lv_iload_n hx hb dX9_proved_147 rfl (lv_at hl 5 rfl) ?_
      refine lv_icmp_ne (tgt := 155) hx hb dX9_proved_148 (by decide) (fun c_148 => ?_) (fun c_148 => ?_)
      · have hE := itF hE c_148
        refine lv_iconst (v := 0) hx hb dX9_proved_155 (by decide) ?_
        refine lv_istore (lv' := [(11, .int 0), (10, .int (Int64.toInt32 (xRemL ((Int32.toInt64 p2) + ((Int32.toInt64 (xRem ((mx + 5003) - p3) 5003)) * (Int32.toInt64 p1))) 5003))), (9, .int (xRem ((mx + 5003) - p3) 5003)), (8, .int (x_X9_sealOf fs p0 p1 1)), (7, .int (x_X9_sealOf fs p0 p1 0)), (0, .ref o), (1, .int p0), (2, .int p1), (3, .int p2), (4, .int p3), (5, .int p4), (6, .int p5)]) hx hb dX9_proved_156 hl (by decide) rfl (fun ls hl => ?_)
        refine lv_iload hx hb dX9_proved_158 (lv_at hl 11 rfl) ?_
        refine lv_iconst (v := 2) hx hb dX9_proved_160 (by decide) ?_
        refine w_irem hx hb dX9_proved_161 (by decide +kernel) ?_
        refine lv_if_ne (tgt := 180) hx hb dX9_proved_162 (by decide) (fun c_162 => ?_) (fun c_162 => ?_)
        · have hE := itF hE c_162
          refine lv_iload hx hb dX9_proved_180 (lv_at hl 0 rfl) ?_
          refine lv_if_eq (tgt := 190) hx hb dX9_proved_182 (by decide) (fun _ => ?_) (fun h9 => absurd h9 (by decide +kernel))
          refine lv_iload hx hb dX9_proved_190 (lv_at hl 10 rfl) ?_
          subst hE
          exact wr_iret (mx) hx hb hr hlocks rfl hP hD hS dX9_proved_192
        · have hE := itT hE c_162
          refine lv_iload hx hb dX9_proved_165 (lv_at hl 0 rfl) ?_
          refine lv_if_eq (tgt := 175) hx hb dX9_proved_167 (by decide) (fun _ => ?_) (fun h9 => absurd h9 (by decide +kernel))
          refine lv_iload hx hb dX9_proved_175 (lv_at hl 9 rfl) ?_
          refine lv_goto (tgt := 192) hx hb dX9_proved_177 (by decide) ?_
          subst hE
          exact wr_iret (mx) hx hb hr hlocks rfl hP hD hS dX9_proved_192
      · have hE := itT hE c_148
        refine lv_iconst (v := 1) hx hb dX9_proved_151 (by decide) ?_
        refine lv_goto (tgt := 156) hx hb dX9_proved_152 (by decide) ?_
        refine lv_istore (lv' := [(11, .int 1), (10, .int (Int64.toInt32 (xRemL ((Int32.toInt64 p2) + ((Int32.toInt64 (xRem ((mx + 5003) - p3) 5003)) * (Int32.toInt64 p1))) 5003))), (9, .int (xRem ((mx + 5003) - p3) 5003)), (8, .int (x_X9_sealOf fs p0 p1 1)), (7, .int (x_X9_sealOf fs p0 p1 0)), (0, .ref o), (1, .int p0), (2, .int p1), (3, .int p2), (4, .int p3), (5, .int p4), (6, .int p5)]) hx hb dX9_proved_156 hl (by decide) rfl (fun ls hl => ?_)
        refine lv_iload hx hb dX9_proved_158 (lv_at hl 11 rfl) ?_
        refine lv_iconst (v := 2) hx hb dX9_proved_160 (by decide) ?_
        refine w_irem hx hb dX9_proved_161 (by decide +kernel) ?_
        refine lv_if_ne (tgt := 180) hx hb dX9_proved_162 (by decide) (fun c_162 => ?_) (fun c_162 => ?_)
        · have hE := itF hE c_162
          refine lv_iload hx hb dX9_proved_180 (lv_at hl 0 rfl) ?_
          refine lv_if_eq (tgt := 190) hx hb dX9_proved_182 (by decide) (fun h9 => absurd h9 (by decide +kernel)) (fun _ => ?_)
          refine lv_iload hx hb dX9_proved_185 (lv_at hl 1 rfl) ?_
          refine lv_goto (tgt := 192) hx hb dX9_proved_187 (by decide) ?_
          subst hE
          exact wr_iret (mx) hx hb hr hlocks rfl hP hD hS dX9_proved_192
        · have hE := itT hE c_162
          refine lv_iload hx hb dX9_proved_165 (lv_at hl 0 rfl) ?_
          refine lv_if_eq (tgt := 175) hx hb dX9_proved_167 (by decide) (fun h9 => absurd h9 (by decide +kernel)) (fun _ => ?_)
          refine lv_iload hx hb dX9_proved_170 (lv_at hl 2 rfl) ?_
          refine lv_goto (tgt := 192) hx hb dX9_proved_172 (by decide) ?_
          subst hE
          exact wr_iret (mx) hx hb hr hlocks rfl hP hD hS dX9_proved_192
    · have hE := itF hE c_41
      refine lv_aload_n hx hb dX9_proved_44 rfl (lv_at hl 3 rfl) ?_
      refine lv_iload hx hb dX9_proved_45 (lv_at hl 0 rfl) ?_
      refine lv_iload_n hx hb dX9_proved_47 rfl (lv_at hl 4 rfl) ?_
      refine lv_icmp_ne (tgt := 59) hx hb dX9_proved_48 (by decide) (fun c_48 => ?_) (fun c_48 => ?_)
      · have hE := itF hE c_48
        refine lv_iload hx hb dX9_proved_59 (lv_at hl 2 rfl) ?_
        refine lv_iload hx hb dX9_proved_61 (lv_at hl 7 rfl) ?_
        refine lv_iload hx hb dX9_proved_63 (lv_at hl 8 rfl) ?_
        refine ro_call (va_runS (As := [.int (x_X9_sealOf fs p0 p1 0), .int p3, .int p4]) (rest := [.ref o]) ⟨hx, hb, hml, hown, hts⟩ (c_X9_sOf l D cI cZ cR _ (x_X9_sealOf fs p0 p1 0) p3 p4) (va_cwS 3 hts gX9_proved_X9_sOf rfl rfl rfl hd_X9_sOf ⟨(Nat.le_of_ble_eq_true rfl), (Nat.le_of_ble_eq_true rfl)⟩) (po_pre hAM va_P.nil) rfl rfl hl.1 rfl (lv_room (Nat.le_of_ble_eq_true rfl)) dX9_proved_65 ⟨(Nat.le_of_ble_eq_true rfl), (Nat.le_of_ble_eq_true rfl)⟩) ?_
        refine wr_call (va_runV (As := [.int (x_X9_sOf (x_X9_sealOf fs p0 p1 0) p3 p4)]) (rest := []) ⟨hx, hb, hml, hown, hts⟩ (c_X9_mix l D cI cZ cR A _ o aS aH aG aR aV aA aB aO aP aF aC nd fs fh sg fg rq fq cl nr fV fA fB fO fP fF cn fC mx (x_X9_sOf (x_X9_sealOf fs p0 p1 0) p3 p4)) (cwV 1 hts gX9_proved_X9_mix rfl rfl rfl ⟨rfl, hd_X9_mix⟩ ⟨(Nat.le_of_ble_eq_true rfl), (Nat.le_of_ble_eq_true rfl)⟩) (wr_preV hAM hP hD (va_recv hK hP (ci := 7) (q0 := 0) rfl rfl)) rfl rfl hl.1 rfl (lv_room (Nat.le_of_ble_eq_true rfl)) dX9_proved_68 ⟨(Nat.le_of_ble_eq_true rfl), (Nat.le_of_ble_eq_true rfl)⟩) hS (fun v mx_68 H locs hw hP hD _ hS => ?_)
        try dsimp only at hw
        obtain ⟨rfl, rfl⟩ := hw
        refine W.eq (g2 := F0 m 71 ls []) rfl ?_
        refine W.cs (cells' := 0) (slots' := 0) rfl rfl ?_
        have hP : va_P D vwCl (mW cI cZ o aS aH aG aR aV aA aB aO aP aF aC nd fs fh sg fg rq fq cl nr fV fA fB fO fP fF cn fC (x_X9_mix mx (x_X9_sOf (x_X9_sealOf fs p0 p1 0) p3 p4))) H := hP
        have hD : va_D A (mW cI cZ o aS aH aG aR aV aA aB aO aP aF aC nd fs fh sg fg rq fq cl nr fV fA fB fO fP fF cn fC (x_X9_mix mx (x_X9_sOf (x_X9_sealOf fs p0 p1 0) p3 p4))) := hD
        refine lv_aload_n hx hb dX9_proved_71 rfl (lv_at hl 3 rfl) ?_
        refine lv_iload hx hb dX9_proved_72 (lv_at hl 0 rfl) ?_
        refine lv_iload_n hx hb dX9_proved_74 rfl (lv_at hl 4 rfl) ?_
        refine lv_icmp_ne (tgt := 89) hx hb dX9_proved_75 (by decide) (fun _ => ?_) (fun h9 => absurd h9 c_48)
        refine lv_aload_n hx hb dX9_proved_89 rfl (lv_at hl 3 rfl) ?_
        refine lv_iload hx hb dX9_proved_90 (lv_at hl 1 rfl) ?_
        refine lv_iload hx hb dX9_proved_92 (lv_at hl 0 rfl) ?_
        refine lv_iload hx hb dX9_proved_94 (lv_at hl 7 rfl) ?_
        refine lv_iload hx hb dX9_proved_96 (lv_at hl 8 rfl) ?_
        refine ro_call (va_runV (As := [.int (x_X9_sealOf fs p0 p1 1), .int v9, .int p3, .int p4]) (rest := [.ref o]) ⟨hx, hb, hml, hown, hts⟩ (c_X9_tOf l D cI cZ cR _ o aS aH aG aR aV aA aB aO aP aF aC nd fs fh sg fg rq fq cl nr fV fA fB fO fP fF cn fC (x_X9_mix mx (x_X9_sOf (x_X9_sealOf fs p0 p1 0) p3 p4)) (x_X9_sealOf fs p0 p1 1) v9 p3 p4) (cwV 4 hts gX9_proved_X9_tOf rfl rfl rfl ⟨rfl, hd_X9_tOf⟩ ⟨(Nat.le_of_ble_eq_true rfl), (Nat.le_of_ble_eq_true rfl)⟩) (po_preV hAM (hP.sub [0, 1, 2, 3, 4, 5, 6, 7, 8, 9, 10, 11] rfl) (va_recv hK hP (ci := 7) (q0 := 0) rfl rfl)) rfl rfl hl.1 rfl (lv_room (Nat.le_of_ble_eq_true rfl)) dX9_proved_98 ⟨(Nat.le_of_ble_eq_true rfl), (Nat.le_of_ble_eq_true rfl)⟩) ?_
        refine wr_call (va_runV (As := [.int (x_X9_tOf fs (x_X9_sealOf fs p0 p1 1) v9 p3 p4)]) (rest := []) ⟨hx, hb, hml, hown, hts⟩ (c_X9_mix l D cI cZ cR A _ o aS aH aG aR aV aA aB aO aP aF aC nd fs fh sg fg rq fq cl nr fV fA fB fO fP fF cn fC (x_X9_mix mx (x_X9_sOf (x_X9_sealOf fs p0 p1 0) p3 p4)) (x_X9_tOf fs (x_X9_sealOf fs p0 p1 1) v9 p3 p4)) (cwV 1 hts gX9_proved_X9_mix rfl rfl rfl ⟨rfl, hd_X9_mix⟩ ⟨(Nat.le_of_ble_eq_true rfl), (Nat.le_of_ble_eq_true rfl)⟩) (wr_preV hAM hP hD (va_recv hK hP (ci := 7) (q0 := 0) rfl rfl)) rfl rfl hl.1 rfl (lv_room (Nat.le_of_ble_eq_true rfl)) dX9_proved_101 ⟨(Nat.le_of_ble_eq_true rfl), (Nat.le_of_ble_eq_true rfl)⟩) hS (fun v mx_101 H locs hw hP hD _ hS => ?_)
        try dsimp only at hw
        obtain ⟨rfl, rfl⟩ := hw
        refine W.eq (g2 := F0 m 104 ls []) rfl ?_
        refine W.cs (cells' := 0) (slots' := 0) rfl rfl ?_
        have hP : va_P D vwCl (mW cI cZ o aS aH aG aR aV aA aB aO aP aF aC nd fs fh sg fg rq fq cl nr fV fA fB fO fP fF cn fC (x_X9_mix (x_X9_mix mx (x_X9_sOf (x_X9_sealOf fs p0 p1 0) p3 p4)) (x_X9_tOf fs (x_X9_sealOf fs p0 p1 1) v9 p3 p4))) H := hP
        have hD : va_D A (mW cI cZ o aS aH aG aR aV aA aB aO aP aF aC nd fs fh sg fg rq fq cl nr fV fA fB fO fP fF cn fC (x_X9_mix (x_X9_mix mx (x_X9_sOf (x_X9_sealOf fs p0 p1 0) p3 p4)) (x_X9_tOf fs (x_X9_sealOf fs p0 p1 1) v9 p3 p4))) := hD
        refine lv_iinc (v := (v9 + 1)) (lv' := [(9, .int (v9 + 1)), (8, .int (x_X9_sealOf fs p0 p1 1)), (7, .int (x_X9_sealOf fs p0 p1 0)), (0, .ref o), (1, .int p0), (2, .int p1), (3, .int p2), (4, .int p3), (5, .int p4), (6, .int p5)]) hx hb dX9_proved_104 hl (k := 0) rfl rfl (by decide) rfl (fun ls hl => ?_)
        refine lv_goto (tgt := 38) hx hb dX9_proved_107 (by decide) ?_
        exact ih (v9 + 1) (x_X9_mix (x_X9_mix mx (x_X9_sOf (x_X9_sealOf fs p0 p1 0) p3 p4)) (x_X9_tOf fs (x_X9_sealOf fs p0 p1 1) v9 p3 p4)) _ _ ((hI.ge (by decide) rfl c_41).1) hE hP hD hS ls (lv_sub hl [0, 1, 2, 3, 4, 5, 6, 7, 8, 9] rfl)
      · have hE := itT hE c_48
        refine lv_iconst (v := 4) hx hb dX9_proved_51 (by decide) ?_
        refine lv_iload_n hx hb dX9_proved_52 rfl (lv_at hl 6 rfl) ?_
        refine ro_call (va_runS (As := [.int 4, .int p2]) (rest := [.ref o]) ⟨hx, hb, hml, hown, hts⟩ (c_X9_power l D cI cZ cR _ 4 p2) (va_cwS 2 hts gX9_proved_X9_power rfl rfl rfl hd_X9_power ⟨(Nat.le_of_ble_eq_true rfl), (Nat.le_of_ble_eq_true rfl)⟩) (po_pre hAM va_P.nil) rfl rfl hl.1 rfl (lv_room (Nat.le_of_ble_eq_true rfl)) dX9_proved_53 ⟨(Nat.le_of_ble_eq_true rfl), (Nat.le_of_ble_eq_true rfl)⟩) ?_
        refine lv_goto (tgt := 68) hx hb dX9_proved_56 (by decide) ?_
        refine wr_call (va_runV (As := [.int (x_X9_power 4 p2)]) (rest := []) ⟨hx, hb, hml, hown, hts⟩ (c_X9_mix l D cI cZ cR A _ o aS aH aG aR aV aA aB aO aP aF aC nd fs fh sg fg rq fq cl nr fV fA fB fO fP fF cn fC mx (x_X9_power 4 p2)) (cwV 1 hts gX9_proved_X9_mix rfl rfl rfl ⟨rfl, hd_X9_mix⟩ ⟨(Nat.le_of_ble_eq_true rfl), (Nat.le_of_ble_eq_true rfl)⟩) (wr_preV hAM hP hD (va_recv hK hP (ci := 7) (q0 := 0) rfl rfl)) rfl rfl hl.1 rfl (lv_room (Nat.le_of_ble_eq_true rfl)) dX9_proved_68 ⟨(Nat.le_of_ble_eq_true rfl), (Nat.le_of_ble_eq_true rfl)⟩) hS (fun v mx_68 H locs hw hP hD _ hS => ?_)
        try dsimp only at hw
        obtain ⟨rfl, rfl⟩ := hw
        refine W.eq (g2 := F0 m 71 ls []) rfl ?_
        refine W.cs (cells' := 0) (slots' := 0) rfl rfl ?_
        have hP : va_P D vwCl (mW cI cZ o aS aH aG aR aV aA aB aO aP aF aC nd fs fh sg fg rq fq cl nr fV fA fB fO fP fF cn fC (x_X9_mix mx (x_X9_power 4 p2))) H := hP
        have hD : va_D A (mW cI cZ o aS aH aG aR aV aA aB aO aP aF aC nd fs fh sg fg rq fq cl nr fV fA fB fO fP fF cn fC (x_X9_mix mx (x_X9_power 4 p2))) := hD
        refine lv_aload_n hx hb dX9_proved_71 rfl (lv_at hl 3 rfl) ?_
        refine lv_iload hx hb dX9_proved_72 (lv_at hl 0 rfl) ?_
        refine lv_iload_n hx hb dX9_proved_74 rfl (lv_at hl 4 rfl) ?_
        refine lv_icmp_ne (tgt := 89) hx hb dX9_proved_75 (by decide) (fun h9 => absurd c_48 h9) (fun _ => ?_)
        refine lv_aload_n hx hb dX9_proved_78 rfl (lv_at hl 3 rfl) ?_
        refine ro_call (va_runV (As := []) (rest := [.ref o]) ⟨hx, hb, hml, hown, hts⟩ (c_X9_h l D cI cZ cR _ o aS aH aG aR aV aA aB aO aP aF aC nd fs fh sg fg rq fq cl nr fV fA fB fO fP fF cn fC (x_X9_mix mx (x_X9_power 4 p2))) (cwV 0 hts gX9_proved_X9_h rfl rfl rfl ⟨rfl, hd_X9_h⟩ ⟨(Nat.le_of_ble_eq_true rfl), (Nat.le_of_ble_eq_true rfl)⟩) (po_preV hAM (hP.sub [0, 1, 2, 3, 4, 5, 6, 7, 8, 9, 10, 11] rfl) (va_recv hK hP (ci := 7) (q0 := 0) rfl rfl)) rfl rfl hl.1 rfl (lv_room (Nat.le_of_ble_eq_true rfl)) dX9_proved_79 ⟨(Nat.le_of_ble_eq_true rfl), (Nat.le_of_ble_eq_true rfl)⟩) ?_
        refine lv_iload_n hx hb dX9_proved_82 rfl (lv_at hl 6 rfl) ?_
        refine ro_call (va_runS (As := [.int (x_X9_h fs), .int p2]) (rest := [.ref o]) ⟨hx, hb, hml, hown, hts⟩ (c_X9_power l D cI cZ cR _ (x_X9_h fs) p2) (va_cwS 2 hts gX9_proved_X9_power rfl rfl rfl hd_X9_power ⟨(Nat.le_of_ble_eq_true rfl), (Nat.le_of_ble_eq_true rfl)⟩) (po_pre hAM va_P.nil) rfl rfl hl.1 rfl (lv_room (Nat.le_of_ble_eq_true rfl)) dX9_proved_83 ⟨(Nat.le_of_ble_eq_true rfl), (Nat.le_of_ble_eq_true rfl)⟩) ?_
        refine lv_goto (tgt := 101) hx hb dX9_proved_86 (by decide) ?_
        refine wr_call (va_runV (As := [.int (x_X9_power (x_X9_h fs) p2)]) (rest := []) ⟨hx, hb, hml, hown, hts⟩ (c_X9_mix l D cI cZ cR A _ o aS aH aG aR aV aA aB aO aP aF aC nd fs fh sg fg rq fq cl nr fV fA fB fO fP fF cn fC (x_X9_mix mx (x_X9_power 4 p2)) (x_X9_power (x_X9_h fs) p2)) (cwV 1 hts gX9_proved_X9_mix rfl rfl rfl ⟨rfl, hd_X9_mix⟩ ⟨(Nat.le_of_ble_eq_true rfl), (Nat.le_of_ble_eq_true rfl)⟩) (wr_preV hAM hP hD (va_recv hK hP (ci := 7) (q0 := 0) rfl rfl)) rfl rfl hl.1 rfl (lv_room (Nat.le_of_ble_eq_true rfl)) dX9_proved_101 ⟨(Nat.le_of_ble_eq_true rfl), (Nat.le_of_ble_eq_true rfl)⟩) hS (fun v mx_101 H locs hw hP hD _ hS => ?_)
        try dsimp only at hw
        obtain ⟨rfl, rfl⟩ := hw
        refine W.eq (g2 := F0 m 104 ls []) rfl ?_
        refine W.cs (cells' := 0) (slots' := 0) rfl rfl ?_
        have hP : va_P D vwCl (mW cI cZ o aS aH aG aR aV aA aB aO aP aF aC nd fs fh sg fg rq fq cl nr fV fA fB fO fP fF cn fC (x_X9_mix (x_X9_mix mx (x_X9_power 4 p2)) (x_X9_power (x_X9_h fs) p2))) H := hP
        have hD : va_D A (mW cI cZ o aS aH aG aR aV aA aB aO aP aF aC nd fs fh sg fg rq fq cl nr fV fA fB fO fP fF cn fC (x_X9_mix (x_X9_mix mx (x_X9_power 4 p2)) (x_X9_power (x_X9_h fs) p2))) := hD
        refine lv_iinc (v := (v9 + 1)) (lv' := [(9, .int (v9 + 1)), (8, .int (x_X9_sealOf fs p0 p1 1)), (7, .int (x_X9_sealOf fs p0 p1 0)), (0, .ref o), (1, .int p0), (2, .int p1), (3, .int p2), (4, .int p3), (5, .int p4), (6, .int p5)]) hx hb dX9_proved_104 hl (k := 0) rfl rfl (by decide) rfl (fun ls hl => ?_)
        refine lv_goto (tgt := 38) hx hb dX9_proved_107 (by decide) ?_
        exact ih (v9 + 1) (x_X9_mix (x_X9_mix mx (x_X9_power 4 p2)) (x_X9_power (x_X9_h fs) p2)) _ _ ((hI.ge (by decide) rfl c_41).1) hE hP hD hS ls (lv_sub hl [0, 1, 2, 3, 4, 5, 6, 7, 8, 9] rfl)

theorem hd_X9_prove : yX9_prove.cls ≠ "java/lang/invoke/MethodHandle" ∧ yX9_prove.cls ≠ "java/lang/invoke/VarHandle" ∧ (parseMethodDescriptor yX9_prove.desc).map (fun d => d.parameters.length) = some 6 := by decide +kernel
def x_X9_prove (fs : Nat → Int32) (p0 : Int32) (p1 : Int32) (p2 : Int32) (p3 : Int32) (p4 : Int32) (p5 : Int32) : Int32 := (if (x_X9_in p0 0 1) = true then (if (x_X9_isPower p1) = true then (if (x_X9_isPower p2) = true then (if (x_X9_isPower p3) = true then (if (x_X9_isPower p4) = true then (if (x_X9_in p5 0 3) = true then (x_X9_proved fs p0 p1 p2 p3 p4 p5) else (-2)) else (-2)) else (-2)) else (-2)) else (-2)) else (-2))
def rm_X9_prove : Room := { frames := 5, cells := 0, slots := 0, locals := 125 }
abbrev pq_X9_prove (D : va_G) (cI cZ cR : ClassId) (A : Nat → Prop) (o aS aH aG aR aV aA aB aO aP aF aC : Nat) (nd : Int32) (fs : Nat → Int32) (fh : Nat → Int32) (sg : Nat) (fg : Nat → Int32) (rq : Nat) (fq : Nat → Int32) (cl : Int32) (nr : Nat) (fV : Nat → Int32) (fA : Nat → Int32) (fB : Nat → Int32) (fO : Nat → Int32) (fP : Nat → Int32) (fF : Nat → Int32) (cn : Nat) (fC : Nat → Int32) (mx : Int32) (Rv : Int32) : Array Value → State → Outcome → State → Prop := wr_Q D (fun (v : Option Value) (u : Int32) => v = some (.int Rv)) (fun u => mW cI cZ o aS aH aG aR aV aA aB aO aP aF aC nd fs fh sg fg rq fq cl nr fV fA fB fO fP fF cn fC u) A
theorem in_X9_prove_X9 : ∀ w ∈ wsX90, w ∈ wsX9_prove := fun _ h => List.mem_cons_of_mem _ (List.mem_append_right _ h)
set_option maxHeartbeats 4000000 in
set_option maxRecDepth 100000 in
theorem c_X9_prove (l : Launch) (D : va_G) (cI cZ cR : ClassId) (A : Nat → Prop) (H0 : Heap) (o aS aH aG aR aV aA aB aO aP aF aC : Nat) (nd : Int32) (fs : Nat → Int32) (fh : Nat → Int32) (sg : Nat) (fg : Nat → Int32) (rq : Nat) (fq : Nat → Int32) (cl : Int32) (nr : Nat) (fV : Nat → Int32) (fA : Nat → Int32) (fB : Nat → Int32) (fO : Nat → Int32) (fP : Nat → Int32) (fF : Nat → Int32) (cn : Nat) (fC : Nat → Int32) (mx : Int32) (p0 : Int32) (p1 : Int32) (p2 : Int32) (p3 : Int32) (p4 : Int32) (p5 : Int32) : Met l yX9_prove wsX9_prove rm_X9_prove (wr_P D cI cZ cR [.ref o, .int p0, .int p1, .int p2, .int p3, .int p4, .int p5] (mW cI cZ o aS aH aG aR aV aA aB aO aP aF aC nd fs fh sg fg rq fq cl nr fV fA fB fO fP fF cn fC mx) A H0) (pq_X9_prove D cI cZ cR A o aS aH aG aR aV aA aB aO aP aF aC nd fs fh sg fg rq fq cl nr fV fA fB fO fP fF cn fC mx (x_X9_prove fs p0 p1 p2 p3 p4 p5)) 0 0 A := by
  refine Met.ofW (cc := cX9_prove) (maxL := 7) (ret := (some .int)) (by decide +kernel) rfl ?_
  intro p e s m args below meth c s₁ B hml hv
  obtain ⟨rfl, rfl, hAM, hP, hD⟩ := hv
  have hx := B.exec
  have hb := B.bytes
  have hr := B.returns
  have hts := atoms_spec (ws := wsX9_prove) B.pre
  have hown : s.vm.findClass RX9 = some m.cls := findClass_of_methodNamed B.named
  have hlocks := B.notSynchronized
  have hK := hAM.1
  have hS : va_S A s.heap s.heap [] := va_S.rf
  generalize hE : (x_X9_prove fs p0 p1 p2 p3 p4 p5) = Rv
  rw [x_X9_prove] at hE
  have hl := lv_entry ([.ref o, .int p0, .int p1, .int p2, .int p3, .int p4, .int p5]) (n := 7) (Nat.le_of_ble_eq_true rfl)
  rw [lg_entry_eq]
  generalize (lg_sl ([.ref o, .int p0, .int p1, .int p2, .int p3, .int p4, .int p5]) ++ List.replicate (7 - (lg_sl ([.ref o, .int p0, .int p1, .int p2, .int p3, .int p4, .int p5])).length) Slot.unset).toArray = ls at hl ⊢
  have hl : lv_has ls 7 [(0, .ref o), (1, .int p0), (2, .int p1), (3, .int p2), (4, .int p3), (5, .int p4), (6, .int p5)] := hl
  refine lv_iload_n hx hb dX9_prove_0 rfl (lv_at hl 1 rfl) ?_
  refine lv_iconst (v := 0) hx hb dX9_prove_1 (by decide) ?_
  refine lv_iconst (v := 1) hx hb dX9_prove_2 (by decide) ?_
  refine ro_call (va_runS (As := [.int p0, .int 0, .int 1]) (rest := []) ⟨hx, hb, hml, hown, hts⟩ (c_X9_in l D cI cZ cR _ p0 0 1) (va_cwS 3 hts gX9_prove_X9_in rfl rfl rfl hd_X9_in ⟨(Nat.le_of_ble_eq_true rfl), (Nat.le_of_ble_eq_true rfl)⟩) (po_pre hAM va_P.nil) rfl rfl hl.1 rfl (lv_room (Nat.le_of_ble_eq_true rfl)) dX9_prove_3 ⟨(Nat.le_of_ble_eq_true rfl), (Nat.le_of_ble_eq_true rfl)⟩) ?_
  refine w_if_eqb (tgt := 49) hx hb dX9_prove_6 (by decide) (fun c_6 => ?_) (fun c_6 => ?_)
  · have hE := itF hE c_6
    refine lv_bipush (v := (-2)) hx hb dX9_prove_49 (by decide +kernel) ?_
    subst hE
    exact wr_iret (mx) hx hb hr hlocks rfl hP hD hS dX9_prove_51
  · have hE := itT hE c_6
    refine lv_iload_n hx hb dX9_prove_9 rfl (lv_at hl 2 rfl) ?_
    refine ro_call (va_runS (As := [.int p1]) (rest := []) ⟨hx, hb, hml, hown, hts⟩ (c_X9_isPower l D cI cZ cR _ p1) (va_cwS 1 hts gX9_prove_X9_isPower rfl rfl rfl hd_X9_isPower ⟨(Nat.le_of_ble_eq_true rfl), (Nat.le_of_ble_eq_true rfl)⟩) (po_pre hAM va_P.nil) rfl rfl hl.1 rfl (lv_room (Nat.le_of_ble_eq_true rfl)) dX9_prove_10 ⟨(Nat.le_of_ble_eq_true rfl), (Nat.le_of_ble_eq_true rfl)⟩) ?_
    refine w_if_eqb (tgt := 49) hx hb dX9_prove_13 (by decide) (fun c_13 => ?_) (fun c_13 => ?_)
    · have hE := itF hE c_13
      refine lv_bipush (v := (-2)) hx hb dX9_prove_49 (by decide +kernel) ?_
      subst hE
      exact wr_iret (mx) hx hb hr hlocks rfl hP hD hS dX9_prove_51
    · have hE := itT hE c_13
      refine lv_iload_n hx hb dX9_prove_16 rfl (lv_at hl 3 rfl) ?_
      refine ro_call (va_runS (As := [.int p2]) (rest := []) ⟨hx, hb, hml, hown, hts⟩ (c_X9_isPower l D cI cZ cR _ p2) (va_cwS 1 hts gX9_prove_X9_isPower rfl rfl rfl hd_X9_isPower ⟨(Nat.le_of_ble_eq_true rfl), (Nat.le_of_ble_eq_true rfl)⟩) (po_pre hAM va_P.nil) rfl rfl hl.1 rfl (lv_room (Nat.le_of_ble_eq_true rfl)) dX9_prove_17 ⟨(Nat.le_of_ble_eq_true rfl), (Nat.le_of_ble_eq_true rfl)⟩) ?_
      refine w_if_eqb (tgt := 49) hx hb dX9_prove_20 (by decide) (fun c_20 => ?_) (fun c_20 => ?_)
      · have hE := itF hE c_20
        refine lv_bipush (v := (-2)) hx hb dX9_prove_49 (by decide +kernel) ?_
        subst hE
        exact wr_iret (mx) hx hb hr hlocks rfl hP hD hS dX9_prove_51
      · have hE := itT hE c_20
        refine lv_iload hx hb dX9_prove_23 (lv_at hl 4 rfl) ?_
        refine ro_call (va_runS (As := [.int p3]) (rest := []) ⟨hx, hb, hml, hown, hts⟩ (c_X9_isPower l D cI cZ cR _ p3) (va_cwS 1 hts gX9_prove_X9_isPower rfl rfl rfl hd_X9_isPower ⟨(Nat.le_of_ble_eq_true rfl), (Nat.le_of_ble_eq_true rfl)⟩) (po_pre hAM va_P.nil) rfl rfl hl.1 rfl (lv_room (Nat.le_of_ble_eq_true rfl)) dX9_prove_25 ⟨(Nat.le_of_ble_eq_true rfl), (Nat.le_of_ble_eq_true rfl)⟩) ?_
        refine w_if_eqb (tgt := 49) hx hb dX9_prove_28 (by decide) (fun c_28 => ?_) (fun c_28 => ?_)
        · have hE := itF hE c_28
          refine lv_bipush (v := (-2)) hx hb dX9_prove_49 (by decide +kernel) ?_
          subst hE
          exact wr_iret (mx) hx hb hr hlocks rfl hP hD hS dX9_prove_51
        · have hE := itT hE c_28
          refine lv_iload hx hb dX9_prove_31 (lv_at hl 5 rfl) ?_
          refine ro_call (va_runS (As := [.int p4]) (rest := []) ⟨hx, hb, hml, hown, hts⟩ (c_X9_isPower l D cI cZ cR _ p4) (va_cwS 1 hts gX9_prove_X9_isPower rfl rfl rfl hd_X9_isPower ⟨(Nat.le_of_ble_eq_true rfl), (Nat.le_of_ble_eq_true rfl)⟩) (po_pre hAM va_P.nil) rfl rfl hl.1 rfl (lv_room (Nat.le_of_ble_eq_true rfl)) dX9_prove_33 ⟨(Nat.le_of_ble_eq_true rfl), (Nat.le_of_ble_eq_true rfl)⟩) ?_
          refine w_if_eqb (tgt := 49) hx hb dX9_prove_36 (by decide) (fun c_36 => ?_) (fun c_36 => ?_)
          · have hE := itF hE c_36
            refine lv_bipush (v := (-2)) hx hb dX9_prove_49 (by decide +kernel) ?_
            subst hE
            exact wr_iret (mx) hx hb hr hlocks rfl hP hD hS dX9_prove_51
          · have hE := itT hE c_36
            refine lv_iload hx hb dX9_prove_39 (lv_at hl 6 rfl) ?_
            refine lv_iconst (v := 0) hx hb dX9_prove_41 (by decide) ?_
            refine lv_iconst (v := 3) hx hb dX9_prove_42 (by decide) ?_
            refine ro_call (va_runS (As := [.int p5, .int 0, .int 3]) (rest := []) ⟨hx, hb, hml, hown, hts⟩ (c_X9_in l D cI cZ cR _ p5 0 3) (va_cwS 3 hts gX9_prove_X9_in rfl rfl rfl hd_X9_in ⟨(Nat.le_of_ble_eq_true rfl), (Nat.le_of_ble_eq_true rfl)⟩) (po_pre hAM va_P.nil) rfl rfl hl.1 rfl (lv_room (Nat.le_of_ble_eq_true rfl)) dX9_prove_43 ⟨(Nat.le_of_ble_eq_true rfl), (Nat.le_of_ble_eq_true rfl)⟩) ?_
            refine w_if_neb (tgt := 52) hx hb dX9_prove_46 (by decide) (fun c_46 => ?_) (fun c_46 => ?_)
            · have hE := itT hE c_46
              refine lv_aload_n hx hb dX9_prove_52 rfl (lv_at hl 0 rfl) ?_
              refine lv_iload_n hx hb dX9_prove_53 rfl (lv_at hl 1 rfl) ?_
              refine lv_iload_n hx hb dX9_prove_54 rfl (lv_at hl 2 rfl) ?_
              refine lv_iload_n hx hb dX9_prove_55 rfl (lv_at hl 3 rfl) ?_
              refine lv_iload hx hb dX9_prove_56 (lv_at hl 4 rfl) ?_
              refine lv_iload hx hb dX9_prove_58 (lv_at hl 5 rfl) ?_
              refine lv_iload hx hb dX9_prove_60 (lv_at hl 6 rfl) ?_
              refine wr_call (va_runV (As := [.int p0, .int p1, .int p2, .int p3, .int p4, .int p5]) (rest := []) ⟨hx, hb, hml, hown, hts⟩ (c_X9_proved l D cI cZ cR A _ o aS aH aG aR aV aA aB aO aP aF aC nd fs fh sg fg rq fq cl nr fV fA fB fO fP fF cn fC mx p0 p1 p2 p3 p4 p5) (cwV 6 hts gX9_prove_X9_proved rfl rfl rfl ⟨rfl, hd_X9_proved⟩ ⟨(Nat.le_of_ble_eq_true rfl), (Nat.le_of_ble_eq_true rfl)⟩) (wr_preV hAM hP hD (va_recv hK hP (ci := 7) (q0 := 0) rfl rfl)) rfl rfl hl.1 rfl (lv_room (Nat.le_of_ble_eq_true rfl)) dX9_prove_62 ⟨(Nat.le_of_ble_eq_true rfl), (Nat.le_of_ble_eq_true rfl)⟩) hS (fun v mx_62 H locs hw hP hD _ hS => ?_)
              try dsimp only at hw
              subst hw
              refine W.eq (g2 := F0 m 65 ls [.int (x_X9_proved fs p0 p1 p2 p3 p4 p5)]) rfl ?_
              refine W.cs (cells' := 0) (slots' := 0) rfl rfl ?_
              have hP : va_P D vwCl (mW cI cZ o aS aH aG aR aV aA aB aO aP aF aC nd fs fh sg fg rq fq cl nr fV fA fB fO fP fF cn fC mx_62) H := hP
              have hD : va_D A (mW cI cZ o aS aH aG aR aV aA aB aO aP aF aC nd fs fh sg fg rq fq cl nr fV fA fB fO fP fF cn fC mx_62) := hD
              subst hE
              exact wr_iret (mx_62) hx hb hr hlocks rfl hP hD hS dX9_prove_65
            · have hE := itF hE c_46
              refine lv_bipush (v := (-2)) hx hb dX9_prove_49 (by decide +kernel) ?_
              subst hE
              exact wr_iret (mx) hx hb hr hlocks rfl hP hD hS dX9_prove_51

theorem hd_X9_check : yX9_check.cls ≠ "java/lang/invoke/MethodHandle" ∧ yX9_check.cls ≠ "java/lang/invoke/VarHandle" ∧ (parseMethodDescriptor yX9_check.desc).map (fun d => d.parameters.length) = some 6 := by decide +kernel
def x_X9_check (fs : Nat → Int32) (p0 : Int32) (p1 : Int32) (p2 : Int32) (p3 : Int32) (p4 : Int32) (p5 : Int32) : Int32 := (if (x_X9_holds fs p0 p1 p2 p3 p4 p5) = true then 1 else 0)
def rm_X9_check : Room := { frames := 5, cells := 0, slots := 0, locals := 120 }
abbrev pq_X9_check (D : va_G) (cI cZ cR : ClassId) (A : Nat → Prop) (o aS aH aG aR aV aA aB aO aP aF aC : Nat) (nd : Int32) (fs : Nat → Int32) (fh : Nat → Int32) (sg : Nat) (fg : Nat → Int32) (rq : Nat) (fq : Nat → Int32) (cl : Int32) (nr : Nat) (fV : Nat → Int32) (fA : Nat → Int32) (fB : Nat → Int32) (fO : Nat → Int32) (fP : Nat → Int32) (fF : Nat → Int32) (cn : Nat) (fC : Nat → Int32) (mx : Int32) (Rv : Int32) : Array Value → State → Outcome → State → Prop := wr_Q D (fun (v : Option Value) (u : Int32) => v = some (.int Rv)) (fun u => mW cI cZ o aS aH aG aR aV aA aB aO aP aF aC nd fs fh sg fg rq fq cl nr fV fA fB fO fP fF cn fC u) A
theorem in_X9_check_X9 : ∀ w ∈ wsX90, w ∈ wsX9_check := fun _ h => List.mem_cons_of_mem _ (List.mem_append_right _ h)
set_option maxHeartbeats 4000000 in
set_option maxRecDepth 100000 in
theorem c_X9_check (l : Launch) (D : va_G) (cI cZ cR : ClassId) (A : Nat → Prop) (H0 : Heap) (o aS aH aG aR aV aA aB aO aP aF aC : Nat) (nd : Int32) (fs : Nat → Int32) (fh : Nat → Int32) (sg : Nat) (fg : Nat → Int32) (rq : Nat) (fq : Nat → Int32) (cl : Int32) (nr : Nat) (fV : Nat → Int32) (fA : Nat → Int32) (fB : Nat → Int32) (fO : Nat → Int32) (fP : Nat → Int32) (fF : Nat → Int32) (cn : Nat) (fC : Nat → Int32) (mx : Int32) (p0 : Int32) (p1 : Int32) (p2 : Int32) (p3 : Int32) (p4 : Int32) (p5 : Int32) : Met l yX9_check wsX9_check rm_X9_check (wr_P D cI cZ cR [.ref o, .int p0, .int p1, .int p2, .int p3, .int p4, .int p5] (mW cI cZ o aS aH aG aR aV aA aB aO aP aF aC nd fs fh sg fg rq fq cl nr fV fA fB fO fP fF cn fC mx) A H0) (pq_X9_check D cI cZ cR A o aS aH aG aR aV aA aB aO aP aF aC nd fs fh sg fg rq fq cl nr fV fA fB fO fP fF cn fC mx (x_X9_check fs p0 p1 p2 p3 p4 p5)) 0 0 A := by
  refine Met.ofW (cc := cX9_check) (maxL := 7) (ret := (some .int)) (by decide +kernel) rfl ?_
  intro p e s m args below meth c s₁ B hml hv
  obtain ⟨rfl, rfl, hAM, hP, hD⟩ := hv
  have hx := B.exec
  have hb := B.bytes
  have hr := B.returns
  have hts := atoms_spec (ws := wsX9_check) B.pre
  have hown : s.vm.findClass RX9 = some m.cls := findClass_of_methodNamed B.named
  have hlocks := B.notSynchronized
  have hK := hAM.1
  have hS : va_S A s.heap s.heap [] := va_S.rf
  generalize hE : (x_X9_check fs p0 p1 p2 p3 p4 p5) = Rv
  rw [x_X9_check] at hE
  have hl := lv_entry ([.ref o, .int p0, .int p1, .int p2, .int p3, .int p4, .int p5]) (n := 7) (Nat.le_of_ble_eq_true rfl)
  rw [lg_entry_eq]
  generalize (lg_sl ([.ref o, .int p0, .int p1, .int p2, .int p3, .int p4, .int p5]) ++ List.replicate (7 - (lg_sl ([.ref o, .int p0, .int p1, .int p2, .int p3, .int p4, .int p5])).length) Slot.unset).toArray = ls at hl ⊢
  have hl : lv_has ls 7 [(0, .ref o), (1, .int p0), (2, .int p1), (3, .int p2), (4, .int p3), (5, .int p4), (6, .int p5)] := hl
  refine lv_aload_n hx hb dX9_check_0 rfl (lv_at hl 0 rfl) ?_
  refine lv_iload_n hx hb dX9_check_1 rfl (lv_at hl 1 rfl) ?_
  refine lv_iload_n hx hb dX9_check_2 rfl (lv_at hl 2 rfl) ?_
  refine lv_iload_n hx hb dX9_check_3 rfl (lv_at hl 3 rfl) ?_
  refine lv_iload hx hb dX9_check_4 (lv_at hl 4 rfl) ?_
  refine lv_iload hx hb dX9_check_6 (lv_at hl 5 rfl) ?_
  refine lv_iload hx hb dX9_check_8 (lv_at hl 6 rfl) ?_
  refine wr_call (va_runV (As := [.int p0, .int p1, .int p2, .int p3, .int p4, .int p5]) (rest := []) ⟨hx, hb, hml, hown, hts⟩ (c_X9_holds l D cI cZ cR A _ o aS aH aG aR aV aA aB aO aP aF aC nd fs fh sg fg rq fq cl nr fV fA fB fO fP fF cn fC mx p0 p1 p2 p3 p4 p5) (cwV 6 hts gX9_check_X9_holds rfl rfl rfl ⟨rfl, hd_X9_holds⟩ ⟨(Nat.le_of_ble_eq_true rfl), (Nat.le_of_ble_eq_true rfl)⟩) (wr_preV hAM hP hD (va_recv hK hP (ci := 7) (q0 := 0) rfl rfl)) rfl rfl hl.1 rfl (lv_room (Nat.le_of_ble_eq_true rfl)) dX9_check_10 ⟨(Nat.le_of_ble_eq_true rfl), (Nat.le_of_ble_eq_true rfl)⟩) hS (fun v mx_10 H locs hw hP hD _ hS => ?_)
  try dsimp only at hw
  subst hw
  refine W.eq (g2 := F0 m 13 ls [.int (bI (x_X9_holds fs p0 p1 p2 p3 p4 p5))]) rfl ?_
  refine W.cs (cells' := 0) (slots' := 0) rfl rfl ?_
  have hP : va_P D vwCl (mW cI cZ o aS aH aG aR aV aA aB aO aP aF aC nd fs fh sg fg rq fq cl nr fV fA fB fO fP fF cn fC mx_10) H := hP
  have hD : va_D A (mW cI cZ o aS aH aG aR aV aA aB aO aP aF aC nd fs fh sg fg rq fq cl nr fV fA fB fO fP fF cn fC mx_10) := hD
  refine w_if_eqb (tgt := 20) hx hb dX9_check_13 (by decide) (fun c_13 => ?_) (fun c_13 => ?_)
  · have hE := itF hE c_13
    refine lv_iconst (v := 0) hx hb dX9_check_20 (by decide) ?_
    subst hE
    exact wr_iret (mx_10) hx hb hr hlocks rfl hP hD hS dX9_check_21
  · have hE := itT hE c_13
    refine lv_iconst (v := 1) hx hb dX9_check_16 (by decide) ?_
    refine lv_goto (tgt := 21) hx hb dX9_check_17 (by decide) ?_
    subst hE
    exact wr_iret (mx_10) hx hb hr hlocks rfl hP hD hS dX9_check_21

theorem hd_X9_key : yX9_key.cls ≠ "java/lang/invoke/MethodHandle" ∧ yX9_key.cls ≠ "java/lang/invoke/VarHandle" ∧ (parseMethodDescriptor yX9_key.desc).map (fun d => d.parameters.length) = some 4 := by decide +kernel
def x_X9_key_k1 (p0 : Int32) (p2 : Int32) : Int32 := (if p0 ≤ 1 then 0 else p2)
def x_X9_key_k2 (p0 : Int32) (p3 : Int32) : Int32 := (if p0 ≤ 2 then 0 else p3)
def x_X9_key (nd : Int32) (fs : Nat → Int32) (nr : Nat) (p0 : Int32) (p1 : Int32) (p2 : Int32) (p3 : Int32) : Int32 × Int32 × (Nat → Int32) := (if (x_X9_in p0 1 3) = true then (if (x_X9_isPower p1) = true then (if (x_X9_isPower p2) = true then (if (x_X9_isPower p3) = true then (if (nI nr) ≤ 0 then ((x_X9_h (upd (upd (upd fs (ix 0) p1) (ix 1) (x_X9_key_k1 p0 p2)) (ix 2) (x_X9_key_k2 p0 p3))), p0, (upd (upd (upd fs (ix 0) p1) (ix 1) (x_X9_key_k1 p0 p2)) (ix 2) (x_X9_key_k2 p0 p3))) else ((-3), nd, fs)) else ((-2), nd, fs)) else ((-2), nd, fs)) else ((-2), nd, fs)) else ((-2), nd, fs))
def rm_X9_key : Room := { frames := 3, cells := 0, slots := 0, locals := 69 }
abbrev pq_X9_key (D : va_G) (cI cZ cR : ClassId) (A : Nat → Prop) (o aS aH aG aR aV aA aB aO aP aF aC : Nat) (nd : Int32) (fs : Nat → Int32) (fh : Nat → Int32) (sg : Nat) (fg : Nat → Int32) (rq : Nat) (fq : Nat → Int32) (cl : Int32) (nr : Nat) (fV : Nat → Int32) (fA : Nat → Int32) (fB : Nat → Int32) (fO : Nat → Int32) (fP : Nat → Int32) (fF : Nat → Int32) (cn : Nat) (fC : Nat → Int32) (mx : Int32) (Rv : Int32 × Int32 × (Nat → Int32)) : Array Value → State → Outcome → State → Prop := wr_Q D (fun (v : Option Value) (u : Int32 × (Nat → Int32)) => v = some (.int Rv.1) ∧ u.1 = Rv.2.1 ∧ u.2 = Rv.2.2) (fun u => mW cI cZ o aS aH aG aR aV aA aB aO aP aF aC u.1 u.2 fh sg fg rq fq cl nr fV fA fB fO fP fF cn fC mx) A
theorem in_X9_key_X9 : ∀ w ∈ wsX90, w ∈ wsX9_key := fun _ h => List.mem_cons_of_mem _ (List.mem_append_right _ h)
set_option maxHeartbeats 4000000 in
set_option maxRecDepth 100000 in
theorem c_X9_key (l : Launch) (D : va_G) (cI cZ cR : ClassId) (A : Nat → Prop) (H0 : Heap) (o aS aH aG aR aV aA aB aO aP aF aC : Nat) (nd : Int32) (fs : Nat → Int32) (fh : Nat → Int32) (sg : Nat) (fg : Nat → Int32) (rq : Nat) (fq : Nat → Int32) (cl : Int32) (nr : Nat) (fV : Nat → Int32) (fA : Nat → Int32) (fB : Nat → Int32) (fO : Nat → Int32) (fP : Nat → Int32) (fF : Nat → Int32) (cn : Nat) (fC : Nat → Int32) (mx : Int32) (p0 : Int32) (p1 : Int32) (p2 : Int32) (p3 : Int32) : Met l yX9_key wsX9_key rm_X9_key (wr_P D cI cZ cR [.ref o, .int p0, .int p1, .int p2, .int p3] (mW cI cZ o aS aH aG aR aV aA aB aO aP aF aC nd fs fh sg fg rq fq cl nr fV fA fB fO fP fF cn fC mx) A H0) (pq_X9_key D cI cZ cR A o aS aH aG aR aV aA aB aO aP aF aC nd fs fh sg fg rq fq cl nr fV fA fB fO fP fF cn fC mx (x_X9_key nd fs nr p0 p1 p2 p3)) 0 0 A := by
  refine Met.ofW (cc := cX9_key) (maxL := 5) (ret := (some .int)) (by decide +kernel) rfl ?_
  intro p e s m args below meth c s₁ B hml hv
  obtain ⟨rfl, rfl, hAM, hP, hD⟩ := hv
  have hx := B.exec
  have hb := B.bytes
  have hr := B.returns
  have hts := atoms_spec (ws := wsX9_key) B.pre
  have hown : s.vm.findClass RX9 = some m.cls := findClass_of_methodNamed B.named
  have hlocks := B.notSynchronized
  have hK := hAM.1
  have hS : va_S A s.heap s.heap [] := va_S.rf
  generalize hE : (x_X9_key nd fs nr p0 p1 p2 p3) = Rv
  rw [x_X9_key] at hE
  have hl := lv_entry ([.ref o, .int p0, .int p1, .int p2, .int p3]) (n := 5) (Nat.le_of_ble_eq_true rfl)
  rw [lg_entry_eq]
  generalize (lg_sl ([.ref o, .int p0, .int p1, .int p2, .int p3]) ++ List.replicate (5 - (lg_sl ([.ref o, .int p0, .int p1, .int p2, .int p3])).length) Slot.unset).toArray = ls at hl ⊢
  have hl : lv_has ls 5 [(0, .ref o), (1, .int p0), (2, .int p1), (3, .int p2), (4, .int p3)] := hl
  refine lv_iload_n hx hb dX9_key_0 rfl (lv_at hl 1 rfl) ?_
  refine lv_iconst (v := 1) hx hb dX9_key_1 (by decide) ?_
  refine lv_iconst (v := 3) hx hb dX9_key_2 (by decide) ?_
  refine ro_call (va_runS (As := [.int p0, .int 1, .int 3]) (rest := []) ⟨hx, hb, hml, hown, hts⟩ (c_X9_in l D cI cZ cR _ p0 1 3) (va_cwS 3 hts gX9_key_X9_in rfl rfl rfl hd_X9_in ⟨(Nat.le_of_ble_eq_true rfl), (Nat.le_of_ble_eq_true rfl)⟩) (po_pre hAM va_P.nil) rfl rfl hl.1 rfl (lv_room (Nat.le_of_ble_eq_true rfl)) dX9_key_3 ⟨(Nat.le_of_ble_eq_true rfl), (Nat.le_of_ble_eq_true rfl)⟩) ?_
  refine w_if_eqb (tgt := 31) hx hb dX9_key_6 (by decide) (fun c_6 => ?_) (fun c_6 => ?_)
  · have hE := itF hE c_6
    refine lv_bipush (v := (-2)) hx hb dX9_key_31 (by decide +kernel) ?_
    subst hE
    exact wr_iret (nd, fs) hx hb hr hlocks ⟨rfl, rfl, rfl⟩ hP hD hS dX9_key_33
  · have hE := itT hE c_6
    refine lv_iload_n hx hb dX9_key_9 rfl (lv_at hl 2 rfl) ?_
    refine ro_call (va_runS (As := [.int p1]) (rest := []) ⟨hx, hb, hml, hown, hts⟩ (c_X9_isPower l D cI cZ cR _ p1) (va_cwS 1 hts gX9_key_X9_isPower rfl rfl rfl hd_X9_isPower ⟨(Nat.le_of_ble_eq_true rfl), (Nat.le_of_ble_eq_true rfl)⟩) (po_pre hAM va_P.nil) rfl rfl hl.1 rfl (lv_room (Nat.le_of_ble_eq_true rfl)) dX9_key_10 ⟨(Nat.le_of_ble_eq_true rfl), (Nat.le_of_ble_eq_true rfl)⟩) ?_
    refine w_if_eqb (tgt := 31) hx hb dX9_key_13 (by decide) (fun c_13 => ?_) (fun c_13 => ?_)
    · have hE := itF hE c_13
      refine lv_bipush (v := (-2)) hx hb dX9_key_31 (by decide +kernel) ?_
      subst hE
      exact wr_iret (nd, fs) hx hb hr hlocks ⟨rfl, rfl, rfl⟩ hP hD hS dX9_key_33
    · have hE := itT hE c_13
      refine lv_iload_n hx hb dX9_key_16 rfl (lv_at hl 3 rfl) ?_
      refine ro_call (va_runS (As := [.int p2]) (rest := []) ⟨hx, hb, hml, hown, hts⟩ (c_X9_isPower l D cI cZ cR _ p2) (va_cwS 1 hts gX9_key_X9_isPower rfl rfl rfl hd_X9_isPower ⟨(Nat.le_of_ble_eq_true rfl), (Nat.le_of_ble_eq_true rfl)⟩) (po_pre hAM va_P.nil) rfl rfl hl.1 rfl (lv_room (Nat.le_of_ble_eq_true rfl)) dX9_key_17 ⟨(Nat.le_of_ble_eq_true rfl), (Nat.le_of_ble_eq_true rfl)⟩) ?_
      refine w_if_eqb (tgt := 31) hx hb dX9_key_20 (by decide) (fun c_20 => ?_) (fun c_20 => ?_)
      · have hE := itF hE c_20
        refine lv_bipush (v := (-2)) hx hb dX9_key_31 (by decide +kernel) ?_
        subst hE
        exact wr_iret (nd, fs) hx hb hr hlocks ⟨rfl, rfl, rfl⟩ hP hD hS dX9_key_33
      · have hE := itT hE c_20
        refine lv_iload hx hb dX9_key_23 (lv_at hl 4 rfl) ?_
        refine ro_call (va_runS (As := [.int p3]) (rest := []) ⟨hx, hb, hml, hown, hts⟩ (c_X9_isPower l D cI cZ cR _ p3) (va_cwS 1 hts gX9_key_X9_isPower rfl rfl rfl hd_X9_isPower ⟨(Nat.le_of_ble_eq_true rfl), (Nat.le_of_ble_eq_true rfl)⟩) (po_pre hAM va_P.nil) rfl rfl hl.1 rfl (lv_room (Nat.le_of_ble_eq_true rfl)) dX9_key_25 ⟨(Nat.le_of_ble_eq_true rfl), (Nat.le_of_ble_eq_true rfl)⟩) ?_
        refine w_if_neb (tgt := 34) hx hb dX9_key_28 (by decide) (fun c_28 => ?_) (fun c_28 => ?_)
        · have hE := itT hE c_28
          refine lv_aload_n hx hb dX9_key_34 rfl (lv_at hl 0 rfl) ?_
          refine va_get (D := D) (ci := 7) (v := .int (nI nr)) (C := RX9) (T := TX9) (N := 18) hx hb hts in_X9_key_X9 hown hK hP 0 rfl rfl 8 (by decide) (hts (.fieldLink RX9 72 "WallCountModel" "rows" "I") (List.mem_of_getElem? (i := 1) rfl)) (fun _ h9 => h9) rfl dX9_key_35 ?_
          refine lv_if_le (tgt := 44) hx hb dX9_key_38 (by decide) (fun c_38 => ?_) (fun c_38 => ?_)
          · have hE := itT hE c_38
            refine lv_aload_n hx hb dX9_key_44 rfl (lv_at hl 0 rfl) ?_
            refine lv_iload_n hx hb dX9_key_45 rfl (lv_at hl 1 rfl) ?_
            refine va_put (D := D) (ci := 7) (v := .int p0) (ty := .int) (C := RX9) (T := TX9) (N := 18) hx hb hts in_X9_key_X9 tyX9 tyX9_ok nmX9 hown hK hP hD hS 0 rfl rfl 0 (by decide) (hts (.fieldLink RX9 7 "WallCountModel" "need" "I") (List.mem_of_getElem? (i := 2) rfl)) (fun _ h9 => h9) rfl (by decide +kernel) rfl rfl (Nat.le_of_ble_eq_true rfl) dX9_key_46 (fun H locs hP hD hS => ?_)
            have hP : va_P D vwCl (mW cI cZ o aS aH aG aR aV aA aB aO aP aF aC p0 fs fh sg fg rq fq cl nr fV fA fB fO fP fF cn fC mx) H := hP
            have hD : va_D A (mW cI cZ o aS aH aG aR aV aA aB aO aP aF aC p0 fs fh sg fg rq fq cl nr fV fA fB fO fP fF cn fC mx) := hD
            refine lv_aload_n hx hb dX9_key_49 rfl (lv_at hl 0 rfl) ?_
            refine va_get (D := D) (ci := 7) (v := .ref aS) (C := RX9) (T := TX9) (N := 18) hx hb hts in_X9_key_X9 hown hK hP 0 rfl rfl 1 (by decide) (hts (.fieldLink RX9 13 "WallCountModel" "secret" "[I") (List.mem_of_getElem? (i := 3) rfl)) (fun _ h9 => h9) rfl dX9_key_50 ?_
            refine lv_iconst (v := 0) hx hb dX9_key_53 (by decide) ?_
            refine lv_iload_n hx hb dX9_key_54 rfl (lv_at hl 2 rfl) ?_
            refine va_iast hx hb hK hP hD hS 1 0 rfl rfl vp3_0 dX9_key_55 (fun H locs hP hD hS => ?_)
            have hP : va_P D vwCl (mW cI cZ o aS aH aG aR aV aA aB aO aP aF aC p0 (upd fs (ix 0) p1) fh sg fg rq fq cl nr fV fA fB fO fP fF cn fC mx) H := hP
            have hD : va_D A (mW cI cZ o aS aH aG aR aV aA aB aO aP aF aC p0 (upd fs (ix 0) p1) fh sg fg rq fq cl nr fV fA fB fO fP fF cn fC mx) := hD
            refine lv_aload_n hx hb dX9_key_56 rfl (lv_at hl 0 rfl) ?_
            refine va_get (D := D) (ci := 7) (v := .ref aS) (C := RX9) (T := TX9) (N := 18) hx hb hts in_X9_key_X9 hown hK hP 0 rfl rfl 1 (by decide) (hts (.fieldLink RX9 13 "WallCountModel" "secret" "[I") (List.mem_of_getElem? (i := 3) rfl)) (fun _ h9 => h9) rfl dX9_key_57 ?_
            refine lv_iconst (v := 1) hx hb dX9_key_60 (by decide) ?_
            have j61 : W p l e (headSpec wsX9_key rm_X9_key).room s m ([.ref o, .int p0, .int p1, .int p2, .int p3] : List Value).toArray below meth c H locs 0 0 (MQ below (pq_X9_key D cI cZ cR A o aS aH aG aR aV aA aB aO aP aF aC nd fs fh sg fg rq fq cl nr fV fA fB fO fP fF cn fC mx Rv) ([.ref o, .int p0, .int p1, .int p2, .int p3] : List Value).toArray s 0 0 A) (F0 m 71 ls [.int (x_X9_key_k1 p0 p2), .int 1, .ref aS]) → W p l e (headSpec wsX9_key rm_X9_key).room s m ([.ref o, .int p0, .int p1, .int p2, .int p3] : List Value).toArray below meth c H locs 0 0 (MQ below (pq_X9_key D cI cZ cR A o aS aH aG aR aV aA aB aO aP aF aC nd fs fh sg fg rq fq cl nr fV fA fB fO fP fF cn fC mx Rv) ([.ref o, .int p0, .int p1, .int p2, .int p3] : List Value).toArray s 0 0 A) (F0 m 61 ls [.int 1, .ref aS]) := by
              intro k61
              generalize hJ61 : (x_X9_key_k1 p0 p2) = v61 at k61
              rw [x_X9_key_k1] at hJ61
              refine lv_iload_n hx hb dX9_key_61 rfl (lv_at hl 1 rfl) ?_
              refine lv_iconst (v := 1) hx hb dX9_key_62 (by decide) ?_
              refine lv_icmp_le (tgt := 70) hx hb dX9_key_63 (by decide) (fun c_63 => ?_) (fun c_63 => ?_)
              · have hJ61 := itT hJ61 c_63
                refine lv_iconst (v := 0) hx hb dX9_key_70 (by decide) ?_
                subst hJ61
                exact k61
              · have hJ61 := itF hJ61 c_63
                refine lv_iload_n hx hb dX9_key_66 rfl (lv_at hl 3 rfl) ?_
                refine lv_goto (tgt := 71) hx hb dX9_key_67 (by decide) ?_
                subst hJ61
                exact k61
            refine j61 ?_
            refine va_iast hx hb hK hP hD hS 1 0 rfl rfl vp3_1 dX9_key_71 (fun H locs hP hD hS => ?_)
            have hP : va_P D vwCl (mW cI cZ o aS aH aG aR aV aA aB aO aP aF aC p0 (upd (upd fs (ix 0) p1) (ix 1) (x_X9_key_k1 p0 p2)) fh sg fg rq fq cl nr fV fA fB fO fP fF cn fC mx) H := hP
            have hD : va_D A (mW cI cZ o aS aH aG aR aV aA aB aO aP aF aC p0 (upd (upd fs (ix 0) p1) (ix 1) (x_X9_key_k1 p0 p2)) fh sg fg rq fq cl nr fV fA fB fO fP fF cn fC mx) := hD
            refine lv_aload_n hx hb dX9_key_72 rfl (lv_at hl 0 rfl) ?_
            refine va_get (D := D) (ci := 7) (v := .ref aS) (C := RX9) (T := TX9) (N := 18) hx hb hts in_X9_key_X9 hown hK hP 0 rfl rfl 1 (by decide) (hts (.fieldLink RX9 13 "WallCountModel" "secret" "[I") (List.mem_of_getElem? (i := 3) rfl)) (fun _ h9 => h9) rfl dX9_key_73 ?_
            refine lv_iconst (v := 2) hx hb dX9_key_76 (by decide) ?_
            have j77 : W p l e (headSpec wsX9_key rm_X9_key).room s m ([.ref o, .int p0, .int p1, .int p2, .int p3] : List Value).toArray below meth c H locs 0 0 (MQ below (pq_X9_key D cI cZ cR A o aS aH aG aR aV aA aB aO aP aF aC nd fs fh sg fg rq fq cl nr fV fA fB fO fP fF cn fC mx Rv) ([.ref o, .int p0, .int p1, .int p2, .int p3] : List Value).toArray s 0 0 A) (F0 m 88 ls [.int (x_X9_key_k2 p0 p3), .int 2, .ref aS]) → W p l e (headSpec wsX9_key rm_X9_key).room s m ([.ref o, .int p0, .int p1, .int p2, .int p3] : List Value).toArray below meth c H locs 0 0 (MQ below (pq_X9_key D cI cZ cR A o aS aH aG aR aV aA aB aO aP aF aC nd fs fh sg fg rq fq cl nr fV fA fB fO fP fF cn fC mx Rv) ([.ref o, .int p0, .int p1, .int p2, .int p3] : List Value).toArray s 0 0 A) (F0 m 77 ls [.int 2, .ref aS]) := by
              intro k77
              generalize hJ77 : (x_X9_key_k2 p0 p3) = v77 at k77
              rw [x_X9_key_k2] at hJ77
              refine lv_iload_n hx hb dX9_key_77 rfl (lv_at hl 1 rfl) ?_
              refine lv_iconst (v := 2) hx hb dX9_key_78 (by decide) ?_
              refine lv_icmp_le (tgt := 87) hx hb dX9_key_79 (by decide) (fun c_79 => ?_) (fun c_79 => ?_)
              · have hJ77 := itT hJ77 c_79
                refine lv_iconst (v := 0) hx hb dX9_key_87 (by decide) ?_
                subst hJ77
                exact k77
              · have hJ77 := itF hJ77 c_79
                refine lv_iload hx hb dX9_key_82 (lv_at hl 4 rfl) ?_
                refine lv_goto (tgt := 88) hx hb dX9_key_84 (by decide) ?_
                subst hJ77
                exact k77
            refine j77 ?_
            refine va_iast hx hb hK hP hD hS 1 0 rfl rfl vp3_2 dX9_key_88 (fun H locs hP hD hS => ?_)
            have hP : va_P D vwCl (mW cI cZ o aS aH aG aR aV aA aB aO aP aF aC p0 (upd (upd (upd fs (ix 0) p1) (ix 1) (x_X9_key_k1 p0 p2)) (ix 2) (x_X9_key_k2 p0 p3)) fh sg fg rq fq cl nr fV fA fB fO fP fF cn fC mx) H := hP
            have hD : va_D A (mW cI cZ o aS aH aG aR aV aA aB aO aP aF aC p0 (upd (upd (upd fs (ix 0) p1) (ix 1) (x_X9_key_k1 p0 p2)) (ix 2) (x_X9_key_k2 p0 p3)) fh sg fg rq fq cl nr fV fA fB fO fP fF cn fC mx) := hD
            refine lv_aload_n hx hb dX9_key_89 rfl (lv_at hl 0 rfl) ?_
            refine ro_call (va_runV (As := []) (rest := []) ⟨hx, hb, hml, hown, hts⟩ (c_X9_h l D cI cZ cR _ o aS aH aG aR aV aA aB aO aP aF aC p0 (upd (upd (upd fs (ix 0) p1) (ix 1) (x_X9_key_k1 p0 p2)) (ix 2) (x_X9_key_k2 p0 p3)) fh sg fg rq fq cl nr fV fA fB fO fP fF cn fC mx) (cwV 0 hts gX9_key_X9_h rfl rfl rfl ⟨rfl, hd_X9_h⟩ ⟨(Nat.le_of_ble_eq_true rfl), (Nat.le_of_ble_eq_true rfl)⟩) (po_preV hAM (hP.sub [0, 1, 2, 3, 4, 5, 6, 7, 8, 9, 10, 11] rfl) (va_recv hK hP (ci := 7) (q0 := 0) rfl rfl)) rfl rfl hl.1 rfl (lv_room (Nat.le_of_ble_eq_true rfl)) dX9_key_90 ⟨(Nat.le_of_ble_eq_true rfl), (Nat.le_of_ble_eq_true rfl)⟩) ?_
            subst hE
            exact wr_iret (p0, (upd (upd (upd fs (ix 0) p1) (ix 1) (x_X9_key_k1 p0 p2)) (ix 2) (x_X9_key_k2 p0 p3))) hx hb hr hlocks ⟨rfl, rfl, rfl⟩ hP hD hS dX9_key_93
          · have hE := itF hE c_38
            refine lv_bipush (v := (-3)) hx hb dX9_key_41 (by decide +kernel) ?_
            subst hE
            exact wr_iret (nd, fs) hx hb hr hlocks ⟨rfl, rfl, rfl⟩ hP hD hS dX9_key_43
        · have hE := itF hE c_28
          refine lv_bipush (v := (-2)) hx hb dX9_key_31 (by decide +kernel) ?_
          subst hE
          exact wr_iret (nd, fs) hx hb hr hlocks ⟨rfl, rfl, rfl⟩ hP hD hS dX9_key_33

theorem hd_X9_voter : yX9_voter.cls ≠ "java/lang/invoke/MethodHandle" ∧ yX9_voter.cls ≠ "java/lang/invoke/VarHandle" ∧ (parseMethodDescriptor yX9_voter.desc).map (fun d => d.parameters.length) = some 3 := by decide +kernel
def x_X9_voter_lim (p1 : Int32) : Int32 := (if p1 = 2 then 1 else 120)
def x_X9_voter (fh : Nat → Int32) (p0 : Int32) (p1 : Int32) (p2 : Int32) : Int32 × (Nat → Int32) := (if (x_X9_isVoter p0) = true then (if (x_X9_in p1 0 2) = true then (if (x_X9_in p2 0 (x_X9_voter_lim p1)) = true then ((fh (ix ((3 * p0) + p1))), (upd fh (ix ((3 * p0) + p1)) p2)) else ((-2), fh)) else ((-2), fh)) else ((-1), fh))
def rm_X9_voter : Room := { frames := 2, cells := 0, slots := 0, locals := 42 }
abbrev pq_X9_voter (D : va_G) (cI cZ cR : ClassId) (A : Nat → Prop) (o aS aH aG aR aV aA aB aO aP aF aC : Nat) (nd : Int32) (fs : Nat → Int32) (fh : Nat → Int32) (sg : Nat) (fg : Nat → Int32) (rq : Nat) (fq : Nat → Int32) (cl : Int32) (nr : Nat) (fV : Nat → Int32) (fA : Nat → Int32) (fB : Nat → Int32) (fO : Nat → Int32) (fP : Nat → Int32) (fF : Nat → Int32) (cn : Nat) (fC : Nat → Int32) (mx : Int32) (Rv : Int32 × (Nat → Int32)) : Array Value → State → Outcome → State → Prop := wr_Q D (fun (v : Option Value) (u : (Nat → Int32)) => v = some (.int Rv.1) ∧ u = Rv.2) (fun u => mW cI cZ o aS aH aG aR aV aA aB aO aP aF aC nd fs u sg fg rq fq cl nr fV fA fB fO fP fF cn fC mx) A
theorem in_X9_voter_X9 : ∀ w ∈ wsX90, w ∈ wsX9_voter := fun _ h => List.mem_cons_of_mem _ (List.mem_append_right _ h)
set_option maxHeartbeats 4000000 in
set_option maxRecDepth 100000 in
theorem c_X9_voter (l : Launch) (D : va_G) (cI cZ cR : ClassId) (A : Nat → Prop) (H0 : Heap) (o aS aH aG aR aV aA aB aO aP aF aC : Nat) (nd : Int32) (fs : Nat → Int32) (fh : Nat → Int32) (sg : Nat) (fg : Nat → Int32) (rq : Nat) (fq : Nat → Int32) (cl : Int32) (nr : Nat) (fV : Nat → Int32) (fA : Nat → Int32) (fB : Nat → Int32) (fO : Nat → Int32) (fP : Nat → Int32) (fF : Nat → Int32) (cn : Nat) (fC : Nat → Int32) (mx : Int32) (p0 : Int32) (p1 : Int32) (p2 : Int32) : Met l yX9_voter wsX9_voter rm_X9_voter (wr_P D cI cZ cR [.ref o, .int p0, .int p1, .int p2] (mW cI cZ o aS aH aG aR aV aA aB aO aP aF aC nd fs fh sg fg rq fq cl nr fV fA fB fO fP fF cn fC mx) A H0) (pq_X9_voter D cI cZ cR A o aS aH aG aR aV aA aB aO aP aF aC nd fs fh sg fg rq fq cl nr fV fA fB fO fP fF cn fC mx (x_X9_voter fh p0 p1 p2)) 0 0 A := by
  refine Met.ofW (cc := cX9_voter) (maxL := 5) (ret := (some .int)) (by decide +kernel) rfl ?_
  intro p e s m args below meth c s₁ B hml hv
  obtain ⟨rfl, rfl, hAM, hP, hD⟩ := hv
  have hx := B.exec
  have hb := B.bytes
  have hr := B.returns
  have hts := atoms_spec (ws := wsX9_voter) B.pre
  have hown : s.vm.findClass RX9 = some m.cls := findClass_of_methodNamed B.named
  have hlocks := B.notSynchronized
  have hK := hAM.1
  have hS : va_S A s.heap s.heap [] := va_S.rf
  generalize hE : (x_X9_voter fh p0 p1 p2) = Rv
  rw [x_X9_voter] at hE
  have hl := lv_entry ([.ref o, .int p0, .int p1, .int p2]) (n := 5) (Nat.le_of_ble_eq_true rfl)
  rw [lg_entry_eq]
  generalize (lg_sl ([.ref o, .int p0, .int p1, .int p2]) ++ List.replicate (5 - (lg_sl ([.ref o, .int p0, .int p1, .int p2])).length) Slot.unset).toArray = ls at hl ⊢
  have hl : lv_has ls 5 [(0, .ref o), (1, .int p0), (2, .int p1), (3, .int p2)] := hl
  refine lv_iload_n hx hb dX9_voter_0 rfl (lv_at hl 1 rfl) ?_
  refine ro_call (va_runS (As := [.int p0]) (rest := []) ⟨hx, hb, hml, hown, hts⟩ (c_X9_isVoter l D cI cZ cR _ p0) (va_cwS 1 hts gX9_voter_X9_isVoter rfl rfl rfl hd_X9_isVoter ⟨(Nat.le_of_ble_eq_true rfl), (Nat.le_of_ble_eq_true rfl)⟩) (po_pre hAM va_P.nil) rfl rfl hl.1 rfl (lv_room (Nat.le_of_ble_eq_true rfl)) dX9_voter_1 ⟨(Nat.le_of_ble_eq_true rfl), (Nat.le_of_ble_eq_true rfl)⟩) ?_
  refine w_if_neb (tgt := 9) hx hb dX9_voter_4 (by decide) (fun c_4 => ?_) (fun c_4 => ?_)
  · have hE := itT hE c_4
    refine lv_iload_n hx hb dX9_voter_9 rfl (lv_at hl 2 rfl) ?_
    refine lv_iconst (v := 0) hx hb dX9_voter_10 (by decide) ?_
    refine lv_iconst (v := 2) hx hb dX9_voter_11 (by decide) ?_
    refine ro_call (va_runS (As := [.int p1, .int 0, .int 2]) (rest := []) ⟨hx, hb, hml, hown, hts⟩ (c_X9_in l D cI cZ cR _ p1 0 2) (va_cwS 3 hts gX9_voter_X9_in rfl rfl rfl hd_X9_in ⟨(Nat.le_of_ble_eq_true rfl), (Nat.le_of_ble_eq_true rfl)⟩) (po_pre hAM va_P.nil) rfl rfl hl.1 rfl (lv_room (Nat.le_of_ble_eq_true rfl)) dX9_voter_12 ⟨(Nat.le_of_ble_eq_true rfl), (Nat.le_of_ble_eq_true rfl)⟩) ?_
    refine w_if_eqb (tgt := 37) hx hb dX9_voter_15 (by decide) (fun c_15 => ?_) (fun c_15 => ?_)
    · have hE := itF hE c_15
      refine lv_bipush (v := (-2)) hx hb dX9_voter_37 (by decide +kernel) ?_
      subst hE
      exact wr_iret (fh) hx hb hr hlocks ⟨rfl, rfl⟩ hP hD hS dX9_voter_39
    · have hE := itT hE c_15
      refine lv_iload_n hx hb dX9_voter_18 rfl (lv_at hl 3 rfl) ?_
      refine lv_iconst (v := 0) hx hb dX9_voter_19 (by decide) ?_
      have j20 : W p l e (headSpec wsX9_voter rm_X9_voter).room s m ([.ref o, .int p0, .int p1, .int p2] : List Value).toArray below meth c s.heap [] 0 0 (MQ below (pq_X9_voter D cI cZ cR A o aS aH aG aR aV aA aB aO aP aF aC nd fs fh sg fg rq fq cl nr fV fA fB fO fP fF cn fC mx Rv) ([.ref o, .int p0, .int p1, .int p2] : List Value).toArray s 0 0 A) (F0 m 31 ls [.int (x_X9_voter_lim p1), .int 0, .int p2]) → W p l e (headSpec wsX9_voter rm_X9_voter).room s m ([.ref o, .int p0, .int p1, .int p2] : List Value).toArray below meth c s.heap [] 0 0 (MQ below (pq_X9_voter D cI cZ cR A o aS aH aG aR aV aA aB aO aP aF aC nd fs fh sg fg rq fq cl nr fV fA fB fO fP fF cn fC mx Rv) ([.ref o, .int p0, .int p1, .int p2] : List Value).toArray s 0 0 A) (F0 m 20 ls [.int 0, .int p2]) := by
        intro k20
        generalize hJ20 : (x_X9_voter_lim p1) = v20 at k20
        rw [x_X9_voter_lim] at hJ20
        refine lv_iload_n hx hb dX9_voter_20 rfl (lv_at hl 2 rfl) ?_
        refine lv_iconst (v := 2) hx hb dX9_voter_21 (by decide) ?_
        refine lv_icmp_ne (tgt := 29) hx hb dX9_voter_22 (by decide) (fun c_22 => ?_) (fun c_22 => ?_)
        · have hJ20 := itF hJ20 c_22
          refine lv_bipush (v := 120) hx hb dX9_voter_29 (by decide +kernel) ?_
          subst hJ20
          exact k20
        · have hJ20 := itT hJ20 c_22
          refine lv_iconst (v := 1) hx hb dX9_voter_25 (by decide) ?_
          refine lv_goto (tgt := 31) hx hb dX9_voter_26 (by decide) ?_
          subst hJ20
          exact k20
      refine j20 ?_
      refine ro_call (va_runS (As := [.int p2, .int 0, .int (x_X9_voter_lim p1)]) (rest := []) ⟨hx, hb, hml, hown, hts⟩ (c_X9_in l D cI cZ cR _ p2 0 (x_X9_voter_lim p1)) (va_cwS 3 hts gX9_voter_X9_in rfl rfl rfl hd_X9_in ⟨(Nat.le_of_ble_eq_true rfl), (Nat.le_of_ble_eq_true rfl)⟩) (po_pre hAM va_P.nil) rfl rfl hl.1 rfl (lv_room (Nat.le_of_ble_eq_true rfl)) dX9_voter_31 ⟨(Nat.le_of_ble_eq_true rfl), (Nat.le_of_ble_eq_true rfl)⟩) ?_
      refine w_if_neb (tgt := 40) hx hb dX9_voter_34 (by decide) (fun c_34 => ?_) (fun c_34 => ?_)
      · have hE := itT hE c_34
        refine lv_aload_n hx hb dX9_voter_40 rfl (lv_at hl 0 rfl) ?_
        refine va_get (D := D) (ci := 7) (v := .ref aH) (C := RX9) (T := TX9) (N := 18) hx hb hts in_X9_voter_X9 hown hK hP 0 rfl rfl 2 (by decide) (hts (.fieldLink RX9 17 "WallCountModel" "has" "[I") (List.mem_of_getElem? (i := 1) rfl)) (fun _ h9 => h9) rfl dX9_voter_41 ?_
        refine lv_iconst (v := 3) hx hb dX9_voter_44 (by decide) ?_
        refine lv_iload_n hx hb dX9_voter_45 rfl (lv_at hl 1 rfl) ?_
        refine lv_imul hx hb dX9_voter_46 ?_
        refine lv_iload_n hx hb dX9_voter_47 rfl (lv_at hl 2 rfl) ?_
        refine lv_iadd hx hb dX9_voter_48 ?_
        refine va_iald hx hb hK hP 2 0 rfl rfl (has_in2 c_4 c_15) dX9_voter_49 ?_
        refine lv_istore (lv' := [(4, .int (fh (ix ((3 * p0) + p1)))), (0, .ref o), (1, .int p0), (2, .int p1), (3, .int p2)]) hx hb dX9_voter_50 hl (by decide) rfl (fun ls hl => ?_)
        refine lv_aload_n hx hb dX9_voter_52 rfl (lv_at hl 1 rfl) ?_
        refine va_get (D := D) (ci := 7) (v := .ref aH) (C := RX9) (T := TX9) (N := 18) hx hb hts in_X9_voter_X9 hown hK hP 0 rfl rfl 2 (by decide) (hts (.fieldLink RX9 17 "WallCountModel" "has" "[I") (List.mem_of_getElem? (i := 1) rfl)) (fun _ h9 => h9) rfl dX9_voter_53 ?_
        refine lv_iconst (v := 3) hx hb dX9_voter_56 (by decide) ?_
        refine lv_iload_n hx hb dX9_voter_57 rfl (lv_at hl 2 rfl) ?_
        refine lv_imul hx hb dX9_voter_58 ?_
        refine lv_iload_n hx hb dX9_voter_59 rfl (lv_at hl 3 rfl) ?_
        refine lv_iadd hx hb dX9_voter_60 ?_
        refine lv_iload_n hx hb dX9_voter_61 rfl (lv_at hl 4 rfl) ?_
        refine va_iast hx hb hK hP hD hS 2 0 rfl rfl (has_in2 c_4 c_15) dX9_voter_62 (fun H locs hP hD hS => ?_)
        have hP : va_P D vwCl (mW cI cZ o aS aH aG aR aV aA aB aO aP aF aC nd fs (upd fh (ix ((3 * p0) + p1)) p2) sg fg rq fq cl nr fV fA fB fO fP fF cn fC mx) H := hP
        have hD : va_D A (mW cI cZ o aS aH aG aR aV aA aB aO aP aF aC nd fs (upd fh (ix ((3 * p0) + p1)) p2) sg fg rq fq cl nr fV fA fB fO fP fF cn fC mx) := hD
        refine lv_iload hx hb dX9_voter_63 (lv_at hl 0 rfl) ?_
        subst hE
        exact wr_iret ((upd fh (ix ((3 * p0) + p1)) p2)) hx hb hr hlocks ⟨rfl, rfl⟩ hP hD hS dX9_voter_65
      · have hE := itF hE c_34
        refine lv_bipush (v := (-2)) hx hb dX9_voter_37 (by decide +kernel) ?_
        subst hE
        exact wr_iret (fh) hx hb hr hlocks ⟨rfl, rfl⟩ hP hD hS dX9_voter_39
  · have hE := itF hE c_4
    refine lv_iconst (v := (-1)) hx hb dX9_voter_7 (by decide) ?_
    subst hE
    exact wr_iret (fh) hx hb hr hlocks ⟨rfl, rfl⟩ hP hD hS dX9_voter_8

theorem hd_X9_say : yX9_say.cls ≠ "java/lang/invoke/MethodHandle" ∧ yX9_say.cls ≠ "java/lang/invoke/VarHandle" ∧ (parseMethodDescriptor yX9_say.desc).map (fun d => d.parameters.length) = some 1 := by decide +kernel
def x_X9_say (sg : Nat) (fg : Nat → Int32) (p0 : Int32) : Int32 × Nat × (Nat → Int32) := (if (x_X9_in p0 33 126) = true then (if (nI sg) = 40 then ((-4), sg, fg) else ((nI (sg + 1)), (sg + 1), (upd fg (ix (nI sg)) p0))) else ((-2), sg, fg))
def rm_X9_say : Room := { frames := 1, cells := 0, slots := 0, locals := 22 }
abbrev pq_X9_say (D : va_G) (cI cZ cR : ClassId) (A : Nat → Prop) (o aS aH aG aR aV aA aB aO aP aF aC : Nat) (nd : Int32) (fs : Nat → Int32) (fh : Nat → Int32) (sg : Nat) (fg : Nat → Int32) (rq : Nat) (fq : Nat → Int32) (cl : Int32) (nr : Nat) (fV : Nat → Int32) (fA : Nat → Int32) (fB : Nat → Int32) (fO : Nat → Int32) (fP : Nat → Int32) (fF : Nat → Int32) (cn : Nat) (fC : Nat → Int32) (mx : Int32) (Rv : Int32 × Nat × (Nat → Int32)) : Array Value → State → Outcome → State → Prop := wr_Q D (fun (v : Option Value) (u : Nat × (Nat → Int32)) => v = some (.int Rv.1) ∧ u.1 = Rv.2.1 ∧ u.2 = Rv.2.2) (fun u => mW cI cZ o aS aH aG aR aV aA aB aO aP aF aC nd fs fh u.1 u.2 rq fq cl nr fV fA fB fO fP fF cn fC mx) A
theorem in_X9_say_X9 : ∀ w ∈ wsX90, w ∈ wsX9_say := fun _ h => List.mem_cons_of_mem _ (List.mem_append_right _ h)
set_option maxHeartbeats 4000000 in
set_option maxRecDepth 100000 in
theorem c_X9_say (l : Launch) (D : va_G) (cI cZ cR : ClassId) (A : Nat → Prop) (H0 : Heap) (o aS aH aG aR aV aA aB aO aP aF aC : Nat) (nd : Int32) (fs : Nat → Int32) (fh : Nat → Int32) (sg : Nat) (fg : Nat → Int32) (rq : Nat) (fq : Nat → Int32) (cl : Int32) (nr : Nat) (fV : Nat → Int32) (fA : Nat → Int32) (fB : Nat → Int32) (fO : Nat → Int32) (fP : Nat → Int32) (fF : Nat → Int32) (cn : Nat) (fC : Nat → Int32) (mx : Int32) (p0 : Int32) (hsg : sg ≤ 40) : Met l yX9_say wsX9_say rm_X9_say (wr_P D cI cZ cR [.ref o, .int p0] (mW cI cZ o aS aH aG aR aV aA aB aO aP aF aC nd fs fh sg fg rq fq cl nr fV fA fB fO fP fF cn fC mx) A H0) (pq_X9_say D cI cZ cR A o aS aH aG aR aV aA aB aO aP aF aC nd fs fh sg fg rq fq cl nr fV fA fB fO fP fF cn fC mx (x_X9_say sg fg p0)) 0 0 A := by
  refine Met.ofW (cc := cX9_say) (maxL := 2) (ret := (some .int)) (by decide +kernel) rfl ?_
  intro p e s m args below meth c s₁ B hml hv
  obtain ⟨rfl, rfl, hAM, hP, hD⟩ := hv
  have hx := B.exec
  have hb := B.bytes
  have hr := B.returns
  have hts := atoms_spec (ws := wsX9_say) B.pre
  have hown : s.vm.findClass RX9 = some m.cls := findClass_of_methodNamed B.named
  have hlocks := B.notSynchronized
  have hK := hAM.1
  have hS : va_S A s.heap s.heap [] := va_S.rf
  generalize hE : (x_X9_say sg fg p0) = Rv
  rw [x_X9_say] at hE
  have hl := lv_entry ([.ref o, .int p0]) (n := 2) (Nat.le_of_ble_eq_true rfl)
  rw [lg_entry_eq]
  generalize (lg_sl ([.ref o, .int p0]) ++ List.replicate (2 - (lg_sl ([.ref o, .int p0])).length) Slot.unset).toArray = ls at hl ⊢
  have hl : lv_has ls 2 [(0, .ref o), (1, .int p0)] := hl
  refine lv_iload_n hx hb dX9_say_0 rfl (lv_at hl 1 rfl) ?_
  refine lv_bipush (v := 33) hx hb dX9_say_1 (by decide +kernel) ?_
  refine lv_bipush (v := 126) hx hb dX9_say_3 (by decide +kernel) ?_
  refine ro_call (va_runS (As := [.int p0, .int 33, .int 126]) (rest := []) ⟨hx, hb, hml, hown, hts⟩ (c_X9_in l D cI cZ cR _ p0 33 126) (va_cwS 3 hts gX9_say_X9_in rfl rfl rfl hd_X9_in ⟨(Nat.le_of_ble_eq_true rfl), (Nat.le_of_ble_eq_true rfl)⟩) (po_pre hAM va_P.nil) rfl rfl hl.1 rfl (lv_room (Nat.le_of_ble_eq_true rfl)) dX9_say_5 ⟨(Nat.le_of_ble_eq_true rfl), (Nat.le_of_ble_eq_true rfl)⟩) ?_
  refine w_if_neb (tgt := 14) hx hb dX9_say_8 (by decide) (fun c_8 => ?_) (fun c_8 => ?_)
  · have hE := itT hE c_8
    refine lv_aload_n hx hb dX9_say_14 rfl (lv_at hl 0 rfl) ?_
    refine va_get (D := D) (ci := 7) (v := .int (nI sg)) (C := RX9) (T := TX9) (N := 18) hx hb hts in_X9_say_X9 hown hK hP 0 rfl rfl 3 (by decide) (hts (.fieldLink RX9 135 "WallCountModel" "signs" "I") (List.mem_of_getElem? (i := 1) rfl)) (fun _ h9 => h9) rfl dX9_say_15 ?_
    refine lv_bipush (v := 40) hx hb dX9_say_18 (by decide +kernel) ?_
    refine lv_icmp_ne (tgt := 26) hx hb dX9_say_20 (by decide) (fun c_20 => ?_) (fun c_20 => ?_)
    · have hE := itF hE c_20
      refine lv_aload_n hx hb dX9_say_26 rfl (lv_at hl 0 rfl) ?_
      refine va_get (D := D) (ci := 7) (v := .ref aG) (C := RX9) (T := TX9) (N := 18) hx hb hts in_X9_say_X9 hown hK hP 0 rfl rfl 4 (by decide) (hts (.fieldLink RX9 20 "WallCountModel" "sign" "[I") (List.mem_of_getElem? (i := 2) rfl)) (fun _ h9 => h9) rfl dX9_say_27 ?_
      refine lv_aload_n hx hb dX9_say_30 rfl (lv_at hl 0 rfl) ?_
      refine va_get (D := D) (ci := 7) (v := .int (nI sg)) (C := RX9) (T := TX9) (N := 18) hx hb hts in_X9_say_X9 hown hK hP 0 rfl rfl 3 (by decide) (hts (.fieldLink RX9 135 "WallCountModel" "signs" "I") (List.mem_of_getElem? (i := 1) rfl)) (fun _ h9 => h9) rfl dX9_say_31 ?_
      refine lv_iload_n hx hb dX9_say_34 rfl (lv_at hl 1 rfl) ?_
      refine va_iast hx hb hK hP hD hS 3 0 rfl rfl (free_in hsg (by decide) rfl c_20) dX9_say_35 (fun H locs hP hD hS => ?_)
      have hP : va_P D vwCl (mW cI cZ o aS aH aG aR aV aA aB aO aP aF aC nd fs fh sg (upd fg (ix (nI sg)) p0) rq fq cl nr fV fA fB fO fP fF cn fC mx) H := hP
      have hD : va_D A (mW cI cZ o aS aH aG aR aV aA aB aO aP aF aC nd fs fh sg (upd fg (ix (nI sg)) p0) rq fq cl nr fV fA fB fO fP fF cn fC mx) := hD
      refine lv_aload_n hx hb dX9_say_36 rfl (lv_at hl 0 rfl) ?_
      refine lv_dup hx hb dX9_say_37 rfl ?_
      refine va_get (D := D) (ci := 7) (v := .int (nI sg)) (C := RX9) (T := TX9) (N := 18) hx hb hts in_X9_say_X9 hown hK hP 0 rfl rfl 3 (by decide) (hts (.fieldLink RX9 135 "WallCountModel" "signs" "I") (List.mem_of_getElem? (i := 1) rfl)) (fun _ h9 => h9) rfl dX9_say_38 ?_
      refine lv_iconst (v := 1) hx hb dX9_say_41 (by decide) ?_
      refine lv_iadd hx hb dX9_say_42 ?_
      rw [nI_1 sg]
      refine va_put (D := D) (ci := 7) (v := .int (nI (sg + 1))) (ty := .int) (C := RX9) (T := TX9) (N := 18) hx hb hts in_X9_say_X9 tyX9 tyX9_ok nmX9 hown hK hP hD hS 0 rfl rfl 3 (by decide) (hts (.fieldLink RX9 135 "WallCountModel" "signs" "I") (List.mem_of_getElem? (i := 1) rfl)) (fun _ h9 => h9) rfl (by decide +kernel) rfl rfl (Nat.le_of_ble_eq_true rfl) dX9_say_43 (fun H locs hP hD hS => ?_)
      have hP : va_P D vwCl (mW cI cZ o aS aH aG aR aV aA aB aO aP aF aC nd fs fh (sg + 1) (upd fg (ix (nI sg)) p0) rq fq cl nr fV fA fB fO fP fF cn fC mx) H := hP
      have hD : va_D A (mW cI cZ o aS aH aG aR aV aA aB aO aP aF aC nd fs fh (sg + 1) (upd fg (ix (nI sg)) p0) rq fq cl nr fV fA fB fO fP fF cn fC mx) := hD
      refine lv_aload_n hx hb dX9_say_46 rfl (lv_at hl 0 rfl) ?_
      refine va_get (D := D) (ci := 7) (v := .int (nI (sg + 1))) (C := RX9) (T := TX9) (N := 18) hx hb hts in_X9_say_X9 hown hK hP 0 rfl rfl 3 (by decide) (hts (.fieldLink RX9 135 "WallCountModel" "signs" "I") (List.mem_of_getElem? (i := 1) rfl)) (fun _ h9 => h9) rfl dX9_say_47 ?_
      subst hE
      exact wr_iret ((sg + 1), (upd fg (ix (nI sg)) p0)) hx hb hr hlocks ⟨rfl, rfl, rfl⟩ hP hD hS dX9_say_50
    · have hE := itT hE c_20
      refine lv_bipush (v := (-4)) hx hb dX9_say_23 (by decide +kernel) ?_
      subst hE
      exact wr_iret (sg, fg) hx hb hr hlocks ⟨rfl, rfl, rfl⟩ hP hD hS dX9_say_25
  · have hE := itF hE c_8
    refine lv_bipush (v := (-2)) hx hb dX9_say_11 (by decide +kernel) ?_
    subst hE
    exact wr_iret (sg, fg) hx hb hr hlocks ⟨rfl, rfl, rfl⟩ hP hD hS dX9_say_13

theorem hd_X9_wipe : yX9_wipe.cls ≠ "java/lang/invoke/MethodHandle" ∧ yX9_wipe.cls ≠ "java/lang/invoke/VarHandle" ∧ (parseMethodDescriptor yX9_wipe.desc).map (fun d => d.parameters.length) = some 0 := by decide +kernel
def x_X9_wipe (sg : Nat) : Int32 × Nat := ((nI sg), 0)
def rm_X9_wipe : Room := { frames := 0, cells := 0, slots := 0, locals := 0 }
abbrev pq_X9_wipe (D : va_G) (cI cZ cR : ClassId) (A : Nat → Prop) (o aS aH aG aR aV aA aB aO aP aF aC : Nat) (nd : Int32) (fs : Nat → Int32) (fh : Nat → Int32) (sg : Nat) (fg : Nat → Int32) (rq : Nat) (fq : Nat → Int32) (cl : Int32) (nr : Nat) (fV : Nat → Int32) (fA : Nat → Int32) (fB : Nat → Int32) (fO : Nat → Int32) (fP : Nat → Int32) (fF : Nat → Int32) (cn : Nat) (fC : Nat → Int32) (mx : Int32) (Rv : Int32 × Nat) : Array Value → State → Outcome → State → Prop := wr_Q D (fun (v : Option Value) (u : Nat) => v = some (.int Rv.1) ∧ u = Rv.2) (fun u => mW cI cZ o aS aH aG aR aV aA aB aO aP aF aC nd fs fh u fg rq fq cl nr fV fA fB fO fP fF cn fC mx) A
theorem in_X9_wipe_X9 : ∀ w ∈ wsX90, w ∈ wsX9_wipe := fun _ h => List.mem_cons_of_mem _ (List.mem_append_right _ h)
set_option maxHeartbeats 4000000 in
set_option maxRecDepth 100000 in
theorem c_X9_wipe (l : Launch) (D : va_G) (cI cZ cR : ClassId) (A : Nat → Prop) (H0 : Heap) (o aS aH aG aR aV aA aB aO aP aF aC : Nat) (nd : Int32) (fs : Nat → Int32) (fh : Nat → Int32) (sg : Nat) (fg : Nat → Int32) (rq : Nat) (fq : Nat → Int32) (cl : Int32) (nr : Nat) (fV : Nat → Int32) (fA : Nat → Int32) (fB : Nat → Int32) (fO : Nat → Int32) (fP : Nat → Int32) (fF : Nat → Int32) (cn : Nat) (fC : Nat → Int32) (mx : Int32) : Met l yX9_wipe wsX9_wipe rm_X9_wipe (wr_P D cI cZ cR [.ref o] (mW cI cZ o aS aH aG aR aV aA aB aO aP aF aC nd fs fh sg fg rq fq cl nr fV fA fB fO fP fF cn fC mx) A H0) (pq_X9_wipe D cI cZ cR A o aS aH aG aR aV aA aB aO aP aF aC nd fs fh sg fg rq fq cl nr fV fA fB fO fP fF cn fC mx (x_X9_wipe sg)) 0 0 A := by
  refine Met.ofW (cc := cX9_wipe) (maxL := 2) (ret := (some .int)) (by decide +kernel) rfl ?_
  intro p e s m args below meth c s₁ B hml hv
  obtain ⟨rfl, rfl, hAM, hP, hD⟩ := hv
  have hx := B.exec
  have hb := B.bytes
  have hr := B.returns
  have hts := atoms_spec (ws := wsX9_wipe) B.pre
  have hown : s.vm.findClass RX9 = some m.cls := findClass_of_methodNamed B.named
  have hlocks := B.notSynchronized
  have hK := hAM.1
  have hS : va_S A s.heap s.heap [] := va_S.rf
  generalize hE : (x_X9_wipe sg) = Rv
  rw [x_X9_wipe] at hE
  have hl := lv_entry ([.ref o]) (n := 2) (Nat.le_of_ble_eq_true rfl)
  rw [lg_entry_eq]
  generalize (lg_sl ([.ref o]) ++ List.replicate (2 - (lg_sl ([.ref o])).length) Slot.unset).toArray = ls at hl ⊢
  have hl : lv_has ls 2 [(0, .ref o)] := hl
  refine lv_aload_n hx hb dX9_wipe_0 rfl (lv_at hl 0 rfl) ?_
  refine va_get (D := D) (ci := 7) (v := .int (nI sg)) (C := RX9) (T := TX9) (N := 18) hx hb hts in_X9_wipe_X9 hown hK hP 0 rfl rfl 3 (by decide) (hts (.fieldLink RX9 135 "WallCountModel" "signs" "I") (List.mem_of_getElem? (i := 1) rfl)) (fun _ h9 => h9) rfl dX9_wipe_1 ?_
  refine lv_istore_n (lv' := [(1, .int (nI sg)), (0, .ref o)]) hx hb dX9_wipe_4 rfl hl (by decide) rfl (fun ls hl => ?_)
  refine lv_aload_n hx hb dX9_wipe_5 rfl (lv_at hl 1 rfl) ?_
  refine lv_iconst (v := 0) hx hb dX9_wipe_6 (by decide) ?_
  refine va_put (D := D) (ci := 7) (v := .int 0) (ty := .int) (C := RX9) (T := TX9) (N := 18) hx hb hts in_X9_wipe_X9 tyX9 tyX9_ok nmX9 hown hK hP hD hS 0 rfl rfl 3 (by decide) (hts (.fieldLink RX9 135 "WallCountModel" "signs" "I") (List.mem_of_getElem? (i := 1) rfl)) (fun _ h9 => h9) rfl (by decide +kernel) rfl rfl (Nat.le_of_ble_eq_true rfl) dX9_wipe_7 (fun H locs hP hD hS => ?_)
  have hP : va_P D vwCl (mW cI cZ o aS aH aG aR aV aA aB aO aP aF aC nd fs fh 0 fg rq fq cl nr fV fA fB fO fP fF cn fC mx) H := hP
  have hD : va_D A (mW cI cZ o aS aH aG aR aV aA aB aO aP aF aC nd fs fh 0 fg rq fq cl nr fV fA fB fO fP fF cn fC mx) := hD
  refine lv_iload_n hx hb dX9_wipe_10 rfl (lv_at hl 0 rfl) ?_
  subst hE
  exact wr_iret (0) hx hb hr hlocks ⟨rfl, rfl⟩ hP hD hS dX9_wipe_11

theorem hd_X9_rule : yX9_rule.cls ≠ "java/lang/invoke/MethodHandle" ∧ yX9_rule.cls ≠ "java/lang/invoke/VarHandle" ∧ (parseMethodDescriptor yX9_rule.desc).map (fun d => d.parameters.length) = some 0 := by decide +kernel
def x_X9_rule_L20 (sg : Nat) (fg : Nat → Int32) (rq : Nat) : Nat → Int32 → (Nat → Int32) → Int32 × Nat × (Nat → Int32) × Nat
  | 0, v1, fq => (0, rq, fq, sg)
  | n + 1, v1, fq => (if (nI sg) ≤ v1 then (1, sg, fq, 0) else (x_X9_rule_L20 sg fg rq n (v1 + 1) (upd fq (ix v1) (fg (ix v1)))))
def x_X9_rule (sg : Nat) (fg : Nat → Int32) (rq : Nat) (fq : Nat → Int32) : Int32 × Nat × (Nat → Int32) × Nat := (if (x_X9_faultOf sg fg) < 0 then (x_X9_rule_L20 sg fg rq (sg + 1) 0 fq) else ((-5), rq, fq, sg))
def rm_X9_rule : Room := { frames := 2, cells := 0, slots := 0, locals := 48 }
abbrev pq_X9_rule (D : va_G) (cI cZ cR : ClassId) (A : Nat → Prop) (o aS aH aG aR aV aA aB aO aP aF aC : Nat) (nd : Int32) (fs : Nat → Int32) (fh : Nat → Int32) (sg : Nat) (fg : Nat → Int32) (rq : Nat) (fq : Nat → Int32) (cl : Int32) (nr : Nat) (fV : Nat → Int32) (fA : Nat → Int32) (fB : Nat → Int32) (fO : Nat → Int32) (fP : Nat → Int32) (fF : Nat → Int32) (cn : Nat) (fC : Nat → Int32) (mx : Int32) (Rv : Int32 × Nat × (Nat → Int32) × Nat) : Array Value → State → Outcome → State → Prop := wr_Q D (fun (v : Option Value) (u : Nat × (Nat → Int32) × Nat) => v = some (.int Rv.1) ∧ u.1 = Rv.2.1 ∧ u.2.1 = Rv.2.2.1 ∧ u.2.2 = Rv.2.2.2) (fun u => mW cI cZ o aS aH aG aR aV aA aB aO aP aF aC nd fs fh u.2.2 fg u.1 u.2.1 cl nr fV fA fB fO fP fF cn fC mx) A
theorem in_X9_rule_X9 : ∀ w ∈ wsX90, w ∈ wsX9_rule := fun _ h => List.mem_cons_of_mem _ (List.mem_append_right _ h)
set_option maxHeartbeats 4000000 in
set_option maxRecDepth 100000 in
theorem c_X9_rule (l : Launch) (D : va_G) (cI cZ cR : ClassId) (A : Nat → Prop) (H0 : Heap) (o aS aH aG aR aV aA aB aO aP aF aC : Nat) (nd : Int32) (fs : Nat → Int32) (fh : Nat → Int32) (sg : Nat) (fg : Nat → Int32) (rq : Nat) (fq : Nat → Int32) (cl : Int32) (nr : Nat) (fV : Nat → Int32) (fA : Nat → Int32) (fB : Nat → Int32) (fO : Nat → Int32) (fP : Nat → Int32) (fF : Nat → Int32) (cn : Nat) (fC : Nat → Int32) (mx : Int32) (hsg : sg ≤ 40) : Met l yX9_rule wsX9_rule rm_X9_rule (wr_P D cI cZ cR [.ref o] (mW cI cZ o aS aH aG aR aV aA aB aO aP aF aC nd fs fh sg fg rq fq cl nr fV fA fB fO fP fF cn fC mx) A H0) (pq_X9_rule D cI cZ cR A o aS aH aG aR aV aA aB aO aP aF aC nd fs fh sg fg rq fq cl nr fV fA fB fO fP fF cn fC mx (x_X9_rule sg fg rq fq)) 0 0 A := by
  refine Met.ofW (cc := cX9_rule) (maxL := 2) (ret := (some .int)) (by decide +kernel) rfl ?_
  intro p e s m args below meth c s₁ B hml hv
  obtain ⟨rfl, rfl, hAM, hP, hD⟩ := hv
  have hx := B.exec
  have hb := B.bytes
  have hr := B.returns
  have hts := atoms_spec (ws := wsX9_rule) B.pre
  have hown : s.vm.findClass RX9 = some m.cls := findClass_of_methodNamed B.named
  have hlocks := B.notSynchronized
  have hK := hAM.1
  have hS : va_S A s.heap s.heap [] := va_S.rf
  generalize hE : (x_X9_rule sg fg rq fq) = Rv
  rw [x_X9_rule] at hE
  have hl := lv_entry ([.ref o]) (n := 2) (Nat.le_of_ble_eq_true rfl)
  rw [lg_entry_eq]
  generalize (lg_sl ([.ref o]) ++ List.replicate (2 - (lg_sl ([.ref o])).length) Slot.unset).toArray = ls at hl ⊢
  have hl : lv_has ls 2 [(0, .ref o)] := hl
  refine lv_aload_n hx hb dX9_rule_0 rfl (lv_at hl 0 rfl) ?_
  refine ro_call (va_runV (As := []) (rest := []) ⟨hx, hb, hml, hown, hts⟩ (c_X9_faultOf l D cI cZ cR _ o aS aH aG aR aV aA aB aO aP aF aC nd fs fh sg fg rq fq cl nr fV fA fB fO fP fF cn fC mx hsg) (cwV 0 hts gX9_rule_X9_faultOf rfl rfl rfl ⟨rfl, hd_X9_faultOf⟩ ⟨(Nat.le_of_ble_eq_true rfl), (Nat.le_of_ble_eq_true rfl)⟩) (po_preV hAM (hP.sub [0, 1, 2, 3, 4, 5, 6, 7, 8, 9, 10, 11] rfl) (va_recv hK hP (ci := 7) (q0 := 0) rfl rfl)) rfl rfl hl.1 rfl (lv_room (Nat.le_of_ble_eq_true rfl)) dX9_rule_1 ⟨(Nat.le_of_ble_eq_true rfl), (Nat.le_of_ble_eq_true rfl)⟩) ?_
  refine lv_if_lt (tgt := 10) hx hb dX9_rule_4 (by decide) (fun c_4 => ?_) (fun c_4 => ?_)
  · have hE := itT hE c_4
    refine lv_aload_n hx hb dX9_rule_10 rfl (lv_at hl 0 rfl) ?_
    refine lv_aload_n hx hb dX9_rule_11 rfl (lv_at hl 0 rfl) ?_
    refine va_get (D := D) (ci := 7) (v := .int (nI sg)) (C := RX9) (T := TX9) (N := 18) hx hb hts in_X9_rule_X9 hown hK hP 0 rfl rfl 3 (by decide) (hts (.fieldLink RX9 135 "WallCountModel" "signs" "I") (List.mem_of_getElem? (i := 1) rfl)) (fun _ h9 => h9) rfl dX9_rule_12 ?_
    refine va_put (D := D) (ci := 7) (v := .int (nI sg)) (ty := .int) (C := RX9) (T := TX9) (N := 18) hx hb hts in_X9_rule_X9 tyX9 tyX9_ok nmX9 hown hK hP hD hS 0 rfl rfl 5 (by decide) (hts (.fieldLink RX9 141 "WallCountModel" "ruleMany" "I") (List.mem_of_getElem? (i := 2) rfl)) (fun _ h9 => h9) rfl (by decide +kernel) rfl rfl (Nat.le_of_ble_eq_true rfl) dX9_rule_15 (fun H locs hP hD hS => ?_)
    have hP : va_P D vwCl (mW cI cZ o aS aH aG aR aV aA aB aO aP aF aC nd fs fh sg fg sg fq cl nr fV fA fB fO fP fF cn fC mx) H := hP
    have hD : va_D A (mW cI cZ o aS aH aG aR aV aA aB aO aP aF aC nd fs fh sg fg sg fq cl nr fV fA fB fO fP fF cn fC mx) := hD
    refine lv_iconst (v := 0) hx hb dX9_rule_18 (by decide) ?_
    refine lv_istore_n (lv' := [(1, .int 0), (0, .ref o)]) hx hb dX9_rule_19 rfl hl (by decide) rfl (fun ls hl => ?_)
    suffices loop : ∀ (n : Nat) (v1 : Int32) (fq : Nat → Int32) (H : Heap) (locs : List Loc), (UP 0 sg n v1) → x_X9_rule_L20 sg fg rq n v1 fq = Rv → va_P D vwCl (mW cI cZ o aS aH aG aR aV aA aB aO aP aF aC nd fs fh sg fg sg fq cl nr fV fA fB fO fP fF cn fC mx) H → va_D A (mW cI cZ o aS aH aG aR aV aA aB aO aP aF aC nd fs fh sg fg sg fq cl nr fV fA fB fO fP fF cn fC mx) → va_S A s.heap H locs → ∀ ls : Array Slot, lv_has ls 2 [(1, .int v1), (0, .ref o)] → W p l e (headSpec wsX9_rule rm_X9_rule).room s m ([.ref o] : List Value).toArray below meth c H locs 0 0 (MQ below (pq_X9_rule D cI cZ cR A o aS aH aG aR aV aA aB aO aP aF aC nd fs fh sg fg rq fq cl nr fV fA fB fO fP fF cn fC mx Rv) ([.ref o] : List Value).toArray s 0 0 A) (F0 m 20 ls []) from
      loop (sg + 1) 0 fq _ _ (UP.start 0 (by omega) (by omega)) hE hP hD hS ls (lv_sub hl [0, 1] rfl)
    clear hE hl ls hP hD hS
    intro n
    induction n with
    | zero =>
      intro v1 fq H locs hI _ _ _ _ _ _
      exact absurd hI (UP.zero)
    | succ n ih =>
      intro v1 fq H locs hI hE hP hD hS ls hl
      rw [x_X9_rule_L20] at hE
      refine lv_iload_n hx hb dX9_rule_20 rfl (lv_at hl 0 rfl) ?_
      refine lv_aload_n hx hb dX9_rule_21 rfl (lv_at hl 1 rfl) ?_
      refine va_get (D := D) (ci := 7) (v := .int (nI sg)) (C := RX9) (T := TX9) (N := 18) hx hb hts in_X9_rule_X9 hown hK hP 0 rfl rfl 3 (by decide) (hts (.fieldLink RX9 135 "WallCountModel" "signs" "I") (List.mem_of_getElem? (i := 1) rfl)) (fun _ h9 => h9) rfl dX9_rule_22 ?_
      refine lv_icmp_ge (tgt := 46) hx hb dX9_rule_25 (by decide) (fun c_25 => ?_) (fun c_25 => ?_)
      · have hE := itT hE c_25
        refine lv_aload_n hx hb dX9_rule_46 rfl (lv_at hl 1 rfl) ?_
        refine lv_iconst (v := 0) hx hb dX9_rule_47 (by decide) ?_
        refine va_put (D := D) (ci := 7) (v := .int 0) (ty := .int) (C := RX9) (T := TX9) (N := 18) hx hb hts in_X9_rule_X9 tyX9 tyX9_ok nmX9 hown hK hP hD hS 0 rfl rfl 3 (by decide) (hts (.fieldLink RX9 135 "WallCountModel" "signs" "I") (List.mem_of_getElem? (i := 1) rfl)) (fun _ h9 => h9) rfl (by decide +kernel) rfl rfl (Nat.le_of_ble_eq_true rfl) dX9_rule_48 (fun H locs hP hD hS => ?_)
        have hP : va_P D vwCl (mW cI cZ o aS aH aG aR aV aA aB aO aP aF aC nd fs fh 0 fg sg fq cl nr fV fA fB fO fP fF cn fC mx) H := hP
        have hD : va_D A (mW cI cZ o aS aH aG aR aV aA aB aO aP aF aC nd fs fh 0 fg sg fq cl nr fV fA fB fO fP fF cn fC mx) := hD
        refine lv_iconst (v := 1) hx hb dX9_rule_51 (by decide) ?_
        subst hE
        exact wr_iret (sg, fq, 0) hx hb hr hlocks ⟨rfl, rfl, rfl, rfl⟩ hP hD hS dX9_rule_52
      · have hE := itF hE c_25
        refine lv_aload_n hx hb dX9_rule_28 rfl (lv_at hl 1 rfl) ?_
        refine va_get (D := D) (ci := 7) (v := .ref aR) (C := RX9) (T := TX9) (N := 18) hx hb hts in_X9_rule_X9 hown hK hP 0 rfl rfl 6 (by decide) (hts (.fieldLink RX9 23 "WallCountModel" "ruleSign" "[I") (List.mem_of_getElem? (i := 3) rfl)) (fun _ h9 => h9) rfl dX9_rule_29 ?_
        refine lv_iload_n hx hb dX9_rule_32 rfl (lv_at hl 0 rfl) ?_
        refine lv_aload_n hx hb dX9_rule_33 rfl (lv_at hl 1 rfl) ?_
        refine va_get (D := D) (ci := 7) (v := .ref aG) (C := RX9) (T := TX9) (N := 18) hx hb hts in_X9_rule_X9 hown hK hP 0 rfl rfl 4 (by decide) (hts (.fieldLink RX9 20 "WallCountModel" "sign" "[I") (List.mem_of_getElem? (i := 4) rfl)) (fun _ h9 => h9) rfl dX9_rule_34 ?_
        refine lv_iload_n hx hb dX9_rule_37 rfl (lv_at hl 0 rfl) ?_
        refine va_iald hx hb hK hP 3 0 rfl rfl (up_in2 hI (by omega) hsg (by decide) c_25) dX9_rule_38 ?_
        refine va_iast hx hb hK hP hD hS 4 0 rfl rfl (up_in2 hI (by omega) hsg (by decide) c_25) dX9_rule_39 (fun H locs hP hD hS => ?_)
        have hP : va_P D vwCl (mW cI cZ o aS aH aG aR aV aA aB aO aP aF aC nd fs fh sg fg sg (upd fq (ix v1) (fg (ix v1))) cl nr fV fA fB fO fP fF cn fC mx) H := hP
        have hD : va_D A (mW cI cZ o aS aH aG aR aV aA aB aO aP aF aC nd fs fh sg fg sg (upd fq (ix v1) (fg (ix v1))) cl nr fV fA fB fO fP fF cn fC mx) := hD
        refine lv_iinc (v := (v1 + 1)) (lv' := [(1, .int (v1 + 1)), (0, .ref o)]) hx hb dX9_rule_40 hl (k := 0) rfl rfl (by decide) rfl (fun ls hl => ?_)
        refine lv_goto (tgt := 20) hx hb dX9_rule_43 (by decide) ?_
        exact ih (v1 + 1) (upd fq (ix v1) (fg (ix v1))) _ _ ((hI.ge (by omega) rfl c_25).1) hE hP hD hS ls (lv_sub hl [0, 1] rfl)
  · have hE := itF hE c_4
    refine lv_bipush (v := (-5)) hx hb dX9_rule_7 (by decide +kernel) ?_
    subst hE
    exact wr_iret (rq, fq, sg) hx hb hr hlocks ⟨rfl, rfl, rfl, rfl⟩ hP hD hS dX9_rule_9

theorem hd_X9_close : yX9_close.cls ≠ "java/lang/invoke/MethodHandle" ∧ yX9_close.cls ≠ "java/lang/invoke/VarHandle" ∧ (parseMethodDescriptor yX9_close.desc).map (fun d => d.parameters.length) = some 1 := by decide +kernel
def x_X9_close (cl : Int32) (p0 : Int32) : Int32 × Int32 := (if (x_X9_isHour p0) = true then (cl, p0) else ((-2), cl))
def rm_X9_close : Room := { frames := 2, cells := 0, slots := 0, locals := 42 }
abbrev pq_X9_close (D : va_G) (cI cZ cR : ClassId) (A : Nat → Prop) (o aS aH aG aR aV aA aB aO aP aF aC : Nat) (nd : Int32) (fs : Nat → Int32) (fh : Nat → Int32) (sg : Nat) (fg : Nat → Int32) (rq : Nat) (fq : Nat → Int32) (cl : Int32) (nr : Nat) (fV : Nat → Int32) (fA : Nat → Int32) (fB : Nat → Int32) (fO : Nat → Int32) (fP : Nat → Int32) (fF : Nat → Int32) (cn : Nat) (fC : Nat → Int32) (mx : Int32) (Rv : Int32 × Int32) : Array Value → State → Outcome → State → Prop := wr_Q D (fun (v : Option Value) (u : Int32) => v = some (.int Rv.1) ∧ u = Rv.2) (fun u => mW cI cZ o aS aH aG aR aV aA aB aO aP aF aC nd fs fh sg fg rq fq u nr fV fA fB fO fP fF cn fC mx) A
theorem in_X9_close_X9 : ∀ w ∈ wsX90, w ∈ wsX9_close := fun _ h => List.mem_cons_of_mem _ (List.mem_append_right _ h)
set_option maxHeartbeats 4000000 in
set_option maxRecDepth 100000 in
theorem c_X9_close (l : Launch) (D : va_G) (cI cZ cR : ClassId) (A : Nat → Prop) (H0 : Heap) (o aS aH aG aR aV aA aB aO aP aF aC : Nat) (nd : Int32) (fs : Nat → Int32) (fh : Nat → Int32) (sg : Nat) (fg : Nat → Int32) (rq : Nat) (fq : Nat → Int32) (cl : Int32) (nr : Nat) (fV : Nat → Int32) (fA : Nat → Int32) (fB : Nat → Int32) (fO : Nat → Int32) (fP : Nat → Int32) (fF : Nat → Int32) (cn : Nat) (fC : Nat → Int32) (mx : Int32) (p0 : Int32) : Met l yX9_close wsX9_close rm_X9_close (wr_P D cI cZ cR [.ref o, .int p0] (mW cI cZ o aS aH aG aR aV aA aB aO aP aF aC nd fs fh sg fg rq fq cl nr fV fA fB fO fP fF cn fC mx) A H0) (pq_X9_close D cI cZ cR A o aS aH aG aR aV aA aB aO aP aF aC nd fs fh sg fg rq fq cl nr fV fA fB fO fP fF cn fC mx (x_X9_close cl p0)) 0 0 A := by
  refine Met.ofW (cc := cX9_close) (maxL := 3) (ret := (some .int)) (by decide +kernel) rfl ?_
  intro p e s m args below meth c s₁ B hml hv
  obtain ⟨rfl, rfl, hAM, hP, hD⟩ := hv
  have hx := B.exec
  have hb := B.bytes
  have hr := B.returns
  have hts := atoms_spec (ws := wsX9_close) B.pre
  have hown : s.vm.findClass RX9 = some m.cls := findClass_of_methodNamed B.named
  have hlocks := B.notSynchronized
  have hK := hAM.1
  have hS : va_S A s.heap s.heap [] := va_S.rf
  generalize hE : (x_X9_close cl p0) = Rv
  rw [x_X9_close] at hE
  have hl := lv_entry ([.ref o, .int p0]) (n := 3) (Nat.le_of_ble_eq_true rfl)
  rw [lg_entry_eq]
  generalize (lg_sl ([.ref o, .int p0]) ++ List.replicate (3 - (lg_sl ([.ref o, .int p0])).length) Slot.unset).toArray = ls at hl ⊢
  have hl : lv_has ls 3 [(0, .ref o), (1, .int p0)] := hl
  refine lv_iload_n hx hb dX9_close_0 rfl (lv_at hl 1 rfl) ?_
  refine ro_call (va_runS (As := [.int p0]) (rest := []) ⟨hx, hb, hml, hown, hts⟩ (c_X9_isHour l D cI cZ cR _ p0) (va_cwS 1 hts gX9_close_X9_isHour rfl rfl rfl hd_X9_isHour ⟨(Nat.le_of_ble_eq_true rfl), (Nat.le_of_ble_eq_true rfl)⟩) (po_pre hAM va_P.nil) rfl rfl hl.1 rfl (lv_room (Nat.le_of_ble_eq_true rfl)) dX9_close_1 ⟨(Nat.le_of_ble_eq_true rfl), (Nat.le_of_ble_eq_true rfl)⟩) ?_
  refine w_if_neb (tgt := 10) hx hb dX9_close_4 (by decide) (fun c_4 => ?_) (fun c_4 => ?_)
  · have hE := itT hE c_4
    refine lv_aload_n hx hb dX9_close_10 rfl (lv_at hl 0 rfl) ?_
    refine va_get (D := D) (ci := 7) (v := .int cl) (C := RX9) (T := TX9) (N := 18) hx hb hts in_X9_close_X9 hown hK hP 0 rfl rfl 7 (by decide) (hts (.fieldLink RX9 26 "WallCountModel" "close" "I") (List.mem_of_getElem? (i := 1) rfl)) (fun _ h9 => h9) rfl dX9_close_11 ?_
    refine lv_istore_n (lv' := [(2, .int cl), (0, .ref o), (1, .int p0)]) hx hb dX9_close_14 rfl hl (by decide) rfl (fun ls hl => ?_)
    refine lv_aload_n hx hb dX9_close_15 rfl (lv_at hl 1 rfl) ?_
    refine lv_iload_n hx hb dX9_close_16 rfl (lv_at hl 2 rfl) ?_
    refine va_put (D := D) (ci := 7) (v := .int p0) (ty := .int) (C := RX9) (T := TX9) (N := 18) hx hb hts in_X9_close_X9 tyX9 tyX9_ok nmX9 hown hK hP hD hS 0 rfl rfl 7 (by decide) (hts (.fieldLink RX9 26 "WallCountModel" "close" "I") (List.mem_of_getElem? (i := 1) rfl)) (fun _ h9 => h9) rfl (by decide +kernel) rfl rfl (Nat.le_of_ble_eq_true rfl) dX9_close_17 (fun H locs hP hD hS => ?_)
    have hP : va_P D vwCl (mW cI cZ o aS aH aG aR aV aA aB aO aP aF aC nd fs fh sg fg rq fq p0 nr fV fA fB fO fP fF cn fC mx) H := hP
    have hD : va_D A (mW cI cZ o aS aH aG aR aV aA aB aO aP aF aC nd fs fh sg fg rq fq p0 nr fV fA fB fO fP fF cn fC mx) := hD
    refine lv_iload_n hx hb dX9_close_20 rfl (lv_at hl 0 rfl) ?_
    subst hE
    exact wr_iret (p0) hx hb hr hlocks ⟨rfl, rfl⟩ hP hD hS dX9_close_21
  · have hE := itF hE c_4
    refine lv_bipush (v := (-2)) hx hb dX9_close_7 (by decide +kernel) ?_
    subst hE
    exact wr_iret (cl) hx hb hr hlocks ⟨rfl, rfl⟩ hP hD hS dX9_close_9

theorem hd_X9_addRow : yX9_addRow.cls ≠ "java/lang/invoke/MethodHandle" ∧ yX9_addRow.cls ≠ "java/lang/invoke/VarHandle" ∧ (parseMethodDescriptor yX9_addRow.desc).map (fun d => d.parameters.length) = some 5 := by decide +kernel
def x_X9_addRow_L55 (fV : Nat → Int32) (fA : Nat → Int32) (fB : Nat → Int32) (fO : Nat → Int32) (fP : Nat → Int32) (nr : Nat) (p0 : Int32) (p1 : Int32) (p2 : Int32) (p3 : Int32) (p4 : Bool) : Nat → Int32 → (Nat → Int32) → Int32 × (Nat → Int32) × (Nat → Int32) × (Nat → Int32) × (Nat → Int32) × (Nat → Int32) × (Nat → Int32) × Nat
  | 0, v6, fF => (0, fV, fA, fB, fO, fP, fF, nr)
  | n + 1, v6, fF => (if 4 ≤ v6 then (((nI (nr + 1)) - 1), (upd fV (ix (nI nr)) p0), (upd fA (ix (nI nr)) p1), (upd fB (ix (nI nr)) p2), (upd fO (ix (nI nr)) p3), (upd fP (ix (nI nr)) (bI p4)), fF, (nr + 1)) else (x_X9_addRow_L55 fV fA fB fO fP nr p0 p1 p2 p3 p4 n (v6 + 1) (upd fF (ix ((4 * (nI nr)) + v6)) 0)))
def x_X9_addRow (fV : Nat → Int32) (fA : Nat → Int32) (fB : Nat → Int32) (fO : Nat → Int32) (fP : Nat → Int32) (fF : Nat → Int32) (nr : Nat) (p0 : Int32) (p1 : Int32) (p2 : Int32) (p3 : Int32) (p4 : Bool) : Int32 × (Nat → Int32) × (Nat → Int32) × (Nat → Int32) × (Nat → Int32) × (Nat → Int32) × (Nat → Int32) × Nat := (x_X9_addRow_L55 fV fA fB fO fP nr p0 p1 p2 p3 p4 (5) 0 fF)
def rm_X9_addRow : Room := { frames := 0, cells := 0, slots := 0, locals := 0 }
abbrev pq_X9_addRow (D : va_G) (cI cZ cR : ClassId) (A : Nat → Prop) (o aS aH aG aR aV aA aB aO aP aF aC : Nat) (nd : Int32) (fs : Nat → Int32) (fh : Nat → Int32) (sg : Nat) (fg : Nat → Int32) (rq : Nat) (fq : Nat → Int32) (cl : Int32) (nr : Nat) (fV : Nat → Int32) (fA : Nat → Int32) (fB : Nat → Int32) (fO : Nat → Int32) (fP : Nat → Int32) (fF : Nat → Int32) (cn : Nat) (fC : Nat → Int32) (mx : Int32) (Rv : Int32 × (Nat → Int32) × (Nat → Int32) × (Nat → Int32) × (Nat → Int32) × (Nat → Int32) × (Nat → Int32) × Nat) : Array Value → State → Outcome → State → Prop := wr_Q D (fun (v : Option Value) (u : (Nat → Int32) × (Nat → Int32) × (Nat → Int32) × (Nat → Int32) × (Nat → Int32) × (Nat → Int32) × Nat) => v = some (.int Rv.1) ∧ u.1 = Rv.2.1 ∧ u.2.1 = Rv.2.2.1 ∧ u.2.2.1 = Rv.2.2.2.1 ∧ u.2.2.2.1 = Rv.2.2.2.2.1 ∧ u.2.2.2.2.1 = Rv.2.2.2.2.2.1 ∧ u.2.2.2.2.2.1 = Rv.2.2.2.2.2.2.1 ∧ u.2.2.2.2.2.2 = Rv.2.2.2.2.2.2.2) (fun u => mW cI cZ o aS aH aG aR aV aA aB aO aP aF aC nd fs fh sg fg rq fq cl u.2.2.2.2.2.2 u.1 u.2.1 u.2.2.1 u.2.2.2.1 u.2.2.2.2.1 u.2.2.2.2.2.1 cn fC mx) A
theorem in_X9_addRow_X9 : ∀ w ∈ wsX90, w ∈ wsX9_addRow := fun _ h => List.mem_cons_of_mem _ (List.mem_append_right _ h)
set_option maxHeartbeats 4000000 in
set_option maxRecDepth 100000 in
theorem c_X9_addRow (l : Launch) (D : va_G) (cI cZ cR : ClassId) (A : Nat → Prop) (H0 : Heap) (o aS aH aG aR aV aA aB aO aP aF aC : Nat) (nd : Int32) (fs : Nat → Int32) (fh : Nat → Int32) (sg : Nat) (fg : Nat → Int32) (rq : Nat) (fq : Nat → Int32) (cl : Int32) (nr : Nat) (fV : Nat → Int32) (fA : Nat → Int32) (fB : Nat → Int32) (fO : Nat → Int32) (fP : Nat → Int32) (fF : Nat → Int32) (cn : Nat) (fC : Nat → Int32) (mx : Int32) (p0 : Int32) (p1 : Int32) (p2 : Int32) (p3 : Int32) (p4 : Bool) (hnr : nr < 30) : Met l yX9_addRow wsX9_addRow rm_X9_addRow (wr_P D cI cZ cR [.ref o, .int p0, .int p1, .int p2, .int p3, .int (bI p4)] (mW cI cZ o aS aH aG aR aV aA aB aO aP aF aC nd fs fh sg fg rq fq cl nr fV fA fB fO fP fF cn fC mx) A H0) (pq_X9_addRow D cI cZ cR A o aS aH aG aR aV aA aB aO aP aF aC nd fs fh sg fg rq fq cl nr fV fA fB fO fP fF cn fC mx (x_X9_addRow fV fA fB fO fP fF nr p0 p1 p2 p3 p4)) 0 0 A := by
  refine Met.ofW (cc := cX9_addRow) (maxL := 7) (ret := (some .int)) (by decide +kernel) rfl ?_
  intro p e s m args below meth c s₁ B hml hv
  obtain ⟨rfl, rfl, hAM, hP, hD⟩ := hv
  have hx := B.exec
  have hb := B.bytes
  have hr := B.returns
  have hts := atoms_spec (ws := wsX9_addRow) B.pre
  have hown : s.vm.findClass RX9 = some m.cls := findClass_of_methodNamed B.named
  have hlocks := B.notSynchronized
  have hK := hAM.1
  have hS : va_S A s.heap s.heap [] := va_S.rf
  generalize hE : (x_X9_addRow fV fA fB fO fP fF nr p0 p1 p2 p3 p4) = Rv
  rw [x_X9_addRow] at hE
  have hl := lv_entry ([.ref o, .int p0, .int p1, .int p2, .int p3, .int (bI p4)]) (n := 7) (Nat.le_of_ble_eq_true rfl)
  rw [lg_entry_eq]
  generalize (lg_sl ([.ref o, .int p0, .int p1, .int p2, .int p3, .int (bI p4)]) ++ List.replicate (7 - (lg_sl ([.ref o, .int p0, .int p1, .int p2, .int p3, .int (bI p4)])).length) Slot.unset).toArray = ls at hl ⊢
  have hl : lv_has ls 7 [(0, .ref o), (1, .int p0), (2, .int p1), (3, .int p2), (4, .int p3), (5, .int (bI p4))] := hl
  refine lv_aload_n hx hb dX9_addRow_0 rfl (lv_at hl 0 rfl) ?_
  refine va_get (D := D) (ci := 7) (v := .ref aV) (C := RX9) (T := TX9) (N := 18) hx hb hts in_X9_addRow_X9 hown hK hP 0 rfl rfl 9 (by decide) (hts (.fieldLink RX9 29 "WallCountModel" "rowVoter" "[I") (List.mem_of_getElem? (i := 1) rfl)) (fun _ h9 => h9) rfl dX9_addRow_1 ?_
  refine lv_aload_n hx hb dX9_addRow_4 rfl (lv_at hl 0 rfl) ?_
  refine va_get (D := D) (ci := 7) (v := .int (nI nr)) (C := RX9) (T := TX9) (N := 18) hx hb hts in_X9_addRow_X9 hown hK hP 0 rfl rfl 8 (by decide) (hts (.fieldLink RX9 72 "WallCountModel" "rows" "I") (List.mem_of_getElem? (i := 2) rfl)) (fun _ h9 => h9) rfl dX9_addRow_5 ?_
  refine lv_iload_n hx hb dX9_addRow_8 rfl (lv_at hl 1 rfl) ?_
  refine va_iast hx hb hK hP hD hS 5 0 rfl rfl (vp_in_nI hnr (by decide)) dX9_addRow_9 (fun H locs hP hD hS => ?_)
  have hP : va_P D vwCl (mW cI cZ o aS aH aG aR aV aA aB aO aP aF aC nd fs fh sg fg rq fq cl nr (upd fV (ix (nI nr)) p0) fA fB fO fP fF cn fC mx) H := hP
  have hD : va_D A (mW cI cZ o aS aH aG aR aV aA aB aO aP aF aC nd fs fh sg fg rq fq cl nr (upd fV (ix (nI nr)) p0) fA fB fO fP fF cn fC mx) := hD
  refine lv_aload_n hx hb dX9_addRow_10 rfl (lv_at hl 0 rfl) ?_
  refine va_get (D := D) (ci := 7) (v := .ref aA) (C := RX9) (T := TX9) (N := 18) hx hb hts in_X9_addRow_X9 hown hK hP 0 rfl rfl 10 (by decide) (hts (.fieldLink RX9 32 "WallCountModel" "rowA" "[I") (List.mem_of_getElem? (i := 3) rfl)) (fun _ h9 => h9) rfl dX9_addRow_11 ?_
  refine lv_aload_n hx hb dX9_addRow_14 rfl (lv_at hl 0 rfl) ?_
  refine va_get (D := D) (ci := 7) (v := .int (nI nr)) (C := RX9) (T := TX9) (N := 18) hx hb hts in_X9_addRow_X9 hown hK hP 0 rfl rfl 8 (by decide) (hts (.fieldLink RX9 72 "WallCountModel" "rows" "I") (List.mem_of_getElem? (i := 2) rfl)) (fun _ h9 => h9) rfl dX9_addRow_15 ?_
  refine lv_iload_n hx hb dX9_addRow_18 rfl (lv_at hl 2 rfl) ?_
  refine va_iast hx hb hK hP hD hS 6 0 rfl rfl (vp_in_nI hnr (by decide)) dX9_addRow_19 (fun H locs hP hD hS => ?_)
  have hP : va_P D vwCl (mW cI cZ o aS aH aG aR aV aA aB aO aP aF aC nd fs fh sg fg rq fq cl nr (upd fV (ix (nI nr)) p0) (upd fA (ix (nI nr)) p1) fB fO fP fF cn fC mx) H := hP
  have hD : va_D A (mW cI cZ o aS aH aG aR aV aA aB aO aP aF aC nd fs fh sg fg rq fq cl nr (upd fV (ix (nI nr)) p0) (upd fA (ix (nI nr)) p1) fB fO fP fF cn fC mx) := hD
  refine lv_aload_n hx hb dX9_addRow_20 rfl (lv_at hl 0 rfl) ?_
  refine va_get (D := D) (ci := 7) (v := .ref aB) (C := RX9) (T := TX9) (N := 18) hx hb hts in_X9_addRow_X9 hown hK hP 0 rfl rfl 11 (by decide) (hts (.fieldLink RX9 35 "WallCountModel" "rowB" "[I") (List.mem_of_getElem? (i := 4) rfl)) (fun _ h9 => h9) rfl dX9_addRow_21 ?_
  refine lv_aload_n hx hb dX9_addRow_24 rfl (lv_at hl 0 rfl) ?_
  refine va_get (D := D) (ci := 7) (v := .int (nI nr)) (C := RX9) (T := TX9) (N := 18) hx hb hts in_X9_addRow_X9 hown hK hP 0 rfl rfl 8 (by decide) (hts (.fieldLink RX9 72 "WallCountModel" "rows" "I") (List.mem_of_getElem? (i := 2) rfl)) (fun _ h9 => h9) rfl dX9_addRow_25 ?_
  refine lv_iload_n hx hb dX9_addRow_28 rfl (lv_at hl 3 rfl) ?_
  refine va_iast hx hb hK hP hD hS 7 0 rfl rfl (vp_in_nI hnr (by decide)) dX9_addRow_29 (fun H locs hP hD hS => ?_)
  have hP : va_P D vwCl (mW cI cZ o aS aH aG aR aV aA aB aO aP aF aC nd fs fh sg fg rq fq cl nr (upd fV (ix (nI nr)) p0) (upd fA (ix (nI nr)) p1) (upd fB (ix (nI nr)) p2) fO fP fF cn fC mx) H := hP
  have hD : va_D A (mW cI cZ o aS aH aG aR aV aA aB aO aP aF aC nd fs fh sg fg rq fq cl nr (upd fV (ix (nI nr)) p0) (upd fA (ix (nI nr)) p1) (upd fB (ix (nI nr)) p2) fO fP fF cn fC mx) := hD
  refine lv_aload_n hx hb dX9_addRow_30 rfl (lv_at hl 0 rfl) ?_
  refine va_get (D := D) (ci := 7) (v := .ref aO) (C := RX9) (T := TX9) (N := 18) hx hb hts in_X9_addRow_X9 hown hK hP 0 rfl rfl 12 (by decide) (hts (.fieldLink RX9 38 "WallCountModel" "rowHour" "[I") (List.mem_of_getElem? (i := 5) rfl)) (fun _ h9 => h9) rfl dX9_addRow_31 ?_
  refine lv_aload_n hx hb dX9_addRow_34 rfl (lv_at hl 0 rfl) ?_
  refine va_get (D := D) (ci := 7) (v := .int (nI nr)) (C := RX9) (T := TX9) (N := 18) hx hb hts in_X9_addRow_X9 hown hK hP 0 rfl rfl 8 (by decide) (hts (.fieldLink RX9 72 "WallCountModel" "rows" "I") (List.mem_of_getElem? (i := 2) rfl)) (fun _ h9 => h9) rfl dX9_addRow_35 ?_
  refine lv_iload hx hb dX9_addRow_38 (lv_at hl 4 rfl) ?_
  refine va_iast hx hb hK hP hD hS 8 0 rfl rfl (vp_in_nI hnr (by decide)) dX9_addRow_40 (fun H locs hP hD hS => ?_)
  have hP : va_P D vwCl (mW cI cZ o aS aH aG aR aV aA aB aO aP aF aC nd fs fh sg fg rq fq cl nr (upd fV (ix (nI nr)) p0) (upd fA (ix (nI nr)) p1) (upd fB (ix (nI nr)) p2) (upd fO (ix (nI nr)) p3) fP fF cn fC mx) H := hP
  have hD : va_D A (mW cI cZ o aS aH aG aR aV aA aB aO aP aF aC nd fs fh sg fg rq fq cl nr (upd fV (ix (nI nr)) p0) (upd fA (ix (nI nr)) p1) (upd fB (ix (nI nr)) p2) (upd fO (ix (nI nr)) p3) fP fF cn fC mx) := hD
  refine lv_aload_n hx hb dX9_addRow_41 rfl (lv_at hl 0 rfl) ?_
  refine va_get (D := D) (ci := 7) (v := .ref aP) (C := RX9) (T := TX9) (N := 18) hx hb hts in_X9_addRow_X9 hown hK hP 0 rfl rfl 13 (by decide) (hts (.fieldLink RX9 41 "WallCountModel" "isProved" "[Z") (List.mem_of_getElem? (i := 6) rfl)) (fun _ h9 => h9) rfl dX9_addRow_42 ?_
  refine lv_aload_n hx hb dX9_addRow_45 rfl (lv_at hl 0 rfl) ?_
  refine va_get (D := D) (ci := 7) (v := .int (nI nr)) (C := RX9) (T := TX9) (N := 18) hx hb hts in_X9_addRow_X9 hown hK hP 0 rfl rfl 8 (by decide) (hts (.fieldLink RX9 72 "WallCountModel" "rows" "I") (List.mem_of_getElem? (i := 2) rfl)) (fun _ h9 => h9) rfl dX9_addRow_46 ?_
  refine lv_iload hx hb dX9_addRow_49 (lv_at hl 5 rfl) ?_
  refine w_zast (b := p4) hx hb hK hP hD hS 9 1 rfl rfl (vp_in_nI hnr (by decide)) dX9_addRow_51 (fun H locs hP hD hS => ?_)
  have hP : va_P D vwCl (mW cI cZ o aS aH aG aR aV aA aB aO aP aF aC nd fs fh sg fg rq fq cl nr (upd fV (ix (nI nr)) p0) (upd fA (ix (nI nr)) p1) (upd fB (ix (nI nr)) p2) (upd fO (ix (nI nr)) p3) (upd fP (ix (nI nr)) (bI p4)) fF cn fC mx) H := hP
  have hD : va_D A (mW cI cZ o aS aH aG aR aV aA aB aO aP aF aC nd fs fh sg fg rq fq cl nr (upd fV (ix (nI nr)) p0) (upd fA (ix (nI nr)) p1) (upd fB (ix (nI nr)) p2) (upd fO (ix (nI nr)) p3) (upd fP (ix (nI nr)) (bI p4)) fF cn fC mx) := hD
  refine lv_iconst (v := 0) hx hb dX9_addRow_52 (by decide) ?_
  refine lv_istore (lv' := [(6, .int 0), (0, .ref o), (1, .int p0), (2, .int p1), (3, .int p2), (4, .int p3), (5, .int (bI p4))]) hx hb dX9_addRow_53 hl (by decide) rfl (fun ls hl => ?_)
  suffices loop : ∀ (n : Nat) (v6 : Int32) (fF : Nat → Int32) (H : Heap) (locs : List Loc), (UP 0 4 n v6) → x_X9_addRow_L55 fV fA fB fO fP nr p0 p1 p2 p3 p4 n v6 fF = Rv → va_P D vwCl (mW cI cZ o aS aH aG aR aV aA aB aO aP aF aC nd fs fh sg fg rq fq cl nr (upd fV (ix (nI nr)) p0) (upd fA (ix (nI nr)) p1) (upd fB (ix (nI nr)) p2) (upd fO (ix (nI nr)) p3) (upd fP (ix (nI nr)) (bI p4)) fF cn fC mx) H → va_D A (mW cI cZ o aS aH aG aR aV aA aB aO aP aF aC nd fs fh sg fg rq fq cl nr (upd fV (ix (nI nr)) p0) (upd fA (ix (nI nr)) p1) (upd fB (ix (nI nr)) p2) (upd fO (ix (nI nr)) p3) (upd fP (ix (nI nr)) (bI p4)) fF cn fC mx) → va_S A s.heap H locs → ∀ ls : Array Slot, lv_has ls 7 [(6, .int v6), (0, .ref o), (1, .int p0), (2, .int p1), (3, .int p2), (4, .int p3), (5, .int (bI p4))] → W p l e (headSpec wsX9_addRow rm_X9_addRow).room s m ([.ref o, .int p0, .int p1, .int p2, .int p3, .int (bI p4)] : List Value).toArray below meth c H locs 0 0 (MQ below (pq_X9_addRow D cI cZ cR A o aS aH aG aR aV aA aB aO aP aF aC nd fs fh sg fg rq fq cl nr fV fA fB fO fP fF cn fC mx Rv) ([.ref o, .int p0, .int p1, .int p2, .int p3, .int (bI p4)] : List Value).toArray s 0 0 A) (F0 m 55 ls []) from
    loop (5) 0 fF _ _ (UP.start 0 (by omega) (by omega)) hE hP hD hS ls (lv_sub hl [0, 1, 2, 3, 4, 5, 6] rfl)
  clear hE hl ls hP hD hS
  intro n
  induction n with
  | zero =>
    intro v6 fF H locs hI _ _ _ _ _ _
    exact absurd hI (UP.zero)
  | succ n ih =>
    intro v6 fF H locs hI hE hP hD hS ls hl
    rw [x_X9_addRow_L55] at hE
    refine lv_iload hx hb dX9_addRow_55 (lv_at hl 0 rfl) ?_
    refine lv_iconst (v := 4) hx hb dX9_addRow_57 (by decide) ?_
    refine lv_icmp_ge (tgt := 82) hx hb dX9_addRow_58 (by decide) (fun c_58 => ?_) (fun c_58 => ?_)
    · have hE := itT hE c_58
      refine lv_aload_n hx hb dX9_addRow_82 rfl (lv_at hl 1 rfl) ?_
      refine lv_dup hx hb dX9_addRow_83 rfl ?_
      refine va_get (D := D) (ci := 7) (v := .int (nI nr)) (C := RX9) (T := TX9) (N := 18) hx hb hts in_X9_addRow_X9 hown hK hP 0 rfl rfl 8 (by decide) (hts (.fieldLink RX9 72 "WallCountModel" "rows" "I") (List.mem_of_getElem? (i := 2) rfl)) (fun _ h9 => h9) rfl dX9_addRow_84 ?_
      refine lv_iconst (v := 1) hx hb dX9_addRow_87 (by decide) ?_
      refine lv_iadd hx hb dX9_addRow_88 ?_
      rw [nI_1 nr]
      refine va_put (D := D) (ci := 7) (v := .int (nI (nr + 1))) (ty := .int) (C := RX9) (T := TX9) (N := 18) hx hb hts in_X9_addRow_X9 tyX9 tyX9_ok nmX9 hown hK hP hD hS 0 rfl rfl 8 (by decide) (hts (.fieldLink RX9 72 "WallCountModel" "rows" "I") (List.mem_of_getElem? (i := 2) rfl)) (fun _ h9 => h9) rfl (by decide +kernel) rfl rfl (Nat.le_of_ble_eq_true rfl) dX9_addRow_89 (fun H locs hP hD hS => ?_)
      have hP : va_P D vwCl (mW cI cZ o aS aH aG aR aV aA aB aO aP aF aC nd fs fh sg fg rq fq cl (nr + 1) (upd fV (ix (nI nr)) p0) (upd fA (ix (nI nr)) p1) (upd fB (ix (nI nr)) p2) (upd fO (ix (nI nr)) p3) (upd fP (ix (nI nr)) (bI p4)) fF cn fC mx) H := hP
      have hD : va_D A (mW cI cZ o aS aH aG aR aV aA aB aO aP aF aC nd fs fh sg fg rq fq cl (nr + 1) (upd fV (ix (nI nr)) p0) (upd fA (ix (nI nr)) p1) (upd fB (ix (nI nr)) p2) (upd fO (ix (nI nr)) p3) (upd fP (ix (nI nr)) (bI p4)) fF cn fC mx) := hD
      refine lv_aload_n hx hb dX9_addRow_92 rfl (lv_at hl 1 rfl) ?_
      refine va_get (D := D) (ci := 7) (v := .int (nI (nr + 1))) (C := RX9) (T := TX9) (N := 18) hx hb hts in_X9_addRow_X9 hown hK hP 0 rfl rfl 8 (by decide) (hts (.fieldLink RX9 72 "WallCountModel" "rows" "I") (List.mem_of_getElem? (i := 2) rfl)) (fun _ h9 => h9) rfl dX9_addRow_93 ?_
      refine lv_iconst (v := 1) hx hb dX9_addRow_96 (by decide) ?_
      refine lv_isub hx hb dX9_addRow_97 ?_
      subst hE
      exact wr_iret ((upd fV (ix (nI nr)) p0), (upd fA (ix (nI nr)) p1), (upd fB (ix (nI nr)) p2), (upd fO (ix (nI nr)) p3), (upd fP (ix (nI nr)) (bI p4)), fF, (nr + 1)) hx hb hr hlocks ⟨rfl, rfl, rfl, rfl, rfl, rfl, rfl, rfl⟩ hP hD hS dX9_addRow_98
    · have hE := itF hE c_58
      refine lv_aload_n hx hb dX9_addRow_61 rfl (lv_at hl 1 rfl) ?_
      refine va_get (D := D) (ci := 7) (v := .ref aF) (C := RX9) (T := TX9) (N := 18) hx hb hts in_X9_addRow_X9 hown hK hP 0 rfl rfl 14 (by decide) (hts (.fieldLink RX9 45 "WallCountModel" "proof" "[I") (List.mem_of_getElem? (i := 7) rfl)) (fun _ h9 => h9) rfl dX9_addRow_62 ?_
      refine lv_iconst (v := 4) hx hb dX9_addRow_65 (by decide) ?_
      refine lv_aload_n hx hb dX9_addRow_66 rfl (lv_at hl 1 rfl) ?_
      refine va_get (D := D) (ci := 7) (v := .int (nI nr)) (C := RX9) (T := TX9) (N := 18) hx hb hts in_X9_addRow_X9 hown hK hP 0 rfl rfl 8 (by decide) (hts (.fieldLink RX9 72 "WallCountModel" "rows" "I") (List.mem_of_getElem? (i := 2) rfl)) (fun _ h9 => h9) rfl dX9_addRow_67 ?_
      refine lv_imul hx hb dX9_addRow_70 ?_
      refine lv_iload hx hb dX9_addRow_71 (lv_at hl 0 rfl) ?_
      refine lv_iadd hx hb dX9_addRow_73 ?_
      refine lv_iconst (v := 0) hx hb dX9_addRow_74 (by decide) ?_
      refine va_iast hx hb hK hP hD hS 10 0 rfl rfl (proof_in hnr (hI.ge (by decide) rfl c_58).2) dX9_addRow_75 (fun H locs hP hD hS => ?_)
      have hP : va_P D vwCl (mW cI cZ o aS aH aG aR aV aA aB aO aP aF aC nd fs fh sg fg rq fq cl nr (upd fV (ix (nI nr)) p0) (upd fA (ix (nI nr)) p1) (upd fB (ix (nI nr)) p2) (upd fO (ix (nI nr)) p3) (upd fP (ix (nI nr)) (bI p4)) (upd fF (ix ((4 * (nI nr)) + v6)) 0) cn fC mx) H := hP
      have hD : va_D A (mW cI cZ o aS aH aG aR aV aA aB aO aP aF aC nd fs fh sg fg rq fq cl nr (upd fV (ix (nI nr)) p0) (upd fA (ix (nI nr)) p1) (upd fB (ix (nI nr)) p2) (upd fO (ix (nI nr)) p3) (upd fP (ix (nI nr)) (bI p4)) (upd fF (ix ((4 * (nI nr)) + v6)) 0) cn fC mx) := hD
      refine lv_iinc (v := (v6 + 1)) (lv' := [(6, .int (v6 + 1)), (0, .ref o), (1, .int p0), (2, .int p1), (3, .int p2), (4, .int p3), (5, .int (bI p4))]) hx hb dX9_addRow_76 hl (k := 0) rfl rfl (by decide) rfl (fun ls hl => ?_)
      refine lv_goto (tgt := 55) hx hb dX9_addRow_79 (by decide) ?_
      exact ih (v6 + 1) (upd fF (ix ((4 * (nI nr)) + v6)) 0) _ _ ((hI.ge (by decide) rfl c_58).1) hE hP hD hS ls (lv_sub hl [0, 1, 2, 3, 4, 5, 6] rfl)

theorem addRow_r (fV fA fB fO fP fF : Nat → Int32) (nr : Nat) (p0 p1 p2 p3 : Int32) (p4 : Bool) : (x_X9_addRow fV fA fB fO fP fF nr p0 p1 p2 p3 p4).1 = nI nr := nI_pred nr
theorem hd_X9_row : yX9_row.cls ≠ "java/lang/invoke/MethodHandle" ∧ yX9_row.cls ≠ "java/lang/invoke/VarHandle" ∧ (parseMethodDescriptor yX9_row.desc).map (fun d => d.parameters.length) = some 4 := by decide +kernel
def x_X9_row (fV : Nat → Int32) (fA : Nat → Int32) (fB : Nat → Int32) (fO : Nat → Int32) (fP : Nat → Int32) (fF : Nat → Int32) (nr : Nat) (p0 : Int32) (p1 : Int32) (p2 : Int32) (p3 : Int32) : Int32 × (Nat → Int32) × (Nat → Int32) × (Nat → Int32) × (Nat → Int32) × (Nat → Int32) × (Nat → Int32) × Nat := (if (x_X9_isVoter p0) = true then (if (x_X9_isTold p1) = true then (if (x_X9_isTold p2) = true then (if (x_X9_isHour p3) = true then (if (nI nr) = 30 then ((-4), fV, fA, fB, fO, fP, fF, nr) else (((x_X9_addRow fV fA fB fO fP fF nr p0 p1 p2 p3 false).1), ((x_X9_addRow fV fA fB fO fP fF nr p0 p1 p2 p3 false).2.1), ((x_X9_addRow fV fA fB fO fP fF nr p0 p1 p2 p3 false).2.2.1), ((x_X9_addRow fV fA fB fO fP fF nr p0 p1 p2 p3 false).2.2.2.1), ((x_X9_addRow fV fA fB fO fP fF nr p0 p1 p2 p3 false).2.2.2.2.1), ((x_X9_addRow fV fA fB fO fP fF nr p0 p1 p2 p3 false).2.2.2.2.2.1), ((x_X9_addRow fV fA fB fO fP fF nr p0 p1 p2 p3 false).2.2.2.2.2.2.1), ((x_X9_addRow fV fA fB fO fP fF nr p0 p1 p2 p3 false).2.2.2.2.2.2.2))) else ((-2), fV, fA, fB, fO, fP, fF, nr)) else ((-2), fV, fA, fB, fO, fP, fF, nr)) else ((-2), fV, fA, fB, fO, fP, fF, nr)) else ((-1), fV, fA, fB, fO, fP, fF, nr))
def rm_X9_row : Room := { frames := 2, cells := 0, slots := 0, locals := 42 }
abbrev pq_X9_row (D : va_G) (cI cZ cR : ClassId) (A : Nat → Prop) (o aS aH aG aR aV aA aB aO aP aF aC : Nat) (nd : Int32) (fs : Nat → Int32) (fh : Nat → Int32) (sg : Nat) (fg : Nat → Int32) (rq : Nat) (fq : Nat → Int32) (cl : Int32) (nr : Nat) (fV : Nat → Int32) (fA : Nat → Int32) (fB : Nat → Int32) (fO : Nat → Int32) (fP : Nat → Int32) (fF : Nat → Int32) (cn : Nat) (fC : Nat → Int32) (mx : Int32) (Rv : Int32 × (Nat → Int32) × (Nat → Int32) × (Nat → Int32) × (Nat → Int32) × (Nat → Int32) × (Nat → Int32) × Nat) : Array Value → State → Outcome → State → Prop := wr_Q D (fun (v : Option Value) (u : (Nat → Int32) × (Nat → Int32) × (Nat → Int32) × (Nat → Int32) × (Nat → Int32) × (Nat → Int32) × Nat) => v = some (.int Rv.1) ∧ u.1 = Rv.2.1 ∧ u.2.1 = Rv.2.2.1 ∧ u.2.2.1 = Rv.2.2.2.1 ∧ u.2.2.2.1 = Rv.2.2.2.2.1 ∧ u.2.2.2.2.1 = Rv.2.2.2.2.2.1 ∧ u.2.2.2.2.2.1 = Rv.2.2.2.2.2.2.1 ∧ u.2.2.2.2.2.2 = Rv.2.2.2.2.2.2.2) (fun u => mW cI cZ o aS aH aG aR aV aA aB aO aP aF aC nd fs fh sg fg rq fq cl u.2.2.2.2.2.2 u.1 u.2.1 u.2.2.1 u.2.2.2.1 u.2.2.2.2.1 u.2.2.2.2.2.1 cn fC mx) A
theorem in_X9_row_X9 : ∀ w ∈ wsX90, w ∈ wsX9_row := fun _ h => List.mem_cons_of_mem _ (List.mem_append_right _ h)
set_option maxHeartbeats 4000000 in
set_option maxRecDepth 100000 in
theorem c_X9_row (l : Launch) (D : va_G) (cI cZ cR : ClassId) (A : Nat → Prop) (H0 : Heap) (o aS aH aG aR aV aA aB aO aP aF aC : Nat) (nd : Int32) (fs : Nat → Int32) (fh : Nat → Int32) (sg : Nat) (fg : Nat → Int32) (rq : Nat) (fq : Nat → Int32) (cl : Int32) (nr : Nat) (fV : Nat → Int32) (fA : Nat → Int32) (fB : Nat → Int32) (fO : Nat → Int32) (fP : Nat → Int32) (fF : Nat → Int32) (cn : Nat) (fC : Nat → Int32) (mx : Int32) (p0 : Int32) (p1 : Int32) (p2 : Int32) (p3 : Int32) (hn30 : nr ≤ 30) : Met l yX9_row wsX9_row rm_X9_row (wr_P D cI cZ cR [.ref o, .int p0, .int p1, .int p2, .int p3] (mW cI cZ o aS aH aG aR aV aA aB aO aP aF aC nd fs fh sg fg rq fq cl nr fV fA fB fO fP fF cn fC mx) A H0) (pq_X9_row D cI cZ cR A o aS aH aG aR aV aA aB aO aP aF aC nd fs fh sg fg rq fq cl nr fV fA fB fO fP fF cn fC mx (x_X9_row fV fA fB fO fP fF nr p0 p1 p2 p3)) 0 0 A := by
  refine Met.ofW (cc := cX9_row) (maxL := 5) (ret := (some .int)) (by decide +kernel) rfl ?_
  intro p e s m args below meth c s₁ B hml hv
  obtain ⟨rfl, rfl, hAM, hP, hD⟩ := hv
  have hx := B.exec
  have hb := B.bytes
  have hr := B.returns
  have hts := atoms_spec (ws := wsX9_row) B.pre
  have hown : s.vm.findClass RX9 = some m.cls := findClass_of_methodNamed B.named
  have hlocks := B.notSynchronized
  have hK := hAM.1
  have hS : va_S A s.heap s.heap [] := va_S.rf
  generalize hE : (x_X9_row fV fA fB fO fP fF nr p0 p1 p2 p3) = Rv
  rw [x_X9_row] at hE
  have hl := lv_entry ([.ref o, .int p0, .int p1, .int p2, .int p3]) (n := 5) (Nat.le_of_ble_eq_true rfl)
  rw [lg_entry_eq]
  generalize (lg_sl ([.ref o, .int p0, .int p1, .int p2, .int p3]) ++ List.replicate (5 - (lg_sl ([.ref o, .int p0, .int p1, .int p2, .int p3])).length) Slot.unset).toArray = ls at hl ⊢
  have hl : lv_has ls 5 [(0, .ref o), (1, .int p0), (2, .int p1), (3, .int p2), (4, .int p3)] := hl
  refine lv_iload_n hx hb dX9_row_0 rfl (lv_at hl 1 rfl) ?_
  refine ro_call (va_runS (As := [.int p0]) (rest := []) ⟨hx, hb, hml, hown, hts⟩ (c_X9_isVoter l D cI cZ cR _ p0) (va_cwS 1 hts gX9_row_X9_isVoter rfl rfl rfl hd_X9_isVoter ⟨(Nat.le_of_ble_eq_true rfl), (Nat.le_of_ble_eq_true rfl)⟩) (po_pre hAM va_P.nil) rfl rfl hl.1 rfl (lv_room (Nat.le_of_ble_eq_true rfl)) dX9_row_1 ⟨(Nat.le_of_ble_eq_true rfl), (Nat.le_of_ble_eq_true rfl)⟩) ?_
  refine w_if_neb (tgt := 9) hx hb dX9_row_4 (by decide) (fun c_4 => ?_) (fun c_4 => ?_)
  · have hE := itT hE c_4
    refine lv_iload_n hx hb dX9_row_9 rfl (lv_at hl 2 rfl) ?_
    refine ro_call (va_runS (As := [.int p1]) (rest := []) ⟨hx, hb, hml, hown, hts⟩ (c_X9_isTold l D cI cZ cR _ p1) (va_cwS 1 hts gX9_row_X9_isTold rfl rfl rfl hd_X9_isTold ⟨(Nat.le_of_ble_eq_true rfl), (Nat.le_of_ble_eq_true rfl)⟩) (po_pre hAM va_P.nil) rfl rfl hl.1 rfl (lv_room (Nat.le_of_ble_eq_true rfl)) dX9_row_10 ⟨(Nat.le_of_ble_eq_true rfl), (Nat.le_of_ble_eq_true rfl)⟩) ?_
    refine w_if_eqb (tgt := 31) hx hb dX9_row_13 (by decide) (fun c_13 => ?_) (fun c_13 => ?_)
    · have hE := itF hE c_13
      refine lv_bipush (v := (-2)) hx hb dX9_row_31 (by decide +kernel) ?_
      subst hE
      exact wr_iret (fV, fA, fB, fO, fP, fF, nr) hx hb hr hlocks ⟨rfl, rfl, rfl, rfl, rfl, rfl, rfl, rfl⟩ hP hD hS dX9_row_33
    · have hE := itT hE c_13
      refine lv_iload_n hx hb dX9_row_16 rfl (lv_at hl 3 rfl) ?_
      refine ro_call (va_runS (As := [.int p2]) (rest := []) ⟨hx, hb, hml, hown, hts⟩ (c_X9_isTold l D cI cZ cR _ p2) (va_cwS 1 hts gX9_row_X9_isTold rfl rfl rfl hd_X9_isTold ⟨(Nat.le_of_ble_eq_true rfl), (Nat.le_of_ble_eq_true rfl)⟩) (po_pre hAM va_P.nil) rfl rfl hl.1 rfl (lv_room (Nat.le_of_ble_eq_true rfl)) dX9_row_17 ⟨(Nat.le_of_ble_eq_true rfl), (Nat.le_of_ble_eq_true rfl)⟩) ?_
      refine w_if_eqb (tgt := 31) hx hb dX9_row_20 (by decide) (fun c_20 => ?_) (fun c_20 => ?_)
      · have hE := itF hE c_20
        refine lv_bipush (v := (-2)) hx hb dX9_row_31 (by decide +kernel) ?_
        subst hE
        exact wr_iret (fV, fA, fB, fO, fP, fF, nr) hx hb hr hlocks ⟨rfl, rfl, rfl, rfl, rfl, rfl, rfl, rfl⟩ hP hD hS dX9_row_33
      · have hE := itT hE c_20
        refine lv_iload hx hb dX9_row_23 (lv_at hl 4 rfl) ?_
        refine ro_call (va_runS (As := [.int p3]) (rest := []) ⟨hx, hb, hml, hown, hts⟩ (c_X9_isHour l D cI cZ cR _ p3) (va_cwS 1 hts gX9_row_X9_isHour rfl rfl rfl hd_X9_isHour ⟨(Nat.le_of_ble_eq_true rfl), (Nat.le_of_ble_eq_true rfl)⟩) (po_pre hAM va_P.nil) rfl rfl hl.1 rfl (lv_room (Nat.le_of_ble_eq_true rfl)) dX9_row_25 ⟨(Nat.le_of_ble_eq_true rfl), (Nat.le_of_ble_eq_true rfl)⟩) ?_
        refine w_if_neb (tgt := 34) hx hb dX9_row_28 (by decide) (fun c_28 => ?_) (fun c_28 => ?_)
        · have hE := itT hE c_28
          refine lv_aload_n hx hb dX9_row_34 rfl (lv_at hl 0 rfl) ?_
          refine va_get (D := D) (ci := 7) (v := .int (nI nr)) (C := RX9) (T := TX9) (N := 18) hx hb hts in_X9_row_X9 hown hK hP 0 rfl rfl 8 (by decide) (hts (.fieldLink RX9 72 "WallCountModel" "rows" "I") (List.mem_of_getElem? (i := 1) rfl)) (fun _ h9 => h9) rfl dX9_row_35 ?_
          refine lv_bipush (v := 30) hx hb dX9_row_38 (by decide +kernel) ?_
          refine lv_icmp_ne (tgt := 48) hx hb dX9_row_40 (by decide) (fun c_40 => ?_) (fun c_40 => ?_)
          · have hE := itF hE c_40
            refine lv_aload_n hx hb dX9_row_48 rfl (lv_at hl 0 rfl) ?_
            refine lv_iload_n hx hb dX9_row_49 rfl (lv_at hl 1 rfl) ?_
            refine lv_iload_n hx hb dX9_row_50 rfl (lv_at hl 2 rfl) ?_
            refine lv_iload_n hx hb dX9_row_51 rfl (lv_at hl 3 rfl) ?_
            refine lv_iload hx hb dX9_row_52 (lv_at hl 4 rfl) ?_
            refine lv_iconst (v := 0) hx hb dX9_row_54 (by decide) ?_
            refine wr_call (va_runV (As := [.int p0, .int p1, .int p2, .int p3, .int (bI false)]) (rest := []) ⟨hx, hb, hml, hown, hts⟩ (c_X9_addRow l D cI cZ cR A _ o aS aH aG aR aV aA aB aO aP aF aC nd fs fh sg fg rq fq cl nr fV fA fB fO fP fF cn fC mx p0 p1 p2 p3 false (free_lt hn30 rfl c_40)) (cwV 5 hts gX9_row_X9_addRow rfl rfl rfl ⟨rfl, hd_X9_addRow⟩ ⟨(Nat.le_of_ble_eq_true rfl), (Nat.le_of_ble_eq_true rfl)⟩) (wr_preV hAM hP hD (va_recv hK hP (ci := 7) (q0 := 0) rfl rfl)) rfl rfl hl.1 rfl (lv_room (Nat.le_of_ble_eq_true rfl)) dX9_row_55 ⟨(Nat.le_of_ble_eq_true rfl), (Nat.le_of_ble_eq_true rfl)⟩) hS (fun v u H locs hw hP hD _ hS => ?_)
            obtain ⟨fV_55, fA_55, fB_55, fO_55, fP_55, fF_55, nr_55⟩ := u
            try dsimp only at hw
            obtain ⟨rfl, rfl, rfl, rfl, rfl, rfl, rfl, rfl⟩ := hw
            refine W.eq (g2 := F0 m 58 ls [.int ((x_X9_addRow fV fA fB fO fP fF nr p0 p1 p2 p3 false).1)]) rfl ?_
            refine W.cs (cells' := 0) (slots' := 0) rfl rfl ?_
            have hP : va_P D vwCl (mW cI cZ o aS aH aG aR aV aA aB aO aP aF aC nd fs fh sg fg rq fq cl ((x_X9_addRow fV fA fB fO fP fF nr p0 p1 p2 p3 false).2.2.2.2.2.2.2) ((x_X9_addRow fV fA fB fO fP fF nr p0 p1 p2 p3 false).2.1) ((x_X9_addRow fV fA fB fO fP fF nr p0 p1 p2 p3 false).2.2.1) ((x_X9_addRow fV fA fB fO fP fF nr p0 p1 p2 p3 false).2.2.2.1) ((x_X9_addRow fV fA fB fO fP fF nr p0 p1 p2 p3 false).2.2.2.2.1) ((x_X9_addRow fV fA fB fO fP fF nr p0 p1 p2 p3 false).2.2.2.2.2.1) ((x_X9_addRow fV fA fB fO fP fF nr p0 p1 p2 p3 false).2.2.2.2.2.2.1) cn fC mx) H := hP
            have hD : va_D A (mW cI cZ o aS aH aG aR aV aA aB aO aP aF aC nd fs fh sg fg rq fq cl ((x_X9_addRow fV fA fB fO fP fF nr p0 p1 p2 p3 false).2.2.2.2.2.2.2) ((x_X9_addRow fV fA fB fO fP fF nr p0 p1 p2 p3 false).2.1) ((x_X9_addRow fV fA fB fO fP fF nr p0 p1 p2 p3 false).2.2.1) ((x_X9_addRow fV fA fB fO fP fF nr p0 p1 p2 p3 false).2.2.2.1) ((x_X9_addRow fV fA fB fO fP fF nr p0 p1 p2 p3 false).2.2.2.2.1) ((x_X9_addRow fV fA fB fO fP fF nr p0 p1 p2 p3 false).2.2.2.2.2.1) ((x_X9_addRow fV fA fB fO fP fF nr p0 p1 p2 p3 false).2.2.2.2.2.2.1) cn fC mx) := hD
            subst hE
            exact wr_iret (((x_X9_addRow fV fA fB fO fP fF nr p0 p1 p2 p3 false).2.1), ((x_X9_addRow fV fA fB fO fP fF nr p0 p1 p2 p3 false).2.2.1), ((x_X9_addRow fV fA fB fO fP fF nr p0 p1 p2 p3 false).2.2.2.1), ((x_X9_addRow fV fA fB fO fP fF nr p0 p1 p2 p3 false).2.2.2.2.1), ((x_X9_addRow fV fA fB fO fP fF nr p0 p1 p2 p3 false).2.2.2.2.2.1), ((x_X9_addRow fV fA fB fO fP fF nr p0 p1 p2 p3 false).2.2.2.2.2.2.1), ((x_X9_addRow fV fA fB fO fP fF nr p0 p1 p2 p3 false).2.2.2.2.2.2.2)) hx hb hr hlocks ⟨rfl, rfl, rfl, rfl, rfl, rfl, rfl, rfl⟩ hP hD hS dX9_row_58
          · have hE := itT hE c_40
            refine lv_bipush (v := (-4)) hx hb dX9_row_43 (by decide +kernel) ?_
            refine lv_goto (tgt := 58) hx hb dX9_row_45 (by decide) ?_
            subst hE
            exact wr_iret (fV, fA, fB, fO, fP, fF, nr) hx hb hr hlocks ⟨rfl, rfl, rfl, rfl, rfl, rfl, rfl, rfl⟩ hP hD hS dX9_row_58
        · have hE := itF hE c_28
          refine lv_bipush (v := (-2)) hx hb dX9_row_31 (by decide +kernel) ?_
          subst hE
          exact wr_iret (fV, fA, fB, fO, fP, fF, nr) hx hb hr hlocks ⟨rfl, rfl, rfl, rfl, rfl, rfl, rfl, rfl⟩ hP hD hS dX9_row_33
  · have hE := itF hE c_4
    refine lv_iconst (v := (-1)) hx hb dX9_row_7 (by decide) ?_
    subst hE
    exact wr_iret (fV, fA, fB, fO, fP, fF, nr) hx hb hr hlocks ⟨rfl, rfl, rfl, rfl, rfl, rfl, rfl, rfl⟩ hP hD hS dX9_row_8

theorem hd_X9_attach : yX9_attach.cls ≠ "java/lang/invoke/MethodHandle" ∧ yX9_attach.cls ≠ "java/lang/invoke/VarHandle" ∧ (parseMethodDescriptor yX9_attach.desc).map (fun d => d.parameters.length) = some 5 := by decide +kernel
def x_X9_attach (nr : Nat) (fP : Nat → Int32) (fF : Nat → Int32) (p0 : Int32) (p1 : Int32) (p2 : Int32) (p3 : Int32) (p4 : Int32) : Int32 × (Nat → Int32) × (Nat → Int32) := (if (x_X9_isRow nr p0) = true then (if (x_X9_isTold p1) = true then (if (x_X9_isTold p2) = true then (if (x_X9_isTold p3) = true then (if (x_X9_isTold p4) = true then (if (fP (ix p0)) = 0 then (1, (upd fP (ix p0) (bI true)), (upd (upd (upd (upd fF (ix (4 * p0)) p1) (ix ((4 * p0) + 1)) p2) (ix ((4 * p0) + 2)) p3) (ix ((4 * p0) + 3)) p4)) else ((-3), fP, fF)) else ((-2), fP, fF)) else ((-2), fP, fF)) else ((-2), fP, fF)) else ((-2), fP, fF)) else ((-1), fP, fF))
def rm_X9_attach : Room := { frames := 2, cells := 0, slots := 0, locals := 43 }
abbrev pq_X9_attach (D : va_G) (cI cZ cR : ClassId) (A : Nat → Prop) (o aS aH aG aR aV aA aB aO aP aF aC : Nat) (nd : Int32) (fs : Nat → Int32) (fh : Nat → Int32) (sg : Nat) (fg : Nat → Int32) (rq : Nat) (fq : Nat → Int32) (cl : Int32) (nr : Nat) (fV : Nat → Int32) (fA : Nat → Int32) (fB : Nat → Int32) (fO : Nat → Int32) (fP : Nat → Int32) (fF : Nat → Int32) (cn : Nat) (fC : Nat → Int32) (mx : Int32) (Rv : Int32 × (Nat → Int32) × (Nat → Int32)) : Array Value → State → Outcome → State → Prop := wr_Q D (fun (v : Option Value) (u : (Nat → Int32) × (Nat → Int32)) => v = some (.int Rv.1) ∧ u.1 = Rv.2.1 ∧ u.2 = Rv.2.2) (fun u => mW cI cZ o aS aH aG aR aV aA aB aO aP aF aC nd fs fh sg fg rq fq cl nr fV fA fB fO u.1 u.2 cn fC mx) A
theorem in_X9_attach_X9 : ∀ w ∈ wsX90, w ∈ wsX9_attach := fun _ h => List.mem_cons_of_mem _ (List.mem_append_right _ h)
set_option maxHeartbeats 4000000 in
set_option maxRecDepth 100000 in
theorem c_X9_attach (l : Launch) (D : va_G) (cI cZ cR : ClassId) (A : Nat → Prop) (H0 : Heap) (o aS aH aG aR aV aA aB aO aP aF aC : Nat) (nd : Int32) (fs : Nat → Int32) (fh : Nat → Int32) (sg : Nat) (fg : Nat → Int32) (rq : Nat) (fq : Nat → Int32) (cl : Int32) (nr : Nat) (fV : Nat → Int32) (fA : Nat → Int32) (fB : Nat → Int32) (fO : Nat → Int32) (fP : Nat → Int32) (fF : Nat → Int32) (cn : Nat) (fC : Nat → Int32) (mx : Int32) (p0 : Int32) (p1 : Int32) (p2 : Int32) (p3 : Int32) (p4 : Int32) (hn30 : nr ≤ 30) : Met l yX9_attach wsX9_attach rm_X9_attach (wr_P D cI cZ cR [.ref o, .int p0, .int p1, .int p2, .int p3, .int p4] (mW cI cZ o aS aH aG aR aV aA aB aO aP aF aC nd fs fh sg fg rq fq cl nr fV fA fB fO fP fF cn fC mx) A H0) (pq_X9_attach D cI cZ cR A o aS aH aG aR aV aA aB aO aP aF aC nd fs fh sg fg rq fq cl nr fV fA fB fO fP fF cn fC mx (x_X9_attach nr fP fF p0 p1 p2 p3 p4)) 0 0 A := by
  refine Met.ofW (cc := cX9_attach) (maxL := 6) (ret := (some .int)) (by decide +kernel) rfl ?_
  intro p e s m args below meth c s₁ B hml hv
  obtain ⟨rfl, rfl, hAM, hP, hD⟩ := hv
  have hx := B.exec
  have hb := B.bytes
  have hr := B.returns
  have hts := atoms_spec (ws := wsX9_attach) B.pre
  have hown : s.vm.findClass RX9 = some m.cls := findClass_of_methodNamed B.named
  have hlocks := B.notSynchronized
  have hK := hAM.1
  have hS : va_S A s.heap s.heap [] := va_S.rf
  generalize hE : (x_X9_attach nr fP fF p0 p1 p2 p3 p4) = Rv
  rw [x_X9_attach] at hE
  have hl := lv_entry ([.ref o, .int p0, .int p1, .int p2, .int p3, .int p4]) (n := 6) (Nat.le_of_ble_eq_true rfl)
  rw [lg_entry_eq]
  generalize (lg_sl ([.ref o, .int p0, .int p1, .int p2, .int p3, .int p4]) ++ List.replicate (6 - (lg_sl ([.ref o, .int p0, .int p1, .int p2, .int p3, .int p4])).length) Slot.unset).toArray = ls at hl ⊢
  have hl : lv_has ls 6 [(0, .ref o), (1, .int p0), (2, .int p1), (3, .int p2), (4, .int p3), (5, .int p4)] := hl
  refine lv_aload_n hx hb dX9_attach_0 rfl (lv_at hl 0 rfl) ?_
  refine lv_iload_n hx hb dX9_attach_1 rfl (lv_at hl 1 rfl) ?_
  refine ro_call (va_runV (As := [.int p0]) (rest := []) ⟨hx, hb, hml, hown, hts⟩ (c_X9_isRow l D cI cZ cR _ o aS aH aG aR aV aA aB aO aP aF aC nd fs fh sg fg rq fq cl nr fV fA fB fO fP fF cn fC mx p0) (cwV 1 hts gX9_attach_X9_isRow rfl rfl rfl ⟨rfl, hd_X9_isRow⟩ ⟨(Nat.le_of_ble_eq_true rfl), (Nat.le_of_ble_eq_true rfl)⟩) (po_preV hAM (hP.sub [0, 1, 2, 3, 4, 5, 6, 7, 8, 9, 10, 11] rfl) (va_recv hK hP (ci := 7) (q0 := 0) rfl rfl)) rfl rfl hl.1 rfl (lv_room (Nat.le_of_ble_eq_true rfl)) dX9_attach_2 ⟨(Nat.le_of_ble_eq_true rfl), (Nat.le_of_ble_eq_true rfl)⟩) ?_
  refine w_if_neb (tgt := 10) hx hb dX9_attach_5 (by decide) (fun c_5 => ?_) (fun c_5 => ?_)
  · have hE := itT hE c_5
    refine lv_iload_n hx hb dX9_attach_10 rfl (lv_at hl 2 rfl) ?_
    refine ro_call (va_runS (As := [.int p1]) (rest := []) ⟨hx, hb, hml, hown, hts⟩ (c_X9_isTold l D cI cZ cR _ p1) (va_cwS 1 hts gX9_attach_X9_isTold rfl rfl rfl hd_X9_isTold ⟨(Nat.le_of_ble_eq_true rfl), (Nat.le_of_ble_eq_true rfl)⟩) (po_pre hAM va_P.nil) rfl rfl hl.1 rfl (lv_room (Nat.le_of_ble_eq_true rfl)) dX9_attach_11 ⟨(Nat.le_of_ble_eq_true rfl), (Nat.le_of_ble_eq_true rfl)⟩) ?_
    refine w_if_eqb (tgt := 40) hx hb dX9_attach_14 (by decide) (fun c_14 => ?_) (fun c_14 => ?_)
    · have hE := itF hE c_14
      refine lv_bipush (v := (-2)) hx hb dX9_attach_40 (by decide +kernel) ?_
      subst hE
      exact wr_iret (fP, fF) hx hb hr hlocks ⟨rfl, rfl, rfl⟩ hP hD hS dX9_attach_42
    · have hE := itT hE c_14
      refine lv_iload_n hx hb dX9_attach_17 rfl (lv_at hl 3 rfl) ?_
      refine ro_call (va_runS (As := [.int p2]) (rest := []) ⟨hx, hb, hml, hown, hts⟩ (c_X9_isTold l D cI cZ cR _ p2) (va_cwS 1 hts gX9_attach_X9_isTold rfl rfl rfl hd_X9_isTold ⟨(Nat.le_of_ble_eq_true rfl), (Nat.le_of_ble_eq_true rfl)⟩) (po_pre hAM va_P.nil) rfl rfl hl.1 rfl (lv_room (Nat.le_of_ble_eq_true rfl)) dX9_attach_18 ⟨(Nat.le_of_ble_eq_true rfl), (Nat.le_of_ble_eq_true rfl)⟩) ?_
      refine w_if_eqb (tgt := 40) hx hb dX9_attach_21 (by decide) (fun c_21 => ?_) (fun c_21 => ?_)
      · have hE := itF hE c_21
        refine lv_bipush (v := (-2)) hx hb dX9_attach_40 (by decide +kernel) ?_
        subst hE
        exact wr_iret (fP, fF) hx hb hr hlocks ⟨rfl, rfl, rfl⟩ hP hD hS dX9_attach_42
      · have hE := itT hE c_21
        refine lv_iload hx hb dX9_attach_24 (lv_at hl 4 rfl) ?_
        refine ro_call (va_runS (As := [.int p3]) (rest := []) ⟨hx, hb, hml, hown, hts⟩ (c_X9_isTold l D cI cZ cR _ p3) (va_cwS 1 hts gX9_attach_X9_isTold rfl rfl rfl hd_X9_isTold ⟨(Nat.le_of_ble_eq_true rfl), (Nat.le_of_ble_eq_true rfl)⟩) (po_pre hAM va_P.nil) rfl rfl hl.1 rfl (lv_room (Nat.le_of_ble_eq_true rfl)) dX9_attach_26 ⟨(Nat.le_of_ble_eq_true rfl), (Nat.le_of_ble_eq_true rfl)⟩) ?_
        refine w_if_eqb (tgt := 40) hx hb dX9_attach_29 (by decide) (fun c_29 => ?_) (fun c_29 => ?_)
        · have hE := itF hE c_29
          refine lv_bipush (v := (-2)) hx hb dX9_attach_40 (by decide +kernel) ?_
          subst hE
          exact wr_iret (fP, fF) hx hb hr hlocks ⟨rfl, rfl, rfl⟩ hP hD hS dX9_attach_42
        · have hE := itT hE c_29
          refine lv_iload hx hb dX9_attach_32 (lv_at hl 5 rfl) ?_
          refine ro_call (va_runS (As := [.int p4]) (rest := []) ⟨hx, hb, hml, hown, hts⟩ (c_X9_isTold l D cI cZ cR _ p4) (va_cwS 1 hts gX9_attach_X9_isTold rfl rfl rfl hd_X9_isTold ⟨(Nat.le_of_ble_eq_true rfl), (Nat.le_of_ble_eq_true rfl)⟩) (po_pre hAM va_P.nil) rfl rfl hl.1 rfl (lv_room (Nat.le_of_ble_eq_true rfl)) dX9_attach_34 ⟨(Nat.le_of_ble_eq_true rfl), (Nat.le_of_ble_eq_true rfl)⟩) ?_
          refine w_if_neb (tgt := 43) hx hb dX9_attach_37 (by decide) (fun c_37 => ?_) (fun c_37 => ?_)
          · have hE := itT hE c_37
            refine lv_aload_n hx hb dX9_attach_43 rfl (lv_at hl 0 rfl) ?_
            refine va_get (D := D) (ci := 7) (v := .ref aP) (C := RX9) (T := TX9) (N := 18) hx hb hts in_X9_attach_X9 hown hK hP 0 rfl rfl 13 (by decide) (hts (.fieldLink RX9 41 "WallCountModel" "isProved" "[Z") (List.mem_of_getElem? (i := 1) rfl)) (fun _ h9 => h9) rfl dX9_attach_44 ?_
            refine lv_iload_n hx hb dX9_attach_47 rfl (lv_at hl 1 rfl) ?_
            refine va_zald hx hb hK hP 9 1 rfl rfl (in_vp hn30 (isRow_in hn30 c_5)) dX9_attach_48 ?_
            refine lv_if_eq (tgt := 55) hx hb dX9_attach_49 (by decide) (fun c_49 => ?_) (fun c_49 => ?_)
            · have hE := itT hE c_49
              refine lv_aload_n hx hb dX9_attach_55 rfl (lv_at hl 0 rfl) ?_
              refine va_get (D := D) (ci := 7) (v := .ref aP) (C := RX9) (T := TX9) (N := 18) hx hb hts in_X9_attach_X9 hown hK hP 0 rfl rfl 13 (by decide) (hts (.fieldLink RX9 41 "WallCountModel" "isProved" "[Z") (List.mem_of_getElem? (i := 1) rfl)) (fun _ h9 => h9) rfl dX9_attach_56 ?_
              refine lv_iload_n hx hb dX9_attach_59 rfl (lv_at hl 1 rfl) ?_
              refine lv_iconst (v := 1) hx hb dX9_attach_60 (by decide) ?_
              refine w_zast (b := true) hx hb hK hP hD hS 9 1 rfl rfl (in_vp hn30 (isRow_in hn30 c_5)) dX9_attach_61 (fun H locs hP hD hS => ?_)
              have hP : va_P D vwCl (mW cI cZ o aS aH aG aR aV aA aB aO aP aF aC nd fs fh sg fg rq fq cl nr fV fA fB fO (upd fP (ix p0) (bI true)) fF cn fC mx) H := hP
              have hD : va_D A (mW cI cZ o aS aH aG aR aV aA aB aO aP aF aC nd fs fh sg fg rq fq cl nr fV fA fB fO (upd fP (ix p0) (bI true)) fF cn fC mx) := hD
              refine lv_aload_n hx hb dX9_attach_62 rfl (lv_at hl 0 rfl) ?_
              refine va_get (D := D) (ci := 7) (v := .ref aF) (C := RX9) (T := TX9) (N := 18) hx hb hts in_X9_attach_X9 hown hK hP 0 rfl rfl 14 (by decide) (hts (.fieldLink RX9 45 "WallCountModel" "proof" "[I") (List.mem_of_getElem? (i := 2) rfl)) (fun _ h9 => h9) rfl dX9_attach_63 ?_
              refine lv_iconst (v := 4) hx hb dX9_attach_66 (by decide) ?_
              refine lv_iload_n hx hb dX9_attach_67 rfl (lv_at hl 1 rfl) ?_
              refine lv_imul hx hb dX9_attach_68 ?_
              refine lv_iload_n hx hb dX9_attach_69 rfl (lv_at hl 2 rfl) ?_
              refine va_iast hx hb hK hP hD hS 10 0 rfl rfl (att_in0 hn30 (isRow_in hn30 c_5)) dX9_attach_70 (fun H locs hP hD hS => ?_)
              have hP : va_P D vwCl (mW cI cZ o aS aH aG aR aV aA aB aO aP aF aC nd fs fh sg fg rq fq cl nr fV fA fB fO (upd fP (ix p0) (bI true)) (upd fF (ix (4 * p0)) p1) cn fC mx) H := hP
              have hD : va_D A (mW cI cZ o aS aH aG aR aV aA aB aO aP aF aC nd fs fh sg fg rq fq cl nr fV fA fB fO (upd fP (ix p0) (bI true)) (upd fF (ix (4 * p0)) p1) cn fC mx) := hD
              refine lv_aload_n hx hb dX9_attach_71 rfl (lv_at hl 0 rfl) ?_
              refine va_get (D := D) (ci := 7) (v := .ref aF) (C := RX9) (T := TX9) (N := 18) hx hb hts in_X9_attach_X9 hown hK hP 0 rfl rfl 14 (by decide) (hts (.fieldLink RX9 45 "WallCountModel" "proof" "[I") (List.mem_of_getElem? (i := 2) rfl)) (fun _ h9 => h9) rfl dX9_attach_72 ?_
              refine lv_iconst (v := 4) hx hb dX9_attach_75 (by decide) ?_
              refine lv_iload_n hx hb dX9_attach_76 rfl (lv_at hl 1 rfl) ?_
              refine lv_imul hx hb dX9_attach_77 ?_
              refine lv_iconst (v := 1) hx hb dX9_attach_78 (by decide) ?_
              refine lv_iadd hx hb dX9_attach_79 ?_
              refine lv_iload_n hx hb dX9_attach_80 rfl (lv_at hl 3 rfl) ?_
              refine va_iast hx hb hK hP hD hS 10 0 rfl rfl (att_in 1 rfl (by decide) hn30 (isRow_in hn30 c_5)) dX9_attach_81 (fun H locs hP hD hS => ?_)
              have hP : va_P D vwCl (mW cI cZ o aS aH aG aR aV aA aB aO aP aF aC nd fs fh sg fg rq fq cl nr fV fA fB fO (upd fP (ix p0) (bI true)) (upd (upd fF (ix (4 * p0)) p1) (ix ((4 * p0) + 1)) p2) cn fC mx) H := hP
              have hD : va_D A (mW cI cZ o aS aH aG aR aV aA aB aO aP aF aC nd fs fh sg fg rq fq cl nr fV fA fB fO (upd fP (ix p0) (bI true)) (upd (upd fF (ix (4 * p0)) p1) (ix ((4 * p0) + 1)) p2) cn fC mx) := hD
              refine lv_aload_n hx hb dX9_attach_82 rfl (lv_at hl 0 rfl) ?_
              refine va_get (D := D) (ci := 7) (v := .ref aF) (C := RX9) (T := TX9) (N := 18) hx hb hts in_X9_attach_X9 hown hK hP 0 rfl rfl 14 (by decide) (hts (.fieldLink RX9 45 "WallCountModel" "proof" "[I") (List.mem_of_getElem? (i := 2) rfl)) (fun _ h9 => h9) rfl dX9_attach_83 ?_
              refine lv_iconst (v := 4) hx hb dX9_attach_86 (by decide) ?_
              refine lv_iload_n hx hb dX9_attach_87 rfl (lv_at hl 1 rfl) ?_
              refine lv_imul hx hb dX9_attach_88 ?_
              refine lv_iconst (v := 2) hx hb dX9_attach_89 (by decide) ?_
              refine lv_iadd hx hb dX9_attach_90 ?_
              refine lv_iload hx hb dX9_attach_91 (lv_at hl 4 rfl) ?_
              refine va_iast hx hb hK hP hD hS 10 0 rfl rfl (att_in 2 rfl (by decide) hn30 (isRow_in hn30 c_5)) dX9_attach_93 (fun H locs hP hD hS => ?_)
              have hP : va_P D vwCl (mW cI cZ o aS aH aG aR aV aA aB aO aP aF aC nd fs fh sg fg rq fq cl nr fV fA fB fO (upd fP (ix p0) (bI true)) (upd (upd (upd fF (ix (4 * p0)) p1) (ix ((4 * p0) + 1)) p2) (ix ((4 * p0) + 2)) p3) cn fC mx) H := hP
              have hD : va_D A (mW cI cZ o aS aH aG aR aV aA aB aO aP aF aC nd fs fh sg fg rq fq cl nr fV fA fB fO (upd fP (ix p0) (bI true)) (upd (upd (upd fF (ix (4 * p0)) p1) (ix ((4 * p0) + 1)) p2) (ix ((4 * p0) + 2)) p3) cn fC mx) := hD
              refine lv_aload_n hx hb dX9_attach_94 rfl (lv_at hl 0 rfl) ?_
              refine va_get (D := D) (ci := 7) (v := .ref aF) (C := RX9) (T := TX9) (N := 18) hx hb hts in_X9_attach_X9 hown hK hP 0 rfl rfl 14 (by decide) (hts (.fieldLink RX9 45 "WallCountModel" "proof" "[I") (List.mem_of_getElem? (i := 2) rfl)) (fun _ h9 => h9) rfl dX9_attach_95 ?_
              refine lv_iconst (v := 4) hx hb dX9_attach_98 (by decide) ?_
              refine lv_iload_n hx hb dX9_attach_99 rfl (lv_at hl 1 rfl) ?_
              refine lv_imul hx hb dX9_attach_100 ?_
              refine lv_iconst (v := 3) hx hb dX9_attach_101 (by decide) ?_
              refine lv_iadd hx hb dX9_attach_102 ?_
              refine lv_iload hx hb dX9_attach_103 (lv_at hl 5 rfl) ?_
              refine va_iast hx hb hK hP hD hS 10 0 rfl rfl (att_in 3 rfl (by decide) hn30 (isRow_in hn30 c_5)) dX9_attach_105 (fun H locs hP hD hS => ?_)
              have hP : va_P D vwCl (mW cI cZ o aS aH aG aR aV aA aB aO aP aF aC nd fs fh sg fg rq fq cl nr fV fA fB fO (upd fP (ix p0) (bI true)) (upd (upd (upd (upd fF (ix (4 * p0)) p1) (ix ((4 * p0) + 1)) p2) (ix ((4 * p0) + 2)) p3) (ix ((4 * p0) + 3)) p4) cn fC mx) H := hP
              have hD : va_D A (mW cI cZ o aS aH aG aR aV aA aB aO aP aF aC nd fs fh sg fg rq fq cl nr fV fA fB fO (upd fP (ix p0) (bI true)) (upd (upd (upd (upd fF (ix (4 * p0)) p1) (ix ((4 * p0) + 1)) p2) (ix ((4 * p0) + 2)) p3) (ix ((4 * p0) + 3)) p4) cn fC mx) := hD
              refine lv_iconst (v := 1) hx hb dX9_attach_106 (by decide) ?_
              subst hE
              exact wr_iret ((upd fP (ix p0) (bI true)), (upd (upd (upd (upd fF (ix (4 * p0)) p1) (ix ((4 * p0) + 1)) p2) (ix ((4 * p0) + 2)) p3) (ix ((4 * p0) + 3)) p4)) hx hb hr hlocks ⟨rfl, rfl, rfl⟩ hP hD hS dX9_attach_107
            · have hE := itF hE c_49
              refine lv_bipush (v := (-3)) hx hb dX9_attach_52 (by decide +kernel) ?_
              subst hE
              exact wr_iret (fP, fF) hx hb hr hlocks ⟨rfl, rfl, rfl⟩ hP hD hS dX9_attach_54
          · have hE := itF hE c_37
            refine lv_bipush (v := (-2)) hx hb dX9_attach_40 (by decide +kernel) ?_
            subst hE
            exact wr_iret (fP, fF) hx hb hr hlocks ⟨rfl, rfl, rfl⟩ hP hD hS dX9_attach_42
  · have hE := itF hE c_5
    refine lv_iconst (v := (-1)) hx hb dX9_attach_8 (by decide) ?_
    subst hE
    exact wr_iret (fP, fF) hx hb hr hlocks ⟨rfl, rfl, rfl⟩ hP hD hS dX9_attach_9

theorem hd_X9_cast : yX9_cast.cls ≠ "java/lang/invoke/MethodHandle" ∧ yX9_cast.cls ≠ "java/lang/invoke/VarHandle" ∧ (parseMethodDescriptor yX9_cast.desc).map (fun d => d.parameters.length) = some 7 := by decide +kernel
def x_X9_cast_L100 (fs : Nat → Int32) (fV : Nat → Int32) (fA : Nat → Int32) (fB : Nat → Int32) (fO : Nat → Int32) (fP : Nat → Int32) (nr : Nat) (p0 : Int32) (p1 : Int32) (p2 : Int32) (p3 : Int32) (p4 : Int32) (p5 : Int32) (p6 : Int32) : Nat → Int32 → Int32 → (Nat → Int32) → Int32 × (Nat → Int32) × (Nat → Int32) × (Nat → Int32) × (Nat → Int32) × (Nat → Int32) × (Nat → Int32) × Nat
  | 0, v8, v9, fF => (0, fV, fA, fB, fO, fP, fF, nr)
  | n + 1, v8, v9, fF => (if 4 ≤ v9 then (v8, ((x_X9_addRow fV fA fB fO fP fF nr p0 (x_X9_sealOf fs p1 p3 0) (x_X9_sealOf fs p1 p3 1) p2 true).2.1), ((x_X9_addRow fV fA fB fO fP fF nr p0 (x_X9_sealOf fs p1 p3 0) (x_X9_sealOf fs p1 p3 1) p2 true).2.2.1), ((x_X9_addRow fV fA fB fO fP fF nr p0 (x_X9_sealOf fs p1 p3 0) (x_X9_sealOf fs p1 p3 1) p2 true).2.2.2.1), ((x_X9_addRow fV fA fB fO fP fF nr p0 (x_X9_sealOf fs p1 p3 0) (x_X9_sealOf fs p1 p3 1) p2 true).2.2.2.2.1), ((x_X9_addRow fV fA fB fO fP fF nr p0 (x_X9_sealOf fs p1 p3 0) (x_X9_sealOf fs p1 p3 1) p2 true).2.2.2.2.2.1), fF, ((x_X9_addRow fV fA fB fO fP fF nr p0 (x_X9_sealOf fs p1 p3 0) (x_X9_sealOf fs p1 p3 1) p2 true).2.2.2.2.2.2.2)) else (x_X9_cast_L100 fs fV fA fB fO fP nr p0 p1 p2 p3 p4 p5 p6 n v8 (v9 + 1) (upd fF (ix ((4 * v8) + v9)) (x_X9_proved fs p1 p3 p4 p5 p6 v9))))
def x_X9_cast (fs : Nat → Int32) (fV : Nat → Int32) (fA : Nat → Int32) (fB : Nat → Int32) (fO : Nat → Int32) (fP : Nat → Int32) (fF : Nat → Int32) (nr : Nat) (p0 : Int32) (p1 : Int32) (p2 : Int32) (p3 : Int32) (p4 : Int32) (p5 : Int32) (p6 : Int32) : Int32 × (Nat → Int32) × (Nat → Int32) × (Nat → Int32) × (Nat → Int32) × (Nat → Int32) × (Nat → Int32) × Nat := (if (x_X9_isVoter p0) = true then (if (x_X9_in p1 0 1) = true then (if (x_X9_isHour p2) = true then (if (x_X9_isPower p3) = true then (if (x_X9_isPower p4) = true then (if (x_X9_isPower p5) = true then (if (x_X9_isPower p6) = true then (if (nI nr) = 30 then ((-4), fV, fA, fB, fO, fP, fF, nr) else (x_X9_cast_L100 fs fV fA fB fO fP nr p0 p1 p2 p3 p4 p5 p6 (5) ((x_X9_addRow fV fA fB fO fP fF nr p0 (x_X9_sealOf fs p1 p3 0) (x_X9_sealOf fs p1 p3 1) p2 true).1) 0 ((x_X9_addRow fV fA fB fO fP fF nr p0 (x_X9_sealOf fs p1 p3 0) (x_X9_sealOf fs p1 p3 1) p2 true).2.2.2.2.2.2.1))) else ((-2), fV, fA, fB, fO, fP, fF, nr)) else ((-2), fV, fA, fB, fO, fP, fF, nr)) else ((-2), fV, fA, fB, fO, fP, fF, nr)) else ((-2), fV, fA, fB, fO, fP, fF, nr)) else ((-2), fV, fA, fB, fO, fP, fF, nr)) else ((-2), fV, fA, fB, fO, fP, fF, nr)) else ((-1), fV, fA, fB, fO, fP, fF, nr))
def rm_X9_cast : Room := { frames := 5, cells := 0, slots := 0, locals := 125 }
abbrev pq_X9_cast (D : va_G) (cI cZ cR : ClassId) (A : Nat → Prop) (o aS aH aG aR aV aA aB aO aP aF aC : Nat) (nd : Int32) (fs : Nat → Int32) (fh : Nat → Int32) (sg : Nat) (fg : Nat → Int32) (rq : Nat) (fq : Nat → Int32) (cl : Int32) (nr : Nat) (fV : Nat → Int32) (fA : Nat → Int32) (fB : Nat → Int32) (fO : Nat → Int32) (fP : Nat → Int32) (fF : Nat → Int32) (cn : Nat) (fC : Nat → Int32) (mx : Int32) (Rv : Int32 × (Nat → Int32) × (Nat → Int32) × (Nat → Int32) × (Nat → Int32) × (Nat → Int32) × (Nat → Int32) × Nat) : Array Value → State → Outcome → State → Prop := wr_Q D (fun (v : Option Value) (u : (Nat → Int32) × (Nat → Int32) × (Nat → Int32) × (Nat → Int32) × (Nat → Int32) × (Nat → Int32) × Nat × Int32) => v = some (.int Rv.1) ∧ u.1 = Rv.2.1 ∧ u.2.1 = Rv.2.2.1 ∧ u.2.2.1 = Rv.2.2.2.1 ∧ u.2.2.2.1 = Rv.2.2.2.2.1 ∧ u.2.2.2.2.1 = Rv.2.2.2.2.2.1 ∧ u.2.2.2.2.2.1 = Rv.2.2.2.2.2.2.1 ∧ u.2.2.2.2.2.2.1 = Rv.2.2.2.2.2.2.2) (fun u => mW cI cZ o aS aH aG aR aV aA aB aO aP aF aC nd fs fh sg fg rq fq cl u.2.2.2.2.2.2.1 u.1 u.2.1 u.2.2.1 u.2.2.2.1 u.2.2.2.2.1 u.2.2.2.2.2.1 cn fC u.2.2.2.2.2.2.2) A
theorem in_X9_cast_X9 : ∀ w ∈ wsX90, w ∈ wsX9_cast := fun _ h => List.mem_cons_of_mem _ (List.mem_append_right _ h)
set_option maxHeartbeats 4000000 in
set_option maxRecDepth 100000 in
theorem c_X9_cast (l : Launch) (D : va_G) (cI cZ cR : ClassId) (A : Nat → Prop) (H0 : Heap) (o aS aH aG aR aV aA aB aO aP aF aC : Nat) (nd : Int32) (fs : Nat → Int32) (fh : Nat → Int32) (sg : Nat) (fg : Nat → Int32) (rq : Nat) (fq : Nat → Int32) (cl : Int32) (nr : Nat) (fV : Nat → Int32) (fA : Nat → Int32) (fB : Nat → Int32) (fO : Nat → Int32) (fP : Nat → Int32) (fF : Nat → Int32) (cn : Nat) (fC : Nat → Int32) (mx : Int32) (p0 : Int32) (p1 : Int32) (p2 : Int32) (p3 : Int32) (p4 : Int32) (p5 : Int32) (p6 : Int32) (hn30 : nr ≤ 30) : Met l yX9_cast wsX9_cast rm_X9_cast (wr_P D cI cZ cR [.ref o, .int p0, .int p1, .int p2, .int p3, .int p4, .int p5, .int p6] (mW cI cZ o aS aH aG aR aV aA aB aO aP aF aC nd fs fh sg fg rq fq cl nr fV fA fB fO fP fF cn fC mx) A H0) (pq_X9_cast D cI cZ cR A o aS aH aG aR aV aA aB aO aP aF aC nd fs fh sg fg rq fq cl nr fV fA fB fO fP fF cn fC mx (x_X9_cast fs fV fA fB fO fP fF nr p0 p1 p2 p3 p4 p5 p6)) 0 0 A := by
  refine Met.ofW (cc := cX9_cast) (maxL := 10) (ret := (some .int)) (by decide +kernel) rfl ?_
  intro p e s m args below meth c s₁ B hml hv
  obtain ⟨rfl, rfl, hAM, hP, hD⟩ := hv
  have hx := B.exec
  have hb := B.bytes
  have hr := B.returns
  have hts := atoms_spec (ws := wsX9_cast) B.pre
  have hown : s.vm.findClass RX9 = some m.cls := findClass_of_methodNamed B.named
  have hlocks := B.notSynchronized
  have hK := hAM.1
  have hS : va_S A s.heap s.heap [] := va_S.rf
  generalize hE : (x_X9_cast fs fV fA fB fO fP fF nr p0 p1 p2 p3 p4 p5 p6) = Rv
  rw [x_X9_cast] at hE
  have hl := lv_entry ([.ref o, .int p0, .int p1, .int p2, .int p3, .int p4, .int p5, .int p6]) (n := 10) (Nat.le_of_ble_eq_true rfl)
  rw [lg_entry_eq]
  generalize (lg_sl ([.ref o, .int p0, .int p1, .int p2, .int p3, .int p4, .int p5, .int p6]) ++ List.replicate (10 - (lg_sl ([.ref o, .int p0, .int p1, .int p2, .int p3, .int p4, .int p5, .int p6])).length) Slot.unset).toArray = ls at hl ⊢
  have hl : lv_has ls 10 [(0, .ref o), (1, .int p0), (2, .int p1), (3, .int p2), (4, .int p3), (5, .int p4), (6, .int p5), (7, .int p6)] := hl
  refine lv_iload_n hx hb dX9_cast_0 rfl (lv_at hl 1 rfl) ?_
  refine ro_call (va_runS (As := [.int p0]) (rest := []) ⟨hx, hb, hml, hown, hts⟩ (c_X9_isVoter l D cI cZ cR _ p0) (va_cwS 1 hts gX9_cast_X9_isVoter rfl rfl rfl hd_X9_isVoter ⟨(Nat.le_of_ble_eq_true rfl), (Nat.le_of_ble_eq_true rfl)⟩) (po_pre hAM va_P.nil) rfl rfl hl.1 rfl (lv_room (Nat.le_of_ble_eq_true rfl)) dX9_cast_1 ⟨(Nat.le_of_ble_eq_true rfl), (Nat.le_of_ble_eq_true rfl)⟩) ?_
  refine w_if_neb (tgt := 9) hx hb dX9_cast_4 (by decide) (fun c_4 => ?_) (fun c_4 => ?_)
  · have hE := itT hE c_4
    refine lv_iload_n hx hb dX9_cast_9 rfl (lv_at hl 2 rfl) ?_
    refine lv_iconst (v := 0) hx hb dX9_cast_10 (by decide) ?_
    refine lv_iconst (v := 1) hx hb dX9_cast_11 (by decide) ?_
    refine ro_call (va_runS (As := [.int p1, .int 0, .int 1]) (rest := []) ⟨hx, hb, hml, hown, hts⟩ (c_X9_in l D cI cZ cR _ p1 0 1) (va_cwS 3 hts gX9_cast_X9_in rfl rfl rfl hd_X9_in ⟨(Nat.le_of_ble_eq_true rfl), (Nat.le_of_ble_eq_true rfl)⟩) (po_pre hAM va_P.nil) rfl rfl hl.1 rfl (lv_room (Nat.le_of_ble_eq_true rfl)) dX9_cast_12 ⟨(Nat.le_of_ble_eq_true rfl), (Nat.le_of_ble_eq_true rfl)⟩) ?_
    refine w_if_eqb (tgt := 57) hx hb dX9_cast_15 (by decide) (fun c_15 => ?_) (fun c_15 => ?_)
    · have hE := itF hE c_15
      refine lv_bipush (v := (-2)) hx hb dX9_cast_57 (by decide +kernel) ?_
      subst hE
      exact wr_iret (fV, fA, fB, fO, fP, fF, nr, mx) hx hb hr hlocks ⟨rfl, rfl, rfl, rfl, rfl, rfl, rfl, rfl⟩ hP hD hS dX9_cast_59
    · have hE := itT hE c_15
      refine lv_iload_n hx hb dX9_cast_18 rfl (lv_at hl 3 rfl) ?_
      refine ro_call (va_runS (As := [.int p2]) (rest := []) ⟨hx, hb, hml, hown, hts⟩ (c_X9_isHour l D cI cZ cR _ p2) (va_cwS 1 hts gX9_cast_X9_isHour rfl rfl rfl hd_X9_isHour ⟨(Nat.le_of_ble_eq_true rfl), (Nat.le_of_ble_eq_true rfl)⟩) (po_pre hAM va_P.nil) rfl rfl hl.1 rfl (lv_room (Nat.le_of_ble_eq_true rfl)) dX9_cast_19 ⟨(Nat.le_of_ble_eq_true rfl), (Nat.le_of_ble_eq_true rfl)⟩) ?_
      refine w_if_eqb (tgt := 57) hx hb dX9_cast_22 (by decide) (fun c_22 => ?_) (fun c_22 => ?_)
      · have hE := itF hE c_22
        refine lv_bipush (v := (-2)) hx hb dX9_cast_57 (by decide +kernel) ?_
        subst hE
        exact wr_iret (fV, fA, fB, fO, fP, fF, nr, mx) hx hb hr hlocks ⟨rfl, rfl, rfl, rfl, rfl, rfl, rfl, rfl⟩ hP hD hS dX9_cast_59
      · have hE := itT hE c_22
        refine lv_iload hx hb dX9_cast_25 (lv_at hl 4 rfl) ?_
        refine ro_call (va_runS (As := [.int p3]) (rest := []) ⟨hx, hb, hml, hown, hts⟩ (c_X9_isPower l D cI cZ cR _ p3) (va_cwS 1 hts gX9_cast_X9_isPower rfl rfl rfl hd_X9_isPower ⟨(Nat.le_of_ble_eq_true rfl), (Nat.le_of_ble_eq_true rfl)⟩) (po_pre hAM va_P.nil) rfl rfl hl.1 rfl (lv_room (Nat.le_of_ble_eq_true rfl)) dX9_cast_27 ⟨(Nat.le_of_ble_eq_true rfl), (Nat.le_of_ble_eq_true rfl)⟩) ?_
        refine w_if_eqb (tgt := 57) hx hb dX9_cast_30 (by decide) (fun c_30 => ?_) (fun c_30 => ?_)
        · have hE := itF hE c_30
          refine lv_bipush (v := (-2)) hx hb dX9_cast_57 (by decide +kernel) ?_
          subst hE
          exact wr_iret (fV, fA, fB, fO, fP, fF, nr, mx) hx hb hr hlocks ⟨rfl, rfl, rfl, rfl, rfl, rfl, rfl, rfl⟩ hP hD hS dX9_cast_59
        · have hE := itT hE c_30
          refine lv_iload hx hb dX9_cast_33 (lv_at hl 5 rfl) ?_
          refine ro_call (va_runS (As := [.int p4]) (rest := []) ⟨hx, hb, hml, hown, hts⟩ (c_X9_isPower l D cI cZ cR _ p4) (va_cwS 1 hts gX9_cast_X9_isPower rfl rfl rfl hd_X9_isPower ⟨(Nat.le_of_ble_eq_true rfl), (Nat.le_of_ble_eq_true rfl)⟩) (po_pre hAM va_P.nil) rfl rfl hl.1 rfl (lv_room (Nat.le_of_ble_eq_true rfl)) dX9_cast_35 ⟨(Nat.le_of_ble_eq_true rfl), (Nat.le_of_ble_eq_true rfl)⟩) ?_
          refine w_if_eqb (tgt := 57) hx hb dX9_cast_38 (by decide) (fun c_38 => ?_) (fun c_38 => ?_)
          · have hE := itF hE c_38
            refine lv_bipush (v := (-2)) hx hb dX9_cast_57 (by decide +kernel) ?_
            subst hE
            exact wr_iret (fV, fA, fB, fO, fP, fF, nr, mx) hx hb hr hlocks ⟨rfl, rfl, rfl, rfl, rfl, rfl, rfl, rfl⟩ hP hD hS dX9_cast_59
          · have hE := itT hE c_38
            refine lv_iload hx hb dX9_cast_41 (lv_at hl 6 rfl) ?_
            refine ro_call (va_runS (As := [.int p5]) (rest := []) ⟨hx, hb, hml, hown, hts⟩ (c_X9_isPower l D cI cZ cR _ p5) (va_cwS 1 hts gX9_cast_X9_isPower rfl rfl rfl hd_X9_isPower ⟨(Nat.le_of_ble_eq_true rfl), (Nat.le_of_ble_eq_true rfl)⟩) (po_pre hAM va_P.nil) rfl rfl hl.1 rfl (lv_room (Nat.le_of_ble_eq_true rfl)) dX9_cast_43 ⟨(Nat.le_of_ble_eq_true rfl), (Nat.le_of_ble_eq_true rfl)⟩) ?_
            refine w_if_eqb (tgt := 57) hx hb dX9_cast_46 (by decide) (fun c_46 => ?_) (fun c_46 => ?_)
            · have hE := itF hE c_46
              refine lv_bipush (v := (-2)) hx hb dX9_cast_57 (by decide +kernel) ?_
              subst hE
              exact wr_iret (fV, fA, fB, fO, fP, fF, nr, mx) hx hb hr hlocks ⟨rfl, rfl, rfl, rfl, rfl, rfl, rfl, rfl⟩ hP hD hS dX9_cast_59
            · have hE := itT hE c_46
              refine lv_iload hx hb dX9_cast_49 (lv_at hl 7 rfl) ?_
              refine ro_call (va_runS (As := [.int p6]) (rest := []) ⟨hx, hb, hml, hown, hts⟩ (c_X9_isPower l D cI cZ cR _ p6) (va_cwS 1 hts gX9_cast_X9_isPower rfl rfl rfl hd_X9_isPower ⟨(Nat.le_of_ble_eq_true rfl), (Nat.le_of_ble_eq_true rfl)⟩) (po_pre hAM va_P.nil) rfl rfl hl.1 rfl (lv_room (Nat.le_of_ble_eq_true rfl)) dX9_cast_51 ⟨(Nat.le_of_ble_eq_true rfl), (Nat.le_of_ble_eq_true rfl)⟩) ?_
              refine w_if_neb (tgt := 60) hx hb dX9_cast_54 (by decide) (fun c_54 => ?_) (fun c_54 => ?_)
              · have hE := itT hE c_54
                refine lv_aload_n hx hb dX9_cast_60 rfl (lv_at hl 0 rfl) ?_
                refine va_get (D := D) (ci := 7) (v := .int (nI nr)) (C := RX9) (T := TX9) (N := 18) hx hb hts in_X9_cast_X9 hown hK hP 0 rfl rfl 8 (by decide) (hts (.fieldLink RX9 72 "WallCountModel" "rows" "I") (List.mem_of_getElem? (i := 1) rfl)) (fun _ h9 => h9) rfl dX9_cast_61 ?_
                refine lv_bipush (v := 30) hx hb dX9_cast_64 (by decide +kernel) ?_
                refine lv_icmp_ne (tgt := 72) hx hb dX9_cast_66 (by decide) (fun c_66 => ?_) (fun c_66 => ?_)
                · have hE := itF hE c_66
                  refine lv_aload_n hx hb dX9_cast_72 rfl (lv_at hl 0 rfl) ?_
                  refine lv_iload_n hx hb dX9_cast_73 rfl (lv_at hl 1 rfl) ?_
                  refine lv_aload_n hx hb dX9_cast_74 rfl (lv_at hl 0 rfl) ?_
                  refine lv_iload_n hx hb dX9_cast_75 rfl (lv_at hl 2 rfl) ?_
                  refine lv_iload hx hb dX9_cast_76 (lv_at hl 4 rfl) ?_
                  refine lv_iconst (v := 0) hx hb dX9_cast_78 (by decide) ?_
                  refine ro_call (va_runV (As := [.int p1, .int p3, .int 0]) (rest := [.int p0, .ref o]) ⟨hx, hb, hml, hown, hts⟩ (c_X9_sealOf l D cI cZ cR _ o aS aH aG aR aV aA aB aO aP aF aC nd fs fh sg fg rq fq cl nr fV fA fB fO fP fF cn fC mx p1 p3 0) (cwV 3 hts gX9_cast_X9_sealOf rfl rfl rfl ⟨rfl, hd_X9_sealOf⟩ ⟨(Nat.le_of_ble_eq_true rfl), (Nat.le_of_ble_eq_true rfl)⟩) (po_preV hAM (hP.sub [0, 1, 2, 3, 4, 5, 6, 7, 8, 9, 10, 11] rfl) (va_recv hK hP (ci := 7) (q0 := 0) rfl rfl)) rfl rfl hl.1 rfl (lv_room (Nat.le_of_ble_eq_true rfl)) dX9_cast_79 ⟨(Nat.le_of_ble_eq_true rfl), (Nat.le_of_ble_eq_true rfl)⟩) ?_
                  refine lv_aload_n hx hb dX9_cast_82 rfl (lv_at hl 0 rfl) ?_
                  refine lv_iload_n hx hb dX9_cast_83 rfl (lv_at hl 2 rfl) ?_
                  refine lv_iload hx hb dX9_cast_84 (lv_at hl 4 rfl) ?_
                  refine lv_iconst (v := 1) hx hb dX9_cast_86 (by decide) ?_
                  refine ro_call (va_runV (As := [.int p1, .int p3, .int 1]) (rest := [.int (x_X9_sealOf fs p1 p3 0), .int p0, .ref o]) ⟨hx, hb, hml, hown, hts⟩ (c_X9_sealOf l D cI cZ cR _ o aS aH aG aR aV aA aB aO aP aF aC nd fs fh sg fg rq fq cl nr fV fA fB fO fP fF cn fC mx p1 p3 1) (cwV 3 hts gX9_cast_X9_sealOf rfl rfl rfl ⟨rfl, hd_X9_sealOf⟩ ⟨(Nat.le_of_ble_eq_true rfl), (Nat.le_of_ble_eq_true rfl)⟩) (po_preV hAM (hP.sub [0, 1, 2, 3, 4, 5, 6, 7, 8, 9, 10, 11] rfl) (va_recv hK hP (ci := 7) (q0 := 0) rfl rfl)) rfl rfl hl.1 rfl (lv_room (Nat.le_of_ble_eq_true rfl)) dX9_cast_87 ⟨(Nat.le_of_ble_eq_true rfl), (Nat.le_of_ble_eq_true rfl)⟩) ?_
                  refine lv_iload_n hx hb dX9_cast_90 rfl (lv_at hl 3 rfl) ?_
                  refine lv_iconst (v := 1) hx hb dX9_cast_91 (by decide) ?_
                  refine wr_call (va_runV (As := [.int p0, .int (x_X9_sealOf fs p1 p3 0), .int (x_X9_sealOf fs p1 p3 1), .int p2, .int (bI true)]) (rest := []) ⟨hx, hb, hml, hown, hts⟩ (c_X9_addRow l D cI cZ cR A _ o aS aH aG aR aV aA aB aO aP aF aC nd fs fh sg fg rq fq cl nr fV fA fB fO fP fF cn fC mx p0 (x_X9_sealOf fs p1 p3 0) (x_X9_sealOf fs p1 p3 1) p2 true (free_lt hn30 rfl c_66)) (cwV 5 hts gX9_cast_X9_addRow rfl rfl rfl ⟨rfl, hd_X9_addRow⟩ ⟨(Nat.le_of_ble_eq_true rfl), (Nat.le_of_ble_eq_true rfl)⟩) (wr_preV hAM hP hD (va_recv hK hP (ci := 7) (q0 := 0) rfl rfl)) rfl rfl hl.1 rfl (lv_room (Nat.le_of_ble_eq_true rfl)) dX9_cast_92 ⟨(Nat.le_of_ble_eq_true rfl), (Nat.le_of_ble_eq_true rfl)⟩) hS (fun v u H locs hw hP hD _ hS => ?_)
                  obtain ⟨fV_92, fA_92, fB_92, fO_92, fP_92, fF_92, nr_92⟩ := u
                  try dsimp only at hw
                  obtain ⟨rfl, rfl, rfl, rfl, rfl, rfl, rfl, rfl⟩ := hw
                  refine W.eq (g2 := F0 m 95 ls [.int ((x_X9_addRow fV fA fB fO fP fF nr p0 (x_X9_sealOf fs p1 p3 0) (x_X9_sealOf fs p1 p3 1) p2 true).1)]) rfl ?_
                  refine W.cs (cells' := 0) (slots' := 0) rfl rfl ?_
                  have hP : va_P D vwCl (mW cI cZ o aS aH aG aR aV aA aB aO aP aF aC nd fs fh sg fg rq fq cl ((x_X9_addRow fV fA fB fO fP fF nr p0 (x_X9_sealOf fs p1 p3 0) (x_X9_sealOf fs p1 p3 1) p2 true).2.2.2.2.2.2.2) ((x_X9_addRow fV fA fB fO fP fF nr p0 (x_X9_sealOf fs p1 p3 0) (x_X9_sealOf fs p1 p3 1) p2 true).2.1) ((x_X9_addRow fV fA fB fO fP fF nr p0 (x_X9_sealOf fs p1 p3 0) (x_X9_sealOf fs p1 p3 1) p2 true).2.2.1) ((x_X9_addRow fV fA fB fO fP fF nr p0 (x_X9_sealOf fs p1 p3 0) (x_X9_sealOf fs p1 p3 1) p2 true).2.2.2.1) ((x_X9_addRow fV fA fB fO fP fF nr p0 (x_X9_sealOf fs p1 p3 0) (x_X9_sealOf fs p1 p3 1) p2 true).2.2.2.2.1) ((x_X9_addRow fV fA fB fO fP fF nr p0 (x_X9_sealOf fs p1 p3 0) (x_X9_sealOf fs p1 p3 1) p2 true).2.2.2.2.2.1) ((x_X9_addRow fV fA fB fO fP fF nr p0 (x_X9_sealOf fs p1 p3 0) (x_X9_sealOf fs p1 p3 1) p2 true).2.2.2.2.2.2.1) cn fC mx) H := hP
                  have hD : va_D A (mW cI cZ o aS aH aG aR aV aA aB aO aP aF aC nd fs fh sg fg rq fq cl ((x_X9_addRow fV fA fB fO fP fF nr p0 (x_X9_sealOf fs p1 p3 0) (x_X9_sealOf fs p1 p3 1) p2 true).2.2.2.2.2.2.2) ((x_X9_addRow fV fA fB fO fP fF nr p0 (x_X9_sealOf fs p1 p3 0) (x_X9_sealOf fs p1 p3 1) p2 true).2.1) ((x_X9_addRow fV fA fB fO fP fF nr p0 (x_X9_sealOf fs p1 p3 0) (x_X9_sealOf fs p1 p3 1) p2 true).2.2.1) ((x_X9_addRow fV fA fB fO fP fF nr p0 (x_X9_sealOf fs p1 p3 0) (x_X9_sealOf fs p1 p3 1) p2 true).2.2.2.1) ((x_X9_addRow fV fA fB fO fP fF nr p0 (x_X9_sealOf fs p1 p3 0) (x_X9_sealOf fs p1 p3 1) p2 true).2.2.2.2.1) ((x_X9_addRow fV fA fB fO fP fF nr p0 (x_X9_sealOf fs p1 p3 0) (x_X9_sealOf fs p1 p3 1) p2 true).2.2.2.2.2.1) ((x_X9_addRow fV fA fB fO fP fF nr p0 (x_X9_sealOf fs p1 p3 0) (x_X9_sealOf fs p1 p3 1) p2 true).2.2.2.2.2.2.1) cn fC mx) := hD
                  refine lv_istore (lv' := [(8, .int ((x_X9_addRow fV fA fB fO fP fF nr p0 (x_X9_sealOf fs p1 p3 0) (x_X9_sealOf fs p1 p3 1) p2 true).1)), (0, .ref o), (1, .int p0), (2, .int p1), (3, .int p2), (4, .int p3), (5, .int p4), (6, .int p5), (7, .int p6)]) hx hb dX9_cast_95 hl (by decide) rfl (fun ls hl => ?_)
                  refine lv_iconst (v := 0) hx hb dX9_cast_97 (by decide) ?_
                  refine lv_istore (lv' := [(9, .int 0), (8, .int ((x_X9_addRow fV fA fB fO fP fF nr p0 (x_X9_sealOf fs p1 p3 0) (x_X9_sealOf fs p1 p3 1) p2 true).1)), (0, .ref o), (1, .int p0), (2, .int p1), (3, .int p2), (4, .int p3), (5, .int p4), (6, .int p5), (7, .int p6)]) hx hb dX9_cast_98 hl (by decide) rfl (fun ls hl => ?_)
                  suffices loop : ∀ (n : Nat) (v8 : Int32) (v9 : Int32) (fF : Nat → Int32) (mx : Int32) (H : Heap) (locs : List Loc), (UP 0 4 n v9 ∧ v8 = nI nr) → x_X9_cast_L100 fs fV fA fB fO fP nr p0 p1 p2 p3 p4 p5 p6 n v8 v9 fF = Rv → va_P D vwCl (mW cI cZ o aS aH aG aR aV aA aB aO aP aF aC nd fs fh sg fg rq fq cl ((x_X9_addRow fV fA fB fO fP fF nr p0 (x_X9_sealOf fs p1 p3 0) (x_X9_sealOf fs p1 p3 1) p2 true).2.2.2.2.2.2.2) ((x_X9_addRow fV fA fB fO fP fF nr p0 (x_X9_sealOf fs p1 p3 0) (x_X9_sealOf fs p1 p3 1) p2 true).2.1) ((x_X9_addRow fV fA fB fO fP fF nr p0 (x_X9_sealOf fs p1 p3 0) (x_X9_sealOf fs p1 p3 1) p2 true).2.2.1) ((x_X9_addRow fV fA fB fO fP fF nr p0 (x_X9_sealOf fs p1 p3 0) (x_X9_sealOf fs p1 p3 1) p2 true).2.2.2.1) ((x_X9_addRow fV fA fB fO fP fF nr p0 (x_X9_sealOf fs p1 p3 0) (x_X9_sealOf fs p1 p3 1) p2 true).2.2.2.2.1) ((x_X9_addRow fV fA fB fO fP fF nr p0 (x_X9_sealOf fs p1 p3 0) (x_X9_sealOf fs p1 p3 1) p2 true).2.2.2.2.2.1) fF cn fC mx) H → va_D A (mW cI cZ o aS aH aG aR aV aA aB aO aP aF aC nd fs fh sg fg rq fq cl ((x_X9_addRow fV fA fB fO fP fF nr p0 (x_X9_sealOf fs p1 p3 0) (x_X9_sealOf fs p1 p3 1) p2 true).2.2.2.2.2.2.2) ((x_X9_addRow fV fA fB fO fP fF nr p0 (x_X9_sealOf fs p1 p3 0) (x_X9_sealOf fs p1 p3 1) p2 true).2.1) ((x_X9_addRow fV fA fB fO fP fF nr p0 (x_X9_sealOf fs p1 p3 0) (x_X9_sealOf fs p1 p3 1) p2 true).2.2.1) ((x_X9_addRow fV fA fB fO fP fF nr p0 (x_X9_sealOf fs p1 p3 0) (x_X9_sealOf fs p1 p3 1) p2 true).2.2.2.1) ((x_X9_addRow fV fA fB fO fP fF nr p0 (x_X9_sealOf fs p1 p3 0) (x_X9_sealOf fs p1 p3 1) p2 true).2.2.2.2.1) ((x_X9_addRow fV fA fB fO fP fF nr p0 (x_X9_sealOf fs p1 p3 0) (x_X9_sealOf fs p1 p3 1) p2 true).2.2.2.2.2.1) fF cn fC mx) → va_S A s.heap H locs → ∀ ls : Array Slot, lv_has ls 10 [(9, .int v9), (8, .int v8), (0, .ref o), (1, .int p0), (2, .int p1), (3, .int p2), (4, .int p3), (5, .int p4), (6, .int p5), (7, .int p6)] → W p l e (headSpec wsX9_cast rm_X9_cast).room s m ([.ref o, .int p0, .int p1, .int p2, .int p3, .int p4, .int p5, .int p6] : List Value).toArray below meth c H locs 0 0 (MQ below (pq_X9_cast D cI cZ cR A o aS aH aG aR aV aA aB aO aP aF aC nd fs fh sg fg rq fq cl nr fV fA fB fO fP fF cn fC mx Rv) ([.ref o, .int p0, .int p1, .int p2, .int p3, .int p4, .int p5, .int p6] : List Value).toArray s 0 0 A) (F0 m 100 ls []) from
                    loop (5) ((x_X9_addRow fV fA fB fO fP fF nr p0 (x_X9_sealOf fs p1 p3 0) (x_X9_sealOf fs p1 p3 1) p2 true).1) 0 ((x_X9_addRow fV fA fB fO fP fF nr p0 (x_X9_sealOf fs p1 p3 0) (x_X9_sealOf fs p1 p3 1) p2 true).2.2.2.2.2.2.1) mx _ _ (⟨UP.start 0 (by omega) (by omega), addRow_r ..⟩) hE hP hD hS ls (lv_sub hl [0, 1, 2, 3, 4, 5, 6, 7, 8, 9] rfl)
                  clear hE hl ls hP hD hS
                  intro n
                  induction n with
                  | zero =>
                    intro v8 v9 fF mx H locs hI _ _ _ _ _ _
                    exact absurd hI (fun h => UP.zero h.1)
                  | succ n ih =>
                    intro v8 v9 fF mx H locs hI hE hP hD hS ls hl
                    rw [x_X9_cast_L100] at hE
                    refine lv_iload hx hb dX9_cast_100 (lv_at hl 0 rfl) ?_
                    refine lv_iconst (v := 4) hx hb dX9_cast_102 (by decide) ?_
                    refine lv_icmp_ge (tgt := 139) hx hb dX9_cast_103 (by decide) (fun c_103 => ?_) (fun c_103 => ?_)
                    · have hE := itT hE c_103
                      refine lv_iload hx hb dX9_cast_139 (lv_at hl 1 rfl) ?_
                      subst hE
                      exact wr_iret (((x_X9_addRow fV fA fB fO fP fF nr p0 (x_X9_sealOf fs p1 p3 0) (x_X9_sealOf fs p1 p3 1) p2 true).2.1), ((x_X9_addRow fV fA fB fO fP fF nr p0 (x_X9_sealOf fs p1 p3 0) (x_X9_sealOf fs p1 p3 1) p2 true).2.2.1), ((x_X9_addRow fV fA fB fO fP fF nr p0 (x_X9_sealOf fs p1 p3 0) (x_X9_sealOf fs p1 p3 1) p2 true).2.2.2.1), ((x_X9_addRow fV fA fB fO fP fF nr p0 (x_X9_sealOf fs p1 p3 0) (x_X9_sealOf fs p1 p3 1) p2 true).2.2.2.2.1), ((x_X9_addRow fV fA fB fO fP fF nr p0 (x_X9_sealOf fs p1 p3 0) (x_X9_sealOf fs p1 p3 1) p2 true).2.2.2.2.2.1), fF, ((x_X9_addRow fV fA fB fO fP fF nr p0 (x_X9_sealOf fs p1 p3 0) (x_X9_sealOf fs p1 p3 1) p2 true).2.2.2.2.2.2.2), mx) hx hb hr hlocks ⟨rfl, rfl, rfl, rfl, rfl, rfl, rfl, rfl⟩ hP hD hS dX9_cast_141
                    · have hE := itF hE c_103
                      refine lv_aload_n hx hb dX9_cast_106 rfl (lv_at hl 2 rfl) ?_
                      refine va_get (D := D) (ci := 7) (v := .ref aF) (C := RX9) (T := TX9) (N := 18) hx hb hts in_X9_cast_X9 hown hK hP 0 rfl rfl 14 (by decide) (hts (.fieldLink RX9 45 "WallCountModel" "proof" "[I") (List.mem_of_getElem? (i := 2) rfl)) (fun _ h9 => h9) rfl dX9_cast_107 ?_
                      refine lv_iconst (v := 4) hx hb dX9_cast_110 (by decide) ?_
                      refine lv_iload hx hb dX9_cast_111 (lv_at hl 1 rfl) ?_
                      refine lv_imul hx hb dX9_cast_113 ?_
                      refine lv_iload hx hb dX9_cast_114 (lv_at hl 0 rfl) ?_
                      refine lv_iadd hx hb dX9_cast_116 ?_
                      refine lv_aload_n hx hb dX9_cast_117 rfl (lv_at hl 2 rfl) ?_
                      refine lv_iload_n hx hb dX9_cast_118 rfl (lv_at hl 4 rfl) ?_
                      refine lv_iload hx hb dX9_cast_119 (lv_at hl 6 rfl) ?_
                      refine lv_iload hx hb dX9_cast_121 (lv_at hl 7 rfl) ?_
                      refine lv_iload hx hb dX9_cast_123 (lv_at hl 8 rfl) ?_
                      refine lv_iload hx hb dX9_cast_125 (lv_at hl 9 rfl) ?_
                      refine lv_iload hx hb dX9_cast_127 (lv_at hl 0 rfl) ?_
                      refine wr_call (va_runV (As := [.int p1, .int p3, .int p4, .int p5, .int p6, .int v9]) (rest := [.int ((4 * v8) + v9), .ref aF]) ⟨hx, hb, hml, hown, hts⟩ (c_X9_proved l D cI cZ cR A _ o aS aH aG aR aV aA aB aO aP aF aC nd fs fh sg fg rq fq cl ((x_X9_addRow fV fA fB fO fP fF nr p0 (x_X9_sealOf fs p1 p3 0) (x_X9_sealOf fs p1 p3 1) p2 true).2.2.2.2.2.2.2) ((x_X9_addRow fV fA fB fO fP fF nr p0 (x_X9_sealOf fs p1 p3 0) (x_X9_sealOf fs p1 p3 1) p2 true).2.1) ((x_X9_addRow fV fA fB fO fP fF nr p0 (x_X9_sealOf fs p1 p3 0) (x_X9_sealOf fs p1 p3 1) p2 true).2.2.1) ((x_X9_addRow fV fA fB fO fP fF nr p0 (x_X9_sealOf fs p1 p3 0) (x_X9_sealOf fs p1 p3 1) p2 true).2.2.2.1) ((x_X9_addRow fV fA fB fO fP fF nr p0 (x_X9_sealOf fs p1 p3 0) (x_X9_sealOf fs p1 p3 1) p2 true).2.2.2.2.1) ((x_X9_addRow fV fA fB fO fP fF nr p0 (x_X9_sealOf fs p1 p3 0) (x_X9_sealOf fs p1 p3 1) p2 true).2.2.2.2.2.1) fF cn fC mx p1 p3 p4 p5 p6 v9) (cwV 6 hts gX9_cast_X9_proved rfl rfl rfl ⟨rfl, hd_X9_proved⟩ ⟨(Nat.le_of_ble_eq_true rfl), (Nat.le_of_ble_eq_true rfl)⟩) (wr_preV hAM hP hD (va_recv hK hP (ci := 7) (q0 := 0) rfl rfl)) rfl rfl hl.1 rfl (lv_room (Nat.le_of_ble_eq_true rfl)) dX9_cast_129 ⟨(Nat.le_of_ble_eq_true rfl), (Nat.le_of_ble_eq_true rfl)⟩) hS (fun v mx_129 H locs hw hP hD _ hS => ?_)
                      try dsimp only at hw
                      subst hw
                      refine W.eq (g2 := F0 m 132 ls [.int (x_X9_proved fs p1 p3 p4 p5 p6 v9), .int ((4 * v8) + v9), .ref aF]) rfl ?_
                      refine W.cs (cells' := 0) (slots' := 0) rfl rfl ?_
                      have hP : va_P D vwCl (mW cI cZ o aS aH aG aR aV aA aB aO aP aF aC nd fs fh sg fg rq fq cl ((x_X9_addRow fV fA fB fO fP fF nr p0 (x_X9_sealOf fs p1 p3 0) (x_X9_sealOf fs p1 p3 1) p2 true).2.2.2.2.2.2.2) ((x_X9_addRow fV fA fB fO fP fF nr p0 (x_X9_sealOf fs p1 p3 0) (x_X9_sealOf fs p1 p3 1) p2 true).2.1) ((x_X9_addRow fV fA fB fO fP fF nr p0 (x_X9_sealOf fs p1 p3 0) (x_X9_sealOf fs p1 p3 1) p2 true).2.2.1) ((x_X9_addRow fV fA fB fO fP fF nr p0 (x_X9_sealOf fs p1 p3 0) (x_X9_sealOf fs p1 p3 1) p2 true).2.2.2.1) ((x_X9_addRow fV fA fB fO fP fF nr p0 (x_X9_sealOf fs p1 p3 0) (x_X9_sealOf fs p1 p3 1) p2 true).2.2.2.2.1) ((x_X9_addRow fV fA fB fO fP fF nr p0 (x_X9_sealOf fs p1 p3 0) (x_X9_sealOf fs p1 p3 1) p2 true).2.2.2.2.2.1) fF cn fC mx_129) H := hP
                      have hD : va_D A (mW cI cZ o aS aH aG aR aV aA aB aO aP aF aC nd fs fh sg fg rq fq cl ((x_X9_addRow fV fA fB fO fP fF nr p0 (x_X9_sealOf fs p1 p3 0) (x_X9_sealOf fs p1 p3 1) p2 true).2.2.2.2.2.2.2) ((x_X9_addRow fV fA fB fO fP fF nr p0 (x_X9_sealOf fs p1 p3 0) (x_X9_sealOf fs p1 p3 1) p2 true).2.1) ((x_X9_addRow fV fA fB fO fP fF nr p0 (x_X9_sealOf fs p1 p3 0) (x_X9_sealOf fs p1 p3 1) p2 true).2.2.1) ((x_X9_addRow fV fA fB fO fP fF nr p0 (x_X9_sealOf fs p1 p3 0) (x_X9_sealOf fs p1 p3 1) p2 true).2.2.2.1) ((x_X9_addRow fV fA fB fO fP fF nr p0 (x_X9_sealOf fs p1 p3 0) (x_X9_sealOf fs p1 p3 1) p2 true).2.2.2.2.1) ((x_X9_addRow fV fA fB fO fP fF nr p0 (x_X9_sealOf fs p1 p3 0) (x_X9_sealOf fs p1 p3 1) p2 true).2.2.2.2.2.1) fF cn fC mx_129) := hD
                      refine va_iast hx hb hK hP hD hS 10 0 rfl rfl (by rw [hI.2]; exact proof_in (free_lt hn30 rfl c_66) (hI.1.ge (by decide) rfl c_103).2) dX9_cast_132 (fun H locs hP hD hS => ?_)
                      have hP : va_P D vwCl (mW cI cZ o aS aH aG aR aV aA aB aO aP aF aC nd fs fh sg fg rq fq cl ((x_X9_addRow fV fA fB fO fP fF nr p0 (x_X9_sealOf fs p1 p3 0) (x_X9_sealOf fs p1 p3 1) p2 true).2.2.2.2.2.2.2) ((x_X9_addRow fV fA fB fO fP fF nr p0 (x_X9_sealOf fs p1 p3 0) (x_X9_sealOf fs p1 p3 1) p2 true).2.1) ((x_X9_addRow fV fA fB fO fP fF nr p0 (x_X9_sealOf fs p1 p3 0) (x_X9_sealOf fs p1 p3 1) p2 true).2.2.1) ((x_X9_addRow fV fA fB fO fP fF nr p0 (x_X9_sealOf fs p1 p3 0) (x_X9_sealOf fs p1 p3 1) p2 true).2.2.2.1) ((x_X9_addRow fV fA fB fO fP fF nr p0 (x_X9_sealOf fs p1 p3 0) (x_X9_sealOf fs p1 p3 1) p2 true).2.2.2.2.1) ((x_X9_addRow fV fA fB fO fP fF nr p0 (x_X9_sealOf fs p1 p3 0) (x_X9_sealOf fs p1 p3 1) p2 true).2.2.2.2.2.1) (upd fF (ix ((4 * v8) + v9)) (x_X9_proved fs p1 p3 p4 p5 p6 v9)) cn fC mx_129) H := hP
                      have hD : va_D A (mW cI cZ o aS aH aG aR aV aA aB aO aP aF aC nd fs fh sg fg rq fq cl ((x_X9_addRow fV fA fB fO fP fF nr p0 (x_X9_sealOf fs p1 p3 0) (x_X9_sealOf fs p1 p3 1) p2 true).2.2.2.2.2.2.2) ((x_X9_addRow fV fA fB fO fP fF nr p0 (x_X9_sealOf fs p1 p3 0) (x_X9_sealOf fs p1 p3 1) p2 true).2.1) ((x_X9_addRow fV fA fB fO fP fF nr p0 (x_X9_sealOf fs p1 p3 0) (x_X9_sealOf fs p1 p3 1) p2 true).2.2.1) ((x_X9_addRow fV fA fB fO fP fF nr p0 (x_X9_sealOf fs p1 p3 0) (x_X9_sealOf fs p1 p3 1) p2 true).2.2.2.1) ((x_X9_addRow fV fA fB fO fP fF nr p0 (x_X9_sealOf fs p1 p3 0) (x_X9_sealOf fs p1 p3 1) p2 true).2.2.2.2.1) ((x_X9_addRow fV fA fB fO fP fF nr p0 (x_X9_sealOf fs p1 p3 0) (x_X9_sealOf fs p1 p3 1) p2 true).2.2.2.2.2.1) (upd fF (ix ((4 * v8) + v9)) (x_X9_proved fs p1 p3 p4 p5 p6 v9)) cn fC mx_129) := hD
                      refine lv_iinc (v := (v9 + 1)) (lv' := [(9, .int (v9 + 1)), (8, .int v8), (0, .ref o), (1, .int p0), (2, .int p1), (3, .int p2), (4, .int p3), (5, .int p4), (6, .int p5), (7, .int p6)]) hx hb dX9_cast_133 hl (k := 0) rfl rfl (by decide) rfl (fun ls hl => ?_)
                      refine lv_goto (tgt := 100) hx hb dX9_cast_136 (by decide) ?_
                      exact ih v8 (v9 + 1) (upd fF (ix ((4 * v8) + v9)) (x_X9_proved fs p1 p3 p4 p5 p6 v9)) mx_129 _ _ (⟨(hI.1.ge (by decide) rfl c_103).1, hI.2⟩) hE hP hD hS ls (lv_sub hl [0, 1, 2, 3, 4, 5, 6, 7, 8, 9] rfl)
                · have hE := itT hE c_66
                  refine lv_bipush (v := (-4)) hx hb dX9_cast_69 (by decide +kernel) ?_
                  subst hE
                  exact wr_iret (fV, fA, fB, fO, fP, fF, nr, mx) hx hb hr hlocks ⟨rfl, rfl, rfl, rfl, rfl, rfl, rfl, rfl⟩ hP hD hS dX9_cast_71
              · have hE := itF hE c_54
                refine lv_bipush (v := (-2)) hx hb dX9_cast_57 (by decide +kernel) ?_
                subst hE
                exact wr_iret (fV, fA, fB, fO, fP, fF, nr, mx) hx hb hr hlocks ⟨rfl, rfl, rfl, rfl, rfl, rfl, rfl, rfl⟩ hP hD hS dX9_cast_59
  · have hE := itF hE c_4
    refine lv_iconst (v := (-1)) hx hb dX9_cast_7 (by decide) ?_
    subst hE
    exact wr_iret (fV, fA, fB, fO, fP, fF, nr, mx) hx hb hr hlocks ⟨rfl, rfl, rfl, rfl, rfl, rfl, rfl, rfl⟩ hP hD hS dX9_cast_8

theorem hd_X9_flawOf : yX9_flawOf.cls ≠ "java/lang/invoke/MethodHandle" ∧ yX9_flawOf.cls ≠ "java/lang/invoke/VarHandle" ∧ (parseMethodDescriptor yX9_flawOf.desc).map (fun d => d.parameters.length) = some 1 := by decide +kernel
def x_X9_flawOf (fs : Nat → Int32) (rq : Nat) (fq : Nat → Int32) (fh : Nat → Int32) (cl : Int32) (fV : Nat → Int32) (fA : Nat → Int32) (fB : Nat → Int32) (fO : Nat → Int32) (fF : Nat → Int32) (p0 : Int32) : Int32 := (if (fO (ix p0)) ≤ cl then (if (x_X9_holds fs (fA (ix p0)) (fB (ix p0)) (fF (ix (4 * p0))) (fF (ix ((4 * p0) + 1))) (fF (ix ((4 * p0) + 2))) (fF (ix ((4 * p0) + 3)))) = true then (if (x_X9_mayVote rq fq fh (fV (ix p0))) = true then 0 else 3) else 2) else 1)
def rm_X9_flawOf : Room := { frames := 5, cells := 0, slots := 0, locals := 120 }
abbrev pq_X9_flawOf (D : va_G) (cI cZ cR : ClassId) (A : Nat → Prop) (o aS aH aG aR aV aA aB aO aP aF aC : Nat) (nd : Int32) (fs : Nat → Int32) (fh : Nat → Int32) (sg : Nat) (fg : Nat → Int32) (rq : Nat) (fq : Nat → Int32) (cl : Int32) (nr : Nat) (fV : Nat → Int32) (fA : Nat → Int32) (fB : Nat → Int32) (fO : Nat → Int32) (fP : Nat → Int32) (fF : Nat → Int32) (cn : Nat) (fC : Nat → Int32) (mx : Int32) (Rv : Int32) : Array Value → State → Outcome → State → Prop := wr_Q D (fun (v : Option Value) (u : Int32) => v = some (.int Rv)) (fun u => mW cI cZ o aS aH aG aR aV aA aB aO aP aF aC nd fs fh sg fg rq fq cl nr fV fA fB fO fP fF cn fC u) A
theorem in_X9_flawOf_X9 : ∀ w ∈ wsX90, w ∈ wsX9_flawOf := fun _ h => List.mem_cons_of_mem _ (List.mem_append_right _ h)
set_option maxHeartbeats 4000000 in
set_option maxRecDepth 100000 in
theorem c_X9_flawOf (l : Launch) (D : va_G) (cI cZ cR : ClassId) (A : Nat → Prop) (H0 : Heap) (o aS aH aG aR aV aA aB aO aP aF aC : Nat) (nd : Int32) (fs : Nat → Int32) (fh : Nat → Int32) (sg : Nat) (fg : Nat → Int32) (rq : Nat) (fq : Nat → Int32) (cl : Int32) (nr : Nat) (fV : Nat → Int32) (fA : Nat → Int32) (fB : Nat → Int32) (fO : Nat → Int32) (fP : Nat → Int32) (fF : Nat → Int32) (cn : Nat) (fC : Nat → Int32) (mx : Int32) (p0 : Int32) (hn30 : nr ≤ 30) (hin : inR nr p0 = true) (hσ : VT rq fq) (hq : rq ≤ 40) (hV : ∀ i, i < nr → x_X9_isVoter (fV i) = true) : Met l yX9_flawOf wsX9_flawOf rm_X9_flawOf (wr_P D cI cZ cR [.ref o, .int p0] (mW cI cZ o aS aH aG aR aV aA aB aO aP aF aC nd fs fh sg fg rq fq cl nr fV fA fB fO fP fF cn fC mx) A H0) (pq_X9_flawOf D cI cZ cR A o aS aH aG aR aV aA aB aO aP aF aC nd fs fh sg fg rq fq cl nr fV fA fB fO fP fF cn fC mx (x_X9_flawOf fs rq fq fh cl fV fA fB fO fF p0)) 0 0 A := by
  refine Met.ofW (cc := cX9_flawOf) (maxL := 3) (ret := (some .int)) (by decide +kernel) rfl ?_
  intro p e s m args below meth c s₁ B hml hv
  obtain ⟨rfl, rfl, hAM, hP, hD⟩ := hv
  have hx := B.exec
  have hb := B.bytes
  have hr := B.returns
  have hts := atoms_spec (ws := wsX9_flawOf) B.pre
  have hown : s.vm.findClass RX9 = some m.cls := findClass_of_methodNamed B.named
  have hlocks := B.notSynchronized
  have hK := hAM.1
  have hS : va_S A s.heap s.heap [] := va_S.rf
  generalize hE : (x_X9_flawOf fs rq fq fh cl fV fA fB fO fF p0) = Rv
  rw [x_X9_flawOf] at hE
  have hl := lv_entry ([.ref o, .int p0]) (n := 3) (Nat.le_of_ble_eq_true rfl)
  rw [lg_entry_eq]
  generalize (lg_sl ([.ref o, .int p0]) ++ List.replicate (3 - (lg_sl ([.ref o, .int p0])).length) Slot.unset).toArray = ls at hl ⊢
  have hl : lv_has ls 3 [(0, .ref o), (1, .int p0)] := hl
  refine lv_aload_n hx hb dX9_flawOf_0 rfl (lv_at hl 0 rfl) ?_
  refine va_get (D := D) (ci := 7) (v := .ref aO) (C := RX9) (T := TX9) (N := 18) hx hb hts in_X9_flawOf_X9 hown hK hP 0 rfl rfl 12 (by decide) (hts (.fieldLink RX9 38 "WallCountModel" "rowHour" "[I") (List.mem_of_getElem? (i := 1) rfl)) (fun _ h9 => h9) rfl dX9_flawOf_1 ?_
  refine lv_iload_n hx hb dX9_flawOf_4 rfl (lv_at hl 1 rfl) ?_
  refine va_iald hx hb hK hP 8 0 rfl rfl (in_vp hn30 hin) dX9_flawOf_5 ?_
  refine lv_aload_n hx hb dX9_flawOf_6 rfl (lv_at hl 0 rfl) ?_
  refine va_get (D := D) (ci := 7) (v := .int cl) (C := RX9) (T := TX9) (N := 18) hx hb hts in_X9_flawOf_X9 hown hK hP 0 rfl rfl 7 (by decide) (hts (.fieldLink RX9 26 "WallCountModel" "close" "I") (List.mem_of_getElem? (i := 2) rfl)) (fun _ h9 => h9) rfl dX9_flawOf_7 ?_
  refine lv_icmp_le (tgt := 15) hx hb dX9_flawOf_10 (by decide) (fun c_10 => ?_) (fun c_10 => ?_)
  · have hE := itT hE c_10
    refine lv_aload_n hx hb dX9_flawOf_15 rfl (lv_at hl 0 rfl) ?_
    refine lv_aload_n hx hb dX9_flawOf_16 rfl (lv_at hl 0 rfl) ?_
    refine va_get (D := D) (ci := 7) (v := .ref aA) (C := RX9) (T := TX9) (N := 18) hx hb hts in_X9_flawOf_X9 hown hK hP 0 rfl rfl 10 (by decide) (hts (.fieldLink RX9 32 "WallCountModel" "rowA" "[I") (List.mem_of_getElem? (i := 3) rfl)) (fun _ h9 => h9) rfl dX9_flawOf_17 ?_
    refine lv_iload_n hx hb dX9_flawOf_20 rfl (lv_at hl 1 rfl) ?_
    refine va_iald hx hb hK hP 6 0 rfl rfl (in_vp hn30 hin) dX9_flawOf_21 ?_
    refine lv_aload_n hx hb dX9_flawOf_22 rfl (lv_at hl 0 rfl) ?_
    refine va_get (D := D) (ci := 7) (v := .ref aB) (C := RX9) (T := TX9) (N := 18) hx hb hts in_X9_flawOf_X9 hown hK hP 0 rfl rfl 11 (by decide) (hts (.fieldLink RX9 35 "WallCountModel" "rowB" "[I") (List.mem_of_getElem? (i := 4) rfl)) (fun _ h9 => h9) rfl dX9_flawOf_23 ?_
    refine lv_iload_n hx hb dX9_flawOf_26 rfl (lv_at hl 1 rfl) ?_
    refine va_iald hx hb hK hP 7 0 rfl rfl (in_vp hn30 hin) dX9_flawOf_27 ?_
    refine lv_aload_n hx hb dX9_flawOf_28 rfl (lv_at hl 0 rfl) ?_
    refine va_get (D := D) (ci := 7) (v := .ref aF) (C := RX9) (T := TX9) (N := 18) hx hb hts in_X9_flawOf_X9 hown hK hP 0 rfl rfl 14 (by decide) (hts (.fieldLink RX9 45 "WallCountModel" "proof" "[I") (List.mem_of_getElem? (i := 5) rfl)) (fun _ h9 => h9) rfl dX9_flawOf_29 ?_
    refine lv_iconst (v := 4) hx hb dX9_flawOf_32 (by decide) ?_
    refine lv_iload_n hx hb dX9_flawOf_33 rfl (lv_at hl 1 rfl) ?_
    refine lv_imul hx hb dX9_flawOf_34 ?_
    refine va_iald hx hb hK hP 10 0 rfl rfl (att_in0 hn30 hin) dX9_flawOf_35 ?_
    refine lv_aload_n hx hb dX9_flawOf_36 rfl (lv_at hl 0 rfl) ?_
    refine va_get (D := D) (ci := 7) (v := .ref aF) (C := RX9) (T := TX9) (N := 18) hx hb hts in_X9_flawOf_X9 hown hK hP 0 rfl rfl 14 (by decide) (hts (.fieldLink RX9 45 "WallCountModel" "proof" "[I") (List.mem_of_getElem? (i := 5) rfl)) (fun _ h9 => h9) rfl dX9_flawOf_37 ?_
    refine lv_iconst (v := 4) hx hb dX9_flawOf_40 (by decide) ?_
    refine lv_iload_n hx hb dX9_flawOf_41 rfl (lv_at hl 1 rfl) ?_
    refine lv_imul hx hb dX9_flawOf_42 ?_
    refine lv_iconst (v := 1) hx hb dX9_flawOf_43 (by decide) ?_
    refine lv_iadd hx hb dX9_flawOf_44 ?_
    refine va_iald hx hb hK hP 10 0 rfl rfl (att_in 1 rfl (by decide) hn30 hin) dX9_flawOf_45 ?_
    refine lv_aload_n hx hb dX9_flawOf_46 rfl (lv_at hl 0 rfl) ?_
    refine va_get (D := D) (ci := 7) (v := .ref aF) (C := RX9) (T := TX9) (N := 18) hx hb hts in_X9_flawOf_X9 hown hK hP 0 rfl rfl 14 (by decide) (hts (.fieldLink RX9 45 "WallCountModel" "proof" "[I") (List.mem_of_getElem? (i := 5) rfl)) (fun _ h9 => h9) rfl dX9_flawOf_47 ?_
    refine lv_iconst (v := 4) hx hb dX9_flawOf_50 (by decide) ?_
    refine lv_iload_n hx hb dX9_flawOf_51 rfl (lv_at hl 1 rfl) ?_
    refine lv_imul hx hb dX9_flawOf_52 ?_
    refine lv_iconst (v := 2) hx hb dX9_flawOf_53 (by decide) ?_
    refine lv_iadd hx hb dX9_flawOf_54 ?_
    refine va_iald hx hb hK hP 10 0 rfl rfl (att_in 2 rfl (by decide) hn30 hin) dX9_flawOf_55 ?_
    refine lv_aload_n hx hb dX9_flawOf_56 rfl (lv_at hl 0 rfl) ?_
    refine va_get (D := D) (ci := 7) (v := .ref aF) (C := RX9) (T := TX9) (N := 18) hx hb hts in_X9_flawOf_X9 hown hK hP 0 rfl rfl 14 (by decide) (hts (.fieldLink RX9 45 "WallCountModel" "proof" "[I") (List.mem_of_getElem? (i := 5) rfl)) (fun _ h9 => h9) rfl dX9_flawOf_57 ?_
    refine lv_iconst (v := 4) hx hb dX9_flawOf_60 (by decide) ?_
    refine lv_iload_n hx hb dX9_flawOf_61 rfl (lv_at hl 1 rfl) ?_
    refine lv_imul hx hb dX9_flawOf_62 ?_
    refine lv_iconst (v := 3) hx hb dX9_flawOf_63 (by decide) ?_
    refine lv_iadd hx hb dX9_flawOf_64 ?_
    refine va_iald hx hb hK hP 10 0 rfl rfl (att_in 3 rfl (by decide) hn30 hin) dX9_flawOf_65 ?_
    refine wr_call (va_runV (As := [.int (fA (ix p0)), .int (fB (ix p0)), .int (fF (ix (4 * p0))), .int (fF (ix ((4 * p0) + 1))), .int (fF (ix ((4 * p0) + 2))), .int (fF (ix ((4 * p0) + 3)))]) (rest := []) ⟨hx, hb, hml, hown, hts⟩ (c_X9_holds l D cI cZ cR A _ o aS aH aG aR aV aA aB aO aP aF aC nd fs fh sg fg rq fq cl nr fV fA fB fO fP fF cn fC mx (fA (ix p0)) (fB (ix p0)) (fF (ix (4 * p0))) (fF (ix ((4 * p0) + 1))) (fF (ix ((4 * p0) + 2))) (fF (ix ((4 * p0) + 3)))) (cwV 6 hts gX9_flawOf_X9_holds rfl rfl rfl ⟨rfl, hd_X9_holds⟩ ⟨(Nat.le_of_ble_eq_true rfl), (Nat.le_of_ble_eq_true rfl)⟩) (wr_preV hAM hP hD (va_recv hK hP (ci := 7) (q0 := 0) rfl rfl)) rfl rfl hl.1 rfl (lv_room (Nat.le_of_ble_eq_true rfl)) dX9_flawOf_66 ⟨(Nat.le_of_ble_eq_true rfl), (Nat.le_of_ble_eq_true rfl)⟩) hS (fun v mx_66 H locs hw hP hD _ hS => ?_)
    try dsimp only at hw
    subst hw
    refine W.eq (g2 := F0 m 69 ls [.int (bI (x_X9_holds fs (fA (ix p0)) (fB (ix p0)) (fF (ix (4 * p0))) (fF (ix ((4 * p0) + 1))) (fF (ix ((4 * p0) + 2))) (fF (ix ((4 * p0) + 3)))))]) rfl ?_
    refine W.cs (cells' := 0) (slots' := 0) rfl rfl ?_
    have hP : va_P D vwCl (mW cI cZ o aS aH aG aR aV aA aB aO aP aF aC nd fs fh sg fg rq fq cl nr fV fA fB fO fP fF cn fC mx_66) H := hP
    have hD : va_D A (mW cI cZ o aS aH aG aR aV aA aB aO aP aF aC nd fs fh sg fg rq fq cl nr fV fA fB fO fP fF cn fC mx_66) := hD
    refine lv_istore_n (lv' := [(2, .int (bI (x_X9_holds fs (fA (ix p0)) (fB (ix p0)) (fF (ix (4 * p0))) (fF (ix ((4 * p0) + 1))) (fF (ix ((4 * p0) + 2))) (fF (ix ((4 * p0) + 3)))))), (0, .ref o), (1, .int p0)]) hx hb dX9_flawOf_69 rfl hl (by decide) rfl (fun ls hl => ?_)
    refine lv_iload_n hx hb dX9_flawOf_70 rfl (lv_at hl 0 rfl) ?_
    refine w_if_neb (tgt := 78) hx hb dX9_flawOf_71 (by decide) (fun c_71 => ?_) (fun c_71 => ?_)
    · have hE := itT hE c_71
      refine lv_aload_n hx hb dX9_flawOf_78 rfl (lv_at hl 1 rfl) ?_
      refine lv_aload_n hx hb dX9_flawOf_79 rfl (lv_at hl 1 rfl) ?_
      refine va_get (D := D) (ci := 7) (v := .ref aV) (C := RX9) (T := TX9) (N := 18) hx hb hts in_X9_flawOf_X9 hown hK hP 0 rfl rfl 9 (by decide) (hts (.fieldLink RX9 29 "WallCountModel" "rowVoter" "[I") (List.mem_of_getElem? (i := 6) rfl)) (fun _ h9 => h9) rfl dX9_flawOf_80 ?_
      refine lv_iload_n hx hb dX9_flawOf_83 rfl (lv_at hl 2 rfl) ?_
      refine va_iald hx hb hK hP 5 0 rfl rfl (in_vp hn30 hin) dX9_flawOf_84 ?_
      refine ro_call (va_runV (As := [.int (fV (ix p0))]) (rest := []) ⟨hx, hb, hml, hown, hts⟩ (c_X9_mayVote l D cI cZ cR _ o aS aH aG aR aV aA aB aO aP aF aC nd fs fh sg fg rq fq cl nr fV fA fB fO fP fF cn fC mx_66 (fV (ix p0)) hσ hq (hV _ (inR_lt hn30 hin))) (cwV 1 hts gX9_flawOf_X9_mayVote rfl rfl rfl ⟨rfl, hd_X9_mayVote⟩ ⟨(Nat.le_of_ble_eq_true rfl), (Nat.le_of_ble_eq_true rfl)⟩) (po_preV hAM (hP.sub [0, 1, 2, 3, 4, 5, 6, 7, 8, 9, 10, 11] rfl) (va_recv hK hP (ci := 7) (q0 := 0) rfl rfl)) rfl rfl hl.1 rfl (lv_room (Nat.le_of_ble_eq_true rfl)) dX9_flawOf_85 ⟨(Nat.le_of_ble_eq_true rfl), (Nat.le_of_ble_eq_true rfl)⟩) ?_
      refine w_if_eqb (tgt := 95) hx hb dX9_flawOf_88 (by decide) (fun c_88 => ?_) (fun c_88 => ?_)
      · have hE := itF hE c_88
        refine lv_iconst (v := 3) hx hb dX9_flawOf_95 (by decide) ?_
        subst hE
        exact wr_iret (mx_66) hx hb hr hlocks rfl hP hD hS dX9_flawOf_96
      · have hE := itT hE c_88
        refine lv_iconst (v := 0) hx hb dX9_flawOf_91 (by decide) ?_
        refine lv_goto (tgt := 96) hx hb dX9_flawOf_92 (by decide) ?_
        subst hE
        exact wr_iret (mx_66) hx hb hr hlocks rfl hP hD hS dX9_flawOf_96
    · have hE := itF hE c_71
      refine lv_iconst (v := 2) hx hb dX9_flawOf_74 (by decide) ?_
      refine lv_goto (tgt := 96) hx hb dX9_flawOf_75 (by decide) ?_
      subst hE
      exact wr_iret (mx_66) hx hb hr hlocks rfl hP hD hS dX9_flawOf_96
  · have hE := itF hE c_10
    refine lv_iconst (v := 1) hx hb dX9_flawOf_13 (by decide) ?_
    subst hE
    exact wr_iret (mx) hx hb hr hlocks rfl hP hD hS dX9_flawOf_14

theorem hd_X9_stateOf : yX9_stateOf.cls ≠ "java/lang/invoke/MethodHandle" ∧ yX9_stateOf.cls ≠ "java/lang/invoke/VarHandle" ∧ (parseMethodDescriptor yX9_stateOf.desc).map (fun d => d.parameters.length) = some 1 := by decide +kernel
def x_X9_stateOf_L13 (fs : Nat → Int32) (rq : Nat) (fq : Nat → Int32) (fh : Nat → Int32) (cl : Int32) (nr : Nat) (fV : Nat → Int32) (fA : Nat → Int32) (fB : Nat → Int32) (fO : Nat → Int32) (fF : Nat → Int32) (p0 : Int32) : Nat → Int32 → Bool → Int32 → Int32
  | 0, v2, v3, v4 => 0
  | n + 1, v2, v3, v4 => (if (nI nr) ≤ v4 then (if v2 ≤ 0 then (if v3 = true then 4 else 0) else v2) else (if v2 = 0 then (if v3 = true then (if v2 ≤ 0 then 4 else v2) else (if (fV (ix v4)) = (fV (ix p0)) then (if (x_X9_flawOf fs rq fq fh cl fV fA fB fO fF v4) = 0 then (x_X9_stateOf_L13 fs rq fq fh cl nr fV fA fB fO fF p0 n v2 true (v4 + 1)) else (x_X9_stateOf_L13 fs rq fq fh cl nr fV fA fB fO fF p0 n v2 false (v4 + 1))) else (x_X9_stateOf_L13 fs rq fq fh cl nr fV fA fB fO fF p0 n v2 false (v4 + 1)))) else (if v2 ≤ 0 then (if v3 = true then 4 else 0) else v2)))
def x_X9_stateOf (fs : Nat → Int32) (rq : Nat) (fq : Nat → Int32) (fh : Nat → Int32) (cl : Int32) (nr : Nat) (fV : Nat → Int32) (fA : Nat → Int32) (fB : Nat → Int32) (fO : Nat → Int32) (fF : Nat → Int32) (p0 : Int32) : Int32 := (x_X9_stateOf_L13 fs rq fq fh cl nr fV fA fB fO fF p0 (nr + 1) (x_X9_flawOf fs rq fq fh cl fV fA fB fO fF p0) false (p0 + 1))
def rm_X9_stateOf : Room := { frames := 6, cells := 0, slots := 0, locals := 142 }
abbrev pq_X9_stateOf (D : va_G) (cI cZ cR : ClassId) (A : Nat → Prop) (o aS aH aG aR aV aA aB aO aP aF aC : Nat) (nd : Int32) (fs : Nat → Int32) (fh : Nat → Int32) (sg : Nat) (fg : Nat → Int32) (rq : Nat) (fq : Nat → Int32) (cl : Int32) (nr : Nat) (fV : Nat → Int32) (fA : Nat → Int32) (fB : Nat → Int32) (fO : Nat → Int32) (fP : Nat → Int32) (fF : Nat → Int32) (cn : Nat) (fC : Nat → Int32) (mx : Int32) (Rv : Int32) : Array Value → State → Outcome → State → Prop := wr_Q D (fun (v : Option Value) (u : Int32) => v = some (.int Rv)) (fun u => mW cI cZ o aS aH aG aR aV aA aB aO aP aF aC nd fs fh sg fg rq fq cl nr fV fA fB fO fP fF cn fC u) A
theorem in_X9_stateOf_X9 : ∀ w ∈ wsX90, w ∈ wsX9_stateOf := fun _ h => List.mem_cons_of_mem _ (List.mem_append_right _ h)
set_option maxHeartbeats 4000000 in
set_option maxRecDepth 100000 in
theorem c_X9_stateOf (l : Launch) (D : va_G) (cI cZ cR : ClassId) (A : Nat → Prop) (H0 : Heap) (o aS aH aG aR aV aA aB aO aP aF aC : Nat) (nd : Int32) (fs : Nat → Int32) (fh : Nat → Int32) (sg : Nat) (fg : Nat → Int32) (rq : Nat) (fq : Nat → Int32) (cl : Int32) (nr : Nat) (fV : Nat → Int32) (fA : Nat → Int32) (fB : Nat → Int32) (fO : Nat → Int32) (fP : Nat → Int32) (fF : Nat → Int32) (cn : Nat) (fC : Nat → Int32) (mx : Int32) (p0 : Int32) (hn30 : nr ≤ 30) (hin : inR nr p0 = true) (hσ : VT rq fq) (hq : rq ≤ 40) (hV : ∀ i, i < nr → x_X9_isVoter (fV i) = true) : Met l yX9_stateOf wsX9_stateOf rm_X9_stateOf (wr_P D cI cZ cR [.ref o, .int p0] (mW cI cZ o aS aH aG aR aV aA aB aO aP aF aC nd fs fh sg fg rq fq cl nr fV fA fB fO fP fF cn fC mx) A H0) (pq_X9_stateOf D cI cZ cR A o aS aH aG aR aV aA aB aO aP aF aC nd fs fh sg fg rq fq cl nr fV fA fB fO fP fF cn fC mx (x_X9_stateOf fs rq fq fh cl nr fV fA fB fO fF p0)) 0 0 A := by
  refine Met.ofW (cc := cX9_stateOf) (maxL := 5) (ret := (some .int)) (by decide +kernel) rfl ?_
  intro p e s m args below meth c s₁ B hml hv
  obtain ⟨rfl, rfl, hAM, hP, hD⟩ := hv
  have hx := B.exec
  have hb := B.bytes
  have hr := B.returns
  have hts := atoms_spec (ws := wsX9_stateOf) B.pre
  have hown : s.vm.findClass RX9 = some m.cls := findClass_of_methodNamed B.named
  have hlocks := B.notSynchronized
  have hK := hAM.1
  have hS : va_S A s.heap s.heap [] := va_S.rf
  generalize hE : (x_X9_stateOf fs rq fq fh cl nr fV fA fB fO fF p0) = Rv
  rw [x_X9_stateOf] at hE
  have hl := lv_entry ([.ref o, .int p0]) (n := 5) (Nat.le_of_ble_eq_true rfl)
  rw [lg_entry_eq]
  generalize (lg_sl ([.ref o, .int p0]) ++ List.replicate (5 - (lg_sl ([.ref o, .int p0])).length) Slot.unset).toArray = ls at hl ⊢
  have hl : lv_has ls 5 [(0, .ref o), (1, .int p0)] := hl
  refine lv_aload_n hx hb dX9_stateOf_0 rfl (lv_at hl 0 rfl) ?_
  refine lv_iload_n hx hb dX9_stateOf_1 rfl (lv_at hl 1 rfl) ?_
  refine wr_call (va_runV (As := [.int p0]) (rest := []) ⟨hx, hb, hml, hown, hts⟩ (c_X9_flawOf l D cI cZ cR A _ o aS aH aG aR aV aA aB aO aP aF aC nd fs fh sg fg rq fq cl nr fV fA fB fO fP fF cn fC mx p0 hn30 hin hσ hq hV) (cwV 1 hts gX9_stateOf_X9_flawOf rfl rfl rfl ⟨rfl, hd_X9_flawOf⟩ ⟨(Nat.le_of_ble_eq_true rfl), (Nat.le_of_ble_eq_true rfl)⟩) (wr_preV hAM hP hD (va_recv hK hP (ci := 7) (q0 := 0) rfl rfl)) rfl rfl hl.1 rfl (lv_room (Nat.le_of_ble_eq_true rfl)) dX9_stateOf_2 ⟨(Nat.le_of_ble_eq_true rfl), (Nat.le_of_ble_eq_true rfl)⟩) hS (fun v mx_2 H locs hw hP hD _ hS => ?_)
  try dsimp only at hw
  subst hw
  refine W.eq (g2 := F0 m 5 ls [.int (x_X9_flawOf fs rq fq fh cl fV fA fB fO fF p0)]) rfl ?_
  refine W.cs (cells' := 0) (slots' := 0) rfl rfl ?_
  have hP : va_P D vwCl (mW cI cZ o aS aH aG aR aV aA aB aO aP aF aC nd fs fh sg fg rq fq cl nr fV fA fB fO fP fF cn fC mx_2) H := hP
  have hD : va_D A (mW cI cZ o aS aH aG aR aV aA aB aO aP aF aC nd fs fh sg fg rq fq cl nr fV fA fB fO fP fF cn fC mx_2) := hD
  refine lv_istore_n (lv' := [(2, .int (x_X9_flawOf fs rq fq fh cl fV fA fB fO fF p0)), (0, .ref o), (1, .int p0)]) hx hb dX9_stateOf_5 rfl hl (by decide) rfl (fun ls hl => ?_)
  refine lv_iconst (v := 0) hx hb dX9_stateOf_6 (by decide) ?_
  refine lv_istore_n (lv' := [(3, .int 0), (2, .int (x_X9_flawOf fs rq fq fh cl fV fA fB fO fF p0)), (0, .ref o), (1, .int p0)]) hx hb dX9_stateOf_7 rfl hl (by decide) rfl (fun ls hl => ?_)
  refine lv_iload_n hx hb dX9_stateOf_8 rfl (lv_at hl 3 rfl) ?_
  refine lv_iconst (v := 1) hx hb dX9_stateOf_9 (by decide) ?_
  refine lv_iadd hx hb dX9_stateOf_10 ?_
  refine lv_istore (lv' := [(4, .int (p0 + 1)), (3, .int 0), (2, .int (x_X9_flawOf fs rq fq fh cl fV fA fB fO fF p0)), (0, .ref o), (1, .int p0)]) hx hb dX9_stateOf_11 hl (by decide) rfl (fun ls hl => ?_)
  suffices loop : ∀ (n : Nat) (v2 : Int32) (v3 : Bool) (v4 : Int32) (mx : Int32) (H : Heap) (locs : List Loc), (UP 0 nr n v4) → x_X9_stateOf_L13 fs rq fq fh cl nr fV fA fB fO fF p0 n v2 v3 v4 = Rv → va_P D vwCl (mW cI cZ o aS aH aG aR aV aA aB aO aP aF aC nd fs fh sg fg rq fq cl nr fV fA fB fO fP fF cn fC mx) H → va_D A (mW cI cZ o aS aH aG aR aV aA aB aO aP aF aC nd fs fh sg fg rq fq cl nr fV fA fB fO fP fF cn fC mx) → va_S A s.heap H locs → ∀ ls : Array Slot, lv_has ls 5 [(4, .int v4), (3, .int (bI v3)), (2, .int v2), (0, .ref o), (1, .int p0)] → W p l e (headSpec wsX9_stateOf rm_X9_stateOf).room s m ([.ref o, .int p0] : List Value).toArray below meth c H locs 0 0 (MQ below (pq_X9_stateOf D cI cZ cR A o aS aH aG aR aV aA aB aO aP aF aC nd fs fh sg fg rq fq cl nr fV fA fB fO fP fF cn fC mx Rv) ([.ref o, .int p0] : List Value).toArray s 0 0 A) (F0 m 13 ls []) from
    loop (nr + 1) (x_X9_flawOf fs rq fq fh cl fV fA fB fO fF p0) false (p0 + 1) mx_2 _ _ (up_next hn30 hin) hE hP hD hS ls (lv_sub hl [0, 1, 2, 3, 4] rfl)
  clear hE hl ls hP hD hS
  intro n
  induction n with
  | zero =>
    intro v2 v3 v4 mx H locs hI _ _ _ _ _ _
    exact absurd hI (UP.zero)
  | succ n ih =>
    intro v2 v3 v4 mx H locs hI hE hP hD hS ls hl
    rw [x_X9_stateOf_L13] at hE
    refine lv_iload hx hb dX9_stateOf_13 (lv_at hl 0 rfl) ?_
    refine lv_aload_n hx hb dX9_stateOf_15 rfl (lv_at hl 3 rfl) ?_
    refine va_get (D := D) (ci := 7) (v := .int (nI nr)) (C := RX9) (T := TX9) (N := 18) hx hb hts in_X9_stateOf_X9 hown hK hP 0 rfl rfl 8 (by decide) (hts (.fieldLink RX9 72 "WallCountModel" "rows" "I") (List.mem_of_getElem? (i := 1) rfl)) (fun _ h9 => h9) rfl dX9_stateOf_16 ?_
    refine lv_icmp_ge (tgt := 67) hx hb dX9_stateOf_19 (by decide) (fun c_19 => ?_) (fun c_19 => ?_)
    · have hE := itT hE c_19
      refine lv_iload_n hx hb dX9_stateOf_67 rfl (lv_at hl 2 rfl) ?_
      refine lv_if_le (tgt := 75) hx hb dX9_stateOf_68 (by decide) (fun c_68 => ?_) (fun c_68 => ?_)
      · have hE := itT hE c_68
        refine lv_iload_n hx hb dX9_stateOf_75 rfl (lv_at hl 1 rfl) ?_
        refine w_if_eqb (tgt := 83) hx hb dX9_stateOf_76 (by decide) (fun c_76 => ?_) (fun c_76 => ?_)
        · have hE := itF hE c_76
          refine lv_iconst (v := 0) hx hb dX9_stateOf_83 (by decide) ?_
          subst hE
          exact wr_iret (mx) hx hb hr hlocks rfl hP hD hS dX9_stateOf_84
        · have hE := itT hE c_76
          refine lv_iconst (v := 4) hx hb dX9_stateOf_79 (by decide) ?_
          refine lv_goto (tgt := 84) hx hb dX9_stateOf_80 (by decide) ?_
          subst hE
          exact wr_iret (mx) hx hb hr hlocks rfl hP hD hS dX9_stateOf_84
      · have hE := itF hE c_68
        refine lv_iload_n hx hb dX9_stateOf_71 rfl (lv_at hl 2 rfl) ?_
        refine lv_goto (tgt := 84) hx hb dX9_stateOf_72 (by decide) ?_
        subst hE
        exact wr_iret (mx) hx hb hr hlocks rfl hP hD hS dX9_stateOf_84
    · have hE := itF hE c_19
      refine lv_iload_n hx hb dX9_stateOf_22 rfl (lv_at hl 2 rfl) ?_
      refine lv_if_ne (tgt := 67) hx hb dX9_stateOf_23 (by decide) (fun c_23 => ?_) (fun c_23 => ?_)
      · have hE := itF hE c_23
        refine lv_iload_n hx hb dX9_stateOf_67 rfl (lv_at hl 2 rfl) ?_
        refine lv_if_le (tgt := 75) hx hb dX9_stateOf_68 (by decide) (fun c_68 => ?_) (fun c_68 => ?_)
        · have hE := itT hE c_68
          refine lv_iload_n hx hb dX9_stateOf_75 rfl (lv_at hl 1 rfl) ?_
          refine w_if_eqb (tgt := 83) hx hb dX9_stateOf_76 (by decide) (fun c_76 => ?_) (fun c_76 => ?_)
          · have hE := itF hE c_76
            refine lv_iconst (v := 0) hx hb dX9_stateOf_83 (by decide) ?_
            subst hE
            exact wr_iret (mx) hx hb hr hlocks rfl hP hD hS dX9_stateOf_84
          · have hE := itT hE c_76
            refine lv_iconst (v := 4) hx hb dX9_stateOf_79 (by decide) ?_
            refine lv_goto (tgt := 84) hx hb dX9_stateOf_80 (by decide) ?_
            subst hE
            exact wr_iret (mx) hx hb hr hlocks rfl hP hD hS dX9_stateOf_84
        · have hE := itF hE c_68
          refine lv_iload_n hx hb dX9_stateOf_71 rfl (lv_at hl 2 rfl) ?_
          refine lv_goto (tgt := 84) hx hb dX9_stateOf_72 (by decide) ?_
          subst hE
          exact wr_iret (mx) hx hb hr hlocks rfl hP hD hS dX9_stateOf_84
      · have hE := itT hE c_23
        refine lv_iload_n hx hb dX9_stateOf_26 rfl (lv_at hl 1 rfl) ?_
        refine w_if_neb (tgt := 67) hx hb dX9_stateOf_27 (by decide) (fun c_27 => ?_) (fun c_27 => ?_)
        · have hE := itT hE c_27
          refine lv_iload_n hx hb dX9_stateOf_67 rfl (lv_at hl 2 rfl) ?_
          refine lv_if_le (tgt := 75) hx hb dX9_stateOf_68 (by decide) (fun c_68 => ?_) (fun c_68 => ?_)
          · have hE := itT hE c_68
            refine lv_iload_n hx hb dX9_stateOf_75 rfl (lv_at hl 1 rfl) ?_
            refine w_if_eqb (tgt := 83) hx hb dX9_stateOf_76 (by decide) (fun h9 => absurd c_27 h9) (fun _ => ?_)
            refine lv_iconst (v := 4) hx hb dX9_stateOf_79 (by decide) ?_
            refine lv_goto (tgt := 84) hx hb dX9_stateOf_80 (by decide) ?_
            subst hE
            exact wr_iret (mx) hx hb hr hlocks rfl hP hD hS dX9_stateOf_84
          · have hE := itF hE c_68
            refine lv_iload_n hx hb dX9_stateOf_71 rfl (lv_at hl 2 rfl) ?_
            refine lv_goto (tgt := 84) hx hb dX9_stateOf_72 (by decide) ?_
            subst hE
            exact wr_iret (mx) hx hb hr hlocks rfl hP hD hS dX9_stateOf_84
        · have hE := itF hE c_27
          refine lv_aload_n hx hb dX9_stateOf_30 rfl (lv_at hl 3 rfl) ?_
          refine va_get (D := D) (ci := 7) (v := .ref aV) (C := RX9) (T := TX9) (N := 18) hx hb hts in_X9_stateOf_X9 hown hK hP 0 rfl rfl 9 (by decide) (hts (.fieldLink RX9 29 "WallCountModel" "rowVoter" "[I") (List.mem_of_getElem? (i := 2) rfl)) (fun _ h9 => h9) rfl dX9_stateOf_31 ?_
          refine lv_iload hx hb dX9_stateOf_34 (lv_at hl 0 rfl) ?_
          refine va_iald hx hb hK hP 5 0 rfl rfl (up_in2 hI (by omega) hn30 (by decide) c_19) dX9_stateOf_36 ?_
          refine lv_aload_n hx hb dX9_stateOf_37 rfl (lv_at hl 3 rfl) ?_
          refine va_get (D := D) (ci := 7) (v := .ref aV) (C := RX9) (T := TX9) (N := 18) hx hb hts in_X9_stateOf_X9 hown hK hP 0 rfl rfl 9 (by decide) (hts (.fieldLink RX9 29 "WallCountModel" "rowVoter" "[I") (List.mem_of_getElem? (i := 2) rfl)) (fun _ h9 => h9) rfl dX9_stateOf_38 ?_
          refine lv_iload_n hx hb dX9_stateOf_41 rfl (lv_at hl 4 rfl) ?_
          refine va_iald hx hb hK hP 5 0 rfl rfl (in_vp hn30 hin) dX9_stateOf_42 ?_
          refine lv_icmp_ne (tgt := 59) hx hb dX9_stateOf_43 (by decide) (fun c_43 => ?_) (fun c_43 => ?_)
          · have hE := itF hE c_43
            refine lv_iconst (v := 0) hx hb dX9_stateOf_59 (by decide) ?_
            refine lv_istore_n (lv' := [(3, .int 0), (4, .int v4), (2, .int v2), (0, .ref o), (1, .int p0)]) hx hb dX9_stateOf_60 rfl hl (by decide) rfl (fun ls hl => ?_)
            refine lv_iinc (v := (v4 + 1)) (lv' := [(4, .int (v4 + 1)), (3, .int 0), (2, .int v2), (0, .ref o), (1, .int p0)]) hx hb dX9_stateOf_61 hl (k := 1) rfl rfl (by decide) rfl (fun ls hl => ?_)
            refine lv_goto (tgt := 13) hx hb dX9_stateOf_64 (by decide) ?_
            exact ih v2 false (v4 + 1) mx _ _ ((hI.ge (by omega) rfl c_19).1) hE hP hD hS ls (lv_sub hl [0, 1, 2, 3, 4] rfl)
          · have hE := itT hE c_43
            refine lv_aload_n hx hb dX9_stateOf_46 rfl (lv_at hl 3 rfl) ?_
            refine lv_iload hx hb dX9_stateOf_47 (lv_at hl 0 rfl) ?_
            refine wr_call (va_runV (As := [.int v4]) (rest := []) ⟨hx, hb, hml, hown, hts⟩ (c_X9_flawOf l D cI cZ cR A _ o aS aH aG aR aV aA aB aO aP aF aC nd fs fh sg fg rq fq cl nr fV fA fB fO fP fF cn fC mx v4 hn30 (up_inR hI (by omega) c_19) hσ hq hV) (cwV 1 hts gX9_stateOf_X9_flawOf rfl rfl rfl ⟨rfl, hd_X9_flawOf⟩ ⟨(Nat.le_of_ble_eq_true rfl), (Nat.le_of_ble_eq_true rfl)⟩) (wr_preV hAM hP hD (va_recv hK hP (ci := 7) (q0 := 0) rfl rfl)) rfl rfl hl.1 rfl (lv_room (Nat.le_of_ble_eq_true rfl)) dX9_stateOf_49 ⟨(Nat.le_of_ble_eq_true rfl), (Nat.le_of_ble_eq_true rfl)⟩) hS (fun v mx_49 H locs hw hP hD _ hS => ?_)
            try dsimp only at hw
            subst hw
            refine W.eq (g2 := F0 m 52 ls [.int (x_X9_flawOf fs rq fq fh cl fV fA fB fO fF v4)]) rfl ?_
            refine W.cs (cells' := 0) (slots' := 0) rfl rfl ?_
            have hP : va_P D vwCl (mW cI cZ o aS aH aG aR aV aA aB aO aP aF aC nd fs fh sg fg rq fq cl nr fV fA fB fO fP fF cn fC mx_49) H := hP
            have hD : va_D A (mW cI cZ o aS aH aG aR aV aA aB aO aP aF aC nd fs fh sg fg rq fq cl nr fV fA fB fO fP fF cn fC mx_49) := hD
            refine lv_if_ne (tgt := 59) hx hb dX9_stateOf_52 (by decide) (fun c_52 => ?_) (fun c_52 => ?_)
            · have hE := itF hE c_52
              refine lv_iconst (v := 0) hx hb dX9_stateOf_59 (by decide) ?_
              refine lv_istore_n (lv' := [(3, .int 0), (4, .int v4), (2, .int v2), (0, .ref o), (1, .int p0)]) hx hb dX9_stateOf_60 rfl hl (by decide) rfl (fun ls hl => ?_)
              refine lv_iinc (v := (v4 + 1)) (lv' := [(4, .int (v4 + 1)), (3, .int 0), (2, .int v2), (0, .ref o), (1, .int p0)]) hx hb dX9_stateOf_61 hl (k := 1) rfl rfl (by decide) rfl (fun ls hl => ?_)
              refine lv_goto (tgt := 13) hx hb dX9_stateOf_64 (by decide) ?_
              exact ih v2 false (v4 + 1) mx_49 _ _ ((hI.ge (by omega) rfl c_19).1) hE hP hD hS ls (lv_sub hl [0, 1, 2, 3, 4] rfl)
            · have hE := itT hE c_52
              refine lv_iconst (v := 1) hx hb dX9_stateOf_55 (by decide) ?_
              refine lv_goto (tgt := 60) hx hb dX9_stateOf_56 (by decide) ?_
              refine lv_istore_n (lv' := [(3, .int 1), (4, .int v4), (2, .int v2), (0, .ref o), (1, .int p0)]) hx hb dX9_stateOf_60 rfl hl (by decide) rfl (fun ls hl => ?_)
              refine lv_iinc (v := (v4 + 1)) (lv' := [(4, .int (v4 + 1)), (3, .int 1), (2, .int v2), (0, .ref o), (1, .int p0)]) hx hb dX9_stateOf_61 hl (k := 1) rfl rfl (by decide) rfl (fun ls hl => ?_)
              refine lv_goto (tgt := 13) hx hb dX9_stateOf_64 (by decide) ?_
              exact ih v2 true (v4 + 1) mx_49 _ _ ((hI.ge (by omega) rfl c_19).1) hE hP hD hS ls (lv_sub hl [0, 1, 2, 3, 4] rfl)

theorem hd_X9_rowsThatAre : yX9_rowsThatAre.cls ≠ "java/lang/invoke/MethodHandle" ∧ yX9_rowsThatAre.cls ≠ "java/lang/invoke/VarHandle" ∧ (parseMethodDescriptor yX9_rowsThatAre.desc).map (fun d => d.parameters.length) = some 1 := by decide +kernel
def x_X9_rowsThatAre_L4 (fs : Nat → Int32) (rq : Nat) (fq : Nat → Int32) (fh : Nat → Int32) (cl : Int32) (nr : Nat) (fV : Nat → Int32) (fA : Nat → Int32) (fB : Nat → Int32) (fO : Nat → Int32) (fF : Nat → Int32) (p0 : Int32) : Nat → Int32 → Int32 → Int32
  | 0, v2, v3 => 0
  | n + 1, v2, v3 => (if (nI nr) ≤ v3 then v2 else (if (x_X9_stateOf fs rq fq fh cl nr fV fA fB fO fF v3) = p0 then (x_X9_rowsThatAre_L4 fs rq fq fh cl nr fV fA fB fO fF p0 n (v2 + 1) (v3 + 1)) else (x_X9_rowsThatAre_L4 fs rq fq fh cl nr fV fA fB fO fF p0 n (v2 + 0) (v3 + 1))))
def x_X9_rowsThatAre (fs : Nat → Int32) (rq : Nat) (fq : Nat → Int32) (fh : Nat → Int32) (cl : Int32) (nr : Nat) (fV : Nat → Int32) (fA : Nat → Int32) (fB : Nat → Int32) (fO : Nat → Int32) (fF : Nat → Int32) (p0 : Int32) : Int32 := (x_X9_rowsThatAre_L4 fs rq fq fh cl nr fV fA fB fO fF p0 (nr + 1) 0 0)
def rm_X9_rowsThatAre : Room := { frames := 7, cells := 0, slots := 0, locals := 166 }
abbrev pq_X9_rowsThatAre (D : va_G) (cI cZ cR : ClassId) (A : Nat → Prop) (o aS aH aG aR aV aA aB aO aP aF aC : Nat) (nd : Int32) (fs : Nat → Int32) (fh : Nat → Int32) (sg : Nat) (fg : Nat → Int32) (rq : Nat) (fq : Nat → Int32) (cl : Int32) (nr : Nat) (fV : Nat → Int32) (fA : Nat → Int32) (fB : Nat → Int32) (fO : Nat → Int32) (fP : Nat → Int32) (fF : Nat → Int32) (cn : Nat) (fC : Nat → Int32) (mx : Int32) (Rv : Int32) : Array Value → State → Outcome → State → Prop := wr_Q D (fun (v : Option Value) (u : Int32) => v = some (.int Rv)) (fun u => mW cI cZ o aS aH aG aR aV aA aB aO aP aF aC nd fs fh sg fg rq fq cl nr fV fA fB fO fP fF cn fC u) A
theorem in_X9_rowsThatAre_X9 : ∀ w ∈ wsX90, w ∈ wsX9_rowsThatAre := fun _ h => List.mem_cons_of_mem _ (List.mem_append_right _ h)
set_option maxHeartbeats 4000000 in
set_option maxRecDepth 100000 in
theorem c_X9_rowsThatAre (l : Launch) (D : va_G) (cI cZ cR : ClassId) (A : Nat → Prop) (H0 : Heap) (o aS aH aG aR aV aA aB aO aP aF aC : Nat) (nd : Int32) (fs : Nat → Int32) (fh : Nat → Int32) (sg : Nat) (fg : Nat → Int32) (rq : Nat) (fq : Nat → Int32) (cl : Int32) (nr : Nat) (fV : Nat → Int32) (fA : Nat → Int32) (fB : Nat → Int32) (fO : Nat → Int32) (fP : Nat → Int32) (fF : Nat → Int32) (cn : Nat) (fC : Nat → Int32) (mx : Int32) (p0 : Int32) (hn30 : nr ≤ 30) (hσ : VT rq fq) (hq : rq ≤ 40) (hV : ∀ i, i < nr → x_X9_isVoter (fV i) = true) : Met l yX9_rowsThatAre wsX9_rowsThatAre rm_X9_rowsThatAre (wr_P D cI cZ cR [.ref o, .int p0] (mW cI cZ o aS aH aG aR aV aA aB aO aP aF aC nd fs fh sg fg rq fq cl nr fV fA fB fO fP fF cn fC mx) A H0) (pq_X9_rowsThatAre D cI cZ cR A o aS aH aG aR aV aA aB aO aP aF aC nd fs fh sg fg rq fq cl nr fV fA fB fO fP fF cn fC mx (x_X9_rowsThatAre fs rq fq fh cl nr fV fA fB fO fF p0)) 0 0 A := by
  refine Met.ofW (cc := cX9_rowsThatAre) (maxL := 4) (ret := (some .int)) (by decide +kernel) rfl ?_
  intro p e s m args below meth c s₁ B hml hv
  obtain ⟨rfl, rfl, hAM, hP, hD⟩ := hv
  have hx := B.exec
  have hb := B.bytes
  have hr := B.returns
  have hts := atoms_spec (ws := wsX9_rowsThatAre) B.pre
  have hown : s.vm.findClass RX9 = some m.cls := findClass_of_methodNamed B.named
  have hlocks := B.notSynchronized
  have hK := hAM.1
  have hS : va_S A s.heap s.heap [] := va_S.rf
  generalize hE : (x_X9_rowsThatAre fs rq fq fh cl nr fV fA fB fO fF p0) = Rv
  rw [x_X9_rowsThatAre] at hE
  have hl := lv_entry ([.ref o, .int p0]) (n := 4) (Nat.le_of_ble_eq_true rfl)
  rw [lg_entry_eq]
  generalize (lg_sl ([.ref o, .int p0]) ++ List.replicate (4 - (lg_sl ([.ref o, .int p0])).length) Slot.unset).toArray = ls at hl ⊢
  have hl : lv_has ls 4 [(0, .ref o), (1, .int p0)] := hl
  refine lv_iconst (v := 0) hx hb dX9_rowsThatAre_0 (by decide) ?_
  refine lv_istore_n (lv' := [(2, .int 0), (0, .ref o), (1, .int p0)]) hx hb dX9_rowsThatAre_1 rfl hl (by decide) rfl (fun ls hl => ?_)
  refine lv_iconst (v := 0) hx hb dX9_rowsThatAre_2 (by decide) ?_
  refine lv_istore_n (lv' := [(3, .int 0), (2, .int 0), (0, .ref o), (1, .int p0)]) hx hb dX9_rowsThatAre_3 rfl hl (by decide) rfl (fun ls hl => ?_)
  suffices loop : ∀ (n : Nat) (v2 : Int32) (v3 : Int32) (mx : Int32) (H : Heap) (locs : List Loc), (UP 0 nr n v3) → x_X9_rowsThatAre_L4 fs rq fq fh cl nr fV fA fB fO fF p0 n v2 v3 = Rv → va_P D vwCl (mW cI cZ o aS aH aG aR aV aA aB aO aP aF aC nd fs fh sg fg rq fq cl nr fV fA fB fO fP fF cn fC mx) H → va_D A (mW cI cZ o aS aH aG aR aV aA aB aO aP aF aC nd fs fh sg fg rq fq cl nr fV fA fB fO fP fF cn fC mx) → va_S A s.heap H locs → ∀ ls : Array Slot, lv_has ls 4 [(3, .int v3), (2, .int v2), (0, .ref o), (1, .int p0)] → W p l e (headSpec wsX9_rowsThatAre rm_X9_rowsThatAre).room s m ([.ref o, .int p0] : List Value).toArray below meth c H locs 0 0 (MQ below (pq_X9_rowsThatAre D cI cZ cR A o aS aH aG aR aV aA aB aO aP aF aC nd fs fh sg fg rq fq cl nr fV fA fB fO fP fF cn fC mx Rv) ([.ref o, .int p0] : List Value).toArray s 0 0 A) (F0 m 4 ls []) from
    loop (nr + 1) 0 0 mx _ _ (UP.start 0 (by omega) (by omega)) hE hP hD hS ls (lv_sub hl [0, 1, 2, 3] rfl)
  clear hE hl ls hP hD hS
  intro n
  induction n with
  | zero =>
    intro v2 v3 mx H locs hI _ _ _ _ _ _
    exact absurd hI (UP.zero)
  | succ n ih =>
    intro v2 v3 mx H locs hI hE hP hD hS ls hl
    rw [x_X9_rowsThatAre_L4] at hE
    refine lv_iload_n hx hb dX9_rowsThatAre_4 rfl (lv_at hl 0 rfl) ?_
    refine lv_aload_n hx hb dX9_rowsThatAre_5 rfl (lv_at hl 2 rfl) ?_
    refine va_get (D := D) (ci := 7) (v := .int (nI nr)) (C := RX9) (T := TX9) (N := 18) hx hb hts in_X9_rowsThatAre_X9 hown hK hP 0 rfl rfl 8 (by decide) (hts (.fieldLink RX9 72 "WallCountModel" "rows" "I") (List.mem_of_getElem? (i := 1) rfl)) (fun _ h9 => h9) rfl dX9_rowsThatAre_6 ?_
    refine lv_icmp_ge (tgt := 35) hx hb dX9_rowsThatAre_9 (by decide) (fun c_9 => ?_) (fun c_9 => ?_)
    · have hE := itT hE c_9
      refine lv_iload_n hx hb dX9_rowsThatAre_35 rfl (lv_at hl 1 rfl) ?_
      subst hE
      exact wr_iret (mx) hx hb hr hlocks rfl hP hD hS dX9_rowsThatAre_36
    · have hE := itF hE c_9
      refine lv_iload_n hx hb dX9_rowsThatAre_12 rfl (lv_at hl 1 rfl) ?_
      refine lv_aload_n hx hb dX9_rowsThatAre_13 rfl (lv_at hl 2 rfl) ?_
      refine lv_iload_n hx hb dX9_rowsThatAre_14 rfl (lv_at hl 0 rfl) ?_
      refine wr_call (va_runV (As := [.int v3]) (rest := [.int v2]) ⟨hx, hb, hml, hown, hts⟩ (c_X9_stateOf l D cI cZ cR A _ o aS aH aG aR aV aA aB aO aP aF aC nd fs fh sg fg rq fq cl nr fV fA fB fO fP fF cn fC mx v3 hn30 (up_inR hI (by omega) c_9) hσ hq hV) (cwV 1 hts gX9_rowsThatAre_X9_stateOf rfl rfl rfl ⟨rfl, hd_X9_stateOf⟩ ⟨(Nat.le_of_ble_eq_true rfl), (Nat.le_of_ble_eq_true rfl)⟩) (wr_preV hAM hP hD (va_recv hK hP (ci := 7) (q0 := 0) rfl rfl)) rfl rfl hl.1 rfl (lv_room (Nat.le_of_ble_eq_true rfl)) dX9_rowsThatAre_15 ⟨(Nat.le_of_ble_eq_true rfl), (Nat.le_of_ble_eq_true rfl)⟩) hS (fun v mx_15 H locs hw hP hD _ hS => ?_)
      try dsimp only at hw
      subst hw
      refine W.eq (g2 := F0 m 18 ls [.int (x_X9_stateOf fs rq fq fh cl nr fV fA fB fO fF v3), .int v2]) rfl ?_
      refine W.cs (cells' := 0) (slots' := 0) rfl rfl ?_
      have hP : va_P D vwCl (mW cI cZ o aS aH aG aR aV aA aB aO aP aF aC nd fs fh sg fg rq fq cl nr fV fA fB fO fP fF cn fC mx_15) H := hP
      have hD : va_D A (mW cI cZ o aS aH aG aR aV aA aB aO aP aF aC nd fs fh sg fg rq fq cl nr fV fA fB fO fP fF cn fC mx_15) := hD
      refine lv_iload_n hx hb dX9_rowsThatAre_18 rfl (lv_at hl 3 rfl) ?_
      refine lv_icmp_ne (tgt := 26) hx hb dX9_rowsThatAre_19 (by decide) (fun c_19 => ?_) (fun c_19 => ?_)
      · have hE := itF hE c_19
        refine lv_iconst (v := 0) hx hb dX9_rowsThatAre_26 (by decide) ?_
        refine lv_iadd hx hb dX9_rowsThatAre_27 ?_
        refine lv_istore_n (lv' := [(2, .int (v2 + 0)), (3, .int v3), (0, .ref o), (1, .int p0)]) hx hb dX9_rowsThatAre_28 rfl hl (by decide) rfl (fun ls hl => ?_)
        refine lv_iinc (v := (v3 + 1)) (lv' := [(3, .int (v3 + 1)), (2, .int (v2 + 0)), (0, .ref o), (1, .int p0)]) hx hb dX9_rowsThatAre_29 hl (k := 1) rfl rfl (by decide) rfl (fun ls hl => ?_)
        refine lv_goto (tgt := 4) hx hb dX9_rowsThatAre_32 (by decide) ?_
        exact ih (v2 + 0) (v3 + 1) mx_15 _ _ ((hI.ge (by omega) rfl c_9).1) hE hP hD hS ls (lv_sub hl [0, 1, 2, 3] rfl)
      · have hE := itT hE c_19
        refine lv_iconst (v := 1) hx hb dX9_rowsThatAre_22 (by decide) ?_
        refine lv_goto (tgt := 27) hx hb dX9_rowsThatAre_23 (by decide) ?_
        refine lv_iadd hx hb dX9_rowsThatAre_27 ?_
        refine lv_istore_n (lv' := [(2, .int (v2 + 1)), (3, .int v3), (0, .ref o), (1, .int p0)]) hx hb dX9_rowsThatAre_28 rfl hl (by decide) rfl (fun ls hl => ?_)
        refine lv_iinc (v := (v3 + 1)) (lv' := [(3, .int (v3 + 1)), (2, .int (v2 + 1)), (0, .ref o), (1, .int p0)]) hx hb dX9_rowsThatAre_29 hl (k := 1) rfl rfl (by decide) rfl (fun ls hl => ?_)
        refine lv_goto (tgt := 4) hx hb dX9_rowsThatAre_32 (by decide) ?_
        exact ih (v2 + 1) (v3 + 1) mx_15 _ _ ((hI.ge (by omega) rfl c_9).1) hE hP hD hS ls (lv_sub hl [0, 1, 2, 3] rfl)

theorem hd_X9_tally : yX9_tally.cls ≠ "java/lang/invoke/MethodHandle" ∧ yX9_tally.cls ≠ "java/lang/invoke/VarHandle" ∧ (parseMethodDescriptor yX9_tally.desc).map (fun d => d.parameters.length) = some 1 := by decide +kernel
def x_X9_tally_L22 (fs : Nat → Int32) (rq : Nat) (fq : Nat → Int32) (fh : Nat → Int32) (cl : Int32) (nr : Nat) (fV : Nat → Int32) (fA : Nat → Int32) (fB : Nat → Int32) (fO : Nat → Int32) (fF : Nat → Int32) (p0 : Int32) : Nat → Int32 → Int32 → Int32 → Int32 → Int32
  | 0, v2, v3, v4, v5 => 0
  | n + 1, v2, v3, v4, v5 => (if (nI nr) ≤ v5 then (if p0 = 0 then v2 else (if p0 = 1 then v3 else v4)) else (if (x_X9_stateOf fs rq fq fh cl nr fV fA fB fO fF v5) = 0 then (x_X9_tally_L22 fs rq fq fh cl nr fV fA fB fO fF p0 n (x_X9_times v2 (fA (ix v5))) (x_X9_times v3 (fB (ix v5))) (v4 + 1) (v5 + 1)) else (x_X9_tally_L22 fs rq fq fh cl nr fV fA fB fO fF p0 n v2 v3 v4 (v5 + 1))))
def x_X9_tally (fs : Nat → Int32) (rq : Nat) (fq : Nat → Int32) (fh : Nat → Int32) (cl : Int32) (nr : Nat) (fV : Nat → Int32) (fA : Nat → Int32) (fB : Nat → Int32) (fO : Nat → Int32) (fF : Nat → Int32) (p0 : Int32) : Int32 := (if (x_X9_in p0 0 2) = true then (x_X9_tally_L22 fs rq fq fh cl nr fV fA fB fO fF p0 (nr + 1) 1 1 0 0) else (-2))
def rm_X9_tally : Room := { frames := 7, cells := 0, slots := 0, locals := 166 }
abbrev pq_X9_tally (D : va_G) (cI cZ cR : ClassId) (A : Nat → Prop) (o aS aH aG aR aV aA aB aO aP aF aC : Nat) (nd : Int32) (fs : Nat → Int32) (fh : Nat → Int32) (sg : Nat) (fg : Nat → Int32) (rq : Nat) (fq : Nat → Int32) (cl : Int32) (nr : Nat) (fV : Nat → Int32) (fA : Nat → Int32) (fB : Nat → Int32) (fO : Nat → Int32) (fP : Nat → Int32) (fF : Nat → Int32) (cn : Nat) (fC : Nat → Int32) (mx : Int32) (Rv : Int32) : Array Value → State → Outcome → State → Prop := wr_Q D (fun (v : Option Value) (u : Int32) => v = some (.int Rv)) (fun u => mW cI cZ o aS aH aG aR aV aA aB aO aP aF aC nd fs fh sg fg rq fq cl nr fV fA fB fO fP fF cn fC u) A
theorem in_X9_tally_X9 : ∀ w ∈ wsX90, w ∈ wsX9_tally := fun _ h => List.mem_cons_of_mem _ (List.mem_append_right _ h)
set_option maxHeartbeats 4000000 in
set_option maxRecDepth 100000 in
theorem c_X9_tally (l : Launch) (D : va_G) (cI cZ cR : ClassId) (A : Nat → Prop) (H0 : Heap) (o aS aH aG aR aV aA aB aO aP aF aC : Nat) (nd : Int32) (fs : Nat → Int32) (fh : Nat → Int32) (sg : Nat) (fg : Nat → Int32) (rq : Nat) (fq : Nat → Int32) (cl : Int32) (nr : Nat) (fV : Nat → Int32) (fA : Nat → Int32) (fB : Nat → Int32) (fO : Nat → Int32) (fP : Nat → Int32) (fF : Nat → Int32) (cn : Nat) (fC : Nat → Int32) (mx : Int32) (p0 : Int32) (hn30 : nr ≤ 30) (hσ : VT rq fq) (hq : rq ≤ 40) (hV : ∀ i, i < nr → x_X9_isVoter (fV i) = true) : Met l yX9_tally wsX9_tally rm_X9_tally (wr_P D cI cZ cR [.ref o, .int p0] (mW cI cZ o aS aH aG aR aV aA aB aO aP aF aC nd fs fh sg fg rq fq cl nr fV fA fB fO fP fF cn fC mx) A H0) (pq_X9_tally D cI cZ cR A o aS aH aG aR aV aA aB aO aP aF aC nd fs fh sg fg rq fq cl nr fV fA fB fO fP fF cn fC mx (x_X9_tally fs rq fq fh cl nr fV fA fB fO fF p0)) 0 0 A := by
  refine Met.ofW (cc := cX9_tally) (maxL := 6) (ret := (some .int)) (by decide +kernel) rfl ?_
  intro p e s m args below meth c s₁ B hml hv
  obtain ⟨rfl, rfl, hAM, hP, hD⟩ := hv
  have hx := B.exec
  have hb := B.bytes
  have hr := B.returns
  have hts := atoms_spec (ws := wsX9_tally) B.pre
  have hown : s.vm.findClass RX9 = some m.cls := findClass_of_methodNamed B.named
  have hlocks := B.notSynchronized
  have hK := hAM.1
  have hS : va_S A s.heap s.heap [] := va_S.rf
  generalize hE : (x_X9_tally fs rq fq fh cl nr fV fA fB fO fF p0) = Rv
  rw [x_X9_tally] at hE
  have hl := lv_entry ([.ref o, .int p0]) (n := 6) (Nat.le_of_ble_eq_true rfl)
  rw [lg_entry_eq]
  generalize (lg_sl ([.ref o, .int p0]) ++ List.replicate (6 - (lg_sl ([.ref o, .int p0])).length) Slot.unset).toArray = ls at hl ⊢
  have hl : lv_has ls 6 [(0, .ref o), (1, .int p0)] := hl
  refine lv_iload_n hx hb dX9_tally_0 rfl (lv_at hl 1 rfl) ?_
  refine lv_iconst (v := 0) hx hb dX9_tally_1 (by decide) ?_
  refine lv_iconst (v := 2) hx hb dX9_tally_2 (by decide) ?_
  refine ro_call (va_runS (As := [.int p0, .int 0, .int 2]) (rest := []) ⟨hx, hb, hml, hown, hts⟩ (c_X9_in l D cI cZ cR _ p0 0 2) (va_cwS 3 hts gX9_tally_X9_in rfl rfl rfl hd_X9_in ⟨(Nat.le_of_ble_eq_true rfl), (Nat.le_of_ble_eq_true rfl)⟩) (po_pre hAM va_P.nil) rfl rfl hl.1 rfl (lv_room (Nat.le_of_ble_eq_true rfl)) dX9_tally_3 ⟨(Nat.le_of_ble_eq_true rfl), (Nat.le_of_ble_eq_true rfl)⟩) ?_
  refine w_if_neb (tgt := 12) hx hb dX9_tally_6 (by decide) (fun c_6 => ?_) (fun c_6 => ?_)
  · have hE := itT hE c_6
    refine lv_iconst (v := 1) hx hb dX9_tally_12 (by decide) ?_
    refine lv_istore_n (lv' := [(2, .int 1), (0, .ref o), (1, .int p0)]) hx hb dX9_tally_13 rfl hl (by decide) rfl (fun ls hl => ?_)
    refine lv_iconst (v := 1) hx hb dX9_tally_14 (by decide) ?_
    refine lv_istore_n (lv' := [(3, .int 1), (2, .int 1), (0, .ref o), (1, .int p0)]) hx hb dX9_tally_15 rfl hl (by decide) rfl (fun ls hl => ?_)
    refine lv_iconst (v := 0) hx hb dX9_tally_16 (by decide) ?_
    refine lv_istore (lv' := [(4, .int 0), (3, .int 1), (2, .int 1), (0, .ref o), (1, .int p0)]) hx hb dX9_tally_17 hl (by decide) rfl (fun ls hl => ?_)
    refine lv_iconst (v := 0) hx hb dX9_tally_19 (by decide) ?_
    refine lv_istore (lv' := [(5, .int 0), (4, .int 0), (3, .int 1), (2, .int 1), (0, .ref o), (1, .int p0)]) hx hb dX9_tally_20 hl (by decide) rfl (fun ls hl => ?_)
    suffices loop : ∀ (n : Nat) (v2 : Int32) (v3 : Int32) (v4 : Int32) (v5 : Int32) (mx : Int32) (H : Heap) (locs : List Loc), (UP 0 nr n v5) → x_X9_tally_L22 fs rq fq fh cl nr fV fA fB fO fF p0 n v2 v3 v4 v5 = Rv → va_P D vwCl (mW cI cZ o aS aH aG aR aV aA aB aO aP aF aC nd fs fh sg fg rq fq cl nr fV fA fB fO fP fF cn fC mx) H → va_D A (mW cI cZ o aS aH aG aR aV aA aB aO aP aF aC nd fs fh sg fg rq fq cl nr fV fA fB fO fP fF cn fC mx) → va_S A s.heap H locs → ∀ ls : Array Slot, lv_has ls 6 [(5, .int v5), (4, .int v4), (3, .int v3), (2, .int v2), (0, .ref o), (1, .int p0)] → W p l e (headSpec wsX9_tally rm_X9_tally).room s m ([.ref o, .int p0] : List Value).toArray below meth c H locs 0 0 (MQ below (pq_X9_tally D cI cZ cR A o aS aH aG aR aV aA aB aO aP aF aC nd fs fh sg fg rq fq cl nr fV fA fB fO fP fF cn fC mx Rv) ([.ref o, .int p0] : List Value).toArray s 0 0 A) (F0 m 22 ls []) from
      loop (nr + 1) 1 1 0 0 mx _ _ (UP.start 0 (by omega) (by omega)) hE hP hD hS ls (lv_sub hl [0, 1, 2, 3, 4, 5] rfl)
    clear hE hl ls hP hD hS
    intro n
    induction n with
    | zero =>
      intro v2 v3 v4 v5 mx H locs hI _ _ _ _ _ _
      exact absurd hI (UP.zero)
    | succ n ih =>
      intro v2 v3 v4 v5 mx H locs hI hE hP hD hS ls hl
      rw [x_X9_tally_L22] at hE
      refine lv_iload hx hb dX9_tally_22 (lv_at hl 0 rfl) ?_
      refine lv_aload_n hx hb dX9_tally_24 rfl (lv_at hl 4 rfl) ?_
      refine va_get (D := D) (ci := 7) (v := .int (nI nr)) (C := RX9) (T := TX9) (N := 18) hx hb hts in_X9_tally_X9 hown hK hP 0 rfl rfl 8 (by decide) (hts (.fieldLink RX9 72 "WallCountModel" "rows" "I") (List.mem_of_getElem? (i := 1) rfl)) (fun _ h9 => h9) rfl dX9_tally_25 ?_
      refine lv_icmp_ge (tgt := 73) hx hb dX9_tally_28 (by decide) (fun c_28 => ?_) (fun c_28 => ?_)
      · have hE := itT hE c_28
        refine lv_iload_n hx hb dX9_tally_73 rfl (lv_at hl 5 rfl) ?_
        refine lv_if_ne (tgt := 81) hx hb dX9_tally_74 (by decide) (fun c_74 => ?_) (fun c_74 => ?_)
        · have hE := itF hE c_74
          refine lv_iload_n hx hb dX9_tally_81 rfl (lv_at hl 5 rfl) ?_
          refine lv_iconst (v := 1) hx hb dX9_tally_82 (by decide) ?_
          refine lv_icmp_ne (tgt := 90) hx hb dX9_tally_83 (by decide) (fun c_83 => ?_) (fun c_83 => ?_)
          · have hE := itF hE c_83
            refine lv_iload hx hb dX9_tally_90 (lv_at hl 1 rfl) ?_
            subst hE
            exact wr_iret (mx) hx hb hr hlocks rfl hP hD hS dX9_tally_92
          · have hE := itT hE c_83
            refine lv_iload_n hx hb dX9_tally_86 rfl (lv_at hl 2 rfl) ?_
            refine lv_goto (tgt := 92) hx hb dX9_tally_87 (by decide) ?_
            subst hE
            exact wr_iret (mx) hx hb hr hlocks rfl hP hD hS dX9_tally_92
        · have hE := itT hE c_74
          refine lv_iload_n hx hb dX9_tally_77 rfl (lv_at hl 3 rfl) ?_
          refine lv_goto (tgt := 92) hx hb dX9_tally_78 (by decide) ?_
          subst hE
          exact wr_iret (mx) hx hb hr hlocks rfl hP hD hS dX9_tally_92
      · have hE := itF hE c_28
        refine lv_aload_n hx hb dX9_tally_31 rfl (lv_at hl 4 rfl) ?_
        refine lv_iload hx hb dX9_tally_32 (lv_at hl 0 rfl) ?_
        refine wr_call (va_runV (As := [.int v5]) (rest := []) ⟨hx, hb, hml, hown, hts⟩ (c_X9_stateOf l D cI cZ cR A _ o aS aH aG aR aV aA aB aO aP aF aC nd fs fh sg fg rq fq cl nr fV fA fB fO fP fF cn fC mx v5 hn30 (up_inR hI (by omega) c_28) hσ hq hV) (cwV 1 hts gX9_tally_X9_stateOf rfl rfl rfl ⟨rfl, hd_X9_stateOf⟩ ⟨(Nat.le_of_ble_eq_true rfl), (Nat.le_of_ble_eq_true rfl)⟩) (wr_preV hAM hP hD (va_recv hK hP (ci := 7) (q0 := 0) rfl rfl)) rfl rfl hl.1 rfl (lv_room (Nat.le_of_ble_eq_true rfl)) dX9_tally_34 ⟨(Nat.le_of_ble_eq_true rfl), (Nat.le_of_ble_eq_true rfl)⟩) hS (fun v mx_34 H locs hw hP hD _ hS => ?_)
        try dsimp only at hw
        subst hw
        refine W.eq (g2 := F0 m 37 ls [.int (x_X9_stateOf fs rq fq fh cl nr fV fA fB fO fF v5)]) rfl ?_
        refine W.cs (cells' := 0) (slots' := 0) rfl rfl ?_
        have hP : va_P D vwCl (mW cI cZ o aS aH aG aR aV aA aB aO aP aF aC nd fs fh sg fg rq fq cl nr fV fA fB fO fP fF cn fC mx_34) H := hP
        have hD : va_D A (mW cI cZ o aS aH aG aR aV aA aB aO aP aF aC nd fs fh sg fg rq fq cl nr fV fA fB fO fP fF cn fC mx_34) := hD
        refine lv_if_ne (tgt := 67) hx hb dX9_tally_37 (by decide) (fun c_37 => ?_) (fun c_37 => ?_)
        · have hE := itF hE c_37
          refine lv_iinc (v := (v5 + 1)) (lv' := [(5, .int (v5 + 1)), (4, .int v4), (3, .int v3), (2, .int v2), (0, .ref o), (1, .int p0)]) hx hb dX9_tally_67 hl (k := 0) rfl rfl (by decide) rfl (fun ls hl => ?_)
          refine lv_goto (tgt := 22) hx hb dX9_tally_70 (by decide) ?_
          exact ih v2 v3 v4 (v5 + 1) mx_34 _ _ ((hI.ge (by omega) rfl c_28).1) hE hP hD hS ls (lv_sub hl [0, 1, 2, 3, 4, 5] rfl)
        · have hE := itT hE c_37
          refine lv_iload_n hx hb dX9_tally_40 rfl (lv_at hl 3 rfl) ?_
          refine lv_aload_n hx hb dX9_tally_41 rfl (lv_at hl 4 rfl) ?_
          refine va_get (D := D) (ci := 7) (v := .ref aA) (C := RX9) (T := TX9) (N := 18) hx hb hts in_X9_tally_X9 hown hK hP 0 rfl rfl 10 (by decide) (hts (.fieldLink RX9 32 "WallCountModel" "rowA" "[I") (List.mem_of_getElem? (i := 2) rfl)) (fun _ h9 => h9) rfl dX9_tally_42 ?_
          refine lv_iload hx hb dX9_tally_45 (lv_at hl 0 rfl) ?_
          refine va_iald hx hb hK hP 6 0 rfl rfl (up_in2 hI (by omega) hn30 (by decide) c_28) dX9_tally_47 ?_
          refine ro_call (va_runS (As := [.int v2, .int (fA (ix v5))]) (rest := []) ⟨hx, hb, hml, hown, hts⟩ (c_X9_times l D cI cZ cR _ v2 (fA (ix v5))) (va_cwS 2 hts gX9_tally_X9_times rfl rfl rfl hd_X9_times ⟨(Nat.le_of_ble_eq_true rfl), (Nat.le_of_ble_eq_true rfl)⟩) (po_pre hAM va_P.nil) rfl rfl hl.1 rfl (lv_room (Nat.le_of_ble_eq_true rfl)) dX9_tally_48 ⟨(Nat.le_of_ble_eq_true rfl), (Nat.le_of_ble_eq_true rfl)⟩) ?_
          refine lv_istore_n (lv' := [(2, .int (x_X9_times v2 (fA (ix v5)))), (5, .int v5), (4, .int v4), (3, .int v3), (0, .ref o), (1, .int p0)]) hx hb dX9_tally_51 rfl hl (by decide) rfl (fun ls hl => ?_)
          refine lv_iload_n hx hb dX9_tally_52 rfl (lv_at hl 3 rfl) ?_
          refine lv_aload_n hx hb dX9_tally_53 rfl (lv_at hl 4 rfl) ?_
          refine va_get (D := D) (ci := 7) (v := .ref aB) (C := RX9) (T := TX9) (N := 18) hx hb hts in_X9_tally_X9 hown hK hP 0 rfl rfl 11 (by decide) (hts (.fieldLink RX9 35 "WallCountModel" "rowB" "[I") (List.mem_of_getElem? (i := 3) rfl)) (fun _ h9 => h9) rfl dX9_tally_54 ?_
          refine lv_iload hx hb dX9_tally_57 (lv_at hl 1 rfl) ?_
          refine va_iald hx hb hK hP 7 0 rfl rfl (up_in2 hI (by omega) hn30 (by decide) c_28) dX9_tally_59 ?_
          refine ro_call (va_runS (As := [.int v3, .int (fB (ix v5))]) (rest := []) ⟨hx, hb, hml, hown, hts⟩ (c_X9_times l D cI cZ cR _ v3 (fB (ix v5))) (va_cwS 2 hts gX9_tally_X9_times rfl rfl rfl hd_X9_times ⟨(Nat.le_of_ble_eq_true rfl), (Nat.le_of_ble_eq_true rfl)⟩) (po_pre hAM va_P.nil) rfl rfl hl.1 rfl (lv_room (Nat.le_of_ble_eq_true rfl)) dX9_tally_60 ⟨(Nat.le_of_ble_eq_true rfl), (Nat.le_of_ble_eq_true rfl)⟩) ?_
          refine lv_istore_n (lv' := [(3, .int (x_X9_times v3 (fB (ix v5)))), (2, .int (x_X9_times v2 (fA (ix v5)))), (5, .int v5), (4, .int v4), (0, .ref o), (1, .int p0)]) hx hb dX9_tally_63 rfl hl (by decide) rfl (fun ls hl => ?_)
          refine lv_iinc (v := (v4 + 1)) (lv' := [(4, .int (v4 + 1)), (3, .int (x_X9_times v3 (fB (ix v5)))), (2, .int (x_X9_times v2 (fA (ix v5)))), (5, .int v5), (0, .ref o), (1, .int p0)]) hx hb dX9_tally_64 hl (k := 3) rfl rfl (by decide) rfl (fun ls hl => ?_)
          refine lv_iinc (v := (v5 + 1)) (lv' := [(5, .int (v5 + 1)), (4, .int (v4 + 1)), (3, .int (x_X9_times v3 (fB (ix v5)))), (2, .int (x_X9_times v2 (fA (ix v5)))), (0, .ref o), (1, .int p0)]) hx hb dX9_tally_67 hl (k := 3) rfl rfl (by decide) rfl (fun ls hl => ?_)
          refine lv_goto (tgt := 22) hx hb dX9_tally_70 (by decide) ?_
          exact ih (x_X9_times v2 (fA (ix v5))) (x_X9_times v3 (fB (ix v5))) (v4 + 1) (v5 + 1) mx_34 _ _ ((hI.ge (by omega) rfl c_28).1) hE hP hD hS ls (lv_sub hl [0, 1, 2, 3, 4, 5] rfl)
  · have hE := itF hE c_6
    refine lv_bipush (v := (-2)) hx hb dX9_tally_9 (by decide +kernel) ?_
    subst hE
    exact wr_iret (mx) hx hb hr hlocks rfl hP hD hS dX9_tally_11

theorem hd_X9_ofRow : yX9_ofRow.cls ≠ "java/lang/invoke/MethodHandle" ∧ yX9_ofRow.cls ≠ "java/lang/invoke/VarHandle" ∧ (parseMethodDescriptor yX9_ofRow.desc).map (fun d => d.parameters.length) = some 2 := by decide +kernel
def x_X9_ofRow (fs : Nat → Int32) (rq : Nat) (fq : Nat → Int32) (fh : Nat → Int32) (cl : Int32) (nr : Nat) (fV : Nat → Int32) (fA : Nat → Int32) (fB : Nat → Int32) (fO : Nat → Int32) (fF : Nat → Int32) (p0 : Int32) (p1 : Int32) : Int32 := (if (x_X9_isRow nr p0) = true then (if p1 = 0 then (fV (ix p0)) else (if p1 = 1 then (fA (ix p0)) else (if p1 = 2 then (fB (ix p0)) else (if p1 = 3 then (fO (ix p0)) else (if p1 = 4 then (x_X9_stateOf fs rq fq fh cl nr fV fA fB fO fF p0) else (if p1 = 5 then (x_X9_wordOf fV fA fB fO p0) else (if p1 = 6 then (x_X9_headOf fV fA fB fO p0) else (-2)))))))) else (-1))
def rm_X9_ofRow : Room := { frames := 7, cells := 0, slots := 0, locals := 166 }
abbrev pq_X9_ofRow (D : va_G) (cI cZ cR : ClassId) (A : Nat → Prop) (o aS aH aG aR aV aA aB aO aP aF aC : Nat) (nd : Int32) (fs : Nat → Int32) (fh : Nat → Int32) (sg : Nat) (fg : Nat → Int32) (rq : Nat) (fq : Nat → Int32) (cl : Int32) (nr : Nat) (fV : Nat → Int32) (fA : Nat → Int32) (fB : Nat → Int32) (fO : Nat → Int32) (fP : Nat → Int32) (fF : Nat → Int32) (cn : Nat) (fC : Nat → Int32) (mx : Int32) (Rv : Int32) : Array Value → State → Outcome → State → Prop := wr_Q D (fun (v : Option Value) (u : Int32) => v = some (.int Rv)) (fun u => mW cI cZ o aS aH aG aR aV aA aB aO aP aF aC nd fs fh sg fg rq fq cl nr fV fA fB fO fP fF cn fC u) A
theorem in_X9_ofRow_X9 : ∀ w ∈ wsX90, w ∈ wsX9_ofRow := fun _ h => List.mem_cons_of_mem _ (List.mem_append_right _ h)
set_option maxHeartbeats 4000000 in
set_option maxRecDepth 100000 in
theorem c_X9_ofRow (l : Launch) (D : va_G) (cI cZ cR : ClassId) (A : Nat → Prop) (H0 : Heap) (o aS aH aG aR aV aA aB aO aP aF aC : Nat) (nd : Int32) (fs : Nat → Int32) (fh : Nat → Int32) (sg : Nat) (fg : Nat → Int32) (rq : Nat) (fq : Nat → Int32) (cl : Int32) (nr : Nat) (fV : Nat → Int32) (fA : Nat → Int32) (fB : Nat → Int32) (fO : Nat → Int32) (fP : Nat → Int32) (fF : Nat → Int32) (cn : Nat) (fC : Nat → Int32) (mx : Int32) (p0 : Int32) (p1 : Int32) (hn30 : nr ≤ 30) (hσ : VT rq fq) (hq : rq ≤ 40) (hV : ∀ i, i < nr → x_X9_isVoter (fV i) = true) : Met l yX9_ofRow wsX9_ofRow rm_X9_ofRow (wr_P D cI cZ cR [.ref o, .int p0, .int p1] (mW cI cZ o aS aH aG aR aV aA aB aO aP aF aC nd fs fh sg fg rq fq cl nr fV fA fB fO fP fF cn fC mx) A H0) (pq_X9_ofRow D cI cZ cR A o aS aH aG aR aV aA aB aO aP aF aC nd fs fh sg fg rq fq cl nr fV fA fB fO fP fF cn fC mx (x_X9_ofRow fs rq fq fh cl nr fV fA fB fO fF p0 p1)) 0 0 A := by
  refine Met.ofW (cc := cX9_ofRow) (maxL := 3) (ret := (some .int)) (by decide +kernel) rfl ?_
  intro p e s m args below meth c s₁ B hml hv
  obtain ⟨rfl, rfl, hAM, hP, hD⟩ := hv
  have hx := B.exec
  have hb := B.bytes
  have hr := B.returns
  have hts := atoms_spec (ws := wsX9_ofRow) B.pre
  have hown : s.vm.findClass RX9 = some m.cls := findClass_of_methodNamed B.named
  have hlocks := B.notSynchronized
  have hK := hAM.1
  have hS : va_S A s.heap s.heap [] := va_S.rf
  generalize hE : (x_X9_ofRow fs rq fq fh cl nr fV fA fB fO fF p0 p1) = Rv
  rw [x_X9_ofRow] at hE
  have hl := lv_entry ([.ref o, .int p0, .int p1]) (n := 3) (Nat.le_of_ble_eq_true rfl)
  rw [lg_entry_eq]
  generalize (lg_sl ([.ref o, .int p0, .int p1]) ++ List.replicate (3 - (lg_sl ([.ref o, .int p0, .int p1])).length) Slot.unset).toArray = ls at hl ⊢
  have hl : lv_has ls 3 [(0, .ref o), (1, .int p0), (2, .int p1)] := hl
  refine lv_aload_n hx hb dX9_ofRow_0 rfl (lv_at hl 0 rfl) ?_
  refine lv_iload_n hx hb dX9_ofRow_1 rfl (lv_at hl 1 rfl) ?_
  refine ro_call (va_runV (As := [.int p0]) (rest := []) ⟨hx, hb, hml, hown, hts⟩ (c_X9_isRow l D cI cZ cR _ o aS aH aG aR aV aA aB aO aP aF aC nd fs fh sg fg rq fq cl nr fV fA fB fO fP fF cn fC mx p0) (cwV 1 hts gX9_ofRow_X9_isRow rfl rfl rfl ⟨rfl, hd_X9_isRow⟩ ⟨(Nat.le_of_ble_eq_true rfl), (Nat.le_of_ble_eq_true rfl)⟩) (po_preV hAM (hP.sub [0, 1, 2, 3, 4, 5, 6, 7, 8, 9, 10, 11] rfl) (va_recv hK hP (ci := 7) (q0 := 0) rfl rfl)) rfl rfl hl.1 rfl (lv_room (Nat.le_of_ble_eq_true rfl)) dX9_ofRow_2 ⟨(Nat.le_of_ble_eq_true rfl), (Nat.le_of_ble_eq_true rfl)⟩) ?_
  refine w_if_neb (tgt := 10) hx hb dX9_ofRow_5 (by decide) (fun c_5 => ?_) (fun c_5 => ?_)
  · have hE := itT hE c_5
    refine lv_iload_n hx hb dX9_ofRow_10 rfl (lv_at hl 2 rfl) ?_
    by_cases c_11_0 : p1 = 0
    · have hE := itT hE c_11_0
      refine lv_tableIn (tgt := 52) hx hb dX9_ofRow_11 (by rw [c_11_0]; decide +kernel) (by rw [c_11_0]; decide +kernel) (off := 41) (by rw [c_11_0]; decide +kernel) (by decide) ?_
      refine lv_aload_n hx hb dX9_ofRow_52 rfl (lv_at hl 0 rfl) ?_
      refine va_get (D := D) (ci := 7) (v := .ref aV) (C := RX9) (T := TX9) (N := 18) hx hb hts in_X9_ofRow_X9 hown hK hP 0 rfl rfl 9 (by decide) (hts (.fieldLink RX9 29 "WallCountModel" "rowVoter" "[I") (List.mem_of_getElem? (i := 1) rfl)) (fun _ h9 => h9) rfl dX9_ofRow_53 ?_
      refine lv_iload_n hx hb dX9_ofRow_56 rfl (lv_at hl 1 rfl) ?_
      refine va_iald hx hb hK hP 5 0 rfl rfl (in_vp hn30 (isRow_in hn30 c_5)) dX9_ofRow_57 ?_
      subst hE
      exact wr_iret (mx) hx hb hr hlocks rfl hP hD hS dX9_ofRow_58
    · have hE := itF hE c_11_0
      by_cases c_11_1 : p1 = 1
      · have hE := itT hE c_11_1
        refine lv_tableIn (tgt := 59) hx hb dX9_ofRow_11 (by rw [c_11_1]; decide +kernel) (by rw [c_11_1]; decide +kernel) (off := 48) (by rw [c_11_1]; decide +kernel) (by decide) ?_
        refine lv_aload_n hx hb dX9_ofRow_59 rfl (lv_at hl 0 rfl) ?_
        refine va_get (D := D) (ci := 7) (v := .ref aA) (C := RX9) (T := TX9) (N := 18) hx hb hts in_X9_ofRow_X9 hown hK hP 0 rfl rfl 10 (by decide) (hts (.fieldLink RX9 32 "WallCountModel" "rowA" "[I") (List.mem_of_getElem? (i := 2) rfl)) (fun _ h9 => h9) rfl dX9_ofRow_60 ?_
        refine lv_iload_n hx hb dX9_ofRow_63 rfl (lv_at hl 1 rfl) ?_
        refine va_iald hx hb hK hP 6 0 rfl rfl (in_vp hn30 (isRow_in hn30 c_5)) dX9_ofRow_64 ?_
        subst hE
        exact wr_iret (mx) hx hb hr hlocks rfl hP hD hS dX9_ofRow_65
      · have hE := itF hE c_11_1
        by_cases c_11_2 : p1 = 2
        · have hE := itT hE c_11_2
          refine lv_tableIn (tgt := 66) hx hb dX9_ofRow_11 (by rw [c_11_2]; decide +kernel) (by rw [c_11_2]; decide +kernel) (off := 55) (by rw [c_11_2]; decide +kernel) (by decide) ?_
          refine lv_aload_n hx hb dX9_ofRow_66 rfl (lv_at hl 0 rfl) ?_
          refine va_get (D := D) (ci := 7) (v := .ref aB) (C := RX9) (T := TX9) (N := 18) hx hb hts in_X9_ofRow_X9 hown hK hP 0 rfl rfl 11 (by decide) (hts (.fieldLink RX9 35 "WallCountModel" "rowB" "[I") (List.mem_of_getElem? (i := 3) rfl)) (fun _ h9 => h9) rfl dX9_ofRow_67 ?_
          refine lv_iload_n hx hb dX9_ofRow_70 rfl (lv_at hl 1 rfl) ?_
          refine va_iald hx hb hK hP 7 0 rfl rfl (in_vp hn30 (isRow_in hn30 c_5)) dX9_ofRow_71 ?_
          subst hE
          exact wr_iret (mx) hx hb hr hlocks rfl hP hD hS dX9_ofRow_72
        · have hE := itF hE c_11_2
          by_cases c_11_3 : p1 = 3
          · have hE := itT hE c_11_3
            refine lv_tableIn (tgt := 73) hx hb dX9_ofRow_11 (by rw [c_11_3]; decide +kernel) (by rw [c_11_3]; decide +kernel) (off := 62) (by rw [c_11_3]; decide +kernel) (by decide) ?_
            refine lv_aload_n hx hb dX9_ofRow_73 rfl (lv_at hl 0 rfl) ?_
            refine va_get (D := D) (ci := 7) (v := .ref aO) (C := RX9) (T := TX9) (N := 18) hx hb hts in_X9_ofRow_X9 hown hK hP 0 rfl rfl 12 (by decide) (hts (.fieldLink RX9 38 "WallCountModel" "rowHour" "[I") (List.mem_of_getElem? (i := 4) rfl)) (fun _ h9 => h9) rfl dX9_ofRow_74 ?_
            refine lv_iload_n hx hb dX9_ofRow_77 rfl (lv_at hl 1 rfl) ?_
            refine va_iald hx hb hK hP 8 0 rfl rfl (in_vp hn30 (isRow_in hn30 c_5)) dX9_ofRow_78 ?_
            subst hE
            exact wr_iret (mx) hx hb hr hlocks rfl hP hD hS dX9_ofRow_79
          · have hE := itF hE c_11_3
            by_cases c_11_4 : p1 = 4
            · have hE := itT hE c_11_4
              refine lv_tableIn (tgt := 80) hx hb dX9_ofRow_11 (by rw [c_11_4]; decide +kernel) (by rw [c_11_4]; decide +kernel) (off := 69) (by rw [c_11_4]; decide +kernel) (by decide) ?_
              refine lv_aload_n hx hb dX9_ofRow_80 rfl (lv_at hl 0 rfl) ?_
              refine lv_iload_n hx hb dX9_ofRow_81 rfl (lv_at hl 1 rfl) ?_
              refine wr_call (va_runV (As := [.int p0]) (rest := []) ⟨hx, hb, hml, hown, hts⟩ (c_X9_stateOf l D cI cZ cR A _ o aS aH aG aR aV aA aB aO aP aF aC nd fs fh sg fg rq fq cl nr fV fA fB fO fP fF cn fC mx p0 hn30 (isRow_in hn30 c_5) hσ hq hV) (cwV 1 hts gX9_ofRow_X9_stateOf rfl rfl rfl ⟨rfl, hd_X9_stateOf⟩ ⟨(Nat.le_of_ble_eq_true rfl), (Nat.le_of_ble_eq_true rfl)⟩) (wr_preV hAM hP hD (va_recv hK hP (ci := 7) (q0 := 0) rfl rfl)) rfl rfl hl.1 rfl (lv_room (Nat.le_of_ble_eq_true rfl)) dX9_ofRow_82 ⟨(Nat.le_of_ble_eq_true rfl), (Nat.le_of_ble_eq_true rfl)⟩) hS (fun v mx_82 H locs hw hP hD _ hS => ?_)
              try dsimp only at hw
              subst hw
              refine W.eq (g2 := F0 m 85 ls [.int (x_X9_stateOf fs rq fq fh cl nr fV fA fB fO fF p0)]) rfl ?_
              refine W.cs (cells' := 0) (slots' := 0) rfl rfl ?_
              have hP : va_P D vwCl (mW cI cZ o aS aH aG aR aV aA aB aO aP aF aC nd fs fh sg fg rq fq cl nr fV fA fB fO fP fF cn fC mx_82) H := hP
              have hD : va_D A (mW cI cZ o aS aH aG aR aV aA aB aO aP aF aC nd fs fh sg fg rq fq cl nr fV fA fB fO fP fF cn fC mx_82) := hD
              subst hE
              exact wr_iret (mx_82) hx hb hr hlocks rfl hP hD hS dX9_ofRow_85
            · have hE := itF hE c_11_4
              by_cases c_11_5 : p1 = 5
              · have hE := itT hE c_11_5
                refine lv_tableIn (tgt := 86) hx hb dX9_ofRow_11 (by rw [c_11_5]; decide +kernel) (by rw [c_11_5]; decide +kernel) (off := 75) (by rw [c_11_5]; decide +kernel) (by decide) ?_
                refine lv_aload_n hx hb dX9_ofRow_86 rfl (lv_at hl 0 rfl) ?_
                refine lv_iload_n hx hb dX9_ofRow_87 rfl (lv_at hl 1 rfl) ?_
                refine ro_call (va_runV (As := [.int p0]) (rest := []) ⟨hx, hb, hml, hown, hts⟩ (c_X9_wordOf l D cI cZ cR _ o aS aH aG aR aV aA aB aO aP aF aC nd fs fh sg fg rq fq cl nr fV fA fB fO fP fF cn fC mx p0 hn30 (isRow_in hn30 c_5)) (cwV 1 hts gX9_ofRow_X9_wordOf rfl rfl rfl ⟨rfl, hd_X9_wordOf⟩ ⟨(Nat.le_of_ble_eq_true rfl), (Nat.le_of_ble_eq_true rfl)⟩) (po_preV hAM (hP.sub [0, 1, 2, 3, 4, 5, 6, 7, 8, 9, 10, 11] rfl) (va_recv hK hP (ci := 7) (q0 := 0) rfl rfl)) rfl rfl hl.1 rfl (lv_room (Nat.le_of_ble_eq_true rfl)) dX9_ofRow_88 ⟨(Nat.le_of_ble_eq_true rfl), (Nat.le_of_ble_eq_true rfl)⟩) ?_
                subst hE
                exact wr_iret (mx) hx hb hr hlocks rfl hP hD hS dX9_ofRow_91
              · have hE := itF hE c_11_5
                by_cases c_11_6 : p1 = 6
                · have hE := itT hE c_11_6
                  refine lv_tableIn (tgt := 92) hx hb dX9_ofRow_11 (by rw [c_11_6]; decide +kernel) (by rw [c_11_6]; decide +kernel) (off := 81) (by rw [c_11_6]; decide +kernel) (by decide) ?_
                  refine lv_aload_n hx hb dX9_ofRow_92 rfl (lv_at hl 0 rfl) ?_
                  refine lv_iload_n hx hb dX9_ofRow_93 rfl (lv_at hl 1 rfl) ?_
                  refine ro_call (va_runV (As := [.int p0]) (rest := []) ⟨hx, hb, hml, hown, hts⟩ (c_X9_headOf l D cI cZ cR _ o aS aH aG aR aV aA aB aO aP aF aC nd fs fh sg fg rq fq cl nr fV fA fB fO fP fF cn fC mx p0 hn30 (isRow_in hn30 c_5)) (cwV 1 hts gX9_ofRow_X9_headOf rfl rfl rfl ⟨rfl, hd_X9_headOf⟩ ⟨(Nat.le_of_ble_eq_true rfl), (Nat.le_of_ble_eq_true rfl)⟩) (po_preV hAM (hP.sub [0, 1, 2, 3, 4, 5, 6, 7, 8, 9, 10, 11] rfl) (va_recv hK hP (ci := 7) (q0 := 0) rfl rfl)) rfl rfl hl.1 rfl (lv_room (Nat.le_of_ble_eq_true rfl)) dX9_ofRow_94 ⟨(Nat.le_of_ble_eq_true rfl), (Nat.le_of_ble_eq_true rfl)⟩) ?_
                  subst hE
                  exact wr_iret (mx) hx hb hr hlocks rfl hP hD hS dX9_ofRow_97
                · have hE := itF hE c_11_6
                  refine lv_tableOut (tgt := 98) hx hb dX9_ofRow_11 (sw_out7 c_11_0 c_11_1 c_11_2 c_11_3 c_11_4 c_11_5 c_11_6) (by decide) ?_
                  refine lv_bipush (v := (-2)) hx hb dX9_ofRow_98 (by decide +kernel) ?_
                  subst hE
                  exact wr_iret (mx) hx hb hr hlocks rfl hP hD hS dX9_ofRow_100
  · have hE := itF hE c_5
    refine lv_iconst (v := (-1)) hx hb dX9_ofRow_8 (by decide) ?_
    subst hE
    exact wr_iret (mx) hx hb hr hlocks rfl hP hD hS dX9_ofRow_9

theorem hd_X9_copy : yX9_copy.cls ≠ "java/lang/invoke/MethodHandle" ∧ yX9_copy.cls ≠ "java/lang/invoke/VarHandle" ∧ (parseMethodDescriptor yX9_copy.desc).map (fun d => d.parameters.length) = some 1 := by decide +kernel
def x_X9_copy (cn : Nat) (fC : Nat → Int32) (p0 : Int32) : Int32 × Nat × (Nat → Int32) := (if (x_X9_in p0 0 9972) = true then (if (nI cn) = 30 then ((-4), cn, fC) else ((nI (cn + 1)), (cn + 1), (upd fC (ix (nI cn)) p0))) else ((-2), cn, fC))
def rm_X9_copy : Room := { frames := 1, cells := 0, slots := 0, locals := 22 }
abbrev pq_X9_copy (D : va_G) (cI cZ cR : ClassId) (A : Nat → Prop) (o aS aH aG aR aV aA aB aO aP aF aC : Nat) (nd : Int32) (fs : Nat → Int32) (fh : Nat → Int32) (sg : Nat) (fg : Nat → Int32) (rq : Nat) (fq : Nat → Int32) (cl : Int32) (nr : Nat) (fV : Nat → Int32) (fA : Nat → Int32) (fB : Nat → Int32) (fO : Nat → Int32) (fP : Nat → Int32) (fF : Nat → Int32) (cn : Nat) (fC : Nat → Int32) (mx : Int32) (Rv : Int32 × Nat × (Nat → Int32)) : Array Value → State → Outcome → State → Prop := wr_Q D (fun (v : Option Value) (u : Nat × (Nat → Int32)) => v = some (.int Rv.1) ∧ u.1 = Rv.2.1 ∧ u.2 = Rv.2.2) (fun u => mW cI cZ o aS aH aG aR aV aA aB aO aP aF aC nd fs fh sg fg rq fq cl nr fV fA fB fO fP fF u.1 u.2 mx) A
theorem in_X9_copy_X9 : ∀ w ∈ wsX90, w ∈ wsX9_copy := fun _ h => List.mem_cons_of_mem _ (List.mem_append_right _ h)
set_option maxHeartbeats 4000000 in
set_option maxRecDepth 100000 in
theorem c_X9_copy (l : Launch) (D : va_G) (cI cZ cR : ClassId) (A : Nat → Prop) (H0 : Heap) (o aS aH aG aR aV aA aB aO aP aF aC : Nat) (nd : Int32) (fs : Nat → Int32) (fh : Nat → Int32) (sg : Nat) (fg : Nat → Int32) (rq : Nat) (fq : Nat → Int32) (cl : Int32) (nr : Nat) (fV : Nat → Int32) (fA : Nat → Int32) (fB : Nat → Int32) (fO : Nat → Int32) (fP : Nat → Int32) (fF : Nat → Int32) (cn : Nat) (fC : Nat → Int32) (mx : Int32) (p0 : Int32) (hcn : cn ≤ 30) : Met l yX9_copy wsX9_copy rm_X9_copy (wr_P D cI cZ cR [.ref o, .int p0] (mW cI cZ o aS aH aG aR aV aA aB aO aP aF aC nd fs fh sg fg rq fq cl nr fV fA fB fO fP fF cn fC mx) A H0) (pq_X9_copy D cI cZ cR A o aS aH aG aR aV aA aB aO aP aF aC nd fs fh sg fg rq fq cl nr fV fA fB fO fP fF cn fC mx (x_X9_copy cn fC p0)) 0 0 A := by
  refine Met.ofW (cc := cX9_copy) (maxL := 2) (ret := (some .int)) (by decide +kernel) rfl ?_
  intro p e s m args below meth c s₁ B hml hv
  obtain ⟨rfl, rfl, hAM, hP, hD⟩ := hv
  have hx := B.exec
  have hb := B.bytes
  have hr := B.returns
  have hts := atoms_spec (ws := wsX9_copy) B.pre
  have hown : s.vm.findClass RX9 = some m.cls := findClass_of_methodNamed B.named
  have hlocks := B.notSynchronized
  have hK := hAM.1
  have hS : va_S A s.heap s.heap [] := va_S.rf
  generalize hE : (x_X9_copy cn fC p0) = Rv
  rw [x_X9_copy] at hE
  have hl := lv_entry ([.ref o, .int p0]) (n := 2) (Nat.le_of_ble_eq_true rfl)
  rw [lg_entry_eq]
  generalize (lg_sl ([.ref o, .int p0]) ++ List.replicate (2 - (lg_sl ([.ref o, .int p0])).length) Slot.unset).toArray = ls at hl ⊢
  have hl : lv_has ls 2 [(0, .ref o), (1, .int p0)] := hl
  refine lv_iload_n hx hb dX9_copy_0 rfl (lv_at hl 1 rfl) ?_
  refine lv_iconst (v := 0) hx hb dX9_copy_1 (by decide) ?_
  refine lv_sipush (v := 9972) hx hb dX9_copy_2 (by decide +kernel) ?_
  refine ro_call (va_runS (As := [.int p0, .int 0, .int 9972]) (rest := []) ⟨hx, hb, hml, hown, hts⟩ (c_X9_in l D cI cZ cR _ p0 0 9972) (va_cwS 3 hts gX9_copy_X9_in rfl rfl rfl hd_X9_in ⟨(Nat.le_of_ble_eq_true rfl), (Nat.le_of_ble_eq_true rfl)⟩) (po_pre hAM va_P.nil) rfl rfl hl.1 rfl (lv_room (Nat.le_of_ble_eq_true rfl)) dX9_copy_5 ⟨(Nat.le_of_ble_eq_true rfl), (Nat.le_of_ble_eq_true rfl)⟩) ?_
  refine w_if_neb (tgt := 14) hx hb dX9_copy_8 (by decide) (fun c_8 => ?_) (fun c_8 => ?_)
  · have hE := itT hE c_8
    refine lv_aload_n hx hb dX9_copy_14 rfl (lv_at hl 0 rfl) ?_
    refine va_get (D := D) (ci := 7) (v := .int (nI cn)) (C := RX9) (T := TX9) (N := 18) hx hb hts in_X9_copy_X9 hown hK hP 0 rfl rfl 15 (by decide) (hts (.fieldLink RX9 181 "WallCountModel" "copies" "I") (List.mem_of_getElem? (i := 1) rfl)) (fun _ h9 => h9) rfl dX9_copy_15 ?_
    refine lv_bipush (v := 30) hx hb dX9_copy_18 (by decide +kernel) ?_
    refine lv_icmp_ne (tgt := 26) hx hb dX9_copy_20 (by decide) (fun c_20 => ?_) (fun c_20 => ?_)
    · have hE := itF hE c_20
      refine lv_aload_n hx hb dX9_copy_26 rfl (lv_at hl 0 rfl) ?_
      refine va_get (D := D) (ci := 7) (v := .ref aC) (C := RX9) (T := TX9) (N := 18) hx hb hts in_X9_copy_X9 hown hK hP 0 rfl rfl 16 (by decide) (hts (.fieldLink RX9 48 "WallCountModel" "copied" "[I") (List.mem_of_getElem? (i := 2) rfl)) (fun _ h9 => h9) rfl dX9_copy_27 ?_
      refine lv_aload_n hx hb dX9_copy_30 rfl (lv_at hl 0 rfl) ?_
      refine va_get (D := D) (ci := 7) (v := .int (nI cn)) (C := RX9) (T := TX9) (N := 18) hx hb hts in_X9_copy_X9 hown hK hP 0 rfl rfl 15 (by decide) (hts (.fieldLink RX9 181 "WallCountModel" "copies" "I") (List.mem_of_getElem? (i := 1) rfl)) (fun _ h9 => h9) rfl dX9_copy_31 ?_
      refine lv_iload_n hx hb dX9_copy_34 rfl (lv_at hl 1 rfl) ?_
      refine va_iast hx hb hK hP hD hS 11 0 rfl rfl (free_in hcn (by decide) rfl c_20) dX9_copy_35 (fun H locs hP hD hS => ?_)
      have hP : va_P D vwCl (mW cI cZ o aS aH aG aR aV aA aB aO aP aF aC nd fs fh sg fg rq fq cl nr fV fA fB fO fP fF cn (upd fC (ix (nI cn)) p0) mx) H := hP
      have hD : va_D A (mW cI cZ o aS aH aG aR aV aA aB aO aP aF aC nd fs fh sg fg rq fq cl nr fV fA fB fO fP fF cn (upd fC (ix (nI cn)) p0) mx) := hD
      refine lv_aload_n hx hb dX9_copy_36 rfl (lv_at hl 0 rfl) ?_
      refine lv_dup hx hb dX9_copy_37 rfl ?_
      refine va_get (D := D) (ci := 7) (v := .int (nI cn)) (C := RX9) (T := TX9) (N := 18) hx hb hts in_X9_copy_X9 hown hK hP 0 rfl rfl 15 (by decide) (hts (.fieldLink RX9 181 "WallCountModel" "copies" "I") (List.mem_of_getElem? (i := 1) rfl)) (fun _ h9 => h9) rfl dX9_copy_38 ?_
      refine lv_iconst (v := 1) hx hb dX9_copy_41 (by decide) ?_
      refine lv_iadd hx hb dX9_copy_42 ?_
      rw [nI_1 cn]
      refine va_put (D := D) (ci := 7) (v := .int (nI (cn + 1))) (ty := .int) (C := RX9) (T := TX9) (N := 18) hx hb hts in_X9_copy_X9 tyX9 tyX9_ok nmX9 hown hK hP hD hS 0 rfl rfl 15 (by decide) (hts (.fieldLink RX9 181 "WallCountModel" "copies" "I") (List.mem_of_getElem? (i := 1) rfl)) (fun _ h9 => h9) rfl (by decide +kernel) rfl rfl (Nat.le_of_ble_eq_true rfl) dX9_copy_43 (fun H locs hP hD hS => ?_)
      have hP : va_P D vwCl (mW cI cZ o aS aH aG aR aV aA aB aO aP aF aC nd fs fh sg fg rq fq cl nr fV fA fB fO fP fF (cn + 1) (upd fC (ix (nI cn)) p0) mx) H := hP
      have hD : va_D A (mW cI cZ o aS aH aG aR aV aA aB aO aP aF aC nd fs fh sg fg rq fq cl nr fV fA fB fO fP fF (cn + 1) (upd fC (ix (nI cn)) p0) mx) := hD
      refine lv_aload_n hx hb dX9_copy_46 rfl (lv_at hl 0 rfl) ?_
      refine va_get (D := D) (ci := 7) (v := .int (nI (cn + 1))) (C := RX9) (T := TX9) (N := 18) hx hb hts in_X9_copy_X9 hown hK hP 0 rfl rfl 15 (by decide) (hts (.fieldLink RX9 181 "WallCountModel" "copies" "I") (List.mem_of_getElem? (i := 1) rfl)) (fun _ h9 => h9) rfl dX9_copy_47 ?_
      subst hE
      exact wr_iret ((cn + 1), (upd fC (ix (nI cn)) p0)) hx hb hr hlocks ⟨rfl, rfl, rfl⟩ hP hD hS dX9_copy_50
    · have hE := itT hE c_20
      refine lv_bipush (v := (-4)) hx hb dX9_copy_23 (by decide +kernel) ?_
      subst hE
      exact wr_iret (cn, fC) hx hb hr hlocks ⟨rfl, rfl, rfl⟩ hP hD hS dX9_copy_25
  · have hE := itF hE c_8
    refine lv_bipush (v := (-2)) hx hb dX9_copy_11 (by decide +kernel) ?_
    subst hE
    exact wr_iret (cn, fC) hx hb hr hlocks ⟨rfl, rfl, rfl⟩ hP hD hS dX9_copy_13

theorem hd_X9_count : yX9_count.cls ≠ "java/lang/invoke/MethodHandle" ∧ yX9_count.cls ≠ "java/lang/invoke/VarHandle" ∧ (parseMethodDescriptor yX9_count.desc).map (fun d => d.parameters.length) = some 1 := by decide +kernel
def x_X9_count (fs : Nat → Int32) (rq : Nat) (fq : Nat → Int32) (fh : Nat → Int32) (cl : Int32) (nr : Nat) (fV : Nat → Int32) (fA : Nat → Int32) (fB : Nat → Int32) (fO : Nat → Int32) (fF : Nat → Int32) (sg : Nat) (nd : Int32) (cn : Nat) (p0 : Int32) : Int32 := (if (x_X9_in p0 10 14) = true then (x_X9_rowsThatAre fs rq fq fh cl nr fV fA fB fO fF (p0 - 10)) else (if p0 = 0 then (nI nr) else (if p0 = 1 then (nI sg) else (if p0 = 2 then (x_X9_h fs) else (if p0 = 3 then nd else (if p0 = 4 then cl else (if p0 = 5 then (nI cn) else (-2))))))))
def rm_X9_count : Room := { frames := 8, cells := 0, slots := 0, locals := 189 }
abbrev pq_X9_count (D : va_G) (cI cZ cR : ClassId) (A : Nat → Prop) (o aS aH aG aR aV aA aB aO aP aF aC : Nat) (nd : Int32) (fs : Nat → Int32) (fh : Nat → Int32) (sg : Nat) (fg : Nat → Int32) (rq : Nat) (fq : Nat → Int32) (cl : Int32) (nr : Nat) (fV : Nat → Int32) (fA : Nat → Int32) (fB : Nat → Int32) (fO : Nat → Int32) (fP : Nat → Int32) (fF : Nat → Int32) (cn : Nat) (fC : Nat → Int32) (mx : Int32) (Rv : Int32) : Array Value → State → Outcome → State → Prop := wr_Q D (fun (v : Option Value) (u : Int32) => v = some (.int Rv)) (fun u => mW cI cZ o aS aH aG aR aV aA aB aO aP aF aC nd fs fh sg fg rq fq cl nr fV fA fB fO fP fF cn fC u) A
theorem in_X9_count_X9 : ∀ w ∈ wsX90, w ∈ wsX9_count := fun _ h => List.mem_cons_of_mem _ (List.mem_append_right _ h)
set_option maxHeartbeats 4000000 in
set_option maxRecDepth 100000 in
theorem c_X9_count (l : Launch) (D : va_G) (cI cZ cR : ClassId) (A : Nat → Prop) (H0 : Heap) (o aS aH aG aR aV aA aB aO aP aF aC : Nat) (nd : Int32) (fs : Nat → Int32) (fh : Nat → Int32) (sg : Nat) (fg : Nat → Int32) (rq : Nat) (fq : Nat → Int32) (cl : Int32) (nr : Nat) (fV : Nat → Int32) (fA : Nat → Int32) (fB : Nat → Int32) (fO : Nat → Int32) (fP : Nat → Int32) (fF : Nat → Int32) (cn : Nat) (fC : Nat → Int32) (mx : Int32) (p0 : Int32) (hn30 : nr ≤ 30) (hσ : VT rq fq) (hq : rq ≤ 40) (hV : ∀ i, i < nr → x_X9_isVoter (fV i) = true) : Met l yX9_count wsX9_count rm_X9_count (wr_P D cI cZ cR [.ref o, .int p0] (mW cI cZ o aS aH aG aR aV aA aB aO aP aF aC nd fs fh sg fg rq fq cl nr fV fA fB fO fP fF cn fC mx) A H0) (pq_X9_count D cI cZ cR A o aS aH aG aR aV aA aB aO aP aF aC nd fs fh sg fg rq fq cl nr fV fA fB fO fP fF cn fC mx (x_X9_count fs rq fq fh cl nr fV fA fB fO fF sg nd cn p0)) 0 0 A := by
  refine Met.ofW (cc := cX9_count) (maxL := 2) (ret := (some .int)) (by decide +kernel) rfl ?_
  intro p e s m args below meth c s₁ B hml hv
  obtain ⟨rfl, rfl, hAM, hP, hD⟩ := hv
  have hx := B.exec
  have hb := B.bytes
  have hr := B.returns
  have hts := atoms_spec (ws := wsX9_count) B.pre
  have hown : s.vm.findClass RX9 = some m.cls := findClass_of_methodNamed B.named
  have hlocks := B.notSynchronized
  have hK := hAM.1
  have hS : va_S A s.heap s.heap [] := va_S.rf
  generalize hE : (x_X9_count fs rq fq fh cl nr fV fA fB fO fF sg nd cn p0) = Rv
  rw [x_X9_count] at hE
  have hl := lv_entry ([.ref o, .int p0]) (n := 2) (Nat.le_of_ble_eq_true rfl)
  rw [lg_entry_eq]
  generalize (lg_sl ([.ref o, .int p0]) ++ List.replicate (2 - (lg_sl ([.ref o, .int p0])).length) Slot.unset).toArray = ls at hl ⊢
  have hl : lv_has ls 2 [(0, .ref o), (1, .int p0)] := hl
  refine lv_iload_n hx hb dX9_count_0 rfl (lv_at hl 1 rfl) ?_
  refine lv_bipush (v := 10) hx hb dX9_count_1 (by decide +kernel) ?_
  refine lv_bipush (v := 14) hx hb dX9_count_3 (by decide +kernel) ?_
  refine ro_call (va_runS (As := [.int p0, .int 10, .int 14]) (rest := []) ⟨hx, hb, hml, hown, hts⟩ (c_X9_in l D cI cZ cR _ p0 10 14) (va_cwS 3 hts gX9_count_X9_in rfl rfl rfl hd_X9_in ⟨(Nat.le_of_ble_eq_true rfl), (Nat.le_of_ble_eq_true rfl)⟩) (po_pre hAM va_P.nil) rfl rfl hl.1 rfl (lv_room (Nat.le_of_ble_eq_true rfl)) dX9_count_5 ⟨(Nat.le_of_ble_eq_true rfl), (Nat.le_of_ble_eq_true rfl)⟩) ?_
  refine w_if_eqb (tgt := 20) hx hb dX9_count_8 (by decide) (fun c_8 => ?_) (fun c_8 => ?_)
  · have hE := itF hE c_8
    refine lv_iload_n hx hb dX9_count_20 rfl (lv_at hl 1 rfl) ?_
    by_cases c_21_0 : p0 = 0
    · have hE := itT hE c_21_0
      refine lv_tableIn (tgt := 60) hx hb dX9_count_21 (by rw [c_21_0]; decide +kernel) (by rw [c_21_0]; decide +kernel) (off := 39) (by rw [c_21_0]; decide +kernel) (by decide) ?_
      refine lv_aload_n hx hb dX9_count_60 rfl (lv_at hl 0 rfl) ?_
      refine va_get (D := D) (ci := 7) (v := .int (nI nr)) (C := RX9) (T := TX9) (N := 18) hx hb hts in_X9_count_X9 hown hK hP 0 rfl rfl 8 (by decide) (hts (.fieldLink RX9 72 "WallCountModel" "rows" "I") (List.mem_of_getElem? (i := 1) rfl)) (fun _ h9 => h9) rfl dX9_count_61 ?_
      subst hE
      exact wr_iret (mx) hx hb hr hlocks rfl hP hD hS dX9_count_64
    · have hE := itF hE c_21_0
      by_cases c_21_1 : p0 = 1
      · have hE := itT hE c_21_1
        refine lv_tableIn (tgt := 65) hx hb dX9_count_21 (by rw [c_21_1]; decide +kernel) (by rw [c_21_1]; decide +kernel) (off := 44) (by rw [c_21_1]; decide +kernel) (by decide) ?_
        refine lv_aload_n hx hb dX9_count_65 rfl (lv_at hl 0 rfl) ?_
        refine va_get (D := D) (ci := 7) (v := .int (nI sg)) (C := RX9) (T := TX9) (N := 18) hx hb hts in_X9_count_X9 hown hK hP 0 rfl rfl 3 (by decide) (hts (.fieldLink RX9 135 "WallCountModel" "signs" "I") (List.mem_of_getElem? (i := 2) rfl)) (fun _ h9 => h9) rfl dX9_count_66 ?_
        subst hE
        exact wr_iret (mx) hx hb hr hlocks rfl hP hD hS dX9_count_69
      · have hE := itF hE c_21_1
        by_cases c_21_2 : p0 = 2
        · have hE := itT hE c_21_2
          refine lv_tableIn (tgt := 70) hx hb dX9_count_21 (by rw [c_21_2]; decide +kernel) (by rw [c_21_2]; decide +kernel) (off := 49) (by rw [c_21_2]; decide +kernel) (by decide) ?_
          refine lv_aload_n hx hb dX9_count_70 rfl (lv_at hl 0 rfl) ?_
          refine ro_call (va_runV (As := []) (rest := []) ⟨hx, hb, hml, hown, hts⟩ (c_X9_h l D cI cZ cR _ o aS aH aG aR aV aA aB aO aP aF aC nd fs fh sg fg rq fq cl nr fV fA fB fO fP fF cn fC mx) (cwV 0 hts gX9_count_X9_h rfl rfl rfl ⟨rfl, hd_X9_h⟩ ⟨(Nat.le_of_ble_eq_true rfl), (Nat.le_of_ble_eq_true rfl)⟩) (po_preV hAM (hP.sub [0, 1, 2, 3, 4, 5, 6, 7, 8, 9, 10, 11] rfl) (va_recv hK hP (ci := 7) (q0 := 0) rfl rfl)) rfl rfl hl.1 rfl (lv_room (Nat.le_of_ble_eq_true rfl)) dX9_count_71 ⟨(Nat.le_of_ble_eq_true rfl), (Nat.le_of_ble_eq_true rfl)⟩) ?_
          subst hE
          exact wr_iret (mx) hx hb hr hlocks rfl hP hD hS dX9_count_74
        · have hE := itF hE c_21_2
          by_cases c_21_3 : p0 = 3
          · have hE := itT hE c_21_3
            refine lv_tableIn (tgt := 75) hx hb dX9_count_21 (by rw [c_21_3]; decide +kernel) (by rw [c_21_3]; decide +kernel) (off := 54) (by rw [c_21_3]; decide +kernel) (by decide) ?_
            refine lv_aload_n hx hb dX9_count_75 rfl (lv_at hl 0 rfl) ?_
            refine va_get (D := D) (ci := 7) (v := .int nd) (C := RX9) (T := TX9) (N := 18) hx hb hts in_X9_count_X9 hown hK hP 0 rfl rfl 0 (by decide) (hts (.fieldLink RX9 7 "WallCountModel" "need" "I") (List.mem_of_getElem? (i := 3) rfl)) (fun _ h9 => h9) rfl dX9_count_76 ?_
            subst hE
            exact wr_iret (mx) hx hb hr hlocks rfl hP hD hS dX9_count_79
          · have hE := itF hE c_21_3
            by_cases c_21_4 : p0 = 4
            · have hE := itT hE c_21_4
              refine lv_tableIn (tgt := 80) hx hb dX9_count_21 (by rw [c_21_4]; decide +kernel) (by rw [c_21_4]; decide +kernel) (off := 59) (by rw [c_21_4]; decide +kernel) (by decide) ?_
              refine lv_aload_n hx hb dX9_count_80 rfl (lv_at hl 0 rfl) ?_
              refine va_get (D := D) (ci := 7) (v := .int cl) (C := RX9) (T := TX9) (N := 18) hx hb hts in_X9_count_X9 hown hK hP 0 rfl rfl 7 (by decide) (hts (.fieldLink RX9 26 "WallCountModel" "close" "I") (List.mem_of_getElem? (i := 4) rfl)) (fun _ h9 => h9) rfl dX9_count_81 ?_
              subst hE
              exact wr_iret (mx) hx hb hr hlocks rfl hP hD hS dX9_count_84
            · have hE := itF hE c_21_4
              by_cases c_21_5 : p0 = 5
              · have hE := itT hE c_21_5
                refine lv_tableIn (tgt := 85) hx hb dX9_count_21 (by rw [c_21_5]; decide +kernel) (by rw [c_21_5]; decide +kernel) (off := 64) (by rw [c_21_5]; decide +kernel) (by decide) ?_
                refine lv_aload_n hx hb dX9_count_85 rfl (lv_at hl 0 rfl) ?_
                refine va_get (D := D) (ci := 7) (v := .int (nI cn)) (C := RX9) (T := TX9) (N := 18) hx hb hts in_X9_count_X9 hown hK hP 0 rfl rfl 15 (by decide) (hts (.fieldLink RX9 181 "WallCountModel" "copies" "I") (List.mem_of_getElem? (i := 5) rfl)) (fun _ h9 => h9) rfl dX9_count_86 ?_
                subst hE
                exact wr_iret (mx) hx hb hr hlocks rfl hP hD hS dX9_count_89
              · have hE := itF hE c_21_5
                refine lv_tableOut (tgt := 90) hx hb dX9_count_21 (sw_out6 c_21_0 c_21_1 c_21_2 c_21_3 c_21_4 c_21_5) (by decide) ?_
                refine lv_bipush (v := (-2)) hx hb dX9_count_90 (by decide +kernel) ?_
                subst hE
                exact wr_iret (mx) hx hb hr hlocks rfl hP hD hS dX9_count_92
  · have hE := itT hE c_8
    refine lv_aload_n hx hb dX9_count_11 rfl (lv_at hl 0 rfl) ?_
    refine lv_iload_n hx hb dX9_count_12 rfl (lv_at hl 1 rfl) ?_
    refine lv_bipush (v := 10) hx hb dX9_count_13 (by decide +kernel) ?_
    refine lv_isub hx hb dX9_count_15 ?_
    refine wr_call (va_runV (As := [.int (p0 - 10)]) (rest := []) ⟨hx, hb, hml, hown, hts⟩ (c_X9_rowsThatAre l D cI cZ cR A _ o aS aH aG aR aV aA aB aO aP aF aC nd fs fh sg fg rq fq cl nr fV fA fB fO fP fF cn fC mx (p0 - 10) hn30 hσ hq hV) (cwV 1 hts gX9_count_X9_rowsThatAre rfl rfl rfl ⟨rfl, hd_X9_rowsThatAre⟩ ⟨(Nat.le_of_ble_eq_true rfl), (Nat.le_of_ble_eq_true rfl)⟩) (wr_preV hAM hP hD (va_recv hK hP (ci := 7) (q0 := 0) rfl rfl)) rfl rfl hl.1 rfl (lv_room (Nat.le_of_ble_eq_true rfl)) dX9_count_16 ⟨(Nat.le_of_ble_eq_true rfl), (Nat.le_of_ble_eq_true rfl)⟩) hS (fun v mx_16 H locs hw hP hD _ hS => ?_)
    try dsimp only at hw
    subst hw
    refine W.eq (g2 := F0 m 19 ls [.int (x_X9_rowsThatAre fs rq fq fh cl nr fV fA fB fO fF (p0 - 10))]) rfl ?_
    refine W.cs (cells' := 0) (slots' := 0) rfl rfl ?_
    have hP : va_P D vwCl (mW cI cZ o aS aH aG aR aV aA aB aO aP aF aC nd fs fh sg fg rq fq cl nr fV fA fB fO fP fF cn fC mx_16) H := hP
    have hD : va_D A (mW cI cZ o aS aH aG aR aV aA aB aO aP aF aC nd fs fh sg fg rq fq cl nr fV fA fB fO fP fF cn fC mx_16) := hD
    subst hE
    exact wr_iret (mx_16) hx hb hr hlocks rfl hP hD hS dX9_count_19
