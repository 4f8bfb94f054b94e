/-! the law's loop, its start -/
theorem LI_b {D : va_G} {cI cZ cR : ClassId} {Ax Am : Nat → Prop} {s : State} {x o N : Nat} {H : Heap} {locs : List Loc} {cells slots : Nat} (hI : LI D cI cZ cR Ax Am s x o N H locs cells slots) : va_S (fun q : Nat => s.heap.size ≤ q) s.heap H locs ∧ cells ≤ 24 + N ∧ slots ≤ 1000 + 6 * N := by
  obtain ⟨kk, pr, w, wr, wc, ro, wt, nd, c0, c1, c2, hh, pc0, pz0, pc1, pz1, dr, sd, sg, fd, tw, sw, rq, fw, fr, nr, ra, rd, cn, cl, cp, aS, aH, aG, aR, aV, aA, aB, aO, aP, aF, aC, fs, fh, fg, fq, fV, fA, fB, fO, fP, fF, fC, mx, -, -, -, -, -, -, hS, h1, h2⟩ := hI
  exact ⟨hS, h1, h2⟩
theorem len9 {L : Nat} (hL : L ≤ 4608) : (Int32.ofNat L - 9).toInt = (L : Int) - 9 := by
  rw [Int32.toInt_sub, show (Int32.ofNat L).toInt = (L : Int) from nI_toInt (show L < 2 ^ 31 by omega), show (9 : Int32).toInt = 9 by decide +kernel]
  exact Int.bmod_eq_of_le (by omega) (by omega)
theorem room9 {L i : Nat} (hL : L ≤ 4608) (hi : i ≤ L) (h : ¬ Int32.ofNat L - 9 < nI i) : i + 9 ≤ L := by
  rw [Int32.lt_iff_toInt_lt, len9 hL, nI_toInt (show i < 2 ^ 31 by omega)] at h
  omega
set_option maxHeartbeats 4000000 in
set_option maxRecDepth 100000 in
theorem law_turn {p : Program} {l : Launch} {e : Env} {s : State} {m : MethodId} {below : List Frame} {meth : Method} {c : Code} {D : va_G} {cI cZ cR : ClassId} {Ax Am : Nat → Prop} {b L x o : Nat} {xs : Nat → Int32} (hL : L ≤ 4608) (C0 : lw_At p s m meth c b L xs) (hC : LC D cI cZ cR Ax Am s) {N i : Nat} {H : Heap} {locs : List Loc} {cells slots : Nat} (hI : LI D cI cZ cR Ax Am s x o N H locs cells slots) (hN : N ≤ 512) (hi : i + 9 ≤ L) {ls : Array Slot} (hl : lv_has ls 4 [(3, .int (nI i)), (2, .ref o), (1, .ref x), (0, .ref b)])
    (cont : ∀ (H : Heap) (locs : List Loc) (cells slots : Nat), LI D cI cZ cR Ax Am s x o (N + 1) H locs cells slots → ∀ ls : Array Slot, lv_has ls 4 [(3, .int (nI i)), (2, .ref o), (1, .ref x), (0, .ref b)] → W p l e room_1 s m #[Value.ref b] below meth c H locs cells slots (lw_Z below #[Value.ref b] s) (F0 m 1511 ls [])) (v : Int32) : W p l e room_1 s m #[Value.ref b] below meth c H locs cells slots (lw_Z below #[Value.ref b] s) (F0 m 33 ls [.int (v &&& 31)]) := by
  obtain ⟨j, hj, ej⟩ := pk_andE v (m := 31) 5 (by decide +kernel)
  rw [ej]
  have hj : j < 32 := hj
  clear ej
  have hx := C0.1
  have hb := C0.2.1
  by_cases h0 : j = 0
  · rw [h0]
    exact lv_tableIn (off := 143) (tgt := 176) hx hb dL_law_33 (by decide +kernel) (by decide +kernel) (by decide +kernel) (by decide +kernel) (law_key hL C0 hC hI hN hi hl cont)
  by_cases h1 : j = 1
  · rw [h1]
    exact lv_tableIn (off := 196) (tgt := 229) hx hb dL_law_33 (by decide +kernel) (by decide +kernel) (by decide +kernel) (by decide +kernel) (law_holder hL C0 hC hI hN hi hl cont)
  by_cases h2 : j = 2
  · rw [h2]
    exact lv_tableIn (off := 229) (tgt := 262) hx hb dL_law_33 (by decide +kernel) (by decide +kernel) (by decide +kernel) (by decide +kernel) (law_seal hL C0 hC hI hN hi hl cont)
  by_cases h3 : j = 3
  · rw [h3]
    exact lv_tableIn (off := 272) (tgt := 305) hx hb dL_law_33 (by decide +kernel) (by decide +kernel) (by decide +kernel) (by decide +kernel) (law_right hL C0 hC hI hN hi hl cont)
  by_cases h4 : j = 4
  · rw [h4]
    exact lv_tableIn (off := 305) (tgt := 338) hx hb dL_law_33 (by decide +kernel) (by decide +kernel) (by decide +kernel) (by decide +kernel) (law_open hL C0 hC hI hN hi hl cont)
  by_cases h5 : j = 5
  · rw [h5]
    exact lv_tableIn (off := 338) (tgt := 371) hx hb dL_law_33 (by decide +kernel) (by decide +kernel) (by decide +kernel) (by decide +kernel) (law_weight hL C0 hC hI hN hi hl cont)
  by_cases h6 : j = 6
  · rw [h6]
    exact lv_tableIn (off := 371) (tgt := 404) hx hb dL_law_33 (by decide +kernel) (by decide +kernel) (by decide +kernel) (by decide +kernel) (law_opened hL C0 hC hI hN hi hl cont)
  by_cases h7 : j = 7
  · rw [h7]
    exact lv_tableIn (off := 424) (tgt := 457) hx hb dL_law_33 (by decide +kernel) (by decide +kernel) (by decide +kernel) (by decide +kernel) (law_prove hL C0 hC hI hN hi hl cont)
  by_cases h8 : j = 8
  · rw [h8]
    exact lv_tableIn (off := 499) (tgt := 532) hx hb dL_law_33 (by decide +kernel) (by decide +kernel) (by decide +kernel) (by decide +kernel) (law_check hL C0 hC hI hN hi hl cont)
  by_cases h9 : j = 9
  · rw [h9]
    exact lv_tableIn (off := 574) (tgt := 607) hx hb dL_law_33 (by decide +kernel) (by decide +kernel) (by decide +kernel) (by decide +kernel) (law_voter hL C0 hC hI hN hi hl cont)
  by_cases h10 : j = 10
  · rw [h10]
    exact lv_tableIn (off := 617) (tgt := 650) hx hb dL_law_33 (by decide +kernel) (by decide +kernel) (by decide +kernel) (by decide +kernel) (law_say hL C0 hC hI hN hi hl cont)
  by_cases h11 : j = 11
  · rw [h11]
    exact lv_tableIn (off := 640) (tgt := 673) hx hb dL_law_33 (by decide +kernel) (by decide +kernel) (by decide +kernel) (by decide +kernel) (law_wipe hL C0 hC hI hN hi hl cont)
  by_cases h12 : j = 12
  · rw [h12]
    exact lv_tableIn (off := 653) (tgt := 686) hx hb dL_law_33 (by decide +kernel) (by decide +kernel) (by decide +kernel) (by decide +kernel) (law_fault hL C0 hC hI hN hi hl cont)
  by_cases h13 : j = 13
  · rw [h13]
    exact lv_tableIn (off := 666) (tgt := 699) hx hb dL_law_33 (by decide +kernel) (by decide +kernel) (by decide +kernel) (by decide +kernel) (law_rule hL C0 hC hI hN hi hl cont)
  by_cases h14 : j = 14
  · rw [h14]
    exact lv_tableIn (off := 679) (tgt := 712) hx hb dL_law_33 (by decide +kernel) (by decide +kernel) (by decide +kernel) (by decide +kernel) (law_may hL C0 hC hI hN hi hl cont)
  by_cases h15 : j = 15
  · rw [h15]
    exact lv_tableIn (off := 702) (tgt := 735) hx hb dL_law_33 (by decide +kernel) (by decide +kernel) (by decide +kernel) (by decide +kernel) (law_close hL C0 hC hI hN hi hl cont)
  by_cases h16 : j = 16
  · rw [h16]
    exact lv_tableIn (off := 725) (tgt := 758) hx hb dL_law_33 (by decide +kernel) (by decide +kernel) (by decide +kernel) (by decide +kernel) (law_row hL C0 hC hI hN hi hl cont)
  by_cases h17 : j = 17
  · rw [h17]
    exact lv_tableIn (off := 778) (tgt := 811) hx hb dL_law_33 (by decide +kernel) (by decide +kernel) (by decide +kernel) (by decide +kernel) (law_attach hL C0 hC hI hN hi hl cont)
  by_cases h18 : j = 18
  · rw [h18]
    exact lv_tableIn (off := 841) (tgt := 874) hx hb dL_law_33 (by decide +kernel) (by decide +kernel) (by decide +kernel) (by decide +kernel) (law_cast hL C0 hC hI hN hi hl cont)
  by_cases h19 : j = 19
  · rw [h19]
    exact lv_tableIn (off := 928) (tgt := 961) hx hb dL_law_33 (by decide +kernel) (by decide +kernel) (by decide +kernel) (by decide +kernel) (law_ofRow hL C0 hC hI hN hi hl cont)
  by_cases h20 : j = 20
  · rw [h20]
    exact lv_tableIn (off := 961) (tgt := 994) hx hb dL_law_33 (by decide +kernel) (by decide +kernel) (by decide +kernel) (by decide +kernel) (law_find hL C0 hC hI hN hi hl cont)
  by_cases h21 : j = 21
  · rw [h21]
    exact lv_tableIn (off := 994) (tgt := 1027) hx hb dL_law_33 (by decide +kernel) (by decide +kernel) (by decide +kernel) (by decide +kernel) (law_tally hL C0 hC hI hN hi hl cont)
  by_cases h22 : j = 22
  · rw [h22]
    exact lv_tableIn (off := 1017) (tgt := 1050) hx hb dL_law_33 (by decide +kernel) (by decide +kernel) (by decide +kernel) (by decide +kernel) (law_copy hL C0 hC hI hN hi hl cont)
  by_cases h23 : j = 23
  · rw [h23]
    exact lv_tableIn (off := 1040) (tgt := 1073) hx hb dL_law_33 (by decide +kernel) (by decide +kernel) (by decide +kernel) (by decide +kernel) (law_parted hL C0 hC hI hN hi hl cont)
  by_cases h24 : j = 24
  · rw [h24]
    exact lv_tableIn (off := 1053) (tgt := 1086) hx hb dL_law_33 (by decide +kernel) (by decide +kernel) (by decide +kernel) (by decide +kernel) (law_lies hL C0 hC hI hN hi hl cont)
  by_cases h25 : j = 25
  · rw [h25]
    exact lv_tableIn (off := 1107) (tgt := 1140) hx hb dL_law_33 (by decide +kernel) (by decide +kernel) (by decide +kernel) (by decide +kernel) (law_ask hL C0 hC hI hN hi hl cont)
  by_cases h26 : j = 26
  · rw [h26]
    exact lv_tableIn (off := 1150) (tgt := 1183) hx hb dL_law_33 (by decide +kernel) (by decide +kernel) (by decide +kernel) (by decide +kernel) (law_slips hL C0 hC hI hN hi hl cont)
  by_cases h27 : j = 27
  · rw [h27]
    exact lv_tableIn (off := 1204) (tgt := 1237) hx hb dL_law_33 (by decide +kernel) (by decide +kernel) (by decide +kernel) (by decide +kernel) (law_drawn hL C0 hC hI hN hi hl cont)
  by_cases h28 : j = 28
  · rw [h28]
    exact lv_tableIn (off := 1247) (tgt := 1280) hx hb dL_law_33 (by decide +kernel) (by decide +kernel) (by decide +kernel) (by decide +kernel) (law_sure hL C0 hC hI hN hi hl cont)
  by_cases h29 : j = 29
  · rw [h29]
    exact lv_tableIn (off := 1280) (tgt := 1313) hx hb dL_law_33 (by decide +kernel) (by decide +kernel) (by decide +kernel) (by decide +kernel) (law_told hL C0 hC hI hN hi hl cont)
  by_cases h30 : j = 30
  · rw [h30]
    exact lv_tableIn (off := 1380) (tgt := 1413) hx hb dL_law_33 (by decide +kernel) (by decide +kernel) (by decide +kernel) (by decide +kernel) (law_forced hL C0 hC hI hN hi hl cont)
  by_cases h31 : j = 31
  · rw [h31]
    exact lv_tableIn (off := 1455) (tgt := 1488) hx hb dL_law_33 (by decide +kernel) (by decide +kernel) (by decide +kernel) (by decide +kernel) (law_count hL C0 hC hI hN hi hl cont)
  exact absurd hj (by omega)
set_option maxHeartbeats 4000000 in
set_option maxRecDepth 100000 in
theorem law_loop {p : Program} {l : Launch} {e : Env} {s : State} {m : MethodId} {below : List Frame} {meth : Method} {c : Code} {D : va_G} {cI cZ cR : ClassId} {Ax Am : Nat → Prop} {b L x o : Nat} {xs : Nat → Int32} (hL : L ≤ 4608) (C0 : lw_At p s m meth c b L xs) (hC : LC D cI cZ cR Ax Am s) : ∀ (n N : Nat), 9 * N ≤ L → L < 9 * N + n → ∀ (H : Heap) (locs : List Loc) (cells slots : Nat), LI D cI cZ cR Ax Am s x o N H locs cells slots → ∀ ls : Array Slot, lv_has ls 4 [(3, .int (nI (9 * N))), (2, .ref o), (1, .ref x), (0, .ref b)] → W p l e room_1 s m #[Value.ref b] below meth c H locs cells slots (lw_Z below #[Value.ref b] s) (F0 m 18 ls []) := by
  intro n
  induction n with
  | zero => intro N h1 h2; exact absurd h2 (by omega)
  | succ n ih =>
    intro N h1 h2 H locs cells slots hI ls hl
    obtain ⟨hx, hb, hr, hml, hown, hts0, hX, hbl, hlocks, hgv⟩ := id C0
    have hbA : ¬ (fun q : Nat => s.heap.size ≤ q) b := Nat.not_le.mpr hbl
    obtain ⟨hS, hc1, hs1⟩ := LI_b hI
    refine lv_iload_n hx hb dL_law_18 rfl (lv_at hl 0 rfl) ?_
    refine lv_aload_n hx hb dL_law_19 rfl (lv_at hl 3 rfl) ?_
    refine va_slen hx hb hX hbl hbA hS dL_law_20 ?_
    refine lv_bipush (v := 9) hx hb dL_law_21 (by decide +kernel) ?_
    refine lv_isub hx hb dL_law_23 ?_
    refine lv_icmp_gt (tgt := 1517) hx hb dL_law_24 (by decide) (fun _ => ?_) (fun cg => ?_)
    · refine lv_iconst (v := 1) hx hb dL_law_1517 (by decide) ?_
      refine va_forget hS.2.2 ?_
      refine W.widen (k := 600000) (n := 7302250) (by omega) (by omega) ?_
      exact lw_ret hx hb hr hlocks dL_law_1518
    · have hi : 9 * N + 9 ≤ L := room9 hL h1 cg
      refine lv_aload_n hx hb dL_law_27 rfl (lv_at hl 3 rfl) ?_
      refine lv_iload_n hx hb dL_law_28 rfl (lv_at hl 0 rfl) ?_
      refine va_sld hx hb hX hbl hbA hS (vp_in_nI (show 9 * N < L by omega) (by omega)) dL_law_29 ?_
      refine lv_bipush (v := 31) hx hb dL_law_30 (by decide +kernel) ?_
      refine lv_iand hx hb dL_law_32 ?_
      refine law_turn hL C0 hC hI (show N ≤ 512 by omega) hi hl (fun H locs cells slots hI ls hl => ?_) _
      refine lv_iinc (v := nI (9 * (N + 1))) (lv' := [(3, .int (nI (9 * (N + 1)))), (2, .ref o), (1, .ref x), (0, .ref b)]) hx hb dL_law_1511 hl (k := 0) rfl (by rw [show Int32.ofInt 9 = nI 9 by decide +kernel, nI_add]; rfl) (by decide) rfl (fun ls hl => ?_)
      refine lv_goto (tgt := 18) hx hb dL_law_1514 (by decide) ?_
      exact ih (N + 1) (by omega) (by omega) H locs cells slots hI ls hl
