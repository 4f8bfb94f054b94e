set_option maxHeartbeats 4000000 in
set_option maxRecDepth 100000 in
theorem law_check {p : Program} {l : Launch} {e : Env} {s : State} {m : MethodId} {below : List Frame} {meth : Method} {c : Code} {D : va_G} {cI cZ cR : ClassId} {Ax Am : Nat → Prop} {b L x o N i : Nat} {xs : Nat → Int32} (hL : L ≤ 4608) (C0 : lw_At p s m meth c b L xs) (hC : LC D cI cZ cR Ax Am s) {H : Heap} {locs : List Loc} {cells slots : Nat} (hI : LI D cI cZ cR Ax Am s x o N H locs cells slots) (hN : N ≤ 512) (hi : i + 9 ≤ L) {ls : Array Slot} (hl : lv_has ls 4 [(3, .int (nI i)), (2, .ref o), (1, .ref x), (0, .ref b)])
    (cont : ∀ (H : Heap) (locs : List Loc) (cells slots : Nat), LI D cI cZ cR Ax Am s x o (N + 1) H locs cells slots → ∀ ls : Array Slot, lv_has ls 4 [(3, .int (nI i)), (2, .ref o), (1, .ref x), (0, .ref b)] → W p l e room_1 s m #[Value.ref b] below meth c H locs cells slots (lw_Z below #[Value.ref b] s) (F0 m 1511 ls [])) : W p l e room_1 s m #[Value.ref b] below meth c H locs cells slots (lw_Z below #[Value.ref b] s) (F0 m 532 ls []) := by
  obtain ⟨hx, hb, hr, hml, hown, hts0, hX, hbl, hlocks, hgv⟩ := C0
  have hts := fun w h => hts0 w (wsL_law_in w h)
  obtain ⟨hAM, hO, hdis, hxA, hmA⟩ := hC
  have hdis2 : ∀ q, Ax q → ¬ Am q := fun q h1 h2 => hdis q h2 h1
  have hK := hAM.1
  have hbA : ¬ (fun q : Nat => s.heap.size ≤ q) b := Nat.not_le.mpr hbl
  obtain ⟨kk, pr, w, wr, wc, ro, wt, nd, c0, c1, c2, hh, pc0, pz0, pc1, pz1, dr, sd, sg, fd, tw, sw, rq, fw, fr, nr, ra, rd, cn, cl, cp, aS, aH, aG, aR, aV, aA, aB, aO, aP, aF, aC, fs, fh, fg, fq, fV, fA, fB, fO, fP, fF, fC, mx, hPx, hDx, hPm, hDm, hRL, hAx, hS, hc1, hs1⟩ := hI
  have hn30 := hRL.2.2.2.2.1.1
  have hsg := hRL.2.1.1
  have hcn := hRL.2.2.2.2.2.1
  have hσ := hRL.2.2.1.2.2
  have hq := hRL.2.2.1.1
  have hV := RR_voters hRL.2.2.2.2.1.2
  have cb0 : cells + 0 ≤ room_1.cells := by show cells + 0 ≤ 600000; omega
  have sb0 : slots + 0 ≤ room_1.slots := by show slots + 0 ≤ 7302250; omega
  have cb1 : cells + 1 ≤ room_1.cells := by show cells + 1 ≤ 600000; omega
  have sb1 : slots + 6 ≤ room_1.slots := by show slots + 6 ≤ 7302250; omega
  refine lv_aload_n hx hb dL_law_532 rfl (lv_at hl 2 rfl) ?_
  refine lv_aload_n hx hb dL_law_533 rfl (lv_at hl 3 rfl) ?_
  refine lv_iload_n hx hb dL_law_534 rfl (lv_at hl 0 rfl) ?_
  refine lv_iconst (v := 1) hx hb dL_law_535 (by decide +kernel) ?_
  refine lv_iadd hx hb dL_law_536 ?_
  refine va_sld hx hb hX hbl hbA hS (sc_in (j := 1) hi hL (by decide) rfl) dL_law_537 ?_
  refine lv_aload_n hx hb dL_law_538 rfl (lv_at hl 3 rfl) ?_
  refine lv_iload_n hx hb dL_law_539 rfl (lv_at hl 0 rfl) ?_
  refine lv_iconst (v := 2) hx hb dL_law_540 (by decide +kernel) ?_
  refine lv_iadd hx hb dL_law_541 ?_
  refine va_sld hx hb hX hbl hbA hS (sc_in (j := 2) hi hL (by decide) rfl) dL_law_542 ?_
  refine lv_aload_n hx hb dL_law_543 rfl (lv_at hl 3 rfl) ?_
  refine lv_iload_n hx hb dL_law_544 rfl (lv_at hl 0 rfl) ?_
  refine lv_iconst (v := 3) hx hb dL_law_545 (by decide +kernel) ?_
  refine lv_iadd hx hb dL_law_546 ?_
  refine va_sld hx hb hX hbl hbA hS (sc_in (j := 3) hi hL (by decide) rfl) dL_law_547 ?_
  refine lv_aload_n hx hb dL_law_548 rfl (lv_at hl 3 rfl) ?_
  refine lv_iload_n hx hb dL_law_549 rfl (lv_at hl 0 rfl) ?_
  refine lv_iconst (v := 4) hx hb dL_law_550 (by decide +kernel) ?_
  refine lv_iadd hx hb dL_law_551 ?_
  refine va_sld hx hb hX hbl hbA hS (sc_in (j := 4) hi hL (by decide) rfl) dL_law_552 ?_
  refine lv_aload_n hx hb dL_law_553 rfl (lv_at hl 3 rfl) ?_
  refine lv_iload_n hx hb dL_law_554 rfl (lv_at hl 0 rfl) ?_
  refine lv_iconst (v := 5) hx hb dL_law_555 (by decide +kernel) ?_
  refine lv_iadd hx hb dL_law_556 ?_
  refine va_sld hx hb hX hbl hbA hS (sc_in (j := 5) hi hL (by decide) rfl) dL_law_557 ?_
  refine lv_aload_n hx hb dL_law_558 rfl (lv_at hl 3 rfl) ?_
  refine lv_iload_n hx hb dL_law_559 rfl (lv_at hl 0 rfl) ?_
  refine lv_bipush (v := 6) hx hb dL_law_560 (by decide +kernel) ?_
  refine lv_iadd hx hb dL_law_562 ?_
  refine va_sld hx hb hX hbl hbA hS (sc_in (j := 6) hi hL (by decide) rfl) dL_law_563 ?_
  refine wr_callF (va_runV (As := [.int (xs (ix (nI i + 1))), .int (xs (ix (nI i + 2))), .int (xs (ix (nI i + 3))), .int (xs (ix (nI i + 4))), .int (xs (ix (nI i + 5))), .int (xs (ix (nI i + 6)))]) (rest := []) ⟨hx, hb, hml, hown, hts⟩ (c_X8_check l D cI cZ cR Ax _ x kk pr w wr wc ro wt nd c0 c1 c2 hh pc0 pz0 pc1 pz1 dr sd sg fd tw sw rq fw fr nr ra rd cn cl cp (xs (ix (nI i + 1))) (xs (ix (nI i + 2))) (xs (ix (nI i + 3))) (xs (ix (nI i + 4))) (xs (ix (nI i + 5))) (xs (ix (nI i + 6)))) (cwV 6 hts gL_law_X8_check rfl rfl rfl ⟨rfl, hd_X8_check⟩ ⟨(Nat.le_of_ble_eq_true rfl), (Nat.le_of_ble_eq_true rfl)⟩) (wr_preV hAM hPx hDx (va_recv hK hPx (ci := 6) (q0 := 0) rfl rfl)) rfl rfl hl.1 rfl (lv_room (Nat.le_of_ble_eq_true rfl)) dL_law_564 ⟨cb0, sb0⟩) hxA hS (fun v u H1 locs1 hw hPx hDx hz hk hS => ?_)
  obtain ⟨pc0_x, pz0_x, pc1_x, pz1_x⟩ := u
  try dsimp only at hw
  subst hw
  have hPm := keepP hPm hDm hdis hk
  have hAx := fun q (hq : H1.size ≤ q) => hAx q (Nat.le_trans hz hq)
  clear hz hk
  generalize H1 = H at hPx hPm hAx hS ⊢
  refine W.eq (g2 := F0 m 567 ls [.int (x_X8_check hh (xs (ix (nI i + 1))) (xs (ix (nI i + 2))) (xs (ix (nI i + 3))) (xs (ix (nI i + 4))) (xs (ix (nI i + 5))) (xs (ix (nI i + 6))))]) rfl ?_
  refine W.cs (cells' := cells) (slots' := slots) rfl rfl ?_
  refine lv_aload_n hx hb dL_law_567 rfl (lv_at hl 1 rfl) ?_
  refine lv_aload_n hx hb dL_law_568 rfl (lv_at hl 3 rfl) ?_
  refine lv_iload_n hx hb dL_law_569 rfl (lv_at hl 0 rfl) ?_
  refine lv_iconst (v := 1) hx hb dL_law_570 (by decide +kernel) ?_
  refine lv_iadd hx hb dL_law_571 ?_
  refine va_sld hx hb hX hbl hbA hS (sc_in (j := 1) hi hL (by decide) rfl) dL_law_572 ?_
  refine lv_aload_n hx hb dL_law_573 rfl (lv_at hl 3 rfl) ?_
  refine lv_iload_n hx hb dL_law_574 rfl (lv_at hl 0 rfl) ?_
  refine lv_iconst (v := 2) hx hb dL_law_575 (by decide +kernel) ?_
  refine lv_iadd hx hb dL_law_576 ?_
  refine va_sld hx hb hX hbl hbA hS (sc_in (j := 2) hi hL (by decide) rfl) dL_law_577 ?_
  refine lv_aload_n hx hb dL_law_578 rfl (lv_at hl 3 rfl) ?_
  refine lv_iload_n hx hb dL_law_579 rfl (lv_at hl 0 rfl) ?_
  refine lv_iconst (v := 3) hx hb dL_law_580 (by decide +kernel) ?_
  refine lv_iadd hx hb dL_law_581 ?_
  refine va_sld hx hb hX hbl hbA hS (sc_in (j := 3) hi hL (by decide) rfl) dL_law_582 ?_
  refine lv_aload_n hx hb dL_law_583 rfl (lv_at hl 3 rfl) ?_
  refine lv_iload_n hx hb dL_law_584 rfl (lv_at hl 0 rfl) ?_
  refine lv_iconst (v := 4) hx hb dL_law_585 (by decide +kernel) ?_
  refine lv_iadd hx hb dL_law_586 ?_
  refine va_sld hx hb hX hbl hbA hS (sc_in (j := 4) hi hL (by decide) rfl) dL_law_587 ?_
  refine lv_aload_n hx hb dL_law_588 rfl (lv_at hl 3 rfl) ?_
  refine lv_iload_n hx hb dL_law_589 rfl (lv_at hl 0 rfl) ?_
  refine lv_iconst (v := 5) hx hb dL_law_590 (by decide +kernel) ?_
  refine lv_iadd hx hb dL_law_591 ?_
  refine va_sld hx hb hX hbl hbA hS (sc_in (j := 5) hi hL (by decide) rfl) dL_law_592 ?_
  refine lv_aload_n hx hb dL_law_593 rfl (lv_at hl 3 rfl) ?_
  refine lv_iload_n hx hb dL_law_594 rfl (lv_at hl 0 rfl) ?_
  refine lv_bipush (v := 6) hx hb dL_law_595 (by decide +kernel) ?_
  refine lv_iadd hx hb dL_law_597 ?_
  refine va_sld hx hb hX hbl hbA hS (sc_in (j := 6) hi hL (by decide) rfl) dL_law_598 ?_
  refine wr_callF (va_runV (As := [.int (xs (ix (nI i + 1))), .int (xs (ix (nI i + 2))), .int (xs (ix (nI i + 3))), .int (xs (ix (nI i + 4))), .int (xs (ix (nI i + 5))), .int (xs (ix (nI i + 6)))]) (rest := [.int (x_X8_check hh (xs (ix (nI i + 1))) (xs (ix (nI i + 2))) (xs (ix (nI i + 3))) (xs (ix (nI i + 4))) (xs (ix (nI i + 5))) (xs (ix (nI i + 6))))]) ⟨hx, hb, hml, hown, hts⟩ (c_X9_check l D cI cZ cR Am _ o aS aH aG aR aV aA aB aO aP aF aC nd fs fh sg fg rq fq cl nr fV fA fB fO fP fF cn fC mx (xs (ix (nI i + 1))) (xs (ix (nI i + 2))) (xs (ix (nI i + 3))) (xs (ix (nI i + 4))) (xs (ix (nI i + 5))) (xs (ix (nI i + 6)))) (cwV 6 hts gL_law_X9_check rfl rfl rfl ⟨rfl, hd_X9_check⟩ ⟨(Nat.le_of_ble_eq_true rfl), (Nat.le_of_ble_eq_true rfl)⟩) (wr_preV hAM hPm hDm (va_recv hK hPm (ci := 7) (q0 := 0) rfl rfl)) rfl rfl hl.1 rfl (lv_room (Nat.le_of_ble_eq_true rfl)) dL_law_599 ⟨cb0, sb0⟩) hmA hS (fun v mx_m H1 locs1 hw hPm hDm hz hk hS => ?_)
  try dsimp only at hw
  subst hw
  have hPx := keepP hPx hDx hdis2 hk
  have hAx := fun q (hq : H1.size ≤ q) => hAx q (Nat.le_trans hz hq)
  clear hz hk
  generalize H1 = H at hPx hPm hAx hS ⊢
  refine W.eq (g2 := F0 m 602 ls [.int (x_X9_check fs (xs (ix (nI i + 1))) (xs (ix (nI i + 2))) (xs (ix (nI i + 3))) (xs (ix (nI i + 4))) (xs (ix (nI i + 5))) (xs (ix (nI i + 6)))), .int (x_X8_check hh (xs (ix (nI i + 1))) (xs (ix (nI i + 2))) (xs (ix (nI i + 3))) (xs (ix (nI i + 4))) (xs (ix (nI i + 5))) (xs (ix (nI i + 6))))]) rfl ?_
  refine W.cs (cells' := cells) (slots' := slots) rfl rfl ?_
  refine lv_icmp_eq (tgt := 1511) hx hb dL_law_602 (by decide) (fun _ => ?_) (fun c9 => absurd (check_eq hRL.1 _ _ _ _ _ _) c9)
  exact cont _ _ _ _ ⟨kk, pr, w, wr, wc, ro, wt, nd, c0, c1, c2, hh, pc0_x, pz0_x, pc1_x, pz1_x, dr, sd, sg, fd, tw, sw, rq, fw, fr, nr, ra, rd, cn, cl, cp, aS, aH, aG, aR, aV, aA, aB, aO, aP, aF, aC, fs, fh, fg, fq, fV, fA, fB, fO, fP, fF, fC, mx_m, hPx, hDx, hPm, hDm, hRL, hAx, hS, by omega, by omega⟩ ls hl

set_option maxHeartbeats 4000000 in
set_option maxRecDepth 100000 in
theorem law_voter {p : Program} {l : Launch} {e : Env} {s : State} {m : MethodId} {below : List Frame} {meth : Method} {c : Code} {D : va_G} {cI cZ cR : ClassId} {Ax Am : Nat → Prop} {b L x o N i : Nat} {xs : Nat → Int32} (hL : L ≤ 4608) (C0 : lw_At p s m meth c b L xs) (hC : LC D cI cZ cR Ax Am s) {H : Heap} {locs : List Loc} {cells slots : Nat} (hI : LI D cI cZ cR Ax Am s x o N H locs cells slots) (hN : N ≤ 512) (hi : i + 9 ≤ L) {ls : Array Slot} (hl : lv_has ls 4 [(3, .int (nI i)), (2, .ref o), (1, .ref x), (0, .ref b)])
    (cont : ∀ (H : Heap) (locs : List Loc) (cells slots : Nat), LI D cI cZ cR Ax Am s x o (N + 1) H locs cells slots → ∀ ls : Array Slot, lv_has ls 4 [(3, .int (nI i)), (2, .ref o), (1, .ref x), (0, .ref b)] → W p l e room_1 s m #[Value.ref b] below meth c H locs cells slots (lw_Z below #[Value.ref b] s) (F0 m 1511 ls [])) : W p l e room_1 s m #[Value.ref b] below meth c H locs cells slots (lw_Z below #[Value.ref b] s) (F0 m 607 ls []) := by
  obtain ⟨hx, hb, hr, hml, hown, hts0, hX, hbl, hlocks, hgv⟩ := C0
  have hts := fun w h => hts0 w (wsL_law_in w h)
  obtain ⟨hAM, hO, hdis, hxA, hmA⟩ := hC
  have hdis2 : ∀ q, Ax q → ¬ Am q := fun q h1 h2 => hdis q h2 h1
  have hK := hAM.1
  have hbA : ¬ (fun q : Nat => s.heap.size ≤ q) b := Nat.not_le.mpr hbl
  obtain ⟨kk, pr, w, wr, wc, ro, wt, nd, c0, c1, c2, hh, pc0, pz0, pc1, pz1, dr, sd, sg, fd, tw, sw, rq, fw, fr, nr, ra, rd, cn, cl, cp, aS, aH, aG, aR, aV, aA, aB, aO, aP, aF, aC, fs, fh, fg, fq, fV, fA, fB, fO, fP, fF, fC, mx, hPx, hDx, hPm, hDm, hRL, hAx, hS, hc1, hs1⟩ := hI
  have hn30 := hRL.2.2.2.2.1.1
  have hsg := hRL.2.1.1
  have hcn := hRL.2.2.2.2.2.1
  have hσ := hRL.2.2.1.2.2
  have hq := hRL.2.2.1.1
  have hV := RR_voters hRL.2.2.2.2.1.2
  have cb0 : cells + 0 ≤ room_1.cells := by show cells + 0 ≤ 600000; omega
  have sb0 : slots + 0 ≤ room_1.slots := by show slots + 0 ≤ 7302250; omega
  have cb1 : cells + 1 ≤ room_1.cells := by show cells + 1 ≤ 600000; omega
  have sb1 : slots + 6 ≤ room_1.slots := by show slots + 6 ≤ 7302250; omega
  refine lv_aload_n hx hb dL_law_607 rfl (lv_at hl 2 rfl) ?_
  refine lv_aload_n hx hb dL_law_608 rfl (lv_at hl 3 rfl) ?_
  refine lv_iload_n hx hb dL_law_609 rfl (lv_at hl 0 rfl) ?_
  refine lv_iconst (v := 1) hx hb dL_law_610 (by decide +kernel) ?_
  refine lv_iadd hx hb dL_law_611 ?_
  refine va_sld hx hb hX hbl hbA hS (sc_in (j := 1) hi hL (by decide) rfl) dL_law_612 ?_
  refine lv_aload_n hx hb dL_law_613 rfl (lv_at hl 3 rfl) ?_
  refine lv_iload_n hx hb dL_law_614 rfl (lv_at hl 0 rfl) ?_
  refine lv_iconst (v := 2) hx hb dL_law_615 (by decide +kernel) ?_
  refine lv_iadd hx hb dL_law_616 ?_
  refine va_sld hx hb hX hbl hbA hS (sc_in (j := 2) hi hL (by decide) rfl) dL_law_617 ?_
  refine lv_aload_n hx hb dL_law_618 rfl (lv_at hl 3 rfl) ?_
  refine lv_iload_n hx hb dL_law_619 rfl (lv_at hl 0 rfl) ?_
  refine lv_iconst (v := 3) hx hb dL_law_620 (by decide +kernel) ?_
  refine lv_iadd hx hb dL_law_621 ?_
  refine va_sld hx hb hX hbl hbA hS (sc_in (j := 3) hi hL (by decide) rfl) dL_law_622 ?_
  refine wr_callF (va_runV (As := [.int (xs (ix (nI i + 1))), .int (xs (ix (nI i + 2))), .int (xs (ix (nI i + 3)))]) (rest := []) ⟨hx, hb, hml, hown, hts⟩ (c_X8_voter l D cI cZ cR Ax _ x kk pr w wr wc ro wt nd c0 c1 c2 hh pc0 pz0 pc1 pz1 dr sd sg fd tw sw rq fw fr nr ra rd cn cl cp (xs (ix (nI i + 1))) (xs (ix (nI i + 2))) (xs (ix (nI i + 3)))) (cwV 3 hts gL_law_X8_voter rfl rfl rfl ⟨rfl, hd_X8_voter⟩ ⟨(Nat.le_of_ble_eq_true rfl), (Nat.le_of_ble_eq_true rfl)⟩) (wr_preV hAM hPx hDx (va_recv hK hPx (ci := 6) (q0 := 0) rfl rfl)) rfl rfl hl.1 rfl (lv_room (Nat.le_of_ble_eq_true rfl)) dL_law_623 ⟨cb0, sb0⟩) hxA hS (fun v fr_x H1 locs1 hw hPx hDx hz hk hS => ?_)
  try dsimp only at hw
  obtain ⟨rfl, ew0⟩ := hw
  rw [ew0] at hPx hDx
  have hPm := keepP hPm hDm hdis hk
  have hAx := fun q (hq : H1.size ≤ q) => hAx q (Nat.le_trans hz hq)
  clear hz hk
  generalize H1 = H at hPx hPm hAx hS ⊢
  refine W.eq (g2 := F0 m 626 ls [.int ((x_X8_voter fr (xs (ix (nI i + 1))) (xs (ix (nI i + 2))) (xs (ix (nI i + 3)))).1)]) rfl ?_
  refine W.cs (cells' := cells) (slots' := slots) rfl rfl ?_
  refine lv_aload_n hx hb dL_law_626 rfl (lv_at hl 1 rfl) ?_
  refine lv_aload_n hx hb dL_law_627 rfl (lv_at hl 3 rfl) ?_
  refine lv_iload_n hx hb dL_law_628 rfl (lv_at hl 0 rfl) ?_
  refine lv_iconst (v := 1) hx hb dL_law_629 (by decide +kernel) ?_
  refine lv_iadd hx hb dL_law_630 ?_
  refine va_sld hx hb hX hbl hbA hS (sc_in (j := 1) hi hL (by decide) rfl) dL_law_631 ?_
  refine lv_aload_n hx hb dL_law_632 rfl (lv_at hl 3 rfl) ?_
  refine lv_iload_n hx hb dL_law_633 rfl (lv_at hl 0 rfl) ?_
  refine lv_iconst (v := 2) hx hb dL_law_634 (by decide +kernel) ?_
  refine lv_iadd hx hb dL_law_635 ?_
  refine va_sld hx hb hX hbl hbA hS (sc_in (j := 2) hi hL (by decide) rfl) dL_law_636 ?_
  refine lv_aload_n hx hb dL_law_637 rfl (lv_at hl 3 rfl) ?_
  refine lv_iload_n hx hb dL_law_638 rfl (lv_at hl 0 rfl) ?_
  refine lv_iconst (v := 3) hx hb dL_law_639 (by decide +kernel) ?_
  refine lv_iadd hx hb dL_law_640 ?_
  refine va_sld hx hb hX hbl hbA hS (sc_in (j := 3) hi hL (by decide) rfl) dL_law_641 ?_
  refine wr_callF (va_runV (As := [.int (xs (ix (nI i + 1))), .int (xs (ix (nI i + 2))), .int (xs (ix (nI i + 3)))]) (rest := [.int ((x_X8_voter fr (xs (ix (nI i + 1))) (xs (ix (nI i + 2))) (xs (ix (nI i + 3)))).1)]) ⟨hx, hb, hml, hown, hts⟩ (c_X9_voter l D cI cZ cR Am _ o aS aH aG aR aV aA aB aO aP aF aC nd fs fh sg fg rq fq cl nr fV fA fB fO fP fF cn fC mx (xs (ix (nI i + 1))) (xs (ix (nI i + 2))) (xs (ix (nI i + 3)))) (cwV 3 hts gL_law_X9_voter rfl rfl rfl ⟨rfl, hd_X9_voter⟩ ⟨(Nat.le_of_ble_eq_true rfl), (Nat.le_of_ble_eq_true rfl)⟩) (wr_preV hAM hPm hDm (va_recv hK hPm (ci := 7) (q0 := 0) rfl rfl)) rfl rfl hl.1 rfl (lv_room (Nat.le_of_ble_eq_true rfl)) dL_law_642 ⟨cb0, sb0⟩) hmA hS (fun v fh_m H1 locs1 hw hPm hDm hz hk hS => ?_)
  try dsimp only at hw
  obtain ⟨rfl, ew0⟩ := hw
  rw [ew0] at hPm hDm
  have hPx := keepP hPx hDx hdis2 hk
  have hAx := fun q (hq : H1.size ≤ q) => hAx q (Nat.le_trans hz hq)
  clear hz hk
  generalize H1 = H at hPx hPm hAx hS ⊢
  refine W.eq (g2 := F0 m 645 ls [.int ((x_X9_voter fh (xs (ix (nI i + 1))) (xs (ix (nI i + 2))) (xs (ix (nI i + 3)))).1), .int ((x_X8_voter fr (xs (ix (nI i + 1))) (xs (ix (nI i + 2))) (xs (ix (nI i + 3)))).1)]) rfl ?_
  refine W.cs (cells' := cells) (slots' := slots) rfl rfl ?_
  have hop := op_voter hRL.2.2.2.1 (xs (ix (nI i + 1))) (xs (ix (nI i + 2))) (xs (ix (nI i + 3)))
  refine lv_icmp_eq (tgt := 1511) hx hb dL_law_645 (by decide) (fun _ => ?_) (fun c9 => absurd hop.1 c9)
  exact cont _ _ _ _ ⟨kk, pr, w, wr, wc, ro, wt, nd, c0, c1, c2, hh, pc0, pz0, pc1, pz1, dr, sd, sg, fd, tw, sw, rq, fw, ((x_X8_voter fr (xs (ix (nI i + 1))) (xs (ix (nI i + 2))) (xs (ix (nI i + 3)))).2), nr, ra, rd, cn, cl, cp, aS, aH, aG, aR, aV, aA, aB, aO, aP, aF, aC, fs, ((x_X9_voter fh (xs (ix (nI i + 1))) (xs (ix (nI i + 2))) (xs (ix (nI i + 3)))).2), fg, fq, fV, fA, fB, fO, fP, fF, fC, mx, hPx, hDx, hPm, hDm, ⟨hRL.1, hRL.2.1, hRL.2.2.1, hop.2, hRL.2.2.2.2.1, hRL.2.2.2.2.2⟩, hAx, hS, by omega, by omega⟩ ls hl

set_option maxHeartbeats 4000000 in
set_option maxRecDepth 100000 in
theorem law_say {p : Program} {l : Launch} {e : Env} {s : State} {m : MethodId} {below : List Frame} {meth : Method} {c : Code} {D : va_G} {cI cZ cR : ClassId} {Ax Am : Nat → Prop} {b L x o N i : Nat} {xs : Nat → Int32} (hL : L ≤ 4608) (C0 : lw_At p s m meth c b L xs) (hC : LC D cI cZ cR Ax Am s) {H : Heap} {locs : List Loc} {cells slots : Nat} (hI : LI D cI cZ cR Ax Am s x o N H locs cells slots) (hN : N ≤ 512) (hi : i + 9 ≤ L) {ls : Array Slot} (hl : lv_has ls 4 [(3, .int (nI i)), (2, .ref o), (1, .ref x), (0, .ref b)])
    (cont : ∀ (H : Heap) (locs : List Loc) (cells slots : Nat), LI D cI cZ cR Ax Am s x o (N + 1) H locs cells slots → ∀ ls : Array Slot, lv_has ls 4 [(3, .int (nI i)), (2, .ref o), (1, .ref x), (0, .ref b)] → W p l e room_1 s m #[Value.ref b] below meth c H locs cells slots (lw_Z below #[Value.ref b] s) (F0 m 1511 ls [])) : W p l e room_1 s m #[Value.ref b] below meth c H locs cells slots (lw_Z below #[Value.ref b] s) (F0 m 650 ls []) := by
  obtain ⟨hx, hb, hr, hml, hown, hts0, hX, hbl, hlocks, hgv⟩ := C0
  have hts := fun w h => hts0 w (wsL_law_in w h)
  obtain ⟨hAM, hO, hdis, hxA, hmA⟩ := hC
  have hdis2 : ∀ q, Ax q → ¬ Am q := fun q h1 h2 => hdis q h2 h1
  have hK := hAM.1
  have hbA : ¬ (fun q : Nat => s.heap.size ≤ q) b := Nat.not_le.mpr hbl
  obtain ⟨kk, pr, w, wr, wc, ro, wt, nd, c0, c1, c2, hh, pc0, pz0, pc1, pz1, dr, sd, sg, fd, tw, sw, rq, fw, fr, nr, ra, rd, cn, cl, cp, aS, aH, aG, aR, aV, aA, aB, aO, aP, aF, aC, fs, fh, fg, fq, fV, fA, fB, fO, fP, fF, fC, mx, hPx, hDx, hPm, hDm, hRL, hAx, hS, hc1, hs1⟩ := hI
  have hn30 := hRL.2.2.2.2.1.1
  have hsg := hRL.2.1.1
  have hcn := hRL.2.2.2.2.2.1
  have hσ := hRL.2.2.1.2.2
  have hq := hRL.2.2.1.1
  have hV := RR_voters hRL.2.2.2.2.1.2
  have cb0 : cells + 0 ≤ room_1.cells := by show cells + 0 ≤ 600000; omega
  have sb0 : slots + 0 ≤ room_1.slots := by show slots + 0 ≤ 7302250; omega
  have cb1 : cells + 1 ≤ room_1.cells := by show cells + 1 ≤ 600000; omega
  have sb1 : slots + 6 ≤ room_1.slots := by show slots + 6 ≤ 7302250; omega
  refine lv_aload_n hx hb dL_law_650 rfl (lv_at hl 2 rfl) ?_
  refine lv_aload_n hx hb dL_law_651 rfl (lv_at hl 3 rfl) ?_
  refine lv_iload_n hx hb dL_law_652 rfl (lv_at hl 0 rfl) ?_
  refine lv_iconst (v := 1) hx hb dL_law_653 (by decide +kernel) ?_
  refine lv_iadd hx hb dL_law_654 ?_
  refine va_sld hx hb hX hbl hbA hS (sc_in (j := 1) hi hL (by decide) rfl) dL_law_655 ?_
  refine wr_callF (va_runV (As := [.int (xs (ix (nI i + 1)))]) (rest := []) ⟨hx, hb, hml, hown, hts⟩ (c_X8_say l D cI cZ cR Ax _ x kk pr w wr wc ro wt nd c0 c1 c2 hh pc0 pz0 pc1 pz1 dr sd sg fd tw sw rq fw fr nr ra rd cn cl cp (xs (ix (nI i + 1)))) (cwV 1 hts gL_law_X8_say rfl rfl rfl ⟨rfl, hd_X8_say⟩ ⟨(Nat.le_of_ble_eq_true rfl), (Nat.le_of_ble_eq_true rfl)⟩) (wr_preV hAM hPx hDx (va_recv hK hPx (ci := 6) (q0 := 0) rfl rfl)) rfl rfl hl.1 rfl (lv_room (Nat.le_of_ble_eq_true rfl)) dL_law_656 ⟨cb0, sb0⟩) hxA hS (fun v u H1 locs1 hw hPx hDx hz hk hS => ?_)
  obtain ⟨ds_x, fd_x⟩ := u
  try dsimp only at hw
  obtain ⟨rfl, ew0, ew1⟩ := hw
  rw [ew0, ew1] at hPx hDx
  have hPm := keepP hPm hDm hdis hk
  have hAx := fun q (hq : H1.size ≤ q) => hAx q (Nat.le_trans hz hq)
  clear hz hk
  generalize H1 = H at hPx hPm hAx hS ⊢
  refine W.eq (g2 := F0 m 659 ls [.int ((x_X8_say sg fd (xs (ix (nI i + 1)))).1)]) rfl ?_
  refine W.cs (cells' := cells) (slots' := slots) rfl rfl ?_
  refine lv_aload_n hx hb dL_law_659 rfl (lv_at hl 1 rfl) ?_
  refine lv_aload_n hx hb dL_law_660 rfl (lv_at hl 3 rfl) ?_
  refine lv_iload_n hx hb dL_law_661 rfl (lv_at hl 0 rfl) ?_
  refine lv_iconst (v := 1) hx hb dL_law_662 (by decide +kernel) ?_
  refine lv_iadd hx hb dL_law_663 ?_
  refine va_sld hx hb hX hbl hbA hS (sc_in (j := 1) hi hL (by decide) rfl) dL_law_664 ?_
  refine wr_callF (va_runV (As := [.int (xs (ix (nI i + 1)))]) (rest := [.int ((x_X8_say sg fd (xs (ix (nI i + 1)))).1)]) ⟨hx, hb, hml, hown, hts⟩ (c_X9_say l D cI cZ cR Am _ o aS aH aG aR aV aA aB aO aP aF aC nd fs fh sg fg rq fq cl nr fV fA fB fO fP fF cn fC mx (xs (ix (nI i + 1))) hsg) (cwV 1 hts gL_law_X9_say rfl rfl rfl ⟨rfl, hd_X9_say⟩ ⟨(Nat.le_of_ble_eq_true rfl), (Nat.le_of_ble_eq_true rfl)⟩) (wr_preV hAM hPm hDm (va_recv hK hPm (ci := 7) (q0 := 0) rfl rfl)) rfl rfl hl.1 rfl (lv_room (Nat.le_of_ble_eq_true rfl)) dL_law_665 ⟨cb0, sb0⟩) hmA hS (fun v u H1 locs1 hw hPm hDm hz hk hS => ?_)
  obtain ⟨sg_m, fg_m⟩ := u
  try dsimp only at hw
  obtain ⟨rfl, ew0, ew1⟩ := hw
  rw [ew0, ew1] at hPm hDm
  have hPx := keepP hPx hDx hdis2 hk
  have hAx := fun q (hq : H1.size ≤ q) => hAx q (Nat.le_trans hz hq)
  clear hz hk
  generalize H1 = H at hPx hPm hAx hS ⊢
  refine W.eq (g2 := F0 m 668 ls [.int ((x_X9_say sg fg (xs (ix (nI i + 1)))).1), .int ((x_X8_say sg fd (xs (ix (nI i + 1)))).1)]) rfl ?_
  refine W.cs (cells' := cells) (slots' := slots) rfl rfl ?_
  have hop := op_say hRL.2.1.1 hRL.2.1.2 (xs (ix (nI i + 1)))
  refine lv_icmp_eq (tgt := 1511) hx hb dL_law_668 (by decide) (fun _ => ?_) (fun c9 => absurd hop.1 c9)
  rw [hop.2.1] at hPx hDx
  exact cont _ _ _ _ ⟨kk, pr, w, wr, wc, ro, wt, nd, c0, c1, c2, hh, pc0, pz0, pc1, pz1, dr, sd, ((x_X9_say sg fg (xs (ix (nI i + 1)))).2.1), ((x_X8_say sg fd (xs (ix (nI i + 1)))).2.2), tw, sw, rq, fw, fr, nr, ra, rd, cn, cl, cp, aS, aH, aG, aR, aV, aA, aB, aO, aP, aF, aC, fs, fh, ((x_X9_say sg fg (xs (ix (nI i + 1)))).2.2), fq, fV, fA, fB, fO, fP, fF, fC, mx, hPx, hDx, hPm, hDm, ⟨hRL.1, ⟨hop.2.2.1, hop.2.2.2⟩, hRL.2.2.1, hRL.2.2.2.1, hRL.2.2.2.2.1, hRL.2.2.2.2.2⟩, hAx, hS, by omega, by omega⟩ ls hl

set_option maxHeartbeats 4000000 in
set_option maxRecDepth 100000 in
theorem law_wipe {p : Program} {l : Launch} {e : Env} {s : State} {m : MethodId} {below : List Frame} {meth : Method} {c : Code} {D : va_G} {cI cZ cR : ClassId} {Ax Am : Nat → Prop} {b L x o N i : Nat} {xs : Nat → Int32} (hL : L ≤ 4608) (C0 : lw_At p s m meth c b L xs) (hC : LC D cI cZ cR Ax Am s) {H : Heap} {locs : List Loc} {cells slots : Nat} (hI : LI D cI cZ cR Ax Am s x o N H locs cells slots) (hN : N ≤ 512) (hi : i + 9 ≤ L) {ls : Array Slot} (hl : lv_has ls 4 [(3, .int (nI i)), (2, .ref o), (1, .ref x), (0, .ref b)])
    (cont : ∀ (H : Heap) (locs : List Loc) (cells slots : Nat), LI D cI cZ cR Ax Am s x o (N + 1) H locs cells slots → ∀ ls : Array Slot, lv_has ls 4 [(3, .int (nI i)), (2, .ref o), (1, .ref x), (0, .ref b)] → W p l e room_1 s m #[Value.ref b] below meth c H locs cells slots (lw_Z below #[Value.ref b] s) (F0 m 1511 ls [])) : W p l e room_1 s m #[Value.ref b] below meth c H locs cells slots (lw_Z below #[Value.ref b] s) (F0 m 673 ls []) := by
  obtain ⟨hx, hb, hr, hml, hown, hts0, hX, hbl, hlocks, hgv⟩ := C0
  have hts := fun w h => hts0 w (wsL_law_in w h)
  obtain ⟨hAM, hO, hdis, hxA, hmA⟩ := hC
  have hdis2 : ∀ q, Ax q → ¬ Am q := fun q h1 h2 => hdis q h2 h1
  have hK := hAM.1
  have hbA : ¬ (fun q : Nat => s.heap.size ≤ q) b := Nat.not_le.mpr hbl
  obtain ⟨kk, pr, w, wr, wc, ro, wt, nd, c0, c1, c2, hh, pc0, pz0, pc1, pz1, dr, sd, sg, fd, tw, sw, rq, fw, fr, nr, ra, rd, cn, cl, cp, aS, aH, aG, aR, aV, aA, aB, aO, aP, aF, aC, fs, fh, fg, fq, fV, fA, fB, fO, fP, fF, fC, mx, hPx, hDx, hPm, hDm, hRL, hAx, hS, hc1, hs1⟩ := hI
  have hn30 := hRL.2.2.2.2.1.1
  have hsg := hRL.2.1.1
  have hcn := hRL.2.2.2.2.2.1
  have hσ := hRL.2.2.1.2.2
  have hq := hRL.2.2.1.1
  have hV := RR_voters hRL.2.2.2.2.1.2
  have cb0 : cells + 0 ≤ room_1.cells := by show cells + 0 ≤ 600000; omega
  have sb0 : slots + 0 ≤ room_1.slots := by show slots + 0 ≤ 7302250; omega
  have cb1 : cells + 1 ≤ room_1.cells := by show cells + 1 ≤ 600000; omega
  have sb1 : slots + 6 ≤ room_1.slots := by show slots + 6 ≤ 7302250; omega
  refine lv_aload_n hx hb dL_law_673 rfl (lv_at hl 2 rfl) ?_
  refine wr_callF (va_runV (As := []) (rest := []) ⟨hx, hb, hml, hown, hts⟩ (c_X8_wipe l D cI cZ cR Ax _ x kk pr w wr wc ro wt nd c0 c1 c2 hh pc0 pz0 pc1 pz1 dr sd sg fd tw sw rq fw fr nr ra rd cn cl cp) (cwV 0 hts gL_law_X8_wipe rfl rfl rfl ⟨rfl, hd_X8_wipe⟩ ⟨(Nat.le_of_ble_eq_true rfl), (Nat.le_of_ble_eq_true rfl)⟩) (wr_preV hAM hPx hDx (va_recv hK hPx (ci := 6) (q0 := 0) rfl rfl)) rfl rfl hl.1 rfl (lv_room (Nat.le_of_ble_eq_true rfl)) dL_law_674 ⟨cb0, sb0⟩) hxA hS (fun v ds_x H1 locs1 hw hPx hDx hz hk hS => ?_)
  try dsimp only at hw
  obtain ⟨rfl, ew0⟩ := hw
  rw [ew0] at hPx hDx
  have hPm := keepP hPm hDm hdis hk
  have hAx := fun q (hq : H1.size ≤ q) => hAx q (Nat.le_trans hz hq)
  clear hz hk
  generalize H1 = H at hPx hPm hAx hS ⊢
  refine W.eq (g2 := F0 m 677 ls [.int ((x_X8_wipe sg).1)]) rfl ?_
  refine W.cs (cells' := cells) (slots' := slots) rfl rfl ?_
  refine lv_aload_n hx hb dL_law_677 rfl (lv_at hl 1 rfl) ?_
  refine wr_callF (va_runV (As := []) (rest := [.int ((x_X8_wipe sg).1)]) ⟨hx, hb, hml, hown, hts⟩ (c_X9_wipe l D cI cZ cR Am _ o aS aH aG aR aV aA aB aO aP aF aC nd fs fh sg fg rq fq cl nr fV fA fB fO fP fF cn fC mx) (cwV 0 hts gL_law_X9_wipe rfl rfl rfl ⟨rfl, hd_X9_wipe⟩ ⟨(Nat.le_of_ble_eq_true rfl), (Nat.le_of_ble_eq_true rfl)⟩) (wr_preV hAM hPm hDm (va_recv hK hPm (ci := 7) (q0 := 0) rfl rfl)) rfl rfl hl.1 rfl (lv_room (Nat.le_of_ble_eq_true rfl)) dL_law_678 ⟨cb0, sb0⟩) hmA hS (fun v sg_m H1 locs1 hw hPm hDm hz hk hS => ?_)
  try dsimp only at hw
  obtain ⟨rfl, ew0⟩ := hw
  rw [ew0] at hPm hDm
  have hPx := keepP hPx hDx hdis2 hk
  have hAx := fun q (hq : H1.size ≤ q) => hAx q (Nat.le_trans hz hq)
  clear hz hk
  generalize H1 = H at hPx hPm hAx hS ⊢
  refine W.eq (g2 := F0 m 681 ls [.int ((x_X9_wipe sg).1), .int ((x_X8_wipe sg).1)]) rfl ?_
  refine W.cs (cells' := cells) (slots' := slots) rfl rfl ?_
  refine lv_icmp_eq (tgt := 1511) hx hb dL_law_681 (by decide) (fun _ => ?_) (fun c9 => absurd rfl c9)
  exact cont _ _ _ _ ⟨kk, pr, w, wr, wc, ro, wt, nd, c0, c1, c2, hh, pc0, pz0, pc1, pz1, dr, sd, ((x_X9_wipe sg).2), fd, tw, sw, rq, fw, fr, nr, ra, rd, cn, cl, cp, aS, aH, aG, aR, aV, aA, aB, aO, aP, aF, aC, fs, fh, fg, fq, fV, fA, fB, fO, fP, fF, fC, mx, hPx, hDx, hPm, hDm, ⟨hRL.1, ⟨Nat.zero_le _, fun i hi => absurd hi (Nat.not_lt_zero i)⟩, hRL.2.2.1, hRL.2.2.2.1, hRL.2.2.2.2.1, hRL.2.2.2.2.2⟩, hAx, hS, by omega, by omega⟩ ls hl

set_option maxHeartbeats 4000000 in
set_option maxRecDepth 100000 in
theorem law_fault {p : Program} {l : Launch} {e : Env} {s : State} {m : MethodId} {below : List Frame} {meth : Method} {c : Code} {D : va_G} {cI cZ cR : ClassId} {Ax Am : Nat → Prop} {b L x o N i : Nat} {xs : Nat → Int32} (hL : L ≤ 4608) (C0 : lw_At p s m meth c b L xs) (hC : LC D cI cZ cR Ax Am s) {H : Heap} {locs : List Loc} {cells slots : Nat} (hI : LI D cI cZ cR Ax Am s x o N H locs cells slots) (hN : N ≤ 512) (hi : i + 9 ≤ L) {ls : Array Slot} (hl : lv_has ls 4 [(3, .int (nI i)), (2, .ref o), (1, .ref x), (0, .ref b)])
    (cont : ∀ (H : Heap) (locs : List Loc) (cells slots : Nat), LI D cI cZ cR Ax Am s x o (N + 1) H locs cells slots → ∀ ls : Array Slot, lv_has ls 4 [(3, .int (nI i)), (2, .ref o), (1, .ref x), (0, .ref b)] → W p l e room_1 s m #[Value.ref b] below meth c H locs cells slots (lw_Z below #[Value.ref b] s) (F0 m 1511 ls [])) : W p l e room_1 s m #[Value.ref b] below meth c H locs cells slots (lw_Z below #[Value.ref b] s) (F0 m 686 ls []) := by
  obtain ⟨hx, hb, hr, hml, hown, hts0, hX, hbl, hlocks, hgv⟩ := C0
  have hts := fun w h => hts0 w (wsL_law_in w h)
  obtain ⟨hAM, hO, hdis, hxA, hmA⟩ := hC
  have hdis2 : ∀ q, Ax q → ¬ Am q := fun q h1 h2 => hdis q h2 h1
  have hK := hAM.1
  have hbA : ¬ (fun q : Nat => s.heap.size ≤ q) b := Nat.not_le.mpr hbl
  obtain ⟨kk, pr, w, wr, wc, ro, wt, nd, c0, c1, c2, hh, pc0, pz0, pc1, pz1, dr, sd, sg, fd, tw, sw, rq, fw, fr, nr, ra, rd, cn, cl, cp, aS, aH, aG, aR, aV, aA, aB, aO, aP, aF, aC, fs, fh, fg, fq, fV, fA, fB, fO, fP, fF, fC, mx, hPx, hDx, hPm, hDm, hRL, hAx, hS, hc1, hs1⟩ := hI
  have hn30 := hRL.2.2.2.2.1.1
  have hsg := hRL.2.1.1
  have hcn := hRL.2.2.2.2.2.1
  have hσ := hRL.2.2.1.2.2
  have hq := hRL.2.2.1.1
  have hV := RR_voters hRL.2.2.2.2.1.2
  have cb0 : cells + 0 ≤ room_1.cells := by show cells + 0 ≤ 600000; omega
  have sb0 : slots + 0 ≤ room_1.slots := by show slots + 0 ≤ 7302250; omega
  have cb1 : cells + 1 ≤ room_1.cells := by show cells + 1 ≤ 600000; omega
  have sb1 : slots + 6 ≤ room_1.slots := by show slots + 6 ≤ 7302250; omega
  refine lv_aload_n hx hb dL_law_686 rfl (lv_at hl 2 rfl) ?_
  refine ro_call (va_runV (As := []) (rest := []) ⟨hx, hb, hml, hown, hts⟩ (c_X8_fault l D cI cZ cR _ x kk pr dr sd w wr wc ro wt tw sw nd c0 c1 c2 hh pc0 pz0 pc1 pz1 dr sd sg fd tw sw rq fw fr nr ra rd cn cl cp) (cwV 0 hts gL_law_X8_fault rfl rfl rfl ⟨rfl, hd_X8_fault⟩ ⟨(Nat.le_of_ble_eq_true rfl), (Nat.le_of_ble_eq_true rfl)⟩) (po_preV hAM hPx (va_recv hK hPx (ci := 6) (q0 := 0) rfl rfl)) rfl rfl hl.1 rfl (lv_room (Nat.le_of_ble_eq_true rfl)) dL_law_687 ⟨cb0, sb0⟩) ?_
  refine lv_aload_n hx hb dL_law_690 rfl (lv_at hl 1 rfl) ?_
  refine ro_call (va_runV (As := []) (rest := [.int (x_X8_fault sg fd)]) ⟨hx, hb, hml, hown, hts⟩ (c_X9_fault l D cI cZ cR _ o aS aH aG aR aV aA aB aO aP aF aC nd fs fh sg fg rq fq cl nr fV fA fB fO fP fF cn fC mx hsg) (cwV 0 hts gL_law_X9_fault rfl rfl rfl ⟨rfl, hd_X9_fault⟩ ⟨(Nat.le_of_ble_eq_true rfl), (Nat.le_of_ble_eq_true rfl)⟩) (po_preV hAM hPm (va_recv hK hPm (ci := 7) (q0 := 0) rfl rfl)) rfl rfl hl.1 rfl (lv_room (Nat.le_of_ble_eq_true rfl)) dL_law_691 ⟨cb0, sb0⟩) ?_
  refine lv_icmp_eq (tgt := 1511) hx hb dL_law_694 (by decide) (fun _ => ?_) (fun c9 => absurd (fault_eq hRL.2.1.1 hRL.2.1.2) c9)
  exact cont _ _ _ _ ⟨kk, pr, w, wr, wc, ro, wt, nd, c0, c1, c2, hh, pc0, pz0, pc1, pz1, dr, sd, sg, fd, tw, sw, rq, fw, fr, nr, ra, rd, cn, cl, cp, aS, aH, aG, aR, aV, aA, aB, aO, aP, aF, aC, fs, fh, fg, fq, fV, fA, fB, fO, fP, fF, fC, mx, hPx, hDx, hPm, hDm, hRL, hAx, hS, by omega, by omega⟩ ls hl

set_option maxHeartbeats 4000000 in
set_option maxRecDepth 100000 in
theorem law_rule {p : Program} {l : Launch} {e : Env} {s : State} {m : MethodId} {below : List Frame} {meth : Method} {c : Code} {D : va_G} {cI cZ cR : ClassId} {Ax Am : Nat → Prop} {b L x o N i : Nat} {xs : Nat → Int32} (hL : L ≤ 4608) (C0 : lw_At p s m meth c b L xs) (hC : LC D cI cZ cR Ax Am s) {H : Heap} {locs : List Loc} {cells slots : Nat} (hI : LI D cI cZ cR Ax Am s x o N H locs cells slots) (hN : N ≤ 512) (hi : i + 9 ≤ L) {ls : Array Slot} (hl : lv_has ls 4 [(3, .int (nI i)), (2, .ref o), (1, .ref x), (0, .ref b)])
    (cont : ∀ (H : Heap) (locs : List Loc) (cells slots : Nat), LI D cI cZ cR Ax Am s x o (N + 1) H locs cells slots → ∀ ls : Array Slot, lv_has ls 4 [(3, .int (nI i)), (2, .ref o), (1, .ref x), (0, .ref b)] → W p l e room_1 s m #[Value.ref b] below meth c H locs cells slots (lw_Z below #[Value.ref b] s) (F0 m 1511 ls [])) : W p l e room_1 s m #[Value.ref b] below meth c H locs cells slots (lw_Z below #[Value.ref b] s) (F0 m 699 ls []) := by
  obtain ⟨hx, hb, hr, hml, hown, hts0, hX, hbl, hlocks, hgv⟩ := C0
  have hts := fun w h => hts0 w (wsL_law_in w h)
  obtain ⟨hAM, hO, hdis, hxA, hmA⟩ := hC
  have hdis2 : ∀ q, Ax q → ¬ Am q := fun q h1 h2 => hdis q h2 h1
  have hK := hAM.1
  have hbA : ¬ (fun q : Nat => s.heap.size ≤ q) b := Nat.not_le.mpr hbl
  obtain ⟨kk, pr, w, wr, wc, ro, wt, nd, c0, c1, c2, hh, pc0, pz0, pc1, pz1, dr, sd, sg, fd, tw, sw, rq, fw, fr, nr, ra, rd, cn, cl, cp, aS, aH, aG, aR, aV, aA, aB, aO, aP, aF, aC, fs, fh, fg, fq, fV, fA, fB, fO, fP, fF, fC, mx, hPx, hDx, hPm, hDm, hRL, hAx, hS, hc1, hs1⟩ := hI
  have hn30 := hRL.2.2.2.2.1.1
  have hsg := hRL.2.1.1
  have hcn := hRL.2.2.2.2.2.1
  have hσ := hRL.2.2.1.2.2
  have hq := hRL.2.2.1.1
  have hV := RR_voters hRL.2.2.2.2.1.2
  have cb0 : cells + 0 ≤ room_1.cells := by show cells + 0 ≤ 600000; omega
  have sb0 : slots + 0 ≤ room_1.slots := by show slots + 0 ≤ 7302250; omega
  have cb1 : cells + 1 ≤ room_1.cells := by show cells + 1 ≤ 600000; omega
  have sb1 : slots + 6 ≤ room_1.slots := by show slots + 6 ≤ 7302250; omega
  refine lv_aload_n hx hb dL_law_699 rfl (lv_at hl 2 rfl) ?_
  refine wr_callF (va_runV (As := []) (rest := []) ⟨hx, hb, hml, hown, hts⟩ (c_X8_rule l D cI cZ cR Ax _ x kk pr w wr wc ro wt nd c0 c1 c2 hh pc0 pz0 pc1 pz1 dr sd sg fd tw sw rq fw fr nr ra rd cn cl cp) (cwV 0 hts gL_law_X8_rule rfl rfl rfl ⟨rfl, hd_X8_rule⟩ ⟨(Nat.le_of_ble_eq_true rfl), (Nat.le_of_ble_eq_true rfl)⟩) (wr_preV hAM hPx hDx (va_recv hK hPx (ci := 6) (q0 := 0) rfl rfl)) rfl rfl hl.1 rfl (lv_room (Nat.le_of_ble_eq_true rfl)) dL_law_700 ⟨cb0, sb0⟩) hxA hS (fun v u H1 locs1 hw hPx hDx hz hk hS => ?_)
  obtain ⟨dr_x, sd_x, ds_x, fd_x, tw_x, sw_x, wn_x, fw_x⟩ := u
  try dsimp only at hw
  obtain ⟨rfl, ew0, ew1, ew2, ew3, ew4, ew5, ew6, ew7⟩ := hw
  rw [ew0, ew1, ew2, ew3, ew4, ew5, ew6, ew7] at hPx hDx
  have hPm := keepP hPm hDm hdis hk
  have hAx := fun q (hq : H1.size ≤ q) => hAx q (Nat.le_trans hz hq)
  clear hz hk
  generalize H1 = H at hPx hPm hAx hS ⊢
  refine W.eq (g2 := F0 m 703 ls [.int ((x_X8_rule dr sd sg fd tw sw rq fw).1)]) rfl ?_
  refine W.cs (cells' := cells) (slots' := slots) rfl rfl ?_
  refine lv_aload_n hx hb dL_law_703 rfl (lv_at hl 1 rfl) ?_
  refine wr_callF (va_runV (As := []) (rest := [.int ((x_X8_rule dr sd sg fd tw sw rq fw).1)]) ⟨hx, hb, hml, hown, hts⟩ (c_X9_rule l D cI cZ cR Am _ o aS aH aG aR aV aA aB aO aP aF aC nd fs fh sg fg rq fq cl nr fV fA fB fO fP fF cn fC mx hsg) (cwV 0 hts gL_law_X9_rule rfl rfl rfl ⟨rfl, hd_X9_rule⟩ ⟨(Nat.le_of_ble_eq_true rfl), (Nat.le_of_ble_eq_true rfl)⟩) (wr_preV hAM hPm hDm (va_recv hK hPm (ci := 7) (q0 := 0) rfl rfl)) rfl rfl hl.1 rfl (lv_room (Nat.le_of_ble_eq_true rfl)) dL_law_704 ⟨cb0, sb0⟩) hmA hS (fun v u H1 locs1 hw hPm hDm hz hk hS => ?_)
  obtain ⟨rq_m, fq_m, sg_m⟩ := u
  try dsimp only at hw
  obtain ⟨rfl, ew0, ew1, ew2⟩ := hw
  rw [ew0, ew1, ew2] at hPm hDm
  have hPx := keepP hPx hDx hdis2 hk
  have hAx := fun q (hq : H1.size ≤ q) => hAx q (Nat.le_trans hz hq)
  clear hz hk
  generalize H1 = H at hPx hPm hAx hS ⊢
  refine W.eq (g2 := F0 m 707 ls [.int ((x_X9_rule sg fg rq fq).1), .int ((x_X8_rule dr sd sg fd tw sw rq fw).1)]) rfl ?_
  refine W.cs (cells' := cells) (slots' := slots) rfl rfl ?_
  have hop := op_rule hRL.2.1.1 hRL.2.1.2 hRL.2.2.1.1 hRL.2.2.1.2.1 hRL.2.2.1.2.2 dr sd tw sw
  refine lv_icmp_eq (tgt := 1511) hx hb dL_law_707 (by decide) (fun _ => ?_) (fun c9 => absurd hop.1 c9)
  rw [hop.2.1, hop.2.2.1] at hPx hDx
  exact cont _ _ _ _ ⟨kk, pr, w, wr, wc, ro, wt, nd, c0, c1, c2, hh, pc0, pz0, pc1, pz1, ((x_X8_rule dr sd sg fd tw sw rq fw).2.1), ((x_X8_rule dr sd sg fd tw sw rq fw).2.2.1), ((x_X9_rule sg fg rq fq).2.2.2), ((x_X8_rule dr sd sg fd tw sw rq fw).2.2.2.2.1), ((x_X8_rule dr sd sg fd tw sw rq fw).2.2.2.2.2.1), ((x_X8_rule dr sd sg fd tw sw rq fw).2.2.2.2.2.2.1), ((x_X9_rule sg fg rq fq).2.1), ((x_X8_rule dr sd sg fd tw sw rq fw).2.2.2.2.2.2.2.2), fr, nr, ra, rd, cn, cl, cp, aS, aH, aG, aR, aV, aA, aB, aO, aP, aF, aC, fs, fh, fg, ((x_X9_rule sg fg rq fq).2.2.1), fV, fA, fB, fO, fP, fF, fC, mx, hPx, hDx, hPm, hDm, ⟨hRL.1, hop.2.2.2.1, hop.2.2.2.2, hRL.2.2.2.1, hRL.2.2.2.2.1, hRL.2.2.2.2.2⟩, hAx, hS, by omega, by omega⟩ ls hl

set_option maxHeartbeats 4000000 in
set_option maxRecDepth 100000 in
theorem law_may {p : Program} {l : Launch} {e : Env} {s : State} {m : MethodId} {below : List Frame} {meth : Method} {c : Code} {D : va_G} {cI cZ cR : ClassId} {Ax Am : Nat → Prop} {b L x o N i : Nat} {xs : Nat → Int32} (hL : L ≤ 4608) (C0 : lw_At p s m meth c b L xs) (hC : LC D cI cZ cR Ax Am s) {H : Heap} {locs : List Loc} {cells slots : Nat} (hI : LI D cI cZ cR Ax Am s x o N H locs cells slots) (hN : N ≤ 512) (hi : i + 9 ≤ L) {ls : Array Slot} (hl : lv_has ls 4 [(3, .int (nI i)), (2, .ref o), (1, .ref x), (0, .ref b)])
    (cont : ∀ (H : Heap) (locs : List Loc) (cells slots : Nat), LI D cI cZ cR Ax Am s x o (N + 1) H locs cells slots → ∀ ls : Array Slot, lv_has ls 4 [(3, .int (nI i)), (2, .ref o), (1, .ref x), (0, .ref b)] → W p l e room_1 s m #[Value.ref b] below meth c H locs cells slots (lw_Z below #[Value.ref b] s) (F0 m 1511 ls [])) : W p l e room_1 s m #[Value.ref b] below meth c H locs cells slots (lw_Z below #[Value.ref b] s) (F0 m 712 ls []) := by
  obtain ⟨hx, hb, hr, hml, hown, hts0, hX, hbl, hlocks, hgv⟩ := C0
  have hts := fun w h => hts0 w (wsL_law_in w h)
  obtain ⟨hAM, hO, hdis, hxA, hmA⟩ := hC
  have hdis2 : ∀ q, Ax q → ¬ Am q := fun q h1 h2 => hdis q h2 h1
  have hK := hAM.1
  have hbA : ¬ (fun q : Nat => s.heap.size ≤ q) b := Nat.not_le.mpr hbl
  obtain ⟨kk, pr, w, wr, wc, ro, wt, nd, c0, c1, c2, hh, pc0, pz0, pc1, pz1, dr, sd, sg, fd, tw, sw, rq, fw, fr, nr, ra, rd, cn, cl, cp, aS, aH, aG, aR, aV, aA, aB, aO, aP, aF, aC, fs, fh, fg, fq, fV, fA, fB, fO, fP, fF, fC, mx, hPx, hDx, hPm, hDm, hRL, hAx, hS, hc1, hs1⟩ := hI
  have hn30 := hRL.2.2.2.2.1.1
  have hsg := hRL.2.1.1
  have hcn := hRL.2.2.2.2.2.1
  have hσ := hRL.2.2.1.2.2
  have hq := hRL.2.2.1.1
  have hV := RR_voters hRL.2.2.2.2.1.2
  have cb0 : cells + 0 ≤ room_1.cells := by show cells + 0 ≤ 600000; omega
  have sb0 : slots + 0 ≤ room_1.slots := by show slots + 0 ≤ 7302250; omega
  have cb1 : cells + 1 ≤ room_1.cells := by show cells + 1 ≤ 600000; omega
  have sb1 : slots + 6 ≤ room_1.slots := by show slots + 6 ≤ 7302250; omega
  refine lv_aload_n hx hb dL_law_712 rfl (lv_at hl 2 rfl) ?_
  refine lv_aload_n hx hb dL_law_713 rfl (lv_at hl 3 rfl) ?_
  refine lv_iload_n hx hb dL_law_714 rfl (lv_at hl 0 rfl) ?_
  refine lv_iconst (v := 1) hx hb dL_law_715 (by decide +kernel) ?_
  refine lv_iadd hx hb dL_law_716 ?_
  refine va_sld hx hb hX hbl hbA hS (sc_in (j := 1) hi hL (by decide) rfl) dL_law_717 ?_
  refine ro_call (va_runV (As := [.int (xs (ix (nI i + 1)))]) (rest := []) ⟨hx, hb, hml, hown, hts⟩ (c_X8_may l D cI cZ cR _ x kk pr dr sd w wr wc ro wt tw sw nd c0 c1 c2 hh pc0 pz0 pc1 pz1 dr sd sg fd tw sw rq fw fr nr ra rd cn cl cp (xs (ix (nI i + 1)))) (cwV 1 hts gL_law_X8_may rfl rfl rfl ⟨rfl, hd_X8_may⟩ ⟨(Nat.le_of_ble_eq_true rfl), (Nat.le_of_ble_eq_true rfl)⟩) (po_preV hAM hPx (va_recv hK hPx (ci := 6) (q0 := 0) rfl rfl)) rfl rfl hl.1 rfl (lv_room (Nat.le_of_ble_eq_true rfl)) dL_law_718 ⟨cb0, sb0⟩) ?_
  refine lv_aload_n hx hb dL_law_721 rfl (lv_at hl 1 rfl) ?_
  refine lv_aload_n hx hb dL_law_722 rfl (lv_at hl 3 rfl) ?_
  refine lv_iload_n hx hb dL_law_723 rfl (lv_at hl 0 rfl) ?_
  refine lv_iconst (v := 1) hx hb dL_law_724 (by decide +kernel) ?_
  refine lv_iadd hx hb dL_law_725 ?_
  refine va_sld hx hb hX hbl hbA hS (sc_in (j := 1) hi hL (by decide) rfl) dL_law_726 ?_
  refine ro_call (va_runV (As := [.int (xs (ix (nI i + 1)))]) (rest := [.int (x_X8_may fr rq fw (xs (ix (nI i + 1))))]) ⟨hx, hb, hml, hown, hts⟩ (c_X9_may l D cI cZ cR _ o aS aH aG aR aV aA aB aO aP aF aC nd fs fh sg fg rq fq cl nr fV fA fB fO fP fF cn fC mx (xs (ix (nI i + 1))) hσ hq) (cwV 1 hts gL_law_X9_may rfl rfl rfl ⟨rfl, hd_X9_may⟩ ⟨(Nat.le_of_ble_eq_true rfl), (Nat.le_of_ble_eq_true rfl)⟩) (po_preV hAM hPm (va_recv hK hPm (ci := 7) (q0 := 0) rfl rfl)) rfl rfl hl.1 rfl (lv_room (Nat.le_of_ble_eq_true rfl)) dL_law_727 ⟨cb0, sb0⟩) ?_
  refine lv_icmp_eq (tgt := 1511) hx hb dL_law_730 (by decide) (fun _ => ?_) (fun c9 => absurd (mayI_eq hRL.2.2.1.1 hRL.2.2.1.2.1 hRL.2.2.1.2.2 hRL.2.2.2.1 _) c9)
  exact cont _ _ _ _ ⟨kk, pr, w, wr, wc, ro, wt, nd, c0, c1, c2, hh, pc0, pz0, pc1, pz1, dr, sd, sg, fd, tw, sw, rq, fw, fr, nr, ra, rd, cn, cl, cp, aS, aH, aG, aR, aV, aA, aB, aO, aP, aF, aC, fs, fh, fg, fq, fV, fA, fB, fO, fP, fF, fC, mx, hPx, hDx, hPm, hDm, hRL, hAx, hS, by omega, by omega⟩ ls hl

set_option maxHeartbeats 4000000 in
set_option maxRecDepth 100000 in
theorem law_close {p : Program} {l : Launch} {e : Env} {s : State} {m : MethodId} {below : List Frame} {meth : Method} {c : Code} {D : va_G} {cI cZ cR : ClassId} {Ax Am : Nat → Prop} {b L x o N i : Nat} {xs : Nat → Int32} (hL : L ≤ 4608) (C0 : lw_At p s m meth c b L xs) (hC : LC D cI cZ cR Ax Am s) {H : Heap} {locs : List Loc} {cells slots : Nat} (hI : LI D cI cZ cR Ax Am s x o N H locs cells slots) (hN : N ≤ 512) (hi : i + 9 ≤ L) {ls : Array Slot} (hl : lv_has ls 4 [(3, .int (nI i)), (2, .ref o), (1, .ref x), (0, .ref b)])
    (cont : ∀ (H : Heap) (locs : List Loc) (cells slots : Nat), LI D cI cZ cR Ax Am s x o (N + 1) H locs cells slots → ∀ ls : Array Slot, lv_has ls 4 [(3, .int (nI i)), (2, .ref o), (1, .ref x), (0, .ref b)] → W p l e room_1 s m #[Value.ref b] below meth c H locs cells slots (lw_Z below #[Value.ref b] s) (F0 m 1511 ls [])) : W p l e room_1 s m #[Value.ref b] below meth c H locs cells slots (lw_Z below #[Value.ref b] s) (F0 m 735 ls []) := by
  obtain ⟨hx, hb, hr, hml, hown, hts0, hX, hbl, hlocks, hgv⟩ := C0
  have hts := fun w h => hts0 w (wsL_law_in w h)
  obtain ⟨hAM, hO, hdis, hxA, hmA⟩ := hC
  have hdis2 : ∀ q, Ax q → ¬ Am q := fun q h1 h2 => hdis q h2 h1
  have hK := hAM.1
  have hbA : ¬ (fun q : Nat => s.heap.size ≤ q) b := Nat.not_le.mpr hbl
  obtain ⟨kk, pr, w, wr, wc, ro, wt, nd, c0, c1, c2, hh, pc0, pz0, pc1, pz1, dr, sd, sg, fd, tw, sw, rq, fw, fr, nr, ra, rd, cn, cl, cp, aS, aH, aG, aR, aV, aA, aB, aO, aP, aF, aC, fs, fh, fg, fq, fV, fA, fB, fO, fP, fF, fC, mx, hPx, hDx, hPm, hDm, hRL, hAx, hS, hc1, hs1⟩ := hI
  have hn30 := hRL.2.2.2.2.1.1
  have hsg := hRL.2.1.1
  have hcn := hRL.2.2.2.2.2.1
  have hσ := hRL.2.2.1.2.2
  have hq := hRL.2.2.1.1
  have hV := RR_voters hRL.2.2.2.2.1.2
  have cb0 : cells + 0 ≤ room_1.cells := by show cells + 0 ≤ 600000; omega
  have sb0 : slots + 0 ≤ room_1.slots := by show slots + 0 ≤ 7302250; omega
  have cb1 : cells + 1 ≤ room_1.cells := by show cells + 1 ≤ 600000; omega
  have sb1 : slots + 6 ≤ room_1.slots := by show slots + 6 ≤ 7302250; omega
  refine lv_aload_n hx hb dL_law_735 rfl (lv_at hl 2 rfl) ?_
  refine lv_aload_n hx hb dL_law_736 rfl (lv_at hl 3 rfl) ?_
  refine lv_iload_n hx hb dL_law_737 rfl (lv_at hl 0 rfl) ?_
  refine lv_iconst (v := 1) hx hb dL_law_738 (by decide +kernel) ?_
  refine lv_iadd hx hb dL_law_739 ?_
  refine va_sld hx hb hX hbl hbA hS (sc_in (j := 1) hi hL (by decide) rfl) dL_law_740 ?_
  refine wr_callF (va_runV (As := [.int (xs (ix (nI i + 1)))]) (rest := []) ⟨hx, hb, hml, hown, hts⟩ (c_X8_close l D cI cZ cR Ax _ x kk pr w wr wc ro wt nd c0 c1 c2 hh pc0 pz0 pc1 pz1 dr sd sg fd tw sw rq fw fr nr ra rd cn cl cp (xs (ix (nI i + 1)))) (cwV 1 hts gL_law_X8_close rfl rfl rfl ⟨rfl, hd_X8_close⟩ ⟨(Nat.le_of_ble_eq_true rfl), (Nat.le_of_ble_eq_true rfl)⟩) (wr_preV hAM hPx hDx (va_recv hK hPx (ci := 6) (q0 := 0) rfl rfl)) rfl rfl hl.1 rfl (lv_room (Nat.le_of_ble_eq_true rfl)) dL_law_741 ⟨cb0, sb0⟩) hxA hS (fun v ch_x H1 locs1 hw hPx hDx hz hk hS => ?_)
  try dsimp only at hw
  obtain ⟨rfl, ew0⟩ := hw
  rw [ew0] at hPx hDx
  have hPm := keepP hPm hDm hdis hk
  have hAx := fun q (hq : H1.size ≤ q) => hAx q (Nat.le_trans hz hq)
  clear hz hk
  generalize H1 = H at hPx hPm hAx hS ⊢
  refine W.eq (g2 := F0 m 744 ls [.int ((x_X8_close cl (xs (ix (nI i + 1)))).1)]) rfl ?_
  refine W.cs (cells' := cells) (slots' := slots) rfl rfl ?_
  refine lv_aload_n hx hb dL_law_744 rfl (lv_at hl 1 rfl) ?_
  refine lv_aload_n hx hb dL_law_745 rfl (lv_at hl 3 rfl) ?_
  refine lv_iload_n hx hb dL_law_746 rfl (lv_at hl 0 rfl) ?_
  refine lv_iconst (v := 1) hx hb dL_law_747 (by decide +kernel) ?_
  refine lv_iadd hx hb dL_law_748 ?_
  refine va_sld hx hb hX hbl hbA hS (sc_in (j := 1) hi hL (by decide) rfl) dL_law_749 ?_
  refine wr_callF (va_runV (As := [.int (xs (ix (nI i + 1)))]) (rest := [.int ((x_X8_close cl (xs (ix (nI i + 1)))).1)]) ⟨hx, hb, hml, hown, hts⟩ (c_X9_close l D cI cZ cR Am _ o aS aH aG aR aV aA aB aO aP aF aC nd fs fh sg fg rq fq cl nr fV fA fB fO fP fF cn fC mx (xs (ix (nI i + 1)))) (cwV 1 hts gL_law_X9_close rfl rfl rfl ⟨rfl, hd_X9_close⟩ ⟨(Nat.le_of_ble_eq_true rfl), (Nat.le_of_ble_eq_true rfl)⟩) (wr_preV hAM hPm hDm (va_recv hK hPm (ci := 7) (q0 := 0) rfl rfl)) rfl rfl hl.1 rfl (lv_room (Nat.le_of_ble_eq_true rfl)) dL_law_750 ⟨cb0, sb0⟩) hmA hS (fun v cl_m H1 locs1 hw hPm hDm hz hk hS => ?_)
  try dsimp only at hw
  obtain ⟨rfl, ew0⟩ := hw
  rw [ew0] at hPm hDm
  have hPx := keepP hPx hDx hdis2 hk
  have hAx := fun q (hq : H1.size ≤ q) => hAx q (Nat.le_trans hz hq)
  clear hz hk
  generalize H1 = H at hPx hPm hAx hS ⊢
  refine W.eq (g2 := F0 m 753 ls [.int ((x_X9_close cl (xs (ix (nI i + 1)))).1), .int ((x_X8_close cl (xs (ix (nI i + 1)))).1)]) rfl ?_
  refine W.cs (cells' := cells) (slots' := slots) rfl rfl ?_
  have hop := op_close cl (xs (ix (nI i + 1)))
  refine lv_icmp_eq (tgt := 1511) hx hb dL_law_753 (by decide) (fun _ => ?_) (fun c9 => absurd hop.1 c9)
  rw [hop.2] at hPx hDx
  exact cont _ _ _ _ ⟨kk, pr, w, wr, wc, ro, wt, nd, c0, c1, c2, hh, pc0, pz0, pc1, pz1, dr, sd, sg, fd, tw, sw, rq, fw, fr, nr, ra, rd, cn, ((x_X9_close cl (xs (ix (nI i + 1)))).2), cp, aS, aH, aG, aR, aV, aA, aB, aO, aP, aF, aC, fs, fh, fg, fq, fV, fA, fB, fO, fP, fF, fC, mx, hPx, hDx, hPm, hDm, hRL, hAx, hS, by omega, by omega⟩ ls hl
