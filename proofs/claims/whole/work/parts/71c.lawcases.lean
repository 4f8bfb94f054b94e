set_option maxHeartbeats 4000000 in
set_option maxRecDepth 100000 in
theorem law_row {p : Program} {l : Launch} {e : Env} {s : State} {m : MethodId} {below : List Frame} {meth : Method} {c : Code} {D : va_G} {cI cZ cR : ClassId} {Ax Am : Nat → Prop} {b L x o N i : Nat} {xs : Nat → Int32} (hL : L ≤ 4608) (C0 : lw_At p s m meth c b L xs) (hC : LC D cI cZ cR Ax Am s) {H : Heap} {locs : List Loc} {cells slots : Nat} (hI : LI D cI cZ cR Ax Am s x o N H locs cells slots) (hN : N ≤ 512) (hi : i + 9 ≤ L) {ls : Array Slot} (hl : lv_has ls 4 [(3, .int (nI i)), (2, .ref o), (1, .ref x), (0, .ref b)])
    (cont : ∀ (H : Heap) (locs : List Loc) (cells slots : Nat), LI D cI cZ cR Ax Am s x o (N + 1) H locs cells slots → ∀ ls : Array Slot, lv_has ls 4 [(3, .int (nI i)), (2, .ref o), (1, .ref x), (0, .ref b)] → W p l e room_1 s m #[Value.ref b] below meth c H locs cells slots (lw_Z below #[Value.ref b] s) (F0 m 1511 ls [])) : W p l e room_1 s m #[Value.ref b] below meth c H locs cells slots (lw_Z below #[Value.ref b] s) (F0 m 758 ls []) := by
  obtain ⟨hx, hb, hr, hml, hown, hts0, hX, hbl, hlocks, hgv⟩ := C0
  have hts := fun w h => hts0 w (wsL_law_in w h)
  obtain ⟨hAM, hO, hdis, hxA, hmA⟩ := hC
  have hdis2 : ∀ q, Ax q → ¬ Am q := fun q h1 h2 => hdis q h2 h1
  have hK := hAM.1
  have hbA : ¬ (fun q : Nat => s.heap.size ≤ q) b := Nat.not_le.mpr hbl
  obtain ⟨kk, pr, w, wr, wc, ro, wt, nd, c0, c1, c2, hh, pc0, pz0, pc1, pz1, dr, sd, sg, fd, tw, sw, rq, fw, fr, nr, ra, rd, cn, cl, cp, aS, aH, aG, aR, aV, aA, aB, aO, aP, aF, aC, fs, fh, fg, fq, fV, fA, fB, fO, fP, fF, fC, mx, hPx, hDx, hPm, hDm, hRL, hAx, hS, hc1, hs1⟩ := hI
  have hn30 := hRL.2.2.2.2.1.1
  have hsg := hRL.2.1.1
  have hcn := hRL.2.2.2.2.2.1
  have hσ := hRL.2.2.1.2.2
  have hq := hRL.2.2.1.1
  have hV := RR_voters hRL.2.2.2.2.1.2
  have cb0 : cells + 0 ≤ room_1.cells := by show cells + 0 ≤ 600000; omega
  have sb0 : slots + 0 ≤ room_1.slots := by show slots + 0 ≤ 7302250; omega
  have cb1 : cells + 1 ≤ room_1.cells := by show cells + 1 ≤ 600000; omega
  have sb1 : slots + 6 ≤ room_1.slots := by show slots + 6 ≤ 7302250; omega
  refine lv_aload_n hx hb dL_law_758 rfl (lv_at hl 2 rfl) ?_
  refine lv_aload_n hx hb dL_law_759 rfl (lv_at hl 3 rfl) ?_
  refine lv_iload_n hx hb dL_law_760 rfl (lv_at hl 0 rfl) ?_
  refine lv_iconst (v := 1) hx hb dL_law_761 (by decide +kernel) ?_
  refine lv_iadd hx hb dL_law_762 ?_
  refine va_sld hx hb hX hbl hbA hS (sc_in (j := 1) hi hL (by decide) rfl) dL_law_763 ?_
  refine lv_aload_n hx hb dL_law_764 rfl (lv_at hl 3 rfl) ?_
  refine lv_iload_n hx hb dL_law_765 rfl (lv_at hl 0 rfl) ?_
  refine lv_iconst (v := 2) hx hb dL_law_766 (by decide +kernel) ?_
  refine lv_iadd hx hb dL_law_767 ?_
  refine va_sld hx hb hX hbl hbA hS (sc_in (j := 2) hi hL (by decide) rfl) dL_law_768 ?_
  refine lv_aload_n hx hb dL_law_769 rfl (lv_at hl 3 rfl) ?_
  refine lv_iload_n hx hb dL_law_770 rfl (lv_at hl 0 rfl) ?_
  refine lv_iconst (v := 3) hx hb dL_law_771 (by decide +kernel) ?_
  refine lv_iadd hx hb dL_law_772 ?_
  refine va_sld hx hb hX hbl hbA hS (sc_in (j := 3) hi hL (by decide) rfl) dL_law_773 ?_
  refine lv_aload_n hx hb dL_law_774 rfl (lv_at hl 3 rfl) ?_
  refine lv_iload_n hx hb dL_law_775 rfl (lv_at hl 0 rfl) ?_
  refine lv_iconst (v := 4) hx hb dL_law_776 (by decide +kernel) ?_
  refine lv_iadd hx hb dL_law_777 ?_
  refine va_sld hx hb hX hbl hbA hS (sc_in (j := 4) hi hL (by decide) rfl) dL_law_778 ?_
  refine wr_callF (va_runV (As := [.int (xs (ix (nI i + 1))), .int (xs (ix (nI i + 2))), .int (xs (ix (nI i + 3))), .int (xs (ix (nI i + 4)))]) (rest := []) ⟨hx, hb, hml, hown, hts⟩ (c_X8_row l D cI cZ cR Ax _ x kk pr w wr wc ro wt nd c0 c1 c2 hh pc0 pz0 pc1 pz1 dr sd sg fd tw sw rq fw fr nr ra rd cn cl cp (xs (ix (nI i + 1))) (xs (ix (nI i + 2))) (xs (ix (nI i + 3))) (xs (ix (nI i + 4))) hn30) (cwV 4 hts gL_law_X8_row rfl rfl rfl ⟨rfl, hd_X8_row⟩ ⟨(Nat.le_of_ble_eq_true rfl), (Nat.le_of_ble_eq_true rfl)⟩) (al_preV hAM hO hPx hDx hAx (va_recv hK hPx (ci := 6) (q0 := 0) rfl rfl)) rfl rfl hl.1 rfl (lv_room (Nat.le_of_ble_eq_true rfl)) dL_law_779 ⟨cb1, sb1⟩) hxA hS (fun v u H1 locs1 hw hPx hDx hz hk hS => ?_)
  obtain ⟨nr_x, rd_x, ra_x, pc0_x, pz0_x, pc1_x, pz1_x⟩ := u
  try dsimp only at hw
  obtain ⟨rfl, ew0, ew1⟩ := hw
  rw [ew0, ew1] at hPx hDx
  have hPm := keepP hPm hDm hdis hk
  have hAx := fun q (hq : H1.size ≤ q) => hAx q (Nat.le_trans hz hq)
  clear hz hk
  generalize H1 = H at hPx hPm hAx hS ⊢
  refine W.eq (g2 := F0 m 782 ls [.int ((x_X8_row hh nr rd (xs (ix (nI i + 1))) (xs (ix (nI i + 2))) (xs (ix (nI i + 3))) (xs (ix (nI i + 4)))).1)]) rfl ?_
  refine W.cs (cells' := cells + 1) (slots' := slots + 6) rfl rfl ?_
  have cb0 : cells + 1 + 0 ≤ room_1.cells := by show cells + 1 + 0 ≤ 600000; omega
  have sb0 : slots + 6 + 0 ≤ room_1.slots := by show slots + 6 + 0 ≤ 7302250; omega
  refine lv_aload_n hx hb dL_law_782 rfl (lv_at hl 1 rfl) ?_
  refine lv_aload_n hx hb dL_law_783 rfl (lv_at hl 3 rfl) ?_
  refine lv_iload_n hx hb dL_law_784 rfl (lv_at hl 0 rfl) ?_
  refine lv_iconst (v := 1) hx hb dL_law_785 (by decide +kernel) ?_
  refine lv_iadd hx hb dL_law_786 ?_
  refine va_sld hx hb hX hbl hbA hS (sc_in (j := 1) hi hL (by decide) rfl) dL_law_787 ?_
  refine lv_aload_n hx hb dL_law_788 rfl (lv_at hl 3 rfl) ?_
  refine lv_iload_n hx hb dL_law_789 rfl (lv_at hl 0 rfl) ?_
  refine lv_iconst (v := 2) hx hb dL_law_790 (by decide +kernel) ?_
  refine lv_iadd hx hb dL_law_791 ?_
  refine va_sld hx hb hX hbl hbA hS (sc_in (j := 2) hi hL (by decide) rfl) dL_law_792 ?_
  refine lv_aload_n hx hb dL_law_793 rfl (lv_at hl 3 rfl) ?_
  refine lv_iload_n hx hb dL_law_794 rfl (lv_at hl 0 rfl) ?_
  refine lv_iconst (v := 3) hx hb dL_law_795 (by decide +kernel) ?_
  refine lv_iadd hx hb dL_law_796 ?_
  refine va_sld hx hb hX hbl hbA hS (sc_in (j := 3) hi hL (by decide) rfl) dL_law_797 ?_
  refine lv_aload_n hx hb dL_law_798 rfl (lv_at hl 3 rfl) ?_
  refine lv_iload_n hx hb dL_law_799 rfl (lv_at hl 0 rfl) ?_
  refine lv_iconst (v := 4) hx hb dL_law_800 (by decide +kernel) ?_
  refine lv_iadd hx hb dL_law_801 ?_
  refine va_sld hx hb hX hbl hbA hS (sc_in (j := 4) hi hL (by decide) rfl) dL_law_802 ?_
  refine wr_callF (va_runV (As := [.int (xs (ix (nI i + 1))), .int (xs (ix (nI i + 2))), .int (xs (ix (nI i + 3))), .int (xs (ix (nI i + 4)))]) (rest := [.int ((x_X8_row hh nr rd (xs (ix (nI i + 1))) (xs (ix (nI i + 2))) (xs (ix (nI i + 3))) (xs (ix (nI i + 4)))).1)]) ⟨hx, hb, hml, hown, hts⟩ (c_X9_row l D cI cZ cR Am _ o aS aH aG aR aV aA aB aO aP aF aC nd fs fh sg fg rq fq cl nr fV fA fB fO fP fF cn fC mx (xs (ix (nI i + 1))) (xs (ix (nI i + 2))) (xs (ix (nI i + 3))) (xs (ix (nI i + 4))) hn30) (cwV 4 hts gL_law_X9_row rfl rfl rfl ⟨rfl, hd_X9_row⟩ ⟨(Nat.le_of_ble_eq_true rfl), (Nat.le_of_ble_eq_true rfl)⟩) (wr_preV hAM hPm hDm (va_recv hK hPm (ci := 7) (q0 := 0) rfl rfl)) rfl rfl hl.1 rfl (lv_room (Nat.le_of_ble_eq_true rfl)) dL_law_803 ⟨cb0, sb0⟩) hmA hS (fun v u H1 locs1 hw hPm hDm hz hk hS => ?_)
  obtain ⟨fV_m, fA_m, fB_m, fO_m, fP_m, fF_m, nr_m⟩ := u
  try dsimp only at hw
  obtain ⟨rfl, ew0, ew1, ew2, ew3, ew4, ew5, ew6⟩ := hw
  rw [ew0, ew1, ew2, ew3, ew4, ew5, ew6] at hPm hDm
  have hPx := keepP hPx hDx hdis2 hk
  have hAx := fun q (hq : H1.size ≤ q) => hAx q (Nat.le_trans hz hq)
  clear hz hk
  generalize H1 = H at hPx hPm hAx hS ⊢
  refine W.eq (g2 := F0 m 806 ls [.int ((x_X9_row fV fA fB fO fP fF nr (xs (ix (nI i + 1))) (xs (ix (nI i + 2))) (xs (ix (nI i + 3))) (xs (ix (nI i + 4)))).1), .int ((x_X8_row hh nr rd (xs (ix (nI i + 1))) (xs (ix (nI i + 2))) (xs (ix (nI i + 3))) (xs (ix (nI i + 4)))).1)]) rfl ?_
  refine W.cs (cells' := cells + 1) (slots' := slots + 6) rfl rfl ?_
  have hop := op_row hRL.1 hRL.2.2.2.2.1.1 hRL.2.2.2.2.1.2 (xs (ix (nI i + 1))) (xs (ix (nI i + 2))) (xs (ix (nI i + 3))) (xs (ix (nI i + 4)))
  refine lv_icmp_eq (tgt := 1511) hx hb dL_law_806 (by decide) (fun _ => ?_) (fun c9 => absurd hop.1 c9)
  rw [hop.2.1] at hPx hDx
  exact cont _ _ _ _ ⟨kk, pr, w, wr, wc, ro, wt, nd, c0, c1, c2, hh, pc0_x, pz0_x, pc1_x, pz1_x, dr, sd, sg, fd, tw, sw, rq, fw, fr, ((x_X9_row fV fA fB fO fP fF nr (xs (ix (nI i + 1))) (xs (ix (nI i + 2))) (xs (ix (nI i + 3))) (xs (ix (nI i + 4)))).2.2.2.2.2.2.2), ra_x, ((x_X8_row hh nr rd (xs (ix (nI i + 1))) (xs (ix (nI i + 2))) (xs (ix (nI i + 3))) (xs (ix (nI i + 4)))).2.2), cn, cl, cp, aS, aH, aG, aR, aV, aA, aB, aO, aP, aF, aC, fs, fh, fg, fq, ((x_X9_row fV fA fB fO fP fF nr (xs (ix (nI i + 1))) (xs (ix (nI i + 2))) (xs (ix (nI i + 3))) (xs (ix (nI i + 4)))).2.1), ((x_X9_row fV fA fB fO fP fF nr (xs (ix (nI i + 1))) (xs (ix (nI i + 2))) (xs (ix (nI i + 3))) (xs (ix (nI i + 4)))).2.2.1), ((x_X9_row fV fA fB fO fP fF nr (xs (ix (nI i + 1))) (xs (ix (nI i + 2))) (xs (ix (nI i + 3))) (xs (ix (nI i + 4)))).2.2.2.1), ((x_X9_row fV fA fB fO fP fF nr (xs (ix (nI i + 1))) (xs (ix (nI i + 2))) (xs (ix (nI i + 3))) (xs (ix (nI i + 4)))).2.2.2.2.1), ((x_X9_row fV fA fB fO fP fF nr (xs (ix (nI i + 1))) (xs (ix (nI i + 2))) (xs (ix (nI i + 3))) (xs (ix (nI i + 4)))).2.2.2.2.2.1), ((x_X9_row fV fA fB fO fP fF nr (xs (ix (nI i + 1))) (xs (ix (nI i + 2))) (xs (ix (nI i + 3))) (xs (ix (nI i + 4)))).2.2.2.2.2.2.1), fC, mx, hPx, hDx, hPm, hDm, ⟨hRL.1, hRL.2.1, hRL.2.2.1, hRL.2.2.2.1, ⟨hop.2.2.1, hop.2.2.2⟩, hRL.2.2.2.2.2⟩, hAx, hS, by omega, by omega⟩ ls hl

set_option maxHeartbeats 4000000 in
set_option maxRecDepth 100000 in
theorem law_attach {p : Program} {l : Launch} {e : Env} {s : State} {m : MethodId} {below : List Frame} {meth : Method} {c : Code} {D : va_G} {cI cZ cR : ClassId} {Ax Am : Nat → Prop} {b L x o N i : Nat} {xs : Nat → Int32} (hL : L ≤ 4608) (C0 : lw_At p s m meth c b L xs) (hC : LC D cI cZ cR Ax Am s) {H : Heap} {locs : List Loc} {cells slots : Nat} (hI : LI D cI cZ cR Ax Am s x o N H locs cells slots) (hN : N ≤ 512) (hi : i + 9 ≤ L) {ls : Array Slot} (hl : lv_has ls 4 [(3, .int (nI i)), (2, .ref o), (1, .ref x), (0, .ref b)])
    (cont : ∀ (H : Heap) (locs : List Loc) (cells slots : Nat), LI D cI cZ cR Ax Am s x o (N + 1) H locs cells slots → ∀ ls : Array Slot, lv_has ls 4 [(3, .int (nI i)), (2, .ref o), (1, .ref x), (0, .ref b)] → W p l e room_1 s m #[Value.ref b] below meth c H locs cells slots (lw_Z below #[Value.ref b] s) (F0 m 1511 ls [])) : W p l e room_1 s m #[Value.ref b] below meth c H locs cells slots (lw_Z below #[Value.ref b] s) (F0 m 811 ls []) := by
  obtain ⟨hx, hb, hr, hml, hown, hts0, hX, hbl, hlocks, hgv⟩ := C0
  have hts := fun w h => hts0 w (wsL_law_in w h)
  obtain ⟨hAM, hO, hdis, hxA, hmA⟩ := hC
  have hdis2 : ∀ q, Ax q → ¬ Am q := fun q h1 h2 => hdis q h2 h1
  have hK := hAM.1
  have hbA : ¬ (fun q : Nat => s.heap.size ≤ q) b := Nat.not_le.mpr hbl
  obtain ⟨kk, pr, w, wr, wc, ro, wt, nd, c0, c1, c2, hh, pc0, pz0, pc1, pz1, dr, sd, sg, fd, tw, sw, rq, fw, fr, nr, ra, rd, cn, cl, cp, aS, aH, aG, aR, aV, aA, aB, aO, aP, aF, aC, fs, fh, fg, fq, fV, fA, fB, fO, fP, fF, fC, mx, hPx, hDx, hPm, hDm, hRL, hAx, hS, hc1, hs1⟩ := hI
  have hn30 := hRL.2.2.2.2.1.1
  have hsg := hRL.2.1.1
  have hcn := hRL.2.2.2.2.2.1
  have hσ := hRL.2.2.1.2.2
  have hq := hRL.2.2.1.1
  have hV := RR_voters hRL.2.2.2.2.1.2
  have cb0 : cells + 0 ≤ room_1.cells := by show cells + 0 ≤ 600000; omega
  have sb0 : slots + 0 ≤ room_1.slots := by show slots + 0 ≤ 7302250; omega
  have cb1 : cells + 1 ≤ room_1.cells := by show cells + 1 ≤ 600000; omega
  have sb1 : slots + 6 ≤ room_1.slots := by show slots + 6 ≤ 7302250; omega
  refine lv_aload_n hx hb dL_law_811 rfl (lv_at hl 2 rfl) ?_
  refine lv_aload_n hx hb dL_law_812 rfl (lv_at hl 3 rfl) ?_
  refine lv_iload_n hx hb dL_law_813 rfl (lv_at hl 0 rfl) ?_
  refine lv_iconst (v := 1) hx hb dL_law_814 (by decide +kernel) ?_
  refine lv_iadd hx hb dL_law_815 ?_
  refine va_sld hx hb hX hbl hbA hS (sc_in (j := 1) hi hL (by decide) rfl) dL_law_816 ?_
  refine lv_aload_n hx hb dL_law_817 rfl (lv_at hl 3 rfl) ?_
  refine lv_iload_n hx hb dL_law_818 rfl (lv_at hl 0 rfl) ?_
  refine lv_iconst (v := 2) hx hb dL_law_819 (by decide +kernel) ?_
  refine lv_iadd hx hb dL_law_820 ?_
  refine va_sld hx hb hX hbl hbA hS (sc_in (j := 2) hi hL (by decide) rfl) dL_law_821 ?_
  refine lv_aload_n hx hb dL_law_822 rfl (lv_at hl 3 rfl) ?_
  refine lv_iload_n hx hb dL_law_823 rfl (lv_at hl 0 rfl) ?_
  refine lv_iconst (v := 3) hx hb dL_law_824 (by decide +kernel) ?_
  refine lv_iadd hx hb dL_law_825 ?_
  refine va_sld hx hb hX hbl hbA hS (sc_in (j := 3) hi hL (by decide) rfl) dL_law_826 ?_
  refine lv_aload_n hx hb dL_law_827 rfl (lv_at hl 3 rfl) ?_
  refine lv_iload_n hx hb dL_law_828 rfl (lv_at hl 0 rfl) ?_
  refine lv_iconst (v := 4) hx hb dL_law_829 (by decide +kernel) ?_
  refine lv_iadd hx hb dL_law_830 ?_
  refine va_sld hx hb hX hbl hbA hS (sc_in (j := 4) hi hL (by decide) rfl) dL_law_831 ?_
  refine lv_aload_n hx hb dL_law_832 rfl (lv_at hl 3 rfl) ?_
  refine lv_iload_n hx hb dL_law_833 rfl (lv_at hl 0 rfl) ?_
  refine lv_iconst (v := 5) hx hb dL_law_834 (by decide +kernel) ?_
  refine lv_iadd hx hb dL_law_835 ?_
  refine va_sld hx hb hX hbl hbA hS (sc_in (j := 5) hi hL (by decide) rfl) dL_law_836 ?_
  refine wr_callF (va_runV (As := [.int (xs (ix (nI i + 1))), .int (xs (ix (nI i + 2))), .int (xs (ix (nI i + 3))), .int (xs (ix (nI i + 4))), .int (xs (ix (nI i + 5)))]) (rest := []) ⟨hx, hb, hml, hown, hts⟩ (c_X8_attach l D cI cZ cR Ax _ x kk pr w wr wc ro wt nd c0 c1 c2 hh pc0 pz0 pc1 pz1 dr sd sg fd tw sw rq fw fr nr ra rd cn cl cp (xs (ix (nI i + 1))) (xs (ix (nI i + 2))) (xs (ix (nI i + 3))) (xs (ix (nI i + 4))) (xs (ix (nI i + 5))) hn30) (cwV 5 hts gL_law_X8_attach rfl rfl rfl ⟨rfl, hd_X8_attach⟩ ⟨(Nat.le_of_ble_eq_true rfl), (Nat.le_of_ble_eq_true rfl)⟩) (wr_preV hAM hPx hDx (va_recv hK hPx (ci := 6) (q0 := 0) rfl rfl)) rfl rfl hl.1 rfl (lv_room (Nat.le_of_ble_eq_true rfl)) dL_law_837 ⟨cb0, sb0⟩) hxA hS (fun v u H1 locs1 hw hPx hDx hz hk hS => ?_)
  obtain ⟨rd_x, pc0_x, pz0_x, pc1_x, pz1_x⟩ := u
  try dsimp only at hw
  obtain ⟨rfl, ew0⟩ := hw
  rw [ew0] at hPx hDx
  have hPm := keepP hPm hDm hdis hk
  have hAx := fun q (hq : H1.size ≤ q) => hAx q (Nat.le_trans hz hq)
  clear hz hk
  generalize H1 = H at hPx hPm hAx hS ⊢
  refine W.eq (g2 := F0 m 840 ls [.int ((x_X8_attach hh nr rd (xs (ix (nI i + 1))) (xs (ix (nI i + 2))) (xs (ix (nI i + 3))) (xs (ix (nI i + 4))) (xs (ix (nI i + 5)))).1)]) rfl ?_
  refine W.cs (cells' := cells) (slots' := slots) rfl rfl ?_
  refine lv_aload_n hx hb dL_law_840 rfl (lv_at hl 1 rfl) ?_
  refine lv_aload_n hx hb dL_law_841 rfl (lv_at hl 3 rfl) ?_
  refine lv_iload_n hx hb dL_law_842 rfl (lv_at hl 0 rfl) ?_
  refine lv_iconst (v := 1) hx hb dL_law_843 (by decide +kernel) ?_
  refine lv_iadd hx hb dL_law_844 ?_
  refine va_sld hx hb hX hbl hbA hS (sc_in (j := 1) hi hL (by decide) rfl) dL_law_845 ?_
  refine lv_aload_n hx hb dL_law_846 rfl (lv_at hl 3 rfl) ?_
  refine lv_iload_n hx hb dL_law_847 rfl (lv_at hl 0 rfl) ?_
  refine lv_iconst (v := 2) hx hb dL_law_848 (by decide +kernel) ?_
  refine lv_iadd hx hb dL_law_849 ?_
  refine va_sld hx hb hX hbl hbA hS (sc_in (j := 2) hi hL (by decide) rfl) dL_law_850 ?_
  refine lv_aload_n hx hb dL_law_851 rfl (lv_at hl 3 rfl) ?_
  refine lv_iload_n hx hb dL_law_852 rfl (lv_at hl 0 rfl) ?_
  refine lv_iconst (v := 3) hx hb dL_law_853 (by decide +kernel) ?_
  refine lv_iadd hx hb dL_law_854 ?_
  refine va_sld hx hb hX hbl hbA hS (sc_in (j := 3) hi hL (by decide) rfl) dL_law_855 ?_
  refine lv_aload_n hx hb dL_law_856 rfl (lv_at hl 3 rfl) ?_
  refine lv_iload_n hx hb dL_law_857 rfl (lv_at hl 0 rfl) ?_
  refine lv_iconst (v := 4) hx hb dL_law_858 (by decide +kernel) ?_
  refine lv_iadd hx hb dL_law_859 ?_
  refine va_sld hx hb hX hbl hbA hS (sc_in (j := 4) hi hL (by decide) rfl) dL_law_860 ?_
  refine lv_aload_n hx hb dL_law_861 rfl (lv_at hl 3 rfl) ?_
  refine lv_iload_n hx hb dL_law_862 rfl (lv_at hl 0 rfl) ?_
  refine lv_iconst (v := 5) hx hb dL_law_863 (by decide +kernel) ?_
  refine lv_iadd hx hb dL_law_864 ?_
  refine va_sld hx hb hX hbl hbA hS (sc_in (j := 5) hi hL (by decide) rfl) dL_law_865 ?_
  refine wr_callF (va_runV (As := [.int (xs (ix (nI i + 1))), .int (xs (ix (nI i + 2))), .int (xs (ix (nI i + 3))), .int (xs (ix (nI i + 4))), .int (xs (ix (nI i + 5)))]) (rest := [.int ((x_X8_attach hh nr rd (xs (ix (nI i + 1))) (xs (ix (nI i + 2))) (xs (ix (nI i + 3))) (xs (ix (nI i + 4))) (xs (ix (nI i + 5)))).1)]) ⟨hx, hb, hml, hown, hts⟩ (c_X9_attach l D cI cZ cR Am _ o aS aH aG aR aV aA aB aO aP aF aC nd fs fh sg fg rq fq cl nr fV fA fB fO fP fF cn fC mx (xs (ix (nI i + 1))) (xs (ix (nI i + 2))) (xs (ix (nI i + 3))) (xs (ix (nI i + 4))) (xs (ix (nI i + 5))) hn30) (cwV 5 hts gL_law_X9_attach rfl rfl rfl ⟨rfl, hd_X9_attach⟩ ⟨(Nat.le_of_ble_eq_true rfl), (Nat.le_of_ble_eq_true rfl)⟩) (wr_preV hAM hPm hDm (va_recv hK hPm (ci := 7) (q0 := 0) rfl rfl)) rfl rfl hl.1 rfl (lv_room (Nat.le_of_ble_eq_true rfl)) dL_law_866 ⟨cb0, sb0⟩) hmA hS (fun v u H1 locs1 hw hPm hDm hz hk hS => ?_)
  obtain ⟨fP_m, fF_m⟩ := u
  try dsimp only at hw
  obtain ⟨rfl, ew0, ew1⟩ := hw
  rw [ew0, ew1] at hPm hDm
  have hPx := keepP hPx hDx hdis2 hk
  have hAx := fun q (hq : H1.size ≤ q) => hAx q (Nat.le_trans hz hq)
  clear hz hk
  generalize H1 = H at hPx hPm hAx hS ⊢
  refine W.eq (g2 := F0 m 869 ls [.int ((x_X9_attach nr fP fF (xs (ix (nI i + 1))) (xs (ix (nI i + 2))) (xs (ix (nI i + 3))) (xs (ix (nI i + 4))) (xs (ix (nI i + 5)))).1), .int ((x_X8_attach hh nr rd (xs (ix (nI i + 1))) (xs (ix (nI i + 2))) (xs (ix (nI i + 3))) (xs (ix (nI i + 4))) (xs (ix (nI i + 5)))).1)]) rfl ?_
  refine W.cs (cells' := cells) (slots' := slots) rfl rfl ?_
  have hop := op_attach hRL.1 hRL.2.2.2.2.1.1 hRL.2.2.2.2.1.2 (xs (ix (nI i + 1))) (xs (ix (nI i + 2))) (xs (ix (nI i + 3))) (xs (ix (nI i + 4))) (xs (ix (nI i + 5)))
  refine lv_icmp_eq (tgt := 1511) hx hb dL_law_869 (by decide) (fun _ => ?_) (fun c9 => absurd hop.1 c9)
  exact cont _ _ _ _ ⟨kk, pr, w, wr, wc, ro, wt, nd, c0, c1, c2, hh, pc0_x, pz0_x, pc1_x, pz1_x, dr, sd, sg, fd, tw, sw, rq, fw, fr, nr, ra, ((x_X8_attach hh nr rd (xs (ix (nI i + 1))) (xs (ix (nI i + 2))) (xs (ix (nI i + 3))) (xs (ix (nI i + 4))) (xs (ix (nI i + 5)))).2), cn, cl, cp, aS, aH, aG, aR, aV, aA, aB, aO, aP, aF, aC, fs, fh, fg, fq, fV, fA, fB, fO, ((x_X9_attach nr fP fF (xs (ix (nI i + 1))) (xs (ix (nI i + 2))) (xs (ix (nI i + 3))) (xs (ix (nI i + 4))) (xs (ix (nI i + 5)))).2.1), ((x_X9_attach nr fP fF (xs (ix (nI i + 1))) (xs (ix (nI i + 2))) (xs (ix (nI i + 3))) (xs (ix (nI i + 4))) (xs (ix (nI i + 5)))).2.2), fC, mx, hPx, hDx, hPm, hDm, ⟨hRL.1, hRL.2.1, hRL.2.2.1, hRL.2.2.2.1, ⟨hRL.2.2.2.2.1.1, hop.2⟩, hRL.2.2.2.2.2⟩, hAx, hS, by omega, by omega⟩ ls hl

set_option maxHeartbeats 4000000 in
set_option maxRecDepth 100000 in
theorem law_cast {p : Program} {l : Launch} {e : Env} {s : State} {m : MethodId} {below : List Frame} {meth : Method} {c : Code} {D : va_G} {cI cZ cR : ClassId} {Ax Am : Nat → Prop} {b L x o N i : Nat} {xs : Nat → Int32} (hL : L ≤ 4608) (C0 : lw_At p s m meth c b L xs) (hC : LC D cI cZ cR Ax Am s) {H : Heap} {locs : List Loc} {cells slots : Nat} (hI : LI D cI cZ cR Ax Am s x o N H locs cells slots) (hN : N ≤ 512) (hi : i + 9 ≤ L) {ls : Array Slot} (hl : lv_has ls 4 [(3, .int (nI i)), (2, .ref o), (1, .ref x), (0, .ref b)])
    (cont : ∀ (H : Heap) (locs : List Loc) (cells slots : Nat), LI D cI cZ cR Ax Am s x o (N + 1) H locs cells slots → ∀ ls : Array Slot, lv_has ls 4 [(3, .int (nI i)), (2, .ref o), (1, .ref x), (0, .ref b)] → W p l e room_1 s m #[Value.ref b] below meth c H locs cells slots (lw_Z below #[Value.ref b] s) (F0 m 1511 ls [])) : W p l e room_1 s m #[Value.ref b] below meth c H locs cells slots (lw_Z below #[Value.ref b] s) (F0 m 874 ls []) := by
  obtain ⟨hx, hb, hr, hml, hown, hts0, hX, hbl, hlocks, hgv⟩ := C0
  have hts := fun w h => hts0 w (wsL_law_in w h)
  obtain ⟨hAM, hO, hdis, hxA, hmA⟩ := hC
  have hdis2 : ∀ q, Ax q → ¬ Am q := fun q h1 h2 => hdis q h2 h1
  have hK := hAM.1
  have hbA : ¬ (fun q : Nat => s.heap.size ≤ q) b := Nat.not_le.mpr hbl
  obtain ⟨kk, pr, w, wr, wc, ro, wt, nd, c0, c1, c2, hh, pc0, pz0, pc1, pz1, dr, sd, sg, fd, tw, sw, rq, fw, fr, nr, ra, rd, cn, cl, cp, aS, aH, aG, aR, aV, aA, aB, aO, aP, aF, aC, fs, fh, fg, fq, fV, fA, fB, fO, fP, fF, fC, mx, hPx, hDx, hPm, hDm, hRL, hAx, hS, hc1, hs1⟩ := hI
  have hn30 := hRL.2.2.2.2.1.1
  have hsg := hRL.2.1.1
  have hcn := hRL.2.2.2.2.2.1
  have hσ := hRL.2.2.1.2.2
  have hq := hRL.2.2.1.1
  have hV := RR_voters hRL.2.2.2.2.1.2
  have cb0 : cells + 0 ≤ room_1.cells := by show cells + 0 ≤ 600000; omega
  have sb0 : slots + 0 ≤ room_1.slots := by show slots + 0 ≤ 7302250; omega
  have cb1 : cells + 1 ≤ room_1.cells := by show cells + 1 ≤ 600000; omega
  have sb1 : slots + 6 ≤ room_1.slots := by show slots + 6 ≤ 7302250; omega
  refine lv_aload_n hx hb dL_law_874 rfl (lv_at hl 2 rfl) ?_
  refine lv_aload_n hx hb dL_law_875 rfl (lv_at hl 3 rfl) ?_
  refine lv_iload_n hx hb dL_law_876 rfl (lv_at hl 0 rfl) ?_
  refine lv_iconst (v := 1) hx hb dL_law_877 (by decide +kernel) ?_
  refine lv_iadd hx hb dL_law_878 ?_
  refine va_sld hx hb hX hbl hbA hS (sc_in (j := 1) hi hL (by decide) rfl) dL_law_879 ?_
  refine lv_aload_n hx hb dL_law_880 rfl (lv_at hl 3 rfl) ?_
  refine lv_iload_n hx hb dL_law_881 rfl (lv_at hl 0 rfl) ?_
  refine lv_iconst (v := 2) hx hb dL_law_882 (by decide +kernel) ?_
  refine lv_iadd hx hb dL_law_883 ?_
  refine va_sld hx hb hX hbl hbA hS (sc_in (j := 2) hi hL (by decide) rfl) dL_law_884 ?_
  refine lv_aload_n hx hb dL_law_885 rfl (lv_at hl 3 rfl) ?_
  refine lv_iload_n hx hb dL_law_886 rfl (lv_at hl 0 rfl) ?_
  refine lv_iconst (v := 3) hx hb dL_law_887 (by decide +kernel) ?_
  refine lv_iadd hx hb dL_law_888 ?_
  refine va_sld hx hb hX hbl hbA hS (sc_in (j := 3) hi hL (by decide) rfl) dL_law_889 ?_
  refine lv_aload_n hx hb dL_law_890 rfl (lv_at hl 3 rfl) ?_
  refine lv_iload_n hx hb dL_law_891 rfl (lv_at hl 0 rfl) ?_
  refine lv_iconst (v := 4) hx hb dL_law_892 (by decide +kernel) ?_
  refine lv_iadd hx hb dL_law_893 ?_
  refine va_sld hx hb hX hbl hbA hS (sc_in (j := 4) hi hL (by decide) rfl) dL_law_894 ?_
  refine lv_aload_n hx hb dL_law_895 rfl (lv_at hl 3 rfl) ?_
  refine lv_iload_n hx hb dL_law_896 rfl (lv_at hl 0 rfl) ?_
  refine lv_iconst (v := 5) hx hb dL_law_897 (by decide +kernel) ?_
  refine lv_iadd hx hb dL_law_898 ?_
  refine va_sld hx hb hX hbl hbA hS (sc_in (j := 5) hi hL (by decide) rfl) dL_law_899 ?_
  refine lv_aload_n hx hb dL_law_900 rfl (lv_at hl 3 rfl) ?_
  refine lv_iload_n hx hb dL_law_901 rfl (lv_at hl 0 rfl) ?_
  refine lv_bipush (v := 6) hx hb dL_law_902 (by decide +kernel) ?_
  refine lv_iadd hx hb dL_law_904 ?_
  refine va_sld hx hb hX hbl hbA hS (sc_in (j := 6) hi hL (by decide) rfl) dL_law_905 ?_
  refine lv_aload_n hx hb dL_law_906 rfl (lv_at hl 3 rfl) ?_
  refine lv_iload_n hx hb dL_law_907 rfl (lv_at hl 0 rfl) ?_
  refine lv_bipush (v := 7) hx hb dL_law_908 (by decide +kernel) ?_
  refine lv_iadd hx hb dL_law_910 ?_
  refine va_sld hx hb hX hbl hbA hS (sc_in (j := 7) hi hL (by decide) rfl) dL_law_911 ?_
  refine wr_callF (va_runV (As := [.int (xs (ix (nI i + 1))), .int (xs (ix (nI i + 2))), .int (xs (ix (nI i + 3))), .int (xs (ix (nI i + 4))), .int (xs (ix (nI i + 5))), .int (xs (ix (nI i + 6))), .int (xs (ix (nI i + 7)))]) (rest := []) ⟨hx, hb, hml, hown, hts⟩ (c_X8_cast l D cI cZ cR Ax _ x kk pr w wr wc ro wt nd c0 c1 c2 hh pc0 pz0 pc1 pz1 dr sd sg fd tw sw rq fw fr nr ra rd cn cl cp (xs (ix (nI i + 1))) (xs (ix (nI i + 2))) (xs (ix (nI i + 3))) (xs (ix (nI i + 4))) (xs (ix (nI i + 5))) (xs (ix (nI i + 6))) (xs (ix (nI i + 7))) hn30) (cwV 7 hts gL_law_X8_cast rfl rfl rfl ⟨rfl, hd_X8_cast⟩ ⟨(Nat.le_of_ble_eq_true rfl), (Nat.le_of_ble_eq_true rfl)⟩) (al_preV hAM hO hPx hDx hAx (va_recv hK hPx (ci := 6) (q0 := 0) rfl rfl)) rfl rfl hl.1 rfl (lv_room (Nat.le_of_ble_eq_true rfl)) dL_law_912 ⟨cb1, sb1⟩) hxA hS (fun v u H1 locs1 hw hPx hDx hz hk hS => ?_)
  obtain ⟨nr_x, rd_x, ra_x, pc0_x, pz0_x, pc1_x, pz1_x⟩ := u
  try dsimp only at hw
  obtain ⟨rfl, ew0, ew1⟩ := hw
  rw [ew0, ew1] at hPx hDx
  have hPm := keepP hPm hDm hdis hk
  have hAx := fun q (hq : H1.size ≤ q) => hAx q (Nat.le_trans hz hq)
  clear hz hk
  generalize H1 = H at hPx hPm hAx hS ⊢
  refine W.eq (g2 := F0 m 915 ls [.int ((x_X8_cast hh nr rd (xs (ix (nI i + 1))) (xs (ix (nI i + 2))) (xs (ix (nI i + 3))) (xs (ix (nI i + 4))) (xs (ix (nI i + 5))) (xs (ix (nI i + 6))) (xs (ix (nI i + 7)))).1)]) rfl ?_
  refine W.cs (cells' := cells + 1) (slots' := slots + 6) rfl rfl ?_
  have cb0 : cells + 1 + 0 ≤ room_1.cells := by show cells + 1 + 0 ≤ 600000; omega
  have sb0 : slots + 6 + 0 ≤ room_1.slots := by show slots + 6 + 0 ≤ 7302250; omega
  refine lv_aload_n hx hb dL_law_915 rfl (lv_at hl 1 rfl) ?_
  refine lv_aload_n hx hb dL_law_916 rfl (lv_at hl 3 rfl) ?_
  refine lv_iload_n hx hb dL_law_917 rfl (lv_at hl 0 rfl) ?_
  refine lv_iconst (v := 1) hx hb dL_law_918 (by decide +kernel) ?_
  refine lv_iadd hx hb dL_law_919 ?_
  refine va_sld hx hb hX hbl hbA hS (sc_in (j := 1) hi hL (by decide) rfl) dL_law_920 ?_
  refine lv_aload_n hx hb dL_law_921 rfl (lv_at hl 3 rfl) ?_
  refine lv_iload_n hx hb dL_law_922 rfl (lv_at hl 0 rfl) ?_
  refine lv_iconst (v := 2) hx hb dL_law_923 (by decide +kernel) ?_
  refine lv_iadd hx hb dL_law_924 ?_
  refine va_sld hx hb hX hbl hbA hS (sc_in (j := 2) hi hL (by decide) rfl) dL_law_925 ?_
  refine lv_aload_n hx hb dL_law_926 rfl (lv_at hl 3 rfl) ?_
  refine lv_iload_n hx hb dL_law_927 rfl (lv_at hl 0 rfl) ?_
  refine lv_iconst (v := 3) hx hb dL_law_928 (by decide +kernel) ?_
  refine lv_iadd hx hb dL_law_929 ?_
  refine va_sld hx hb hX hbl hbA hS (sc_in (j := 3) hi hL (by decide) rfl) dL_law_930 ?_
  refine lv_aload_n hx hb dL_law_931 rfl (lv_at hl 3 rfl) ?_
  refine lv_iload_n hx hb dL_law_932 rfl (lv_at hl 0 rfl) ?_
  refine lv_iconst (v := 4) hx hb dL_law_933 (by decide +kernel) ?_
  refine lv_iadd hx hb dL_law_934 ?_
  refine va_sld hx hb hX hbl hbA hS (sc_in (j := 4) hi hL (by decide) rfl) dL_law_935 ?_
  refine lv_aload_n hx hb dL_law_936 rfl (lv_at hl 3 rfl) ?_
  refine lv_iload_n hx hb dL_law_937 rfl (lv_at hl 0 rfl) ?_
  refine lv_iconst (v := 5) hx hb dL_law_938 (by decide +kernel) ?_
  refine lv_iadd hx hb dL_law_939 ?_
  refine va_sld hx hb hX hbl hbA hS (sc_in (j := 5) hi hL (by decide) rfl) dL_law_940 ?_
  refine lv_aload_n hx hb dL_law_941 rfl (lv_at hl 3 rfl) ?_
  refine lv_iload_n hx hb dL_law_942 rfl (lv_at hl 0 rfl) ?_
  refine lv_bipush (v := 6) hx hb dL_law_943 (by decide +kernel) ?_
  refine lv_iadd hx hb dL_law_945 ?_
  refine va_sld hx hb hX hbl hbA hS (sc_in (j := 6) hi hL (by decide) rfl) dL_law_946 ?_
  refine lv_aload_n hx hb dL_law_947 rfl (lv_at hl 3 rfl) ?_
  refine lv_iload_n hx hb dL_law_948 rfl (lv_at hl 0 rfl) ?_
  refine lv_bipush (v := 7) hx hb dL_law_949 (by decide +kernel) ?_
  refine lv_iadd hx hb dL_law_951 ?_
  refine va_sld hx hb hX hbl hbA hS (sc_in (j := 7) hi hL (by decide) rfl) dL_law_952 ?_
  refine wr_callF (va_runV (As := [.int (xs (ix (nI i + 1))), .int (xs (ix (nI i + 2))), .int (xs (ix (nI i + 3))), .int (xs (ix (nI i + 4))), .int (xs (ix (nI i + 5))), .int (xs (ix (nI i + 6))), .int (xs (ix (nI i + 7)))]) (rest := [.int ((x_X8_cast hh nr rd (xs (ix (nI i + 1))) (xs (ix (nI i + 2))) (xs (ix (nI i + 3))) (xs (ix (nI i + 4))) (xs (ix (nI i + 5))) (xs (ix (nI i + 6))) (xs (ix (nI i + 7)))).1)]) ⟨hx, hb, hml, hown, hts⟩ (c_X9_cast l D cI cZ cR Am _ o aS aH aG aR aV aA aB aO aP aF aC nd fs fh sg fg rq fq cl nr fV fA fB fO fP fF cn fC mx (xs (ix (nI i + 1))) (xs (ix (nI i + 2))) (xs (ix (nI i + 3))) (xs (ix (nI i + 4))) (xs (ix (nI i + 5))) (xs (ix (nI i + 6))) (xs (ix (nI i + 7))) hn30) (cwV 7 hts gL_law_X9_cast rfl rfl rfl ⟨rfl, hd_X9_cast⟩ ⟨(Nat.le_of_ble_eq_true rfl), (Nat.le_of_ble_eq_true rfl)⟩) (wr_preV hAM hPm hDm (va_recv hK hPm (ci := 7) (q0 := 0) rfl rfl)) rfl rfl hl.1 rfl (lv_room (Nat.le_of_ble_eq_true rfl)) dL_law_953 ⟨cb0, sb0⟩) hmA hS (fun v u H1 locs1 hw hPm hDm hz hk hS => ?_)
  obtain ⟨fV_m, fA_m, fB_m, fO_m, fP_m, fF_m, nr_m, mx_m⟩ := u
  try dsimp only at hw
  obtain ⟨rfl, ew0, ew1, ew2, ew3, ew4, ew5, ew6⟩ := hw
  rw [ew0, ew1, ew2, ew3, ew4, ew5, ew6] at hPm hDm
  have hPx := keepP hPx hDx hdis2 hk
  have hAx := fun q (hq : H1.size ≤ q) => hAx q (Nat.le_trans hz hq)
  clear hz hk
  generalize H1 = H at hPx hPm hAx hS ⊢
  refine W.eq (g2 := F0 m 956 ls [.int ((x_X9_cast fs fV fA fB fO fP fF nr (xs (ix (nI i + 1))) (xs (ix (nI i + 2))) (xs (ix (nI i + 3))) (xs (ix (nI i + 4))) (xs (ix (nI i + 5))) (xs (ix (nI i + 6))) (xs (ix (nI i + 7)))).1), .int ((x_X8_cast hh nr rd (xs (ix (nI i + 1))) (xs (ix (nI i + 2))) (xs (ix (nI i + 3))) (xs (ix (nI i + 4))) (xs (ix (nI i + 5))) (xs (ix (nI i + 6))) (xs (ix (nI i + 7)))).1)]) rfl ?_
  refine W.cs (cells' := cells + 1) (slots' := slots + 6) rfl rfl ?_
  have hop := op_cast hRL.1 hRL.2.2.2.2.1.1 hRL.2.2.2.2.1.2 (xs (ix (nI i + 1))) (xs (ix (nI i + 2))) (xs (ix (nI i + 3))) (xs (ix (nI i + 4))) (xs (ix (nI i + 5))) (xs (ix (nI i + 6))) (xs (ix (nI i + 7)))
  refine lv_icmp_eq (tgt := 1511) hx hb dL_law_956 (by decide) (fun _ => ?_) (fun c9 => absurd hop.1 c9)
  rw [hop.2.1] at hPx hDx
  exact cont _ _ _ _ ⟨kk, pr, w, wr, wc, ro, wt, nd, c0, c1, c2, hh, pc0_x, pz0_x, pc1_x, pz1_x, dr, sd, sg, fd, tw, sw, rq, fw, fr, ((x_X9_cast fs fV fA fB fO fP fF nr (xs (ix (nI i + 1))) (xs (ix (nI i + 2))) (xs (ix (nI i + 3))) (xs (ix (nI i + 4))) (xs (ix (nI i + 5))) (xs (ix (nI i + 6))) (xs (ix (nI i + 7)))).2.2.2.2.2.2.2), ra_x, ((x_X8_cast hh nr rd (xs (ix (nI i + 1))) (xs (ix (nI i + 2))) (xs (ix (nI i + 3))) (xs (ix (nI i + 4))) (xs (ix (nI i + 5))) (xs (ix (nI i + 6))) (xs (ix (nI i + 7)))).2.2), cn, cl, cp, aS, aH, aG, aR, aV, aA, aB, aO, aP, aF, aC, fs, fh, fg, fq, ((x_X9_cast fs fV fA fB fO fP fF nr (xs (ix (nI i + 1))) (xs (ix (nI i + 2))) (xs (ix (nI i + 3))) (xs (ix (nI i + 4))) (xs (ix (nI i + 5))) (xs (ix (nI i + 6))) (xs (ix (nI i + 7)))).2.1), ((x_X9_cast fs fV fA fB fO fP fF nr (xs (ix (nI i + 1))) (xs (ix (nI i + 2))) (xs (ix (nI i + 3))) (xs (ix (nI i + 4))) (xs (ix (nI i + 5))) (xs (ix (nI i + 6))) (xs (ix (nI i + 7)))).2.2.1), ((x_X9_cast fs fV fA fB fO fP fF nr (xs (ix (nI i + 1))) (xs (ix (nI i + 2))) (xs (ix (nI i + 3))) (xs (ix (nI i + 4))) (xs (ix (nI i + 5))) (xs (ix (nI i + 6))) (xs (ix (nI i + 7)))).2.2.2.1), ((x_X9_cast fs fV fA fB fO fP fF nr (xs (ix (nI i + 1))) (xs (ix (nI i + 2))) (xs (ix (nI i + 3))) (xs (ix (nI i + 4))) (xs (ix (nI i + 5))) (xs (ix (nI i + 6))) (xs (ix (nI i + 7)))).2.2.2.2.1), ((x_X9_cast fs fV fA fB fO fP fF nr (xs (ix (nI i + 1))) (xs (ix (nI i + 2))) (xs (ix (nI i + 3))) (xs (ix (nI i + 4))) (xs (ix (nI i + 5))) (xs (ix (nI i + 6))) (xs (ix (nI i + 7)))).2.2.2.2.2.1), ((x_X9_cast fs fV fA fB fO fP fF nr (xs (ix (nI i + 1))) (xs (ix (nI i + 2))) (xs (ix (nI i + 3))) (xs (ix (nI i + 4))) (xs (ix (nI i + 5))) (xs (ix (nI i + 6))) (xs (ix (nI i + 7)))).2.2.2.2.2.2.1), fC, mx_m, hPx, hDx, hPm, hDm, ⟨hRL.1, hRL.2.1, hRL.2.2.1, hRL.2.2.2.1, ⟨hop.2.2.1, hop.2.2.2⟩, hRL.2.2.2.2.2⟩, hAx, hS, by omega, by omega⟩ ls hl

set_option maxHeartbeats 4000000 in
set_option maxRecDepth 100000 in
theorem law_ofRow {p : Program} {l : Launch} {e : Env} {s : State} {m : MethodId} {below : List Frame} {meth : Method} {c : Code} {D : va_G} {cI cZ cR : ClassId} {Ax Am : Nat → Prop} {b L x o N i : Nat} {xs : Nat → Int32} (hL : L ≤ 4608) (C0 : lw_At p s m meth c b L xs) (hC : LC D cI cZ cR Ax Am s) {H : Heap} {locs : List Loc} {cells slots : Nat} (hI : LI D cI cZ cR Ax Am s x o N H locs cells slots) (hN : N ≤ 512) (hi : i + 9 ≤ L) {ls : Array Slot} (hl : lv_has ls 4 [(3, .int (nI i)), (2, .ref o), (1, .ref x), (0, .ref b)])
    (cont : ∀ (H : Heap) (locs : List Loc) (cells slots : Nat), LI D cI cZ cR Ax Am s x o (N + 1) H locs cells slots → ∀ ls : Array Slot, lv_has ls 4 [(3, .int (nI i)), (2, .ref o), (1, .ref x), (0, .ref b)] → W p l e room_1 s m #[Value.ref b] below meth c H locs cells slots (lw_Z below #[Value.ref b] s) (F0 m 1511 ls [])) : W p l e room_1 s m #[Value.ref b] below meth c H locs cells slots (lw_Z below #[Value.ref b] s) (F0 m 961 ls []) := by
  obtain ⟨hx, hb, hr, hml, hown, hts0, hX, hbl, hlocks, hgv⟩ := C0
  have hts := fun w h => hts0 w (wsL_law_in w h)
  obtain ⟨hAM, hO, hdis, hxA, hmA⟩ := hC
  have hdis2 : ∀ q, Ax q → ¬ Am q := fun q h1 h2 => hdis q h2 h1
  have hK := hAM.1
  have hbA : ¬ (fun q : Nat => s.heap.size ≤ q) b := Nat.not_le.mpr hbl
  obtain ⟨kk, pr, w, wr, wc, ro, wt, nd, c0, c1, c2, hh, pc0, pz0, pc1, pz1, dr, sd, sg, fd, tw, sw, rq, fw, fr, nr, ra, rd, cn, cl, cp, aS, aH, aG, aR, aV, aA, aB, aO, aP, aF, aC, fs, fh, fg, fq, fV, fA, fB, fO, fP, fF, fC, mx, hPx, hDx, hPm, hDm, hRL, hAx, hS, hc1, hs1⟩ := hI
  have hn30 := hRL.2.2.2.2.1.1
  have hsg := hRL.2.1.1
  have hcn := hRL.2.2.2.2.2.1
  have hσ := hRL.2.2.1.2.2
  have hq := hRL.2.2.1.1
  have hV := RR_voters hRL.2.2.2.2.1.2
  have cb0 : cells + 0 ≤ room_1.cells := by show cells + 0 ≤ 600000; omega
  have sb0 : slots + 0 ≤ room_1.slots := by show slots + 0 ≤ 7302250; omega
  have cb1 : cells + 1 ≤ room_1.cells := by show cells + 1 ≤ 600000; omega
  have sb1 : slots + 6 ≤ room_1.slots := by show slots + 6 ≤ 7302250; omega
  refine lv_aload_n hx hb dL_law_961 rfl (lv_at hl 2 rfl) ?_
  refine lv_aload_n hx hb dL_law_962 rfl (lv_at hl 3 rfl) ?_
  refine lv_iload_n hx hb dL_law_963 rfl (lv_at hl 0 rfl) ?_
  refine lv_iconst (v := 1) hx hb dL_law_964 (by decide +kernel) ?_
  refine lv_iadd hx hb dL_law_965 ?_
  refine va_sld hx hb hX hbl hbA hS (sc_in (j := 1) hi hL (by decide) rfl) dL_law_966 ?_
  refine lv_aload_n hx hb dL_law_967 rfl (lv_at hl 3 rfl) ?_
  refine lv_iload_n hx hb dL_law_968 rfl (lv_at hl 0 rfl) ?_
  refine lv_iconst (v := 2) hx hb dL_law_969 (by decide +kernel) ?_
  refine lv_iadd hx hb dL_law_970 ?_
  refine va_sld hx hb hX hbl hbA hS (sc_in (j := 2) hi hL (by decide) rfl) dL_law_971 ?_
  refine ro_call (va_runV (As := [.int (xs (ix (nI i + 1))), .int (xs (ix (nI i + 2)))]) (rest := []) ⟨hx, hb, hml, hown, hts⟩ (c_X8_ofRow l D cI cZ cR _ x kk pr dr sd w wr wc ro wt tw sw nd c0 c1 c2 hh pc0 pz0 pc1 pz1 dr sd sg fd tw sw rq fw fr nr ra rd cn cl cp (xs (ix (nI i + 1))) (xs (ix (nI i + 2))) hn30) (cwV 2 hts gL_law_X8_ofRow rfl rfl rfl ⟨rfl, hd_X8_ofRow⟩ ⟨(Nat.le_of_ble_eq_true rfl), (Nat.le_of_ble_eq_true rfl)⟩) (po_preV hAM hPx (va_recv hK hPx (ci := 6) (q0 := 0) rfl rfl)) rfl rfl hl.1 rfl (lv_room (Nat.le_of_ble_eq_true rfl)) dL_law_972 ⟨cb0, sb0⟩) ?_
  refine lv_aload_n hx hb dL_law_975 rfl (lv_at hl 1 rfl) ?_
  refine lv_aload_n hx hb dL_law_976 rfl (lv_at hl 3 rfl) ?_
  refine lv_iload_n hx hb dL_law_977 rfl (lv_at hl 0 rfl) ?_
  refine lv_iconst (v := 1) hx hb dL_law_978 (by decide +kernel) ?_
  refine lv_iadd hx hb dL_law_979 ?_
  refine va_sld hx hb hX hbl hbA hS (sc_in (j := 1) hi hL (by decide) rfl) dL_law_980 ?_
  refine lv_aload_n hx hb dL_law_981 rfl (lv_at hl 3 rfl) ?_
  refine lv_iload_n hx hb dL_law_982 rfl (lv_at hl 0 rfl) ?_
  refine lv_iconst (v := 2) hx hb dL_law_983 (by decide +kernel) ?_
  refine lv_iadd hx hb dL_law_984 ?_
  refine va_sld hx hb hX hbl hbA hS (sc_in (j := 2) hi hL (by decide) rfl) dL_law_985 ?_
  refine wr_callF (va_runV (As := [.int (xs (ix (nI i + 1))), .int (xs (ix (nI i + 2)))]) (rest := [.int (x_X8_ofRow nr rd cl fr rq fw (xs (ix (nI i + 1))) (xs (ix (nI i + 2))))]) ⟨hx, hb, hml, hown, hts⟩ (c_X9_ofRow l D cI cZ cR Am _ o aS aH aG aR aV aA aB aO aP aF aC nd fs fh sg fg rq fq cl nr fV fA fB fO fP fF cn fC mx (xs (ix (nI i + 1))) (xs (ix (nI i + 2))) hn30 hσ hq hV) (cwV 2 hts gL_law_X9_ofRow rfl rfl rfl ⟨rfl, hd_X9_ofRow⟩ ⟨(Nat.le_of_ble_eq_true rfl), (Nat.le_of_ble_eq_true rfl)⟩) (wr_preV hAM hPm hDm (va_recv hK hPm (ci := 7) (q0 := 0) rfl rfl)) rfl rfl hl.1 rfl (lv_room (Nat.le_of_ble_eq_true rfl)) dL_law_986 ⟨cb0, sb0⟩) hmA hS (fun v mx_m H1 locs1 hw hPm hDm hz hk hS => ?_)
  try dsimp only at hw
  subst hw
  have hPx := keepP hPx hDx hdis2 hk
  have hAx := fun q (hq : H1.size ≤ q) => hAx q (Nat.le_trans hz hq)
  clear hz hk
  generalize H1 = H at hPx hPm hAx hS ⊢
  refine W.eq (g2 := F0 m 989 ls [.int (x_X9_ofRow fs rq fq fh cl nr fV fA fB fO fF (xs (ix (nI i + 1))) (xs (ix (nI i + 2)))), .int (x_X8_ofRow nr rd cl fr rq fw (xs (ix (nI i + 1))) (xs (ix (nI i + 2))))]) rfl ?_
  refine W.cs (cells' := cells) (slots' := slots) rfl rfl ?_
  refine lv_icmp_eq (tgt := 1511) hx hb dL_law_989 (by decide) (fun _ => ?_) (fun c9 => absurd (ofRow_eq hRL.2.2.2.2.1.1 hRL.2.2.2.2.1.2 hRL.2.2.1.1 hRL.2.2.1.2.1 hRL.2.2.1.2.2 hRL.2.2.2.1 _ _) c9)
  exact cont _ _ _ _ ⟨kk, pr, w, wr, wc, ro, wt, nd, c0, c1, c2, hh, pc0, pz0, pc1, pz1, dr, sd, sg, fd, tw, sw, rq, fw, fr, nr, ra, rd, cn, cl, cp, aS, aH, aG, aR, aV, aA, aB, aO, aP, aF, aC, fs, fh, fg, fq, fV, fA, fB, fO, fP, fF, fC, mx_m, hPx, hDx, hPm, hDm, hRL, hAx, hS, by omega, by omega⟩ ls hl

set_option maxHeartbeats 4000000 in
set_option maxRecDepth 100000 in
theorem law_find {p : Program} {l : Launch} {e : Env} {s : State} {m : MethodId} {below : List Frame} {meth : Method} {c : Code} {D : va_G} {cI cZ cR : ClassId} {Ax Am : Nat → Prop} {b L x o N i : Nat} {xs : Nat → Int32} (hL : L ≤ 4608) (C0 : lw_At p s m meth c b L xs) (hC : LC D cI cZ cR Ax Am s) {H : Heap} {locs : List Loc} {cells slots : Nat} (hI : LI D cI cZ cR Ax Am s x o N H locs cells slots) (hN : N ≤ 512) (hi : i + 9 ≤ L) {ls : Array Slot} (hl : lv_has ls 4 [(3, .int (nI i)), (2, .ref o), (1, .ref x), (0, .ref b)])
    (cont : ∀ (H : Heap) (locs : List Loc) (cells slots : Nat), LI D cI cZ cR Ax Am s x o (N + 1) H locs cells slots → ∀ ls : Array Slot, lv_has ls 4 [(3, .int (nI i)), (2, .ref o), (1, .ref x), (0, .ref b)] → W p l e room_1 s m #[Value.ref b] below meth c H locs cells slots (lw_Z below #[Value.ref b] s) (F0 m 1511 ls [])) : W p l e room_1 s m #[Value.ref b] below meth c H locs cells slots (lw_Z below #[Value.ref b] s) (F0 m 994 ls []) := by
  obtain ⟨hx, hb, hr, hml, hown, hts0, hX, hbl, hlocks, hgv⟩ := C0
  have hts := fun w h => hts0 w (wsL_law_in w h)
  obtain ⟨hAM, hO, hdis, hxA, hmA⟩ := hC
  have hdis2 : ∀ q, Ax q → ¬ Am q := fun q h1 h2 => hdis q h2 h1
  have hK := hAM.1
  have hbA : ¬ (fun q : Nat => s.heap.size ≤ q) b := Nat.not_le.mpr hbl
  obtain ⟨kk, pr, w, wr, wc, ro, wt, nd, c0, c1, c2, hh, pc0, pz0, pc1, pz1, dr, sd, sg, fd, tw, sw, rq, fw, fr, nr, ra, rd, cn, cl, cp, aS, aH, aG, aR, aV, aA, aB, aO, aP, aF, aC, fs, fh, fg, fq, fV, fA, fB, fO, fP, fF, fC, mx, hPx, hDx, hPm, hDm, hRL, hAx, hS, hc1, hs1⟩ := hI
  have hn30 := hRL.2.2.2.2.1.1
  have hsg := hRL.2.1.1
  have hcn := hRL.2.2.2.2.2.1
  have hσ := hRL.2.2.1.2.2
  have hq := hRL.2.2.1.1
  have hV := RR_voters hRL.2.2.2.2.1.2
  have cb0 : cells + 0 ≤ room_1.cells := by show cells + 0 ≤ 600000; omega
  have sb0 : slots + 0 ≤ room_1.slots := by show slots + 0 ≤ 7302250; omega
  have cb1 : cells + 1 ≤ room_1.cells := by show cells + 1 ≤ 600000; omega
  have sb1 : slots + 6 ≤ room_1.slots := by show slots + 6 ≤ 7302250; omega
  refine lv_aload_n hx hb dL_law_994 rfl (lv_at hl 2 rfl) ?_
  refine lv_aload_n hx hb dL_law_995 rfl (lv_at hl 3 rfl) ?_
  refine lv_iload_n hx hb dL_law_996 rfl (lv_at hl 0 rfl) ?_
  refine lv_iconst (v := 1) hx hb dL_law_997 (by decide +kernel) ?_
  refine lv_iadd hx hb dL_law_998 ?_
  refine va_sld hx hb hX hbl hbA hS (sc_in (j := 1) hi hL (by decide) rfl) dL_law_999 ?_
  refine lv_aload_n hx hb dL_law_1000 rfl (lv_at hl 3 rfl) ?_
  refine lv_iload_n hx hb dL_law_1001 rfl (lv_at hl 0 rfl) ?_
  refine lv_iconst (v := 2) hx hb dL_law_1002 (by decide +kernel) ?_
  refine lv_iadd hx hb dL_law_1003 ?_
  refine va_sld hx hb hX hbl hbA hS (sc_in (j := 2) hi hL (by decide) rfl) dL_law_1004 ?_
  refine ro_call (va_runV (As := [.int (xs (ix (nI i + 1))), .int (xs (ix (nI i + 2)))]) (rest := []) ⟨hx, hb, hml, hown, hts⟩ (c_X8_find l D cI cZ cR _ x kk pr dr sd w wr wc ro wt tw sw nd c0 c1 c2 hh pc0 pz0 pc1 pz1 dr sd sg fd tw sw rq fw fr nr ra rd cn cl cp (xs (ix (nI i + 1))) (xs (ix (nI i + 2))) hn30) (cwV 2 hts gL_law_X8_find rfl rfl rfl ⟨rfl, hd_X8_find⟩ ⟨(Nat.le_of_ble_eq_true rfl), (Nat.le_of_ble_eq_true rfl)⟩) (po_preV hAM hPx (va_recv hK hPx (ci := 6) (q0 := 0) rfl rfl)) rfl rfl hl.1 rfl (lv_room (Nat.le_of_ble_eq_true rfl)) dL_law_1005 ⟨cb0, sb0⟩) ?_
  refine lv_aload_n hx hb dL_law_1008 rfl (lv_at hl 1 rfl) ?_
  refine lv_aload_n hx hb dL_law_1009 rfl (lv_at hl 3 rfl) ?_
  refine lv_iload_n hx hb dL_law_1010 rfl (lv_at hl 0 rfl) ?_
  refine lv_iconst (v := 1) hx hb dL_law_1011 (by decide +kernel) ?_
  refine lv_iadd hx hb dL_law_1012 ?_
  refine va_sld hx hb hX hbl hbA hS (sc_in (j := 1) hi hL (by decide) rfl) dL_law_1013 ?_
  refine lv_aload_n hx hb dL_law_1014 rfl (lv_at hl 3 rfl) ?_
  refine lv_iload_n hx hb dL_law_1015 rfl (lv_at hl 0 rfl) ?_
  refine lv_iconst (v := 2) hx hb dL_law_1016 (by decide +kernel) ?_
  refine lv_iadd hx hb dL_law_1017 ?_
  refine va_sld hx hb hX hbl hbA hS (sc_in (j := 2) hi hL (by decide) rfl) dL_law_1018 ?_
  refine ro_call (va_runV (As := [.int (xs (ix (nI i + 1))), .int (xs (ix (nI i + 2)))]) (rest := [.int (x_X8_find nr rd (xs (ix (nI i + 1))) (xs (ix (nI i + 2))))]) ⟨hx, hb, hml, hown, hts⟩ (c_X9_find l D cI cZ cR _ o aS aH aG aR aV aA aB aO aP aF aC nd fs fh sg fg rq fq cl nr fV fA fB fO fP fF cn fC mx (xs (ix (nI i + 1))) (xs (ix (nI i + 2))) hn30) (cwV 2 hts gL_law_X9_find rfl rfl rfl ⟨rfl, hd_X9_find⟩ ⟨(Nat.le_of_ble_eq_true rfl), (Nat.le_of_ble_eq_true rfl)⟩) (po_preV hAM hPm (va_recv hK hPm (ci := 7) (q0 := 0) rfl rfl)) rfl rfl hl.1 rfl (lv_room (Nat.le_of_ble_eq_true rfl)) dL_law_1019 ⟨cb0, sb0⟩) ?_
  refine lv_icmp_eq (tgt := 1511) hx hb dL_law_1022 (by decide) (fun _ => ?_) (fun c9 => absurd (find_eq hRL.2.2.2.2.1.2 hRL.2.2.2.2.1.1 _ _) c9)
  exact cont _ _ _ _ ⟨kk, pr, w, wr, wc, ro, wt, nd, c0, c1, c2, hh, pc0, pz0, pc1, pz1, dr, sd, sg, fd, tw, sw, rq, fw, fr, nr, ra, rd, cn, cl, cp, aS, aH, aG, aR, aV, aA, aB, aO, aP, aF, aC, fs, fh, fg, fq, fV, fA, fB, fO, fP, fF, fC, mx, hPx, hDx, hPm, hDm, hRL, hAx, hS, by omega, by omega⟩ ls hl

set_option maxHeartbeats 4000000 in
set_option maxRecDepth 100000 in
theorem law_tally {p : Program} {l : Launch} {e : Env} {s : State} {m : MethodId} {below : List Frame} {meth : Method} {c : Code} {D : va_G} {cI cZ cR : ClassId} {Ax Am : Nat → Prop} {b L x o N i : Nat} {xs : Nat → Int32} (hL : L ≤ 4608) (C0 : lw_At p s m meth c b L xs) (hC : LC D cI cZ cR Ax Am s) {H : Heap} {locs : List Loc} {cells slots : Nat} (hI : LI D cI cZ cR Ax Am s x o N H locs cells slots) (hN : N ≤ 512) (hi : i + 9 ≤ L) {ls : Array Slot} (hl : lv_has ls 4 [(3, .int (nI i)), (2, .ref o), (1, .ref x), (0, .ref b)])
    (cont : ∀ (H : Heap) (locs : List Loc) (cells slots : Nat), LI D cI cZ cR Ax Am s x o (N + 1) H locs cells slots → ∀ ls : Array Slot, lv_has ls 4 [(3, .int (nI i)), (2, .ref o), (1, .ref x), (0, .ref b)] → W p l e room_1 s m #[Value.ref b] below meth c H locs cells slots (lw_Z below #[Value.ref b] s) (F0 m 1511 ls [])) : W p l e room_1 s m #[Value.ref b] below meth c H locs cells slots (lw_Z below #[Value.ref b] s) (F0 m 1027 ls []) := by
  obtain ⟨hx, hb, hr, hml, hown, hts0, hX, hbl, hlocks, hgv⟩ := C0
  have hts := fun w h => hts0 w (wsL_law_in w h)
  obtain ⟨hAM, hO, hdis, hxA, hmA⟩ := hC
  have hdis2 : ∀ q, Ax q → ¬ Am q := fun q h1 h2 => hdis q h2 h1
  have hK := hAM.1
  have hbA : ¬ (fun q : Nat => s.heap.size ≤ q) b := Nat.not_le.mpr hbl
  obtain ⟨kk, pr, w, wr, wc, ro, wt, nd, c0, c1, c2, hh, pc0, pz0, pc1, pz1, dr, sd, sg, fd, tw, sw, rq, fw, fr, nr, ra, rd, cn, cl, cp, aS, aH, aG, aR, aV, aA, aB, aO, aP, aF, aC, fs, fh, fg, fq, fV, fA, fB, fO, fP, fF, fC, mx, hPx, hDx, hPm, hDm, hRL, hAx, hS, hc1, hs1⟩ := hI
  have hn30 := hRL.2.2.2.2.1.1
  have hsg := hRL.2.1.1
  have hcn := hRL.2.2.2.2.2.1
  have hσ := hRL.2.2.1.2.2
  have hq := hRL.2.2.1.1
  have hV := RR_voters hRL.2.2.2.2.1.2
  have cb0 : cells + 0 ≤ room_1.cells := by show cells + 0 ≤ 600000; omega
  have sb0 : slots + 0 ≤ room_1.slots := by show slots + 0 ≤ 7302250; omega
  have cb1 : cells + 1 ≤ room_1.cells := by show cells + 1 ≤ 600000; omega
  have sb1 : slots + 6 ≤ room_1.slots := by show slots + 6 ≤ 7302250; omega
  refine lv_aload_n hx hb dL_law_1027 rfl (lv_at hl 2 rfl) ?_
  refine lv_aload_n hx hb dL_law_1028 rfl (lv_at hl 3 rfl) ?_
  refine lv_iload_n hx hb dL_law_1029 rfl (lv_at hl 0 rfl) ?_
  refine lv_iconst (v := 1) hx hb dL_law_1030 (by decide +kernel) ?_
  refine lv_iadd hx hb dL_law_1031 ?_
  refine va_sld hx hb hX hbl hbA hS (sc_in (j := 1) hi hL (by decide) rfl) dL_law_1032 ?_
  refine ro_call (va_runV (As := [.int (xs (ix (nI i + 1)))]) (rest := []) ⟨hx, hb, hml, hown, hts⟩ (c_X8_tally l D cI cZ cR _ x kk pr dr sd w wr wc ro wt tw sw nd c0 c1 c2 hh pc0 pz0 pc1 pz1 dr sd sg fd tw sw rq fw fr nr ra rd cn cl cp (xs (ix (nI i + 1))) hn30) (cwV 1 hts gL_law_X8_tally rfl rfl rfl ⟨rfl, hd_X8_tally⟩ ⟨(Nat.le_of_ble_eq_true rfl), (Nat.le_of_ble_eq_true rfl)⟩) (po_preV hAM hPx (va_recv hK hPx (ci := 6) (q0 := 0) rfl rfl)) rfl rfl hl.1 rfl (lv_room (Nat.le_of_ble_eq_true rfl)) dL_law_1033 ⟨cb0, sb0⟩) ?_
  refine lv_aload_n hx hb dL_law_1036 rfl (lv_at hl 1 rfl) ?_
  refine lv_aload_n hx hb dL_law_1037 rfl (lv_at hl 3 rfl) ?_
  refine lv_iload_n hx hb dL_law_1038 rfl (lv_at hl 0 rfl) ?_
  refine lv_iconst (v := 1) hx hb dL_law_1039 (by decide +kernel) ?_
  refine lv_iadd hx hb dL_law_1040 ?_
  refine va_sld hx hb hX hbl hbA hS (sc_in (j := 1) hi hL (by decide) rfl) dL_law_1041 ?_
  refine wr_callF (va_runV (As := [.int (xs (ix (nI i + 1)))]) (rest := [.int (x_X8_tally nr rd cl fr rq fw (xs (ix (nI i + 1))))]) ⟨hx, hb, hml, hown, hts⟩ (c_X9_tally l D cI cZ cR Am _ o aS aH aG aR aV aA aB aO aP aF aC nd fs fh sg fg rq fq cl nr fV fA fB fO fP fF cn fC mx (xs (ix (nI i + 1))) hn30 hσ hq hV) (cwV 1 hts gL_law_X9_tally rfl rfl rfl ⟨rfl, hd_X9_tally⟩ ⟨(Nat.le_of_ble_eq_true rfl), (Nat.le_of_ble_eq_true rfl)⟩) (wr_preV hAM hPm hDm (va_recv hK hPm (ci := 7) (q0 := 0) rfl rfl)) rfl rfl hl.1 rfl (lv_room (Nat.le_of_ble_eq_true rfl)) dL_law_1042 ⟨cb0, sb0⟩) hmA hS (fun v mx_m H1 locs1 hw hPm hDm hz hk hS => ?_)
  try dsimp only at hw
  subst hw
  have hPx := keepP hPx hDx hdis2 hk
  have hAx := fun q (hq : H1.size ≤ q) => hAx q (Nat.le_trans hz hq)
  clear hz hk
  generalize H1 = H at hPx hPm hAx hS ⊢
  refine W.eq (g2 := F0 m 1045 ls [.int (x_X9_tally fs rq fq fh cl nr fV fA fB fO fF (xs (ix (nI i + 1)))), .int (x_X8_tally nr rd cl fr rq fw (xs (ix (nI i + 1))))]) rfl ?_
  refine W.cs (cells' := cells) (slots' := slots) rfl rfl ?_
  refine lv_icmp_eq (tgt := 1511) hx hb dL_law_1045 (by decide) (fun _ => ?_) (fun c9 => absurd (tally_eq hRL.2.2.2.2.1.1 hRL.2.2.2.2.1.2 hRL.2.2.1.1 hRL.2.2.1.2.1 hRL.2.2.1.2.2 hRL.2.2.2.1 _) c9)
  exact cont _ _ _ _ ⟨kk, pr, w, wr, wc, ro, wt, nd, c0, c1, c2, hh, pc0, pz0, pc1, pz1, dr, sd, sg, fd, tw, sw, rq, fw, fr, nr, ra, rd, cn, cl, cp, aS, aH, aG, aR, aV, aA, aB, aO, aP, aF, aC, fs, fh, fg, fq, fV, fA, fB, fO, fP, fF, fC, mx_m, hPx, hDx, hPm, hDm, hRL, hAx, hS, by omega, by omega⟩ ls hl

set_option maxHeartbeats 4000000 in
set_option maxRecDepth 100000 in
theorem law_copy {p : Program} {l : Launch} {e : Env} {s : State} {m : MethodId} {below : List Frame} {meth : Method} {c : Code} {D : va_G} {cI cZ cR : ClassId} {Ax Am : Nat → Prop} {b L x o N i : Nat} {xs : Nat → Int32} (hL : L ≤ 4608) (C0 : lw_At p s m meth c b L xs) (hC : LC D cI cZ cR Ax Am s) {H : Heap} {locs : List Loc} {cells slots : Nat} (hI : LI D cI cZ cR Ax Am s x o N H locs cells slots) (hN : N ≤ 512) (hi : i + 9 ≤ L) {ls : Array Slot} (hl : lv_has ls 4 [(3, .int (nI i)), (2, .ref o), (1, .ref x), (0, .ref b)])
    (cont : ∀ (H : Heap) (locs : List Loc) (cells slots : Nat), LI D cI cZ cR Ax Am s x o (N + 1) H locs cells slots → ∀ ls : Array Slot, lv_has ls 4 [(3, .int (nI i)), (2, .ref o), (1, .ref x), (0, .ref b)] → W p l e room_1 s m #[Value.ref b] below meth c H locs cells slots (lw_Z below #[Value.ref b] s) (F0 m 1511 ls [])) : W p l e room_1 s m #[Value.ref b] below meth c H locs cells slots (lw_Z below #[Value.ref b] s) (F0 m 1050 ls []) := by
  obtain ⟨hx, hb, hr, hml, hown, hts0, hX, hbl, hlocks, hgv⟩ := C0
  have hts := fun w h => hts0 w (wsL_law_in w h)
  obtain ⟨hAM, hO, hdis, hxA, hmA⟩ := hC
  have hdis2 : ∀ q, Ax q → ¬ Am q := fun q h1 h2 => hdis q h2 h1
  have hK := hAM.1
  have hbA : ¬ (fun q : Nat => s.heap.size ≤ q) b := Nat.not_le.mpr hbl
  obtain ⟨kk, pr, w, wr, wc, ro, wt, nd, c0, c1, c2, hh, pc0, pz0, pc1, pz1, dr, sd, sg, fd, tw, sw, rq, fw, fr, nr, ra, rd, cn, cl, cp, aS, aH, aG, aR, aV, aA, aB, aO, aP, aF, aC, fs, fh, fg, fq, fV, fA, fB, fO, fP, fF, fC, mx, hPx, hDx, hPm, hDm, hRL, hAx, hS, hc1, hs1⟩ := hI
  have hn30 := hRL.2.2.2.2.1.1
  have hsg := hRL.2.1.1
  have hcn := hRL.2.2.2.2.2.1
  have hσ := hRL.2.2.1.2.2
  have hq := hRL.2.2.1.1
  have hV := RR_voters hRL.2.2.2.2.1.2
  have cb0 : cells + 0 ≤ room_1.cells := by show cells + 0 ≤ 600000; omega
  have sb0 : slots + 0 ≤ room_1.slots := by show slots + 0 ≤ 7302250; omega
  have cb1 : cells + 1 ≤ room_1.cells := by show cells + 1 ≤ 600000; omega
  have sb1 : slots + 6 ≤ room_1.slots := by show slots + 6 ≤ 7302250; omega
  refine lv_aload_n hx hb dL_law_1050 rfl (lv_at hl 2 rfl) ?_
  refine lv_aload_n hx hb dL_law_1051 rfl (lv_at hl 3 rfl) ?_
  refine lv_iload_n hx hb dL_law_1052 rfl (lv_at hl 0 rfl) ?_
  refine lv_iconst (v := 1) hx hb dL_law_1053 (by decide +kernel) ?_
  refine lv_iadd hx hb dL_law_1054 ?_
  refine va_sld hx hb hX hbl hbA hS (sc_in (j := 1) hi hL (by decide) rfl) dL_law_1055 ?_
  refine wr_callF (va_runV (As := [.int (xs (ix (nI i + 1)))]) (rest := []) ⟨hx, hb, hml, hown, hts⟩ (c_X8_copy l D cI cZ cR Ax _ x kk pr w wr wc ro wt nd c0 c1 c2 hh pc0 pz0 pc1 pz1 dr sd sg fd tw sw rq fw fr nr ra rd cn cl cp (xs (ix (nI i + 1)))) (cwV 1 hts gL_law_X8_copy rfl rfl rfl ⟨rfl, hd_X8_copy⟩ ⟨(Nat.le_of_ble_eq_true rfl), (Nat.le_of_ble_eq_true rfl)⟩) (wr_preV hAM hPx hDx (va_recv hK hPx (ci := 6) (q0 := 0) rfl rfl)) rfl rfl hl.1 rfl (lv_room (Nat.le_of_ble_eq_true rfl)) dL_law_1056 ⟨cb0, sb0⟩) hxA hS (fun v u H1 locs1 hw hPx hDx hz hk hS => ?_)
  obtain ⟨cc_x, cp_x⟩ := u
  try dsimp only at hw
  obtain ⟨rfl, ew0, ew1⟩ := hw
  rw [ew0, ew1] at hPx hDx
  have hPm := keepP hPm hDm hdis hk
  have hAx := fun q (hq : H1.size ≤ q) => hAx q (Nat.le_trans hz hq)
  clear hz hk
  generalize H1 = H at hPx hPm hAx hS ⊢
  refine W.eq (g2 := F0 m 1059 ls [.int ((x_X8_copy cn cp (xs (ix (nI i + 1)))).1)]) rfl ?_
  refine W.cs (cells' := cells) (slots' := slots) rfl rfl ?_
  refine lv_aload_n hx hb dL_law_1059 rfl (lv_at hl 1 rfl) ?_
  refine lv_aload_n hx hb dL_law_1060 rfl (lv_at hl 3 rfl) ?_
  refine lv_iload_n hx hb dL_law_1061 rfl (lv_at hl 0 rfl) ?_
  refine lv_iconst (v := 1) hx hb dL_law_1062 (by decide +kernel) ?_
  refine lv_iadd hx hb dL_law_1063 ?_
  refine va_sld hx hb hX hbl hbA hS (sc_in (j := 1) hi hL (by decide) rfl) dL_law_1064 ?_
  refine wr_callF (va_runV (As := [.int (xs (ix (nI i + 1)))]) (rest := [.int ((x_X8_copy cn cp (xs (ix (nI i + 1)))).1)]) ⟨hx, hb, hml, hown, hts⟩ (c_X9_copy l D cI cZ cR Am _ o aS aH aG aR aV aA aB aO aP aF aC nd fs fh sg fg rq fq cl nr fV fA fB fO fP fF cn fC mx (xs (ix (nI i + 1))) hcn) (cwV 1 hts gL_law_X9_copy rfl rfl rfl ⟨rfl, hd_X9_copy⟩ ⟨(Nat.le_of_ble_eq_true rfl), (Nat.le_of_ble_eq_true rfl)⟩) (wr_preV hAM hPm hDm (va_recv hK hPm (ci := 7) (q0 := 0) rfl rfl)) rfl rfl hl.1 rfl (lv_room (Nat.le_of_ble_eq_true rfl)) dL_law_1065 ⟨cb0, sb0⟩) hmA hS (fun v u H1 locs1 hw hPm hDm hz hk hS => ?_)
  obtain ⟨cn_m, fC_m⟩ := u
  try dsimp only at hw
  obtain ⟨rfl, ew0, ew1⟩ := hw
  rw [ew0, ew1] at hPm hDm
  have hPx := keepP hPx hDx hdis2 hk
  have hAx := fun q (hq : H1.size ≤ q) => hAx q (Nat.le_trans hz hq)
  clear hz hk
  generalize H1 = H at hPx hPm hAx hS ⊢
  refine W.eq (g2 := F0 m 1068 ls [.int ((x_X9_copy cn fC (xs (ix (nI i + 1)))).1), .int ((x_X8_copy cn cp (xs (ix (nI i + 1)))).1)]) rfl ?_
  refine W.cs (cells' := cells) (slots' := slots) rfl rfl ?_
  have hop := op_copy hRL.2.2.2.2.2.1 hRL.2.2.2.2.2.2 (xs (ix (nI i + 1)))
  refine lv_icmp_eq (tgt := 1511) hx hb dL_law_1068 (by decide) (fun _ => ?_) (fun c9 => absurd hop.1 c9)
  rw [hop.2.1] at hPx hDx
  exact cont _ _ _ _ ⟨kk, pr, w, wr, wc, ro, wt, nd, c0, c1, c2, hh, pc0, pz0, pc1, pz1, dr, sd, sg, fd, tw, sw, rq, fw, fr, nr, ra, rd, ((x_X9_copy cn fC (xs (ix (nI i + 1)))).2.1), cl, ((x_X8_copy cn cp (xs (ix (nI i + 1)))).2.2), aS, aH, aG, aR, aV, aA, aB, aO, aP, aF, aC, fs, fh, fg, fq, fV, fA, fB, fO, fP, fF, ((x_X9_copy cn fC (xs (ix (nI i + 1)))).2.2), mx, hPx, hDx, hPm, hDm, ⟨hRL.1, hRL.2.1, hRL.2.2.1, hRL.2.2.2.1, hRL.2.2.2.2.1, ⟨hop.2.2.1, hop.2.2.2⟩⟩, hAx, hS, by omega, by omega⟩ ls hl

set_option maxHeartbeats 4000000 in
set_option maxRecDepth 100000 in
theorem law_parted {p : Program} {l : Launch} {e : Env} {s : State} {m : MethodId} {below : List Frame} {meth : Method} {c : Code} {D : va_G} {cI cZ cR : ClassId} {Ax Am : Nat → Prop} {b L x o N i : Nat} {xs : Nat → Int32} (hL : L ≤ 4608) (C0 : lw_At p s m meth c b L xs) (hC : LC D cI cZ cR Ax Am s) {H : Heap} {locs : List Loc} {cells slots : Nat} (hI : LI D cI cZ cR Ax Am s x o N H locs cells slots) (hN : N ≤ 512) (hi : i + 9 ≤ L) {ls : Array Slot} (hl : lv_has ls 4 [(3, .int (nI i)), (2, .ref o), (1, .ref x), (0, .ref b)])
    (cont : ∀ (H : Heap) (locs : List Loc) (cells slots : Nat), LI D cI cZ cR Ax Am s x o (N + 1) H locs cells slots → ∀ ls : Array Slot, lv_has ls 4 [(3, .int (nI i)), (2, .ref o), (1, .ref x), (0, .ref b)] → W p l e room_1 s m #[Value.ref b] below meth c H locs cells slots (lw_Z below #[Value.ref b] s) (F0 m 1511 ls [])) : W p l e room_1 s m #[Value.ref b] below meth c H locs cells slots (lw_Z below #[Value.ref b] s) (F0 m 1073 ls []) := by
  obtain ⟨hx, hb, hr, hml, hown, hts0, hX, hbl, hlocks, hgv⟩ := C0
  have hts := fun w h => hts0 w (wsL_law_in w h)
  obtain ⟨hAM, hO, hdis, hxA, hmA⟩ := hC
  have hdis2 : ∀ q, Ax q → ¬ Am q := fun q h1 h2 => hdis q h2 h1
  have hK := hAM.1
  have hbA : ¬ (fun q : Nat => s.heap.size ≤ q) b := Nat.not_le.mpr hbl
  obtain ⟨kk, pr, w, wr, wc, ro, wt, nd, c0, c1, c2, hh, pc0, pz0, pc1, pz1, dr, sd, sg, fd, tw, sw, rq, fw, fr, nr, ra, rd, cn, cl, cp, aS, aH, aG, aR, aV, aA, aB, aO, aP, aF, aC, fs, fh, fg, fq, fV, fA, fB, fO, fP, fF, fC, mx, hPx, hDx, hPm, hDm, hRL, hAx, hS, hc1, hs1⟩ := hI
  have hn30 := hRL.2.2.2.2.1.1
  have hsg := hRL.2.1.1
  have hcn := hRL.2.2.2.2.2.1
  have hσ := hRL.2.2.1.2.2
  have hq := hRL.2.2.1.1
  have hV := RR_voters hRL.2.2.2.2.1.2
  have cb0 : cells + 0 ≤ room_1.cells := by show cells + 0 ≤ 600000; omega
  have sb0 : slots + 0 ≤ room_1.slots := by show slots + 0 ≤ 7302250; omega
  have cb1 : cells + 1 ≤ room_1.cells := by show cells + 1 ≤ 600000; omega
  have sb1 : slots + 6 ≤ room_1.slots := by show slots + 6 ≤ 7302250; omega
  refine lv_aload_n hx hb dL_law_1073 rfl (lv_at hl 2 rfl) ?_
  refine ro_call (va_runV (As := []) (rest := []) ⟨hx, hb, hml, hown, hts⟩ (c_X8_parted l D cI cZ cR _ x kk pr dr sd w wr wc ro wt tw sw nd c0 c1 c2 hh pc0 pz0 pc1 pz1 dr sd sg fd tw sw rq fw fr nr ra rd cn cl cp hn30) (cwV 0 hts gL_law_X8_parted rfl rfl rfl ⟨rfl, hd_X8_parted⟩ ⟨(Nat.le_of_ble_eq_true rfl), (Nat.le_of_ble_eq_true rfl)⟩) (po_preV hAM hPx (va_recv hK hPx (ci := 6) (q0 := 0) rfl rfl)) rfl rfl hl.1 rfl (lv_room (Nat.le_of_ble_eq_true rfl)) dL_law_1074 ⟨cb0, sb0⟩) ?_
  refine lv_aload_n hx hb dL_law_1077 rfl (lv_at hl 1 rfl) ?_
  refine ro_call (va_runV (As := []) (rest := [.int (x_X8_parted nr rd cn cp)]) ⟨hx, hb, hml, hown, hts⟩ (c_X9_parted l D cI cZ cR _ o aS aH aG aR aV aA aB aO aP aF aC nd fs fh sg fg rq fq cl nr fV fA fB fO fP fF cn fC mx hn30) (cwV 0 hts gL_law_X9_parted rfl rfl rfl ⟨rfl, hd_X9_parted⟩ ⟨(Nat.le_of_ble_eq_true rfl), (Nat.le_of_ble_eq_true rfl)⟩) (po_preV hAM hPm (va_recv hK hPm (ci := 7) (q0 := 0) rfl rfl)) rfl rfl hl.1 rfl (lv_room (Nat.le_of_ble_eq_true rfl)) dL_law_1078 ⟨cb0, sb0⟩) ?_
  refine lv_icmp_eq (tgt := 1511) hx hb dL_law_1081 (by decide) (fun _ => ?_) (fun c9 => absurd (parted_eq hRL.2.2.2.2.1.2 hRL.2.2.2.2.1.1 hRL.2.2.2.2.2.1 hRL.2.2.2.2.2.2) c9)
  exact cont _ _ _ _ ⟨kk, pr, w, wr, wc, ro, wt, nd, c0, c1, c2, hh, pc0, pz0, pc1, pz1, dr, sd, sg, fd, tw, sw, rq, fw, fr, nr, ra, rd, cn, cl, cp, aS, aH, aG, aR, aV, aA, aB, aO, aP, aF, aC, fs, fh, fg, fq, fV, fA, fB, fO, fP, fF, fC, mx, hPx, hDx, hPm, hDm, hRL, hAx, hS, by omega, by omega⟩ ls hl
