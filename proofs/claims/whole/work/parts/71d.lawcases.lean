set_option maxHeartbeats 4000000 in
set_option maxRecDepth 100000 in
theorem law_lies {p : Program} {l : Launch} {e : Env} {s : State} {m : MethodId} {below : List Frame} {meth : Method} {c : Code} {D : va_G} {cI cZ cR : ClassId} {Ax Am : Nat → Prop} {b L x o N i : Nat} {xs : Nat → Int32} (hL : L ≤ 4608) (C0 : lw_At p s m meth c b L xs) (hC : LC D cI cZ cR Ax Am s) {H : Heap} {locs : List Loc} {cells slots : Nat} (hI : LI D cI cZ cR Ax Am s x o N H locs cells slots) (hN : N ≤ 512) (hi : i + 9 ≤ L) {ls : Array Slot} (hl : lv_has ls 4 [(3, .int (nI i)), (2, .ref o), (1, .ref x), (0, .ref b)])
    (cont : ∀ (H : Heap) (locs : List Loc) (cells slots : Nat), LI D cI cZ cR Ax Am s x o (N + 1) H locs cells slots → ∀ ls : Array Slot, lv_has ls 4 [(3, .int (nI i)), (2, .ref o), (1, .ref x), (0, .ref b)] → W p l e room_1 s m #[Value.ref b] below meth c H locs cells slots (lw_Z below #[Value.ref b] s) (F0 m 1511 ls [])) : W p l e room_1 s m #[Value.ref b] below meth c H locs cells slots (lw_Z below #[Value.ref b] s) (F0 m 1086 ls []) := by
  obtain ⟨hx, hb, hr, hml, hown, hts0, hX, hbl, hlocks, hgv⟩ := C0
  have hts := fun w h => hts0 w (wsL_law_in w h)
  obtain ⟨hAM, hO, hdis, hxA, hmA⟩ := hC
  have hdis2 : ∀ q, Ax q → ¬ Am q := fun q h1 h2 => hdis q h2 h1
  have hK := hAM.1
  have hbA : ¬ (fun q : Nat => s.heap.size ≤ q) b := Nat.not_le.mpr hbl
  obtain ⟨kk, pr, w, wr, wc, ro, wt, nd, c0, c1, c2, hh, pc0, pz0, pc1, pz1, dr, sd, sg, fd, tw, sw, rq, fw, fr, nr, ra, rd, cn, cl, cp, aS, aH, aG, aR, aV, aA, aB, aO, aP, aF, aC, fs, fh, fg, fq, fV, fA, fB, fO, fP, fF, fC, mx, hPx, hDx, hPm, hDm, hRL, hAx, hS, hc1, hs1⟩ := hI
  have hn30 := hRL.2.2.2.2.1.1
  have hsg := hRL.2.1.1
  have hcn := hRL.2.2.2.2.2.1
  have hσ := hRL.2.2.1.2.2
  have hq := hRL.2.2.1.1
  have hV := RR_voters hRL.2.2.2.2.1.2
  have cb0 : cells + 0 ≤ room_1.cells := by show cells + 0 ≤ 600000; omega
  have sb0 : slots + 0 ≤ room_1.slots := by show slots + 0 ≤ 7302250; omega
  have cb1 : cells + 1 ≤ room_1.cells := by show cells + 1 ≤ 600000; omega
  have sb1 : slots + 6 ≤ room_1.slots := by show slots + 6 ≤ 7302250; omega
  refine lv_aload_n hx hb dL_law_1086 rfl (lv_at hl 2 rfl) ?_
  refine lv_aload_n hx hb dL_law_1087 rfl (lv_at hl 3 rfl) ?_
  refine lv_iload_n hx hb dL_law_1088 rfl (lv_at hl 0 rfl) ?_
  refine lv_iconst (v := 1) hx hb dL_law_1089 (by decide +kernel) ?_
  refine lv_iadd hx hb dL_law_1090 ?_
  refine va_sld hx hb hX hbl hbA hS (sc_in (j := 1) hi hL (by decide) rfl) dL_law_1091 ?_
  refine lv_aload_n hx hb dL_law_1092 rfl (lv_at hl 3 rfl) ?_
  refine lv_iload_n hx hb dL_law_1093 rfl (lv_at hl 0 rfl) ?_
  refine lv_iconst (v := 2) hx hb dL_law_1094 (by decide +kernel) ?_
  refine lv_iadd hx hb dL_law_1095 ?_
  refine va_sld hx hb hX hbl hbA hS (sc_in (j := 2) hi hL (by decide) rfl) dL_law_1096 ?_
  refine lv_aload_n hx hb dL_law_1097 rfl (lv_at hl 3 rfl) ?_
  refine lv_iload_n hx hb dL_law_1098 rfl (lv_at hl 0 rfl) ?_
  refine lv_iconst (v := 3) hx hb dL_law_1099 (by decide +kernel) ?_
  refine lv_iadd hx hb dL_law_1100 ?_
  refine va_sld hx hb hX hbl hbA hS (sc_in (j := 3) hi hL (by decide) rfl) dL_law_1101 ?_
  refine lv_aload_n hx hb dL_law_1102 rfl (lv_at hl 3 rfl) ?_
  refine lv_iload_n hx hb dL_law_1103 rfl (lv_at hl 0 rfl) ?_
  refine lv_iconst (v := 4) hx hb dL_law_1104 (by decide +kernel) ?_
  refine lv_iadd hx hb dL_law_1105 ?_
  refine va_sld hx hb hX hbl hbA hS (sc_in (j := 4) hi hL (by decide) rfl) dL_law_1106 ?_
  refine ro_call (va_runV (As := [.int (xs (ix (nI i + 1))), .int (xs (ix (nI i + 2))), .int (xs (ix (nI i + 3))), .int (xs (ix (nI i + 4)))]) (rest := []) ⟨hx, hb, hml, hown, hts⟩ (c_X8_lies l D cI cZ cR _ x kk pr dr sd w wr wc ro wt tw sw nd c0 c1 c2 hh pc0 pz0 pc1 pz1 dr sd sg fd tw sw rq fw fr nr ra rd cn cl cp (xs (ix (nI i + 1))) (xs (ix (nI i + 2))) (xs (ix (nI i + 3))) (xs (ix (nI i + 4)))) (cwV 4 hts gL_law_X8_lies rfl rfl rfl ⟨rfl, hd_X8_lies⟩ ⟨(Nat.le_of_ble_eq_true rfl), (Nat.le_of_ble_eq_true rfl)⟩) (po_preV hAM hPx (va_recv hK hPx (ci := 6) (q0 := 0) rfl rfl)) rfl rfl hl.1 rfl (lv_room (Nat.le_of_ble_eq_true rfl)) dL_law_1107 ⟨cb0, sb0⟩) ?_
  refine lv_aload_n hx hb dL_law_1110 rfl (lv_at hl 1 rfl) ?_
  refine lv_aload_n hx hb dL_law_1111 rfl (lv_at hl 3 rfl) ?_
  refine lv_iload_n hx hb dL_law_1112 rfl (lv_at hl 0 rfl) ?_
  refine lv_iconst (v := 1) hx hb dL_law_1113 (by decide +kernel) ?_
  refine lv_iadd hx hb dL_law_1114 ?_
  refine va_sld hx hb hX hbl hbA hS (sc_in (j := 1) hi hL (by decide) rfl) dL_law_1115 ?_
  refine lv_aload_n hx hb dL_law_1116 rfl (lv_at hl 3 rfl) ?_
  refine lv_iload_n hx hb dL_law_1117 rfl (lv_at hl 0 rfl) ?_
  refine lv_iconst (v := 2) hx hb dL_law_1118 (by decide +kernel) ?_
  refine lv_iadd hx hb dL_law_1119 ?_
  refine va_sld hx hb hX hbl hbA hS (sc_in (j := 2) hi hL (by decide) rfl) dL_law_1120 ?_
  refine lv_aload_n hx hb dL_law_1121 rfl (lv_at hl 3 rfl) ?_
  refine lv_iload_n hx hb dL_law_1122 rfl (lv_at hl 0 rfl) ?_
  refine lv_iconst (v := 3) hx hb dL_law_1123 (by decide +kernel) ?_
  refine lv_iadd hx hb dL_law_1124 ?_
  refine va_sld hx hb hX hbl hbA hS (sc_in (j := 3) hi hL (by decide) rfl) dL_law_1125 ?_
  refine lv_aload_n hx hb dL_law_1126 rfl (lv_at hl 3 rfl) ?_
  refine lv_iload_n hx hb dL_law_1127 rfl (lv_at hl 0 rfl) ?_
  refine lv_iconst (v := 4) hx hb dL_law_1128 (by decide +kernel) ?_
  refine lv_iadd hx hb dL_law_1129 ?_
  refine va_sld hx hb hX hbl hbA hS (sc_in (j := 4) hi hL (by decide) rfl) dL_law_1130 ?_
  refine ro_call (va_runV (As := [.int (xs (ix (nI i + 1))), .int (xs (ix (nI i + 2))), .int (xs (ix (nI i + 3))), .int (xs (ix (nI i + 4)))]) (rest := [.long (x_X8_lies (xs (ix (nI i + 1))) (xs (ix (nI i + 2))) (xs (ix (nI i + 3))) (xs (ix (nI i + 4))))]) ⟨hx, hb, hml, hown, hts⟩ (c_X9_lies l D cI cZ cR _ o aS aH aG aR aV aA aB aO aP aF aC nd fs fh sg fg rq fq cl nr fV fA fB fO fP fF cn fC mx (xs (ix (nI i + 1))) (xs (ix (nI i + 2))) (xs (ix (nI i + 3))) (xs (ix (nI i + 4)))) (cwV 4 hts gL_law_X9_lies rfl rfl rfl ⟨rfl, hd_X9_lies⟩ ⟨(Nat.le_of_ble_eq_true rfl), (Nat.le_of_ble_eq_true rfl)⟩) (po_preV hAM hPm (va_recv hK hPm (ci := 7) (q0 := 0) rfl rfl)) rfl rfl hl.1 rfl (lv_room (Nat.le_of_ble_eq_true rfl)) dL_law_1131 ⟨cb0, sb0⟩) ?_
  refine w_lcmp_eq (tgt := 1511) hx hb dL_law_1134 dL_law_1135 (by decide) (fun _ => ?_) (fun c9 => absurd (lies_eq _ _ _ _) c9)
  exact cont _ _ _ _ ⟨kk, pr, w, wr, wc, ro, wt, nd, c0, c1, c2, hh, pc0, pz0, pc1, pz1, dr, sd, sg, fd, tw, sw, rq, fw, fr, nr, ra, rd, cn, cl, cp, aS, aH, aG, aR, aV, aA, aB, aO, aP, aF, aC, fs, fh, fg, fq, fV, fA, fB, fO, fP, fF, fC, mx, hPx, hDx, hPm, hDm, hRL, hAx, hS, by omega, by omega⟩ ls hl

set_option maxHeartbeats 4000000 in
set_option maxRecDepth 100000 in
theorem law_ask {p : Program} {l : Launch} {e : Env} {s : State} {m : MethodId} {below : List Frame} {meth : Method} {c : Code} {D : va_G} {cI cZ cR : ClassId} {Ax Am : Nat → Prop} {b L x o N i : Nat} {xs : Nat → Int32} (hL : L ≤ 4608) (C0 : lw_At p s m meth c b L xs) (hC : LC D cI cZ cR Ax Am s) {H : Heap} {locs : List Loc} {cells slots : Nat} (hI : LI D cI cZ cR Ax Am s x o N H locs cells slots) (hN : N ≤ 512) (hi : i + 9 ≤ L) {ls : Array Slot} (hl : lv_has ls 4 [(3, .int (nI i)), (2, .ref o), (1, .ref x), (0, .ref b)])
    (cont : ∀ (H : Heap) (locs : List Loc) (cells slots : Nat), LI D cI cZ cR Ax Am s x o (N + 1) H locs cells slots → ∀ ls : Array Slot, lv_has ls 4 [(3, .int (nI i)), (2, .ref o), (1, .ref x), (0, .ref b)] → W p l e room_1 s m #[Value.ref b] below meth c H locs cells slots (lw_Z below #[Value.ref b] s) (F0 m 1511 ls [])) : W p l e room_1 s m #[Value.ref b] below meth c H locs cells slots (lw_Z below #[Value.ref b] s) (F0 m 1140 ls []) := by
  obtain ⟨hx, hb, hr, hml, hown, hts0, hX, hbl, hlocks, hgv⟩ := C0
  have hts := fun w h => hts0 w (wsL_law_in w h)
  obtain ⟨hAM, hO, hdis, hxA, hmA⟩ := hC
  have hdis2 : ∀ q, Ax q → ¬ Am q := fun q h1 h2 => hdis q h2 h1
  have hK := hAM.1
  have hbA : ¬ (fun q : Nat => s.heap.size ≤ q) b := Nat.not_le.mpr hbl
  obtain ⟨kk, pr, w, wr, wc, ro, wt, nd, c0, c1, c2, hh, pc0, pz0, pc1, pz1, dr, sd, sg, fd, tw, sw, rq, fw, fr, nr, ra, rd, cn, cl, cp, aS, aH, aG, aR, aV, aA, aB, aO, aP, aF, aC, fs, fh, fg, fq, fV, fA, fB, fO, fP, fF, fC, mx, hPx, hDx, hPm, hDm, hRL, hAx, hS, hc1, hs1⟩ := hI
  have hn30 := hRL.2.2.2.2.1.1
  have hsg := hRL.2.1.1
  have hcn := hRL.2.2.2.2.2.1
  have hσ := hRL.2.2.1.2.2
  have hq := hRL.2.2.1.1
  have hV := RR_voters hRL.2.2.2.2.1.2
  have cb0 : cells + 0 ≤ room_1.cells := by show cells + 0 ≤ 600000; omega
  have sb0 : slots + 0 ≤ room_1.slots := by show slots + 0 ≤ 7302250; omega
  have cb1 : cells + 1 ≤ room_1.cells := by show cells + 1 ≤ 600000; omega
  have sb1 : slots + 6 ≤ room_1.slots := by show slots + 6 ≤ 7302250; omega
  refine lv_aload_n hx hb dL_law_1140 rfl (lv_at hl 2 rfl) ?_
  refine lv_aload_n hx hb dL_law_1141 rfl (lv_at hl 3 rfl) ?_
  refine lv_iload_n hx hb dL_law_1142 rfl (lv_at hl 0 rfl) ?_
  refine lv_iconst (v := 1) hx hb dL_law_1143 (by decide +kernel) ?_
  refine lv_iadd hx hb dL_law_1144 ?_
  refine va_sld hx hb hX hbl hbA hS (sc_in (j := 1) hi hL (by decide) rfl) dL_law_1145 ?_
  refine lv_aload_n hx hb dL_law_1146 rfl (lv_at hl 3 rfl) ?_
  refine lv_iload_n hx hb dL_law_1147 rfl (lv_at hl 0 rfl) ?_
  refine lv_iconst (v := 2) hx hb dL_law_1148 (by decide +kernel) ?_
  refine lv_iadd hx hb dL_law_1149 ?_
  refine va_sld hx hb hX hbl hbA hS (sc_in (j := 2) hi hL (by decide) rfl) dL_law_1150 ?_
  refine lv_aload_n hx hb dL_law_1151 rfl (lv_at hl 3 rfl) ?_
  refine lv_iload_n hx hb dL_law_1152 rfl (lv_at hl 0 rfl) ?_
  refine lv_iconst (v := 3) hx hb dL_law_1153 (by decide +kernel) ?_
  refine lv_iadd hx hb dL_law_1154 ?_
  refine va_sld hx hb hX hbl hbA hS (sc_in (j := 3) hi hL (by decide) rfl) dL_law_1155 ?_
  refine ro_call (va_runV (As := [.int (xs (ix (nI i + 1))), .int (xs (ix (nI i + 2))), .int (xs (ix (nI i + 3)))]) (rest := []) ⟨hx, hb, hml, hown, hts⟩ (c_X8_ask l D cI cZ cR _ x kk pr dr sd w wr wc ro wt tw sw nd c0 c1 c2 hh pc0 pz0 pc1 pz1 dr sd sg fd tw sw rq fw fr nr ra rd cn cl cp (xs (ix (nI i + 1))) (xs (ix (nI i + 2))) (xs (ix (nI i + 3)))) (cwV 3 hts gL_law_X8_ask rfl rfl rfl ⟨rfl, hd_X8_ask⟩ ⟨(Nat.le_of_ble_eq_true rfl), (Nat.le_of_ble_eq_true rfl)⟩) (po_preV hAM hPx (va_recv hK hPx (ci := 6) (q0 := 0) rfl rfl)) rfl rfl hl.1 rfl (lv_room (Nat.le_of_ble_eq_true rfl)) dL_law_1156 ⟨cb0, sb0⟩) ?_
  refine lv_aload_n hx hb dL_law_1159 rfl (lv_at hl 1 rfl) ?_
  refine lv_aload_n hx hb dL_law_1160 rfl (lv_at hl 3 rfl) ?_
  refine lv_iload_n hx hb dL_law_1161 rfl (lv_at hl 0 rfl) ?_
  refine lv_iconst (v := 1) hx hb dL_law_1162 (by decide +kernel) ?_
  refine lv_iadd hx hb dL_law_1163 ?_
  refine va_sld hx hb hX hbl hbA hS (sc_in (j := 1) hi hL (by decide) rfl) dL_law_1164 ?_
  refine lv_aload_n hx hb dL_law_1165 rfl (lv_at hl 3 rfl) ?_
  refine lv_iload_n hx hb dL_law_1166 rfl (lv_at hl 0 rfl) ?_
  refine lv_iconst (v := 2) hx hb dL_law_1167 (by decide +kernel) ?_
  refine lv_iadd hx hb dL_law_1168 ?_
  refine va_sld hx hb hX hbl hbA hS (sc_in (j := 2) hi hL (by decide) rfl) dL_law_1169 ?_
  refine lv_aload_n hx hb dL_law_1170 rfl (lv_at hl 3 rfl) ?_
  refine lv_iload_n hx hb dL_law_1171 rfl (lv_at hl 0 rfl) ?_
  refine lv_iconst (v := 3) hx hb dL_law_1172 (by decide +kernel) ?_
  refine lv_iadd hx hb dL_law_1173 ?_
  refine va_sld hx hb hX hbl hbA hS (sc_in (j := 3) hi hL (by decide) rfl) dL_law_1174 ?_
  refine ro_call (va_runV (As := [.int (xs (ix (nI i + 1))), .int (xs (ix (nI i + 2))), .int (xs (ix (nI i + 3)))]) (rest := [.int (x_X8_ask (xs (ix (nI i + 1))) (xs (ix (nI i + 2))) (xs (ix (nI i + 3))))]) ⟨hx, hb, hml, hown, hts⟩ (c_X9_ask l D cI cZ cR _ o aS aH aG aR aV aA aB aO aP aF aC nd fs fh sg fg rq fq cl nr fV fA fB fO fP fF cn fC mx (xs (ix (nI i + 1))) (xs (ix (nI i + 2))) (xs (ix (nI i + 3)))) (cwV 3 hts gL_law_X9_ask rfl rfl rfl ⟨rfl, hd_X9_ask⟩ ⟨(Nat.le_of_ble_eq_true rfl), (Nat.le_of_ble_eq_true rfl)⟩) (po_preV hAM hPm (va_recv hK hPm (ci := 7) (q0 := 0) rfl rfl)) rfl rfl hl.1 rfl (lv_room (Nat.le_of_ble_eq_true rfl)) dL_law_1175 ⟨cb0, sb0⟩) ?_
  refine lv_icmp_eq (tgt := 1511) hx hb dL_law_1178 (by decide) (fun _ => ?_) (fun c9 => absurd (ask_eq _ _ _) c9)
  exact cont _ _ _ _ ⟨kk, pr, w, wr, wc, ro, wt, nd, c0, c1, c2, hh, pc0, pz0, pc1, pz1, dr, sd, sg, fd, tw, sw, rq, fw, fr, nr, ra, rd, cn, cl, cp, aS, aH, aG, aR, aV, aA, aB, aO, aP, aF, aC, fs, fh, fg, fq, fV, fA, fB, fO, fP, fF, fC, mx, hPx, hDx, hPm, hDm, hRL, hAx, hS, by omega, by omega⟩ ls hl

set_option maxHeartbeats 4000000 in
set_option maxRecDepth 100000 in
theorem law_slips {p : Program} {l : Launch} {e : Env} {s : State} {m : MethodId} {below : List Frame} {meth : Method} {c : Code} {D : va_G} {cI cZ cR : ClassId} {Ax Am : Nat → Prop} {b L x o N i : Nat} {xs : Nat → Int32} (hL : L ≤ 4608) (C0 : lw_At p s m meth c b L xs) (hC : LC D cI cZ cR Ax Am s) {H : Heap} {locs : List Loc} {cells slots : Nat} (hI : LI D cI cZ cR Ax Am s x o N H locs cells slots) (hN : N ≤ 512) (hi : i + 9 ≤ L) {ls : Array Slot} (hl : lv_has ls 4 [(3, .int (nI i)), (2, .ref o), (1, .ref x), (0, .ref b)])
    (cont : ∀ (H : Heap) (locs : List Loc) (cells slots : Nat), LI D cI cZ cR Ax Am s x o (N + 1) H locs cells slots → ∀ ls : Array Slot, lv_has ls 4 [(3, .int (nI i)), (2, .ref o), (1, .ref x), (0, .ref b)] → W p l e room_1 s m #[Value.ref b] below meth c H locs cells slots (lw_Z below #[Value.ref b] s) (F0 m 1511 ls [])) : W p l e room_1 s m #[Value.ref b] below meth c H locs cells slots (lw_Z below #[Value.ref b] s) (F0 m 1183 ls []) := by
  obtain ⟨hx, hb, hr, hml, hown, hts0, hX, hbl, hlocks, hgv⟩ := C0
  have hts := fun w h => hts0 w (wsL_law_in w h)
  obtain ⟨hAM, hO, hdis, hxA, hmA⟩ := hC
  have hdis2 : ∀ q, Ax q → ¬ Am q := fun q h1 h2 => hdis q h2 h1
  have hK := hAM.1
  have hbA : ¬ (fun q : Nat => s.heap.size ≤ q) b := Nat.not_le.mpr hbl
  obtain ⟨kk, pr, w, wr, wc, ro, wt, nd, c0, c1, c2, hh, pc0, pz0, pc1, pz1, dr, sd, sg, fd, tw, sw, rq, fw, fr, nr, ra, rd, cn, cl, cp, aS, aH, aG, aR, aV, aA, aB, aO, aP, aF, aC, fs, fh, fg, fq, fV, fA, fB, fO, fP, fF, fC, mx, hPx, hDx, hPm, hDm, hRL, hAx, hS, hc1, hs1⟩ := hI
  have hn30 := hRL.2.2.2.2.1.1
  have hsg := hRL.2.1.1
  have hcn := hRL.2.2.2.2.2.1
  have hσ := hRL.2.2.1.2.2
  have hq := hRL.2.2.1.1
  have hV := RR_voters hRL.2.2.2.2.1.2
  have cb0 : cells + 0 ≤ room_1.cells := by show cells + 0 ≤ 600000; omega
  have sb0 : slots + 0 ≤ room_1.slots := by show slots + 0 ≤ 7302250; omega
  have cb1 : cells + 1 ≤ room_1.cells := by show cells + 1 ≤ 600000; omega
  have sb1 : slots + 6 ≤ room_1.slots := by show slots + 6 ≤ 7302250; omega
  refine lv_aload_n hx hb dL_law_1183 rfl (lv_at hl 2 rfl) ?_
  refine lv_aload_n hx hb dL_law_1184 rfl (lv_at hl 3 rfl) ?_
  refine lv_iload_n hx hb dL_law_1185 rfl (lv_at hl 0 rfl) ?_
  refine lv_iconst (v := 1) hx hb dL_law_1186 (by decide +kernel) ?_
  refine lv_iadd hx hb dL_law_1187 ?_
  refine va_sld hx hb hX hbl hbA hS (sc_in (j := 1) hi hL (by decide) rfl) dL_law_1188 ?_
  refine lv_aload_n hx hb dL_law_1189 rfl (lv_at hl 3 rfl) ?_
  refine lv_iload_n hx hb dL_law_1190 rfl (lv_at hl 0 rfl) ?_
  refine lv_iconst (v := 2) hx hb dL_law_1191 (by decide +kernel) ?_
  refine lv_iadd hx hb dL_law_1192 ?_
  refine va_sld hx hb hX hbl hbA hS (sc_in (j := 2) hi hL (by decide) rfl) dL_law_1193 ?_
  refine lv_aload_n hx hb dL_law_1194 rfl (lv_at hl 3 rfl) ?_
  refine lv_iload_n hx hb dL_law_1195 rfl (lv_at hl 0 rfl) ?_
  refine lv_iconst (v := 3) hx hb dL_law_1196 (by decide +kernel) ?_
  refine lv_iadd hx hb dL_law_1197 ?_
  refine va_sld hx hb hX hbl hbA hS (sc_in (j := 3) hi hL (by decide) rfl) dL_law_1198 ?_
  refine lv_aload_n hx hb dL_law_1199 rfl (lv_at hl 3 rfl) ?_
  refine lv_iload_n hx hb dL_law_1200 rfl (lv_at hl 0 rfl) ?_
  refine lv_iconst (v := 4) hx hb dL_law_1201 (by decide +kernel) ?_
  refine lv_iadd hx hb dL_law_1202 ?_
  refine va_sld hx hb hX hbl hbA hS (sc_in (j := 4) hi hL (by decide) rfl) dL_law_1203 ?_
  refine ro_call (va_runV (As := [.int (xs (ix (nI i + 1))), .int (xs (ix (nI i + 2))), .int (xs (ix (nI i + 3))), .int (xs (ix (nI i + 4)))]) (rest := []) ⟨hx, hb, hml, hown, hts⟩ (c_X8_slips l D cI cZ cR _ x kk pr dr sd w wr wc ro wt tw sw nd c0 c1 c2 hh pc0 pz0 pc1 pz1 dr sd sg fd tw sw rq fw fr nr ra rd cn cl cp (xs (ix (nI i + 1))) (xs (ix (nI i + 2))) (xs (ix (nI i + 3))) (xs (ix (nI i + 4)))) (cwV 4 hts gL_law_X8_slips rfl rfl rfl ⟨rfl, hd_X8_slips⟩ ⟨(Nat.le_of_ble_eq_true rfl), (Nat.le_of_ble_eq_true rfl)⟩) (po_preV hAM hPx (va_recv hK hPx (ci := 6) (q0 := 0) rfl rfl)) rfl rfl hl.1 rfl (lv_room (Nat.le_of_ble_eq_true rfl)) dL_law_1204 ⟨cb0, sb0⟩) ?_
  refine lv_aload_n hx hb dL_law_1207 rfl (lv_at hl 1 rfl) ?_
  refine lv_aload_n hx hb dL_law_1208 rfl (lv_at hl 3 rfl) ?_
  refine lv_iload_n hx hb dL_law_1209 rfl (lv_at hl 0 rfl) ?_
  refine lv_iconst (v := 1) hx hb dL_law_1210 (by decide +kernel) ?_
  refine lv_iadd hx hb dL_law_1211 ?_
  refine va_sld hx hb hX hbl hbA hS (sc_in (j := 1) hi hL (by decide) rfl) dL_law_1212 ?_
  refine lv_aload_n hx hb dL_law_1213 rfl (lv_at hl 3 rfl) ?_
  refine lv_iload_n hx hb dL_law_1214 rfl (lv_at hl 0 rfl) ?_
  refine lv_iconst (v := 2) hx hb dL_law_1215 (by decide +kernel) ?_
  refine lv_iadd hx hb dL_law_1216 ?_
  refine va_sld hx hb hX hbl hbA hS (sc_in (j := 2) hi hL (by decide) rfl) dL_law_1217 ?_
  refine lv_aload_n hx hb dL_law_1218 rfl (lv_at hl 3 rfl) ?_
  refine lv_iload_n hx hb dL_law_1219 rfl (lv_at hl 0 rfl) ?_
  refine lv_iconst (v := 3) hx hb dL_law_1220 (by decide +kernel) ?_
  refine lv_iadd hx hb dL_law_1221 ?_
  refine va_sld hx hb hX hbl hbA hS (sc_in (j := 3) hi hL (by decide) rfl) dL_law_1222 ?_
  refine lv_aload_n hx hb dL_law_1223 rfl (lv_at hl 3 rfl) ?_
  refine lv_iload_n hx hb dL_law_1224 rfl (lv_at hl 0 rfl) ?_
  refine lv_iconst (v := 4) hx hb dL_law_1225 (by decide +kernel) ?_
  refine lv_iadd hx hb dL_law_1226 ?_
  refine va_sld hx hb hX hbl hbA hS (sc_in (j := 4) hi hL (by decide) rfl) dL_law_1227 ?_
  refine ro_call (va_runV (As := [.int (xs (ix (nI i + 1))), .int (xs (ix (nI i + 2))), .int (xs (ix (nI i + 3))), .int (xs (ix (nI i + 4)))]) (rest := [.long (x_X8_slips (xs (ix (nI i + 1))) (xs (ix (nI i + 2))) (xs (ix (nI i + 3))) (xs (ix (nI i + 4))))]) ⟨hx, hb, hml, hown, hts⟩ (c_X9_slips l D cI cZ cR _ o aS aH aG aR aV aA aB aO aP aF aC nd fs fh sg fg rq fq cl nr fV fA fB fO fP fF cn fC mx (xs (ix (nI i + 1))) (xs (ix (nI i + 2))) (xs (ix (nI i + 3))) (xs (ix (nI i + 4)))) (cwV 4 hts gL_law_X9_slips rfl rfl rfl ⟨rfl, hd_X9_slips⟩ ⟨(Nat.le_of_ble_eq_true rfl), (Nat.le_of_ble_eq_true rfl)⟩) (po_preV hAM hPm (va_recv hK hPm (ci := 7) (q0 := 0) rfl rfl)) rfl rfl hl.1 rfl (lv_room (Nat.le_of_ble_eq_true rfl)) dL_law_1228 ⟨cb0, sb0⟩) ?_
  refine w_lcmp_eq (tgt := 1511) hx hb dL_law_1231 dL_law_1232 (by decide) (fun _ => ?_) (fun c9 => absurd (slips_eq _ _ _ _) c9)
  exact cont _ _ _ _ ⟨kk, pr, w, wr, wc, ro, wt, nd, c0, c1, c2, hh, pc0, pz0, pc1, pz1, dr, sd, sg, fd, tw, sw, rq, fw, fr, nr, ra, rd, cn, cl, cp, aS, aH, aG, aR, aV, aA, aB, aO, aP, aF, aC, fs, fh, fg, fq, fV, fA, fB, fO, fP, fF, fC, mx, hPx, hDx, hPm, hDm, hRL, hAx, hS, by omega, by omega⟩ ls hl

set_option maxHeartbeats 4000000 in
set_option maxRecDepth 100000 in
theorem law_drawn {p : Program} {l : Launch} {e : Env} {s : State} {m : MethodId} {below : List Frame} {meth : Method} {c : Code} {D : va_G} {cI cZ cR : ClassId} {Ax Am : Nat → Prop} {b L x o N i : Nat} {xs : Nat → Int32} (hL : L ≤ 4608) (C0 : lw_At p s m meth c b L xs) (hC : LC D cI cZ cR Ax Am s) {H : Heap} {locs : List Loc} {cells slots : Nat} (hI : LI D cI cZ cR Ax Am s x o N H locs cells slots) (hN : N ≤ 512) (hi : i + 9 ≤ L) {ls : Array Slot} (hl : lv_has ls 4 [(3, .int (nI i)), (2, .ref o), (1, .ref x), (0, .ref b)])
    (cont : ∀ (H : Heap) (locs : List Loc) (cells slots : Nat), LI D cI cZ cR Ax Am s x o (N + 1) H locs cells slots → ∀ ls : Array Slot, lv_has ls 4 [(3, .int (nI i)), (2, .ref o), (1, .ref x), (0, .ref b)] → W p l e room_1 s m #[Value.ref b] below meth c H locs cells slots (lw_Z below #[Value.ref b] s) (F0 m 1511 ls [])) : W p l e room_1 s m #[Value.ref b] below meth c H locs cells slots (lw_Z below #[Value.ref b] s) (F0 m 1237 ls []) := by
  obtain ⟨hx, hb, hr, hml, hown, hts0, hX, hbl, hlocks, hgv⟩ := C0
  have hts := fun w h => hts0 w (wsL_law_in w h)
  obtain ⟨hAM, hO, hdis, hxA, hmA⟩ := hC
  have hdis2 : ∀ q, Ax q → ¬ Am q := fun q h1 h2 => hdis q h2 h1
  have hK := hAM.1
  have hbA : ¬ (fun q : Nat => s.heap.size ≤ q) b := Nat.not_le.mpr hbl
  obtain ⟨kk, pr, w, wr, wc, ro, wt, nd, c0, c1, c2, hh, pc0, pz0, pc1, pz1, dr, sd, sg, fd, tw, sw, rq, fw, fr, nr, ra, rd, cn, cl, cp, aS, aH, aG, aR, aV, aA, aB, aO, aP, aF, aC, fs, fh, fg, fq, fV, fA, fB, fO, fP, fF, fC, mx, hPx, hDx, hPm, hDm, hRL, hAx, hS, hc1, hs1⟩ := hI
  have hn30 := hRL.2.2.2.2.1.1
  have hsg := hRL.2.1.1
  have hcn := hRL.2.2.2.2.2.1
  have hσ := hRL.2.2.1.2.2
  have hq := hRL.2.2.1.1
  have hV := RR_voters hRL.2.2.2.2.1.2
  have cb0 : cells + 0 ≤ room_1.cells := by show cells + 0 ≤ 600000; omega
  have sb0 : slots + 0 ≤ room_1.slots := by show slots + 0 ≤ 7302250; omega
  have cb1 : cells + 1 ≤ room_1.cells := by show cells + 1 ≤ 600000; omega
  have sb1 : slots + 6 ≤ room_1.slots := by show slots + 6 ≤ 7302250; omega
  refine lv_aload_n hx hb dL_law_1237 rfl (lv_at hl 2 rfl) ?_
  refine lv_aload_n hx hb dL_law_1238 rfl (lv_at hl 3 rfl) ?_
  refine lv_iload_n hx hb dL_law_1239 rfl (lv_at hl 0 rfl) ?_
  refine lv_iconst (v := 1) hx hb dL_law_1240 (by decide +kernel) ?_
  refine lv_iadd hx hb dL_law_1241 ?_
  refine va_sld hx hb hX hbl hbA hS (sc_in (j := 1) hi hL (by decide) rfl) dL_law_1242 ?_
  refine lv_aload_n hx hb dL_law_1243 rfl (lv_at hl 3 rfl) ?_
  refine lv_iload_n hx hb dL_law_1244 rfl (lv_at hl 0 rfl) ?_
  refine lv_iconst (v := 2) hx hb dL_law_1245 (by decide +kernel) ?_
  refine lv_iadd hx hb dL_law_1246 ?_
  refine va_sld hx hb hX hbl hbA hS (sc_in (j := 2) hi hL (by decide) rfl) dL_law_1247 ?_
  refine lv_aload_n hx hb dL_law_1248 rfl (lv_at hl 3 rfl) ?_
  refine lv_iload_n hx hb dL_law_1249 rfl (lv_at hl 0 rfl) ?_
  refine lv_iconst (v := 3) hx hb dL_law_1250 (by decide +kernel) ?_
  refine lv_iadd hx hb dL_law_1251 ?_
  refine va_sld hx hb hX hbl hbA hS (sc_in (j := 3) hi hL (by decide) rfl) dL_law_1252 ?_
  refine ro_call (va_runV (As := [.int (xs (ix (nI i + 1))), .int (xs (ix (nI i + 2))), .int (xs (ix (nI i + 3)))]) (rest := []) ⟨hx, hb, hml, hown, hts⟩ (c_X8_drawn l D cI cZ cR _ x kk pr dr sd w wr wc ro wt tw sw nd c0 c1 c2 hh pc0 pz0 pc1 pz1 dr sd sg fd tw sw rq fw fr nr ra rd cn cl cp (xs (ix (nI i + 1))) (xs (ix (nI i + 2))) (xs (ix (nI i + 3)))) (cwV 3 hts gL_law_X8_drawn rfl rfl rfl ⟨rfl, hd_X8_drawn⟩ ⟨(Nat.le_of_ble_eq_true rfl), (Nat.le_of_ble_eq_true rfl)⟩) (po_preV hAM hPx (va_recv hK hPx (ci := 6) (q0 := 0) rfl rfl)) rfl rfl hl.1 rfl (lv_room (Nat.le_of_ble_eq_true rfl)) dL_law_1253 ⟨cb0, sb0⟩) ?_
  refine lv_aload_n hx hb dL_law_1256 rfl (lv_at hl 1 rfl) ?_
  refine lv_aload_n hx hb dL_law_1257 rfl (lv_at hl 3 rfl) ?_
  refine lv_iload_n hx hb dL_law_1258 rfl (lv_at hl 0 rfl) ?_
  refine lv_iconst (v := 1) hx hb dL_law_1259 (by decide +kernel) ?_
  refine lv_iadd hx hb dL_law_1260 ?_
  refine va_sld hx hb hX hbl hbA hS (sc_in (j := 1) hi hL (by decide) rfl) dL_law_1261 ?_
  refine lv_aload_n hx hb dL_law_1262 rfl (lv_at hl 3 rfl) ?_
  refine lv_iload_n hx hb dL_law_1263 rfl (lv_at hl 0 rfl) ?_
  refine lv_iconst (v := 2) hx hb dL_law_1264 (by decide +kernel) ?_
  refine lv_iadd hx hb dL_law_1265 ?_
  refine va_sld hx hb hX hbl hbA hS (sc_in (j := 2) hi hL (by decide) rfl) dL_law_1266 ?_
  refine lv_aload_n hx hb dL_law_1267 rfl (lv_at hl 3 rfl) ?_
  refine lv_iload_n hx hb dL_law_1268 rfl (lv_at hl 0 rfl) ?_
  refine lv_iconst (v := 3) hx hb dL_law_1269 (by decide +kernel) ?_
  refine lv_iadd hx hb dL_law_1270 ?_
  refine va_sld hx hb hX hbl hbA hS (sc_in (j := 3) hi hL (by decide) rfl) dL_law_1271 ?_
  refine ro_call (va_runV (As := [.int (xs (ix (nI i + 1))), .int (xs (ix (nI i + 2))), .int (xs (ix (nI i + 3)))]) (rest := [.int (x_X8_drawn (xs (ix (nI i + 1))) (xs (ix (nI i + 2))) (xs (ix (nI i + 3))))]) ⟨hx, hb, hml, hown, hts⟩ (c_X9_drawn l D cI cZ cR _ o aS aH aG aR aV aA aB aO aP aF aC nd fs fh sg fg rq fq cl nr fV fA fB fO fP fF cn fC mx (xs (ix (nI i + 1))) (xs (ix (nI i + 2))) (xs (ix (nI i + 3)))) (cwV 3 hts gL_law_X9_drawn rfl rfl rfl ⟨rfl, hd_X9_drawn⟩ ⟨(Nat.le_of_ble_eq_true rfl), (Nat.le_of_ble_eq_true rfl)⟩) (po_preV hAM hPm (va_recv hK hPm (ci := 7) (q0 := 0) rfl rfl)) rfl rfl hl.1 rfl (lv_room (Nat.le_of_ble_eq_true rfl)) dL_law_1272 ⟨cb0, sb0⟩) ?_
  refine lv_icmp_eq (tgt := 1511) hx hb dL_law_1275 (by decide) (fun _ => ?_) (fun c9 => absurd (drawn_eq _ _ _) c9)
  exact cont _ _ _ _ ⟨kk, pr, w, wr, wc, ro, wt, nd, c0, c1, c2, hh, pc0, pz0, pc1, pz1, dr, sd, sg, fd, tw, sw, rq, fw, fr, nr, ra, rd, cn, cl, cp, aS, aH, aG, aR, aV, aA, aB, aO, aP, aF, aC, fs, fh, fg, fq, fV, fA, fB, fO, fP, fF, fC, mx, hPx, hDx, hPm, hDm, hRL, hAx, hS, by omega, by omega⟩ ls hl

set_option maxHeartbeats 4000000 in
set_option maxRecDepth 100000 in
theorem law_sure {p : Program} {l : Launch} {e : Env} {s : State} {m : MethodId} {below : List Frame} {meth : Method} {c : Code} {D : va_G} {cI cZ cR : ClassId} {Ax Am : Nat → Prop} {b L x o N i : Nat} {xs : Nat → Int32} (hL : L ≤ 4608) (C0 : lw_At p s m meth c b L xs) (hC : LC D cI cZ cR Ax Am s) {H : Heap} {locs : List Loc} {cells slots : Nat} (hI : LI D cI cZ cR Ax Am s x o N H locs cells slots) (hN : N ≤ 512) (hi : i + 9 ≤ L) {ls : Array Slot} (hl : lv_has ls 4 [(3, .int (nI i)), (2, .ref o), (1, .ref x), (0, .ref b)])
    (cont : ∀ (H : Heap) (locs : List Loc) (cells slots : Nat), LI D cI cZ cR Ax Am s x o (N + 1) H locs cells slots → ∀ ls : Array Slot, lv_has ls 4 [(3, .int (nI i)), (2, .ref o), (1, .ref x), (0, .ref b)] → W p l e room_1 s m #[Value.ref b] below meth c H locs cells slots (lw_Z below #[Value.ref b] s) (F0 m 1511 ls [])) : W p l e room_1 s m #[Value.ref b] below meth c H locs cells slots (lw_Z below #[Value.ref b] s) (F0 m 1280 ls []) := by
  obtain ⟨hx, hb, hr, hml, hown, hts0, hX, hbl, hlocks, hgv⟩ := C0
  have hts := fun w h => hts0 w (wsL_law_in w h)
  obtain ⟨hAM, hO, hdis, hxA, hmA⟩ := hC
  have hdis2 : ∀ q, Ax q → ¬ Am q := fun q h1 h2 => hdis q h2 h1
  have hK := hAM.1
  have hbA : ¬ (fun q : Nat => s.heap.size ≤ q) b := Nat.not_le.mpr hbl
  obtain ⟨kk, pr, w, wr, wc, ro, wt, nd, c0, c1, c2, hh, pc0, pz0, pc1, pz1, dr, sd, sg, fd, tw, sw, rq, fw, fr, nr, ra, rd, cn, cl, cp, aS, aH, aG, aR, aV, aA, aB, aO, aP, aF, aC, fs, fh, fg, fq, fV, fA, fB, fO, fP, fF, fC, mx, hPx, hDx, hPm, hDm, hRL, hAx, hS, hc1, hs1⟩ := hI
  have hn30 := hRL.2.2.2.2.1.1
  have hsg := hRL.2.1.1
  have hcn := hRL.2.2.2.2.2.1
  have hσ := hRL.2.2.1.2.2
  have hq := hRL.2.2.1.1
  have hV := RR_voters hRL.2.2.2.2.1.2
  have cb0 : cells + 0 ≤ room_1.cells := by show cells + 0 ≤ 600000; omega
  have sb0 : slots + 0 ≤ room_1.slots := by show slots + 0 ≤ 7302250; omega
  have cb1 : cells + 1 ≤ room_1.cells := by show cells + 1 ≤ 600000; omega
  have sb1 : slots + 6 ≤ room_1.slots := by show slots + 6 ≤ 7302250; omega
  refine lv_aload_n hx hb dL_law_1280 rfl (lv_at hl 2 rfl) ?_
  refine lv_aload_n hx hb dL_law_1281 rfl (lv_at hl 3 rfl) ?_
  refine lv_iload_n hx hb dL_law_1282 rfl (lv_at hl 0 rfl) ?_
  refine lv_iconst (v := 1) hx hb dL_law_1283 (by decide +kernel) ?_
  refine lv_iadd hx hb dL_law_1284 ?_
  refine va_sld hx hb hX hbl hbA hS (sc_in (j := 1) hi hL (by decide) rfl) dL_law_1285 ?_
  refine lv_aload_n hx hb dL_law_1286 rfl (lv_at hl 3 rfl) ?_
  refine lv_iload_n hx hb dL_law_1287 rfl (lv_at hl 0 rfl) ?_
  refine lv_iconst (v := 2) hx hb dL_law_1288 (by decide +kernel) ?_
  refine lv_iadd hx hb dL_law_1289 ?_
  refine va_sld hx hb hX hbl hbA hS (sc_in (j := 2) hi hL (by decide) rfl) dL_law_1290 ?_
  refine ro_call (va_runV (As := [.int (xs (ix (nI i + 1))), .int (xs (ix (nI i + 2)))]) (rest := []) ⟨hx, hb, hml, hown, hts⟩ (c_X8_sure l D cI cZ cR _ x kk pr dr sd w wr wc ro wt tw sw nd c0 c1 c2 hh pc0 pz0 pc1 pz1 dr sd sg fd tw sw rq fw fr nr ra rd cn cl cp (xs (ix (nI i + 1))) (xs (ix (nI i + 2)))) (cwV 2 hts gL_law_X8_sure rfl rfl rfl ⟨rfl, hd_X8_sure⟩ ⟨(Nat.le_of_ble_eq_true rfl), (Nat.le_of_ble_eq_true rfl)⟩) (po_preV hAM hPx (va_recv hK hPx (ci := 6) (q0 := 0) rfl rfl)) rfl rfl hl.1 rfl (lv_room (Nat.le_of_ble_eq_true rfl)) dL_law_1291 ⟨cb0, sb0⟩) ?_
  refine lv_aload_n hx hb dL_law_1294 rfl (lv_at hl 1 rfl) ?_
  refine lv_aload_n hx hb dL_law_1295 rfl (lv_at hl 3 rfl) ?_
  refine lv_iload_n hx hb dL_law_1296 rfl (lv_at hl 0 rfl) ?_
  refine lv_iconst (v := 1) hx hb dL_law_1297 (by decide +kernel) ?_
  refine lv_iadd hx hb dL_law_1298 ?_
  refine va_sld hx hb hX hbl hbA hS (sc_in (j := 1) hi hL (by decide) rfl) dL_law_1299 ?_
  refine lv_aload_n hx hb dL_law_1300 rfl (lv_at hl 3 rfl) ?_
  refine lv_iload_n hx hb dL_law_1301 rfl (lv_at hl 0 rfl) ?_
  refine lv_iconst (v := 2) hx hb dL_law_1302 (by decide +kernel) ?_
  refine lv_iadd hx hb dL_law_1303 ?_
  refine va_sld hx hb hX hbl hbA hS (sc_in (j := 2) hi hL (by decide) rfl) dL_law_1304 ?_
  refine ro_call (va_runV (As := [.int (xs (ix (nI i + 1))), .int (xs (ix (nI i + 2)))]) (rest := [.int (x_X8_sure (xs (ix (nI i + 1))) (xs (ix (nI i + 2))))]) ⟨hx, hb, hml, hown, hts⟩ (c_X9_sure l D cI cZ cR _ o aS aH aG aR aV aA aB aO aP aF aC nd fs fh sg fg rq fq cl nr fV fA fB fO fP fF cn fC mx (xs (ix (nI i + 1))) (xs (ix (nI i + 2)))) (cwV 2 hts gL_law_X9_sure rfl rfl rfl ⟨rfl, hd_X9_sure⟩ ⟨(Nat.le_of_ble_eq_true rfl), (Nat.le_of_ble_eq_true rfl)⟩) (po_preV hAM hPm (va_recv hK hPm (ci := 7) (q0 := 0) rfl rfl)) rfl rfl hl.1 rfl (lv_room (Nat.le_of_ble_eq_true rfl)) dL_law_1305 ⟨cb0, sb0⟩) ?_
  refine lv_icmp_eq (tgt := 1511) hx hb dL_law_1308 (by decide) (fun _ => ?_) (fun c9 => absurd (sure_eq _ _) c9)
  exact cont _ _ _ _ ⟨kk, pr, w, wr, wc, ro, wt, nd, c0, c1, c2, hh, pc0, pz0, pc1, pz1, dr, sd, sg, fd, tw, sw, rq, fw, fr, nr, ra, rd, cn, cl, cp, aS, aH, aG, aR, aV, aA, aB, aO, aP, aF, aC, fs, fh, fg, fq, fV, fA, fB, fO, fP, fF, fC, mx, hPx, hDx, hPm, hDm, hRL, hAx, hS, by omega, by omega⟩ ls hl

set_option maxHeartbeats 4000000 in
set_option maxRecDepth 100000 in
theorem law_told {p : Program} {l : Launch} {e : Env} {s : State} {m : MethodId} {below : List Frame} {meth : Method} {c : Code} {D : va_G} {cI cZ cR : ClassId} {Ax Am : Nat → Prop} {b L x o N i : Nat} {xs : Nat → Int32} (hL : L ≤ 4608) (C0 : lw_At p s m meth c b L xs) (hC : LC D cI cZ cR Ax Am s) {H : Heap} {locs : List Loc} {cells slots : Nat} (hI : LI D cI cZ cR Ax Am s x o N H locs cells slots) (hN : N ≤ 512) (hi : i + 9 ≤ L) {ls : Array Slot} (hl : lv_has ls 4 [(3, .int (nI i)), (2, .ref o), (1, .ref x), (0, .ref b)])
    (cont : ∀ (H : Heap) (locs : List Loc) (cells slots : Nat), LI D cI cZ cR Ax Am s x o (N + 1) H locs cells slots → ∀ ls : Array Slot, lv_has ls 4 [(3, .int (nI i)), (2, .ref o), (1, .ref x), (0, .ref b)] → W p l e room_1 s m #[Value.ref b] below meth c H locs cells slots (lw_Z below #[Value.ref b] s) (F0 m 1511 ls [])) : W p l e room_1 s m #[Value.ref b] below meth c H locs cells slots (lw_Z below #[Value.ref b] s) (F0 m 1313 ls []) := by
  obtain ⟨hx, hb, hr, hml, hown, hts0, hX, hbl, hlocks, hgv⟩ := C0
  have hts := fun w h => hts0 w (wsL_law_in w h)
  obtain ⟨hAM, hO, hdis, hxA, hmA⟩ := hC
  have hdis2 : ∀ q, Ax q → ¬ Am q := fun q h1 h2 => hdis q h2 h1
  have hK := hAM.1
  have hbA : ¬ (fun q : Nat => s.heap.size ≤ q) b := Nat.not_le.mpr hbl
  obtain ⟨kk, pr, w, wr, wc, ro, wt, nd, c0, c1, c2, hh, pc0, pz0, pc1, pz1, dr, sd, sg, fd, tw, sw, rq, fw, fr, nr, ra, rd, cn, cl, cp, aS, aH, aG, aR, aV, aA, aB, aO, aP, aF, aC, fs, fh, fg, fq, fV, fA, fB, fO, fP, fF, fC, mx, hPx, hDx, hPm, hDm, hRL, hAx, hS, hc1, hs1⟩ := hI
  have hn30 := hRL.2.2.2.2.1.1
  have hsg := hRL.2.1.1
  have hcn := hRL.2.2.2.2.2.1
  have hσ := hRL.2.2.1.2.2
  have hq := hRL.2.2.1.1
  have hV := RR_voters hRL.2.2.2.2.1.2
  have cb0 : cells + 0 ≤ room_1.cells := by show cells + 0 ≤ 600000; omega
  have sb0 : slots + 0 ≤ room_1.slots := by show slots + 0 ≤ 7302250; omega
  have cb1 : cells + 1 ≤ room_1.cells := by show cells + 1 ≤ 600000; omega
  have sb1 : slots + 6 ≤ room_1.slots := by show slots + 6 ≤ 7302250; omega
  refine lv_aload_n hx hb dL_law_1313 rfl (lv_at hl 2 rfl) ?_
  refine lv_aload_n hx hb dL_law_1314 rfl (lv_at hl 3 rfl) ?_
  refine lv_iload_n hx hb dL_law_1315 rfl (lv_at hl 0 rfl) ?_
  refine lv_iconst (v := 1) hx hb dL_law_1316 (by decide +kernel) ?_
  refine lv_iadd hx hb dL_law_1317 ?_
  refine va_sld hx hb hX hbl hbA hS (sc_in (j := 1) hi hL (by decide) rfl) dL_law_1318 ?_
  refine lv_aload_n hx hb dL_law_1319 rfl (lv_at hl 3 rfl) ?_
  refine lv_iload_n hx hb dL_law_1320 rfl (lv_at hl 0 rfl) ?_
  refine lv_iconst (v := 2) hx hb dL_law_1321 (by decide +kernel) ?_
  refine lv_iadd hx hb dL_law_1322 ?_
  refine va_sld hx hb hX hbl hbA hS (sc_in (j := 2) hi hL (by decide) rfl) dL_law_1323 ?_
  refine lv_aload_n hx hb dL_law_1324 rfl (lv_at hl 3 rfl) ?_
  refine lv_iload_n hx hb dL_law_1325 rfl (lv_at hl 0 rfl) ?_
  refine lv_iconst (v := 3) hx hb dL_law_1326 (by decide +kernel) ?_
  refine lv_iadd hx hb dL_law_1327 ?_
  refine va_sld hx hb hX hbl hbA hS (sc_in (j := 3) hi hL (by decide) rfl) dL_law_1328 ?_
  refine lv_aload_n hx hb dL_law_1329 rfl (lv_at hl 3 rfl) ?_
  refine lv_iload_n hx hb dL_law_1330 rfl (lv_at hl 0 rfl) ?_
  refine lv_iconst (v := 4) hx hb dL_law_1331 (by decide +kernel) ?_
  refine lv_iadd hx hb dL_law_1332 ?_
  refine va_sld hx hb hX hbl hbA hS (sc_in (j := 4) hi hL (by decide) rfl) dL_law_1333 ?_
  refine lv_aload_n hx hb dL_law_1334 rfl (lv_at hl 3 rfl) ?_
  refine lv_iload_n hx hb dL_law_1335 rfl (lv_at hl 0 rfl) ?_
  refine lv_iconst (v := 5) hx hb dL_law_1336 (by decide +kernel) ?_
  refine lv_iadd hx hb dL_law_1337 ?_
  refine va_sld hx hb hX hbl hbA hS (sc_in (j := 5) hi hL (by decide) rfl) dL_law_1338 ?_
  refine lv_aload_n hx hb dL_law_1339 rfl (lv_at hl 3 rfl) ?_
  refine lv_iload_n hx hb dL_law_1340 rfl (lv_at hl 0 rfl) ?_
  refine lv_bipush (v := 6) hx hb dL_law_1341 (by decide +kernel) ?_
  refine lv_iadd hx hb dL_law_1343 ?_
  refine va_sld hx hb hX hbl hbA hS (sc_in (j := 6) hi hL (by decide) rfl) dL_law_1344 ?_
  refine lv_aload_n hx hb dL_law_1345 rfl (lv_at hl 3 rfl) ?_
  refine lv_iload_n hx hb dL_law_1346 rfl (lv_at hl 0 rfl) ?_
  refine lv_bipush (v := 7) hx hb dL_law_1347 (by decide +kernel) ?_
  refine lv_iadd hx hb dL_law_1349 ?_
  refine va_sld hx hb hX hbl hbA hS (sc_in (j := 7) hi hL (by decide) rfl) dL_law_1350 ?_
  refine lv_aload_n hx hb dL_law_1351 rfl (lv_at hl 3 rfl) ?_
  refine lv_iload_n hx hb dL_law_1352 rfl (lv_at hl 0 rfl) ?_
  refine lv_bipush (v := 8) hx hb dL_law_1353 (by decide +kernel) ?_
  refine lv_iadd hx hb dL_law_1355 ?_
  refine va_sld hx hb hX hbl hbA hS (sc_in (j := 8) hi hL (by decide) rfl) dL_law_1356 ?_
  refine ro_call (va_runV (As := [.int (xs (ix (nI i + 1))), .int (xs (ix (nI i + 2))), .int (xs (ix (nI i + 3))), .int (xs (ix (nI i + 4))), .int (xs (ix (nI i + 5))), .int (xs (ix (nI i + 6))), .int (xs (ix (nI i + 7))), .int (xs (ix (nI i + 8)))]) (rest := []) ⟨hx, hb, hml, hown, hts⟩ (c_X8_told l D cI cZ cR _ x kk pr dr sd w wr wc ro wt tw sw nd c0 c1 c2 hh pc0 pz0 pc1 pz1 dr sd sg fd tw sw rq fw fr nr ra rd cn cl cp (xs (ix (nI i + 1))) (xs (ix (nI i + 2))) (xs (ix (nI i + 3))) (xs (ix (nI i + 4))) (xs (ix (nI i + 5))) (xs (ix (nI i + 6))) (xs (ix (nI i + 7))) (xs (ix (nI i + 8)))) (cwV 8 hts gL_law_X8_told rfl rfl rfl ⟨rfl, hd_X8_told⟩ ⟨(Nat.le_of_ble_eq_true rfl), (Nat.le_of_ble_eq_true rfl)⟩) (po_preV hAM hPx (va_recv hK hPx (ci := 6) (q0 := 0) rfl rfl)) rfl rfl hl.1 rfl (lv_room (Nat.le_of_ble_eq_true rfl)) dL_law_1357 ⟨cb0, sb0⟩) ?_
  refine lv_aload_n hx hb dL_law_1360 rfl (lv_at hl 1 rfl) ?_
  refine lv_aload_n hx hb dL_law_1361 rfl (lv_at hl 3 rfl) ?_
  refine lv_iload_n hx hb dL_law_1362 rfl (lv_at hl 0 rfl) ?_
  refine lv_iconst (v := 1) hx hb dL_law_1363 (by decide +kernel) ?_
  refine lv_iadd hx hb dL_law_1364 ?_
  refine va_sld hx hb hX hbl hbA hS (sc_in (j := 1) hi hL (by decide) rfl) dL_law_1365 ?_
  refine lv_aload_n hx hb dL_law_1366 rfl (lv_at hl 3 rfl) ?_
  refine lv_iload_n hx hb dL_law_1367 rfl (lv_at hl 0 rfl) ?_
  refine lv_iconst (v := 2) hx hb dL_law_1368 (by decide +kernel) ?_
  refine lv_iadd hx hb dL_law_1369 ?_
  refine va_sld hx hb hX hbl hbA hS (sc_in (j := 2) hi hL (by decide) rfl) dL_law_1370 ?_
  refine lv_aload_n hx hb dL_law_1371 rfl (lv_at hl 3 rfl) ?_
  refine lv_iload_n hx hb dL_law_1372 rfl (lv_at hl 0 rfl) ?_
  refine lv_iconst (v := 3) hx hb dL_law_1373 (by decide +kernel) ?_
  refine lv_iadd hx hb dL_law_1374 ?_
  refine va_sld hx hb hX hbl hbA hS (sc_in (j := 3) hi hL (by decide) rfl) dL_law_1375 ?_
  refine lv_aload_n hx hb dL_law_1376 rfl (lv_at hl 3 rfl) ?_
  refine lv_iload_n hx hb dL_law_1377 rfl (lv_at hl 0 rfl) ?_
  refine lv_iconst (v := 4) hx hb dL_law_1378 (by decide +kernel) ?_
  refine lv_iadd hx hb dL_law_1379 ?_
  refine va_sld hx hb hX hbl hbA hS (sc_in (j := 4) hi hL (by decide) rfl) dL_law_1380 ?_
  refine lv_aload_n hx hb dL_law_1381 rfl (lv_at hl 3 rfl) ?_
  refine lv_iload_n hx hb dL_law_1382 rfl (lv_at hl 0 rfl) ?_
  refine lv_iconst (v := 5) hx hb dL_law_1383 (by decide +kernel) ?_
  refine lv_iadd hx hb dL_law_1384 ?_
  refine va_sld hx hb hX hbl hbA hS (sc_in (j := 5) hi hL (by decide) rfl) dL_law_1385 ?_
  refine lv_aload_n hx hb dL_law_1386 rfl (lv_at hl 3 rfl) ?_
  refine lv_iload_n hx hb dL_law_1387 rfl (lv_at hl 0 rfl) ?_
  refine lv_bipush (v := 6) hx hb dL_law_1388 (by decide +kernel) ?_
  refine lv_iadd hx hb dL_law_1390 ?_
  refine va_sld hx hb hX hbl hbA hS (sc_in (j := 6) hi hL (by decide) rfl) dL_law_1391 ?_
  refine lv_aload_n hx hb dL_law_1392 rfl (lv_at hl 3 rfl) ?_
  refine lv_iload_n hx hb dL_law_1393 rfl (lv_at hl 0 rfl) ?_
  refine lv_bipush (v := 7) hx hb dL_law_1394 (by decide +kernel) ?_
  refine lv_iadd hx hb dL_law_1396 ?_
  refine va_sld hx hb hX hbl hbA hS (sc_in (j := 7) hi hL (by decide) rfl) dL_law_1397 ?_
  refine lv_aload_n hx hb dL_law_1398 rfl (lv_at hl 3 rfl) ?_
  refine lv_iload_n hx hb dL_law_1399 rfl (lv_at hl 0 rfl) ?_
  refine lv_bipush (v := 8) hx hb dL_law_1400 (by decide +kernel) ?_
  refine lv_iadd hx hb dL_law_1402 ?_
  refine va_sld hx hb hX hbl hbA hS (sc_in (j := 8) hi hL (by decide) rfl) dL_law_1403 ?_
  refine ro_call (va_runV (As := [.int (xs (ix (nI i + 1))), .int (xs (ix (nI i + 2))), .int (xs (ix (nI i + 3))), .int (xs (ix (nI i + 4))), .int (xs (ix (nI i + 5))), .int (xs (ix (nI i + 6))), .int (xs (ix (nI i + 7))), .int (xs (ix (nI i + 8)))]) (rest := [.long (x_X8_told (xs (ix (nI i + 1))) (xs (ix (nI i + 2))) (xs (ix (nI i + 3))) (xs (ix (nI i + 4))) (xs (ix (nI i + 5))) (xs (ix (nI i + 6))) (xs (ix (nI i + 7))) (xs (ix (nI i + 8))))]) ⟨hx, hb, hml, hown, hts⟩ (c_X9_told l D cI cZ cR _ o aS aH aG aR aV aA aB aO aP aF aC nd fs fh sg fg rq fq cl nr fV fA fB fO fP fF cn fC mx (xs (ix (nI i + 1))) (xs (ix (nI i + 2))) (xs (ix (nI i + 3))) (xs (ix (nI i + 4))) (xs (ix (nI i + 5))) (xs (ix (nI i + 6))) (xs (ix (nI i + 7))) (xs (ix (nI i + 8)))) (cwV 8 hts gL_law_X9_told rfl rfl rfl ⟨rfl, hd_X9_told⟩ ⟨(Nat.le_of_ble_eq_true rfl), (Nat.le_of_ble_eq_true rfl)⟩) (po_preV hAM hPm (va_recv hK hPm (ci := 7) (q0 := 0) rfl rfl)) rfl rfl hl.1 rfl (lv_room (Nat.le_of_ble_eq_true rfl)) dL_law_1404 ⟨cb0, sb0⟩) ?_
  refine w_lcmp_eq (tgt := 1511) hx hb dL_law_1407 dL_law_1408 (by decide) (fun _ => ?_) (fun c9 => absurd (told_eq _ _ _ _ _ _ _ _) c9)
  exact cont _ _ _ _ ⟨kk, pr, w, wr, wc, ro, wt, nd, c0, c1, c2, hh, pc0, pz0, pc1, pz1, dr, sd, sg, fd, tw, sw, rq, fw, fr, nr, ra, rd, cn, cl, cp, aS, aH, aG, aR, aV, aA, aB, aO, aP, aF, aC, fs, fh, fg, fq, fV, fA, fB, fO, fP, fF, fC, mx, hPx, hDx, hPm, hDm, hRL, hAx, hS, by omega, by omega⟩ ls hl

set_option maxHeartbeats 4000000 in
set_option maxRecDepth 100000 in
theorem law_forced {p : Program} {l : Launch} {e : Env} {s : State} {m : MethodId} {below : List Frame} {meth : Method} {c : Code} {D : va_G} {cI cZ cR : ClassId} {Ax Am : Nat → Prop} {b L x o N i : Nat} {xs : Nat → Int32} (hL : L ≤ 4608) (C0 : lw_At p s m meth c b L xs) (hC : LC D cI cZ cR Ax Am s) {H : Heap} {locs : List Loc} {cells slots : Nat} (hI : LI D cI cZ cR Ax Am s x o N H locs cells slots) (hN : N ≤ 512) (hi : i + 9 ≤ L) {ls : Array Slot} (hl : lv_has ls 4 [(3, .int (nI i)), (2, .ref o), (1, .ref x), (0, .ref b)])
    (cont : ∀ (H : Heap) (locs : List Loc) (cells slots : Nat), LI D cI cZ cR Ax Am s x o (N + 1) H locs cells slots → ∀ ls : Array Slot, lv_has ls 4 [(3, .int (nI i)), (2, .ref o), (1, .ref x), (0, .ref b)] → W p l e room_1 s m #[Value.ref b] below meth c H locs cells slots (lw_Z below #[Value.ref b] s) (F0 m 1511 ls [])) : W p l e room_1 s m #[Value.ref b] below meth c H locs cells slots (lw_Z below #[Value.ref b] s) (F0 m 1413 ls []) := by
  obtain ⟨hx, hb, hr, hml, hown, hts0, hX, hbl, hlocks, hgv⟩ := C0
  have hts := fun w h => hts0 w (wsL_law_in w h)
  obtain ⟨hAM, hO, hdis, hxA, hmA⟩ := hC
  have hdis2 : ∀ q, Ax q → ¬ Am q := fun q h1 h2 => hdis q h2 h1
  have hK := hAM.1
  have hbA : ¬ (fun q : Nat => s.heap.size ≤ q) b := Nat.not_le.mpr hbl
  obtain ⟨kk, pr, w, wr, wc, ro, wt, nd, c0, c1, c2, hh, pc0, pz0, pc1, pz1, dr, sd, sg, fd, tw, sw, rq, fw, fr, nr, ra, rd, cn, cl, cp, aS, aH, aG, aR, aV, aA, aB, aO, aP, aF, aC, fs, fh, fg, fq, fV, fA, fB, fO, fP, fF, fC, mx, hPx, hDx, hPm, hDm, hRL, hAx, hS, hc1, hs1⟩ := hI
  have hn30 := hRL.2.2.2.2.1.1
  have hsg := hRL.2.1.1
  have hcn := hRL.2.2.2.2.2.1
  have hσ := hRL.2.2.1.2.2
  have hq := hRL.2.2.1.1
  have hV := RR_voters hRL.2.2.2.2.1.2
  have cb0 : cells + 0 ≤ room_1.cells := by show cells + 0 ≤ 600000; omega
  have sb0 : slots + 0 ≤ room_1.slots := by show slots + 0 ≤ 7302250; omega
  have cb1 : cells + 1 ≤ room_1.cells := by show cells + 1 ≤ 600000; omega
  have sb1 : slots + 6 ≤ room_1.slots := by show slots + 6 ≤ 7302250; omega
  refine lv_aload_n hx hb dL_law_1413 rfl (lv_at hl 2 rfl) ?_
  refine lv_aload_n hx hb dL_law_1414 rfl (lv_at hl 3 rfl) ?_
  refine lv_iload_n hx hb dL_law_1415 rfl (lv_at hl 0 rfl) ?_
  refine lv_iconst (v := 1) hx hb dL_law_1416 (by decide +kernel) ?_
  refine lv_iadd hx hb dL_law_1417 ?_
  refine va_sld hx hb hX hbl hbA hS (sc_in (j := 1) hi hL (by decide) rfl) dL_law_1418 ?_
  refine lv_aload_n hx hb dL_law_1419 rfl (lv_at hl 3 rfl) ?_
  refine lv_iload_n hx hb dL_law_1420 rfl (lv_at hl 0 rfl) ?_
  refine lv_iconst (v := 2) hx hb dL_law_1421 (by decide +kernel) ?_
  refine lv_iadd hx hb dL_law_1422 ?_
  refine va_sld hx hb hX hbl hbA hS (sc_in (j := 2) hi hL (by decide) rfl) dL_law_1423 ?_
  refine lv_aload_n hx hb dL_law_1424 rfl (lv_at hl 3 rfl) ?_
  refine lv_iload_n hx hb dL_law_1425 rfl (lv_at hl 0 rfl) ?_
  refine lv_iconst (v := 3) hx hb dL_law_1426 (by decide +kernel) ?_
  refine lv_iadd hx hb dL_law_1427 ?_
  refine va_sld hx hb hX hbl hbA hS (sc_in (j := 3) hi hL (by decide) rfl) dL_law_1428 ?_
  refine lv_aload_n hx hb dL_law_1429 rfl (lv_at hl 3 rfl) ?_
  refine lv_iload_n hx hb dL_law_1430 rfl (lv_at hl 0 rfl) ?_
  refine lv_iconst (v := 4) hx hb dL_law_1431 (by decide +kernel) ?_
  refine lv_iadd hx hb dL_law_1432 ?_
  refine va_sld hx hb hX hbl hbA hS (sc_in (j := 4) hi hL (by decide) rfl) dL_law_1433 ?_
  refine lv_aload_n hx hb dL_law_1434 rfl (lv_at hl 3 rfl) ?_
  refine lv_iload_n hx hb dL_law_1435 rfl (lv_at hl 0 rfl) ?_
  refine lv_iconst (v := 5) hx hb dL_law_1436 (by decide +kernel) ?_
  refine lv_iadd hx hb dL_law_1437 ?_
  refine va_sld hx hb hX hbl hbA hS (sc_in (j := 5) hi hL (by decide) rfl) dL_law_1438 ?_
  refine lv_aload_n hx hb dL_law_1439 rfl (lv_at hl 3 rfl) ?_
  refine lv_iload_n hx hb dL_law_1440 rfl (lv_at hl 0 rfl) ?_
  refine lv_bipush (v := 6) hx hb dL_law_1441 (by decide +kernel) ?_
  refine lv_iadd hx hb dL_law_1443 ?_
  refine va_sld hx hb hX hbl hbA hS (sc_in (j := 6) hi hL (by decide) rfl) dL_law_1444 ?_
  refine ro_call (va_runV (As := [.int (xs (ix (nI i + 1))), .int (xs (ix (nI i + 2))), .int (xs (ix (nI i + 3))), .int (xs (ix (nI i + 4))), .int (xs (ix (nI i + 5))), .int (xs (ix (nI i + 6)))]) (rest := []) ⟨hx, hb, hml, hown, hts⟩ (c_X8_forced l D cI cZ cR _ x kk pr dr sd w wr wc ro wt tw sw nd c0 c1 c2 hh pc0 pz0 pc1 pz1 dr sd sg fd tw sw rq fw fr nr ra rd cn cl cp (xs (ix (nI i + 1))) (xs (ix (nI i + 2))) (xs (ix (nI i + 3))) (xs (ix (nI i + 4))) (xs (ix (nI i + 5))) (xs (ix (nI i + 6)))) (cwV 6 hts gL_law_X8_forced rfl rfl rfl ⟨rfl, hd_X8_forced⟩ ⟨(Nat.le_of_ble_eq_true rfl), (Nat.le_of_ble_eq_true rfl)⟩) (po_preV hAM hPx (va_recv hK hPx (ci := 6) (q0 := 0) rfl rfl)) rfl rfl hl.1 rfl (lv_room (Nat.le_of_ble_eq_true rfl)) dL_law_1445 ⟨cb0, sb0⟩) ?_
  refine lv_aload_n hx hb dL_law_1448 rfl (lv_at hl 1 rfl) ?_
  refine lv_aload_n hx hb dL_law_1449 rfl (lv_at hl 3 rfl) ?_
  refine lv_iload_n hx hb dL_law_1450 rfl (lv_at hl 0 rfl) ?_
  refine lv_iconst (v := 1) hx hb dL_law_1451 (by decide +kernel) ?_
  refine lv_iadd hx hb dL_law_1452 ?_
  refine va_sld hx hb hX hbl hbA hS (sc_in (j := 1) hi hL (by decide) rfl) dL_law_1453 ?_
  refine lv_aload_n hx hb dL_law_1454 rfl (lv_at hl 3 rfl) ?_
  refine lv_iload_n hx hb dL_law_1455 rfl (lv_at hl 0 rfl) ?_
  refine lv_iconst (v := 2) hx hb dL_law_1456 (by decide +kernel) ?_
  refine lv_iadd hx hb dL_law_1457 ?_
  refine va_sld hx hb hX hbl hbA hS (sc_in (j := 2) hi hL (by decide) rfl) dL_law_1458 ?_
  refine lv_aload_n hx hb dL_law_1459 rfl (lv_at hl 3 rfl) ?_
  refine lv_iload_n hx hb dL_law_1460 rfl (lv_at hl 0 rfl) ?_
  refine lv_iconst (v := 3) hx hb dL_law_1461 (by decide +kernel) ?_
  refine lv_iadd hx hb dL_law_1462 ?_
  refine va_sld hx hb hX hbl hbA hS (sc_in (j := 3) hi hL (by decide) rfl) dL_law_1463 ?_
  refine lv_aload_n hx hb dL_law_1464 rfl (lv_at hl 3 rfl) ?_
  refine lv_iload_n hx hb dL_law_1465 rfl (lv_at hl 0 rfl) ?_
  refine lv_iconst (v := 4) hx hb dL_law_1466 (by decide +kernel) ?_
  refine lv_iadd hx hb dL_law_1467 ?_
  refine va_sld hx hb hX hbl hbA hS (sc_in (j := 4) hi hL (by decide) rfl) dL_law_1468 ?_
  refine lv_aload_n hx hb dL_law_1469 rfl (lv_at hl 3 rfl) ?_
  refine lv_iload_n hx hb dL_law_1470 rfl (lv_at hl 0 rfl) ?_
  refine lv_iconst (v := 5) hx hb dL_law_1471 (by decide +kernel) ?_
  refine lv_iadd hx hb dL_law_1472 ?_
  refine va_sld hx hb hX hbl hbA hS (sc_in (j := 5) hi hL (by decide) rfl) dL_law_1473 ?_
  refine lv_aload_n hx hb dL_law_1474 rfl (lv_at hl 3 rfl) ?_
  refine lv_iload_n hx hb dL_law_1475 rfl (lv_at hl 0 rfl) ?_
  refine lv_bipush (v := 6) hx hb dL_law_1476 (by decide +kernel) ?_
  refine lv_iadd hx hb dL_law_1478 ?_
  refine va_sld hx hb hX hbl hbA hS (sc_in (j := 6) hi hL (by decide) rfl) dL_law_1479 ?_
  refine ro_call (va_runV (As := [.int (xs (ix (nI i + 1))), .int (xs (ix (nI i + 2))), .int (xs (ix (nI i + 3))), .int (xs (ix (nI i + 4))), .int (xs (ix (nI i + 5))), .int (xs (ix (nI i + 6)))]) (rest := [.int (x_X8_forced (xs (ix (nI i + 1))) (xs (ix (nI i + 2))) (xs (ix (nI i + 3))) (xs (ix (nI i + 4))) (xs (ix (nI i + 5))) (xs (ix (nI i + 6))))]) ⟨hx, hb, hml, hown, hts⟩ (c_X9_forced l D cI cZ cR _ o aS aH aG aR aV aA aB aO aP aF aC nd fs fh sg fg rq fq cl nr fV fA fB fO fP fF cn fC mx (xs (ix (nI i + 1))) (xs (ix (nI i + 2))) (xs (ix (nI i + 3))) (xs (ix (nI i + 4))) (xs (ix (nI i + 5))) (xs (ix (nI i + 6)))) (cwV 6 hts gL_law_X9_forced rfl rfl rfl ⟨rfl, hd_X9_forced⟩ ⟨(Nat.le_of_ble_eq_true rfl), (Nat.le_of_ble_eq_true rfl)⟩) (po_preV hAM hPm (va_recv hK hPm (ci := 7) (q0 := 0) rfl rfl)) rfl rfl hl.1 rfl (lv_room (Nat.le_of_ble_eq_true rfl)) dL_law_1480 ⟨cb0, sb0⟩) ?_
  refine lv_icmp_eq (tgt := 1511) hx hb dL_law_1483 (by decide) (fun _ => ?_) (fun c9 => absurd (forced_eq _ _ _ _ _ _) c9)
  exact cont _ _ _ _ ⟨kk, pr, w, wr, wc, ro, wt, nd, c0, c1, c2, hh, pc0, pz0, pc1, pz1, dr, sd, sg, fd, tw, sw, rq, fw, fr, nr, ra, rd, cn, cl, cp, aS, aH, aG, aR, aV, aA, aB, aO, aP, aF, aC, fs, fh, fg, fq, fV, fA, fB, fO, fP, fF, fC, mx, hPx, hDx, hPm, hDm, hRL, hAx, hS, by omega, by omega⟩ ls hl

set_option maxHeartbeats 4000000 in
set_option maxRecDepth 100000 in
theorem law_count {p : Program} {l : Launch} {e : Env} {s : State} {m : MethodId} {below : List Frame} {meth : Method} {c : Code} {D : va_G} {cI cZ cR : ClassId} {Ax Am : Nat → Prop} {b L x o N i : Nat} {xs : Nat → Int32} (hL : L ≤ 4608) (C0 : lw_At p s m meth c b L xs) (hC : LC D cI cZ cR Ax Am s) {H : Heap} {locs : List Loc} {cells slots : Nat} (hI : LI D cI cZ cR Ax Am s x o N H locs cells slots) (hN : N ≤ 512) (hi : i + 9 ≤ L) {ls : Array Slot} (hl : lv_has ls 4 [(3, .int (nI i)), (2, .ref o), (1, .ref x), (0, .ref b)])
    (cont : ∀ (H : Heap) (locs : List Loc) (cells slots : Nat), LI D cI cZ cR Ax Am s x o (N + 1) H locs cells slots → ∀ ls : Array Slot, lv_has ls 4 [(3, .int (nI i)), (2, .ref o), (1, .ref x), (0, .ref b)] → W p l e room_1 s m #[Value.ref b] below meth c H locs cells slots (lw_Z below #[Value.ref b] s) (F0 m 1511 ls [])) : W p l e room_1 s m #[Value.ref b] below meth c H locs cells slots (lw_Z below #[Value.ref b] s) (F0 m 1488 ls []) := by
  obtain ⟨hx, hb, hr, hml, hown, hts0, hX, hbl, hlocks, hgv⟩ := C0
  have hts := fun w h => hts0 w (wsL_law_in w h)
  obtain ⟨hAM, hO, hdis, hxA, hmA⟩ := hC
  have hdis2 : ∀ q, Ax q → ¬ Am q := fun q h1 h2 => hdis q h2 h1
  have hK := hAM.1
  have hbA : ¬ (fun q : Nat => s.heap.size ≤ q) b := Nat.not_le.mpr hbl
  obtain ⟨kk, pr, w, wr, wc, ro, wt, nd, c0, c1, c2, hh, pc0, pz0, pc1, pz1, dr, sd, sg, fd, tw, sw, rq, fw, fr, nr, ra, rd, cn, cl, cp, aS, aH, aG, aR, aV, aA, aB, aO, aP, aF, aC, fs, fh, fg, fq, fV, fA, fB, fO, fP, fF, fC, mx, hPx, hDx, hPm, hDm, hRL, hAx, hS, hc1, hs1⟩ := hI
  have hn30 := hRL.2.2.2.2.1.1
  have hsg := hRL.2.1.1
  have hcn := hRL.2.2.2.2.2.1
  have hσ := hRL.2.2.1.2.2
  have hq := hRL.2.2.1.1
  have hV := RR_voters hRL.2.2.2.2.1.2
  have cb0 : cells + 0 ≤ room_1.cells := by show cells + 0 ≤ 600000; omega
  have sb0 : slots + 0 ≤ room_1.slots := by show slots + 0 ≤ 7302250; omega
  have cb1 : cells + 1 ≤ room_1.cells := by show cells + 1 ≤ 600000; omega
  have sb1 : slots + 6 ≤ room_1.slots := by show slots + 6 ≤ 7302250; omega
  refine lv_aload_n hx hb dL_law_1488 rfl (lv_at hl 2 rfl) ?_
  refine lv_aload_n hx hb dL_law_1489 rfl (lv_at hl 3 rfl) ?_
  refine lv_iload_n hx hb dL_law_1490 rfl (lv_at hl 0 rfl) ?_
  refine lv_iconst (v := 1) hx hb dL_law_1491 (by decide +kernel) ?_
  refine lv_iadd hx hb dL_law_1492 ?_
  refine va_sld hx hb hX hbl hbA hS (sc_in (j := 1) hi hL (by decide) rfl) dL_law_1493 ?_
  refine ro_call (va_runV (As := [.int (xs (ix (nI i + 1)))]) (rest := []) ⟨hx, hb, hml, hown, hts⟩ (c_X8_count l D cI cZ cR _ x kk pr dr sd w wr wc ro wt tw sw nd c0 c1 c2 hh pc0 pz0 pc1 pz1 dr sd sg fd tw sw rq fw fr nr ra rd cn cl cp (xs (ix (nI i + 1))) hn30) (cwV 1 hts gL_law_X8_count rfl rfl rfl ⟨rfl, hd_X8_count⟩ ⟨(Nat.le_of_ble_eq_true rfl), (Nat.le_of_ble_eq_true rfl)⟩) (po_preV hAM hPx (va_recv hK hPx (ci := 6) (q0 := 0) rfl rfl)) rfl rfl hl.1 rfl (lv_room (Nat.le_of_ble_eq_true rfl)) dL_law_1494 ⟨cb0, sb0⟩) ?_
  refine lv_aload_n hx hb dL_law_1497 rfl (lv_at hl 1 rfl) ?_
  refine lv_aload_n hx hb dL_law_1498 rfl (lv_at hl 3 rfl) ?_
  refine lv_iload_n hx hb dL_law_1499 rfl (lv_at hl 0 rfl) ?_
  refine lv_iconst (v := 1) hx hb dL_law_1500 (by decide +kernel) ?_
  refine lv_iadd hx hb dL_law_1501 ?_
  refine va_sld hx hb hX hbl hbA hS (sc_in (j := 1) hi hL (by decide) rfl) dL_law_1502 ?_
  refine wr_callF (va_runV (As := [.int (xs (ix (nI i + 1)))]) (rest := [.int (x_X8_count nd hh sg cn nr rd cl fr rq fw (xs (ix (nI i + 1))))]) ⟨hx, hb, hml, hown, hts⟩ (c_X9_count l D cI cZ cR Am _ o aS aH aG aR aV aA aB aO aP aF aC nd fs fh sg fg rq fq cl nr fV fA fB fO fP fF cn fC mx (xs (ix (nI i + 1))) hn30 hσ hq hV) (cwV 1 hts gL_law_X9_count rfl rfl rfl ⟨rfl, hd_X9_count⟩ ⟨(Nat.le_of_ble_eq_true rfl), (Nat.le_of_ble_eq_true rfl)⟩) (wr_preV hAM hPm hDm (va_recv hK hPm (ci := 7) (q0 := 0) rfl rfl)) rfl rfl hl.1 rfl (lv_room (Nat.le_of_ble_eq_true rfl)) dL_law_1503 ⟨cb0, sb0⟩) hmA hS (fun v mx_m H1 locs1 hw hPm hDm hz hk hS => ?_)
  try dsimp only at hw
  subst hw
  have hPx := keepP hPx hDx hdis2 hk
  have hAx := fun q (hq : H1.size ≤ q) => hAx q (Nat.le_trans hz hq)
  clear hz hk
  generalize H1 = H at hPx hPm hAx hS ⊢
  refine W.eq (g2 := F0 m 1506 ls [.int (x_X9_count fs rq fq fh cl nr fV fA fB fO fF sg nd cn (xs (ix (nI i + 1)))), .int (x_X8_count nd hh sg cn nr rd cl fr rq fw (xs (ix (nI i + 1))))]) rfl ?_
  refine W.cs (cells' := cells) (slots' := slots) rfl rfl ?_
  refine lv_icmp_eq (tgt := 1511) hx hb dL_law_1506 (by decide) (fun _ => ?_) (fun c9 => absurd (count_eq hRL.1 hRL.2.2.2.2.1.1 hRL.2.2.2.2.1.2 hRL.2.2.1.1 hRL.2.2.1.2.1 hRL.2.2.1.2.2 hRL.2.2.2.1 nd sg cn _) c9)
  exact cont _ _ _ _ ⟨kk, pr, w, wr, wc, ro, wt, nd, c0, c1, c2, hh, pc0, pz0, pc1, pz1, dr, sd, sg, fd, tw, sw, rq, fw, fr, nr, ra, rd, cn, cl, cp, aS, aH, aG, aR, aV, aA, aB, aO, aP, aF, aC, fs, fh, fg, fq, fV, fA, fB, fO, fP, fF, fC, mx_m, hPx, hDx, hPm, hDm, hRL, hAx, hS, by omega, by omega⟩ ls hl
