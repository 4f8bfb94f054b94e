set_option maxHeartbeats 4000000 in
set_option maxRecDepth 100000 in
theorem law_key {p : Program} {l : Launch} {e : Env} {s : State} {m : MethodId} {below : List Frame} {meth : Method} {c : Code} {D : va_G} {cI cZ cR : ClassId} {Ax Am : Nat → Prop} {b L x o N i : Nat} {xs : Nat → Int32} (hL : L ≤ 4608) (C0 : lw_At p s m meth c b L xs) (hC : LC D cI cZ cR Ax Am s) {H : Heap} {locs : List Loc} {cells slots : Nat} (hI : LI D cI cZ cR Ax Am s x o N H locs cells slots) (hN : N ≤ 512) (hi : i + 9 ≤ L) {ls : Array Slot} (hl : lv_has ls 4 [(3, .int (nI i)), (2, .ref o), (1, .ref x), (0, .ref b)])
    (cont : ∀ (H : Heap) (locs : List Loc) (cells slots : Nat), LI D cI cZ cR Ax Am s x o (N + 1) H locs cells slots → ∀ ls : Array Slot, lv_has ls 4 [(3, .int (nI i)), (2, .ref o), (1, .ref x), (0, .ref b)] → W p l e room_1 s m #[Value.ref b] below meth c H locs cells slots (lw_Z below #[Value.ref b] s) (F0 m 1511 ls [])) : W p l e room_1 s m #[Value.ref b] below meth c H locs cells slots (lw_Z below #[Value.ref b] s) (F0 m 176 ls []) := by
  obtain ⟨hx, hb, hr, hml, hown, hts0, hX, hbl, hlocks, hgv⟩ := C0
  have hts := fun w h => hts0 w (wsL_law_in w h)
  obtain ⟨hAM, hO, hdis, hxA, hmA⟩ := hC
  have hdis2 : ∀ q, Ax q → ¬ Am q := fun q h1 h2 => hdis q h2 h1
  have hK := hAM.1
  have hbA : ¬ (fun q : Nat => s.heap.size ≤ q) b := Nat.not_le.mpr hbl
  obtain ⟨kk, pr, w, wr, wc, ro, wt, nd, c0, c1, c2, hh, pc0, pz0, pc1, pz1, dr, sd, sg, fd, tw, sw, rq, fw, fr, nr, ra, rd, cn, cl, cp, aS, aH, aG, aR, aV, aA, aB, aO, aP, aF, aC, fs, fh, fg, fq, fV, fA, fB, fO, fP, fF, fC, mx, hPx, hDx, hPm, hDm, hRL, hAx, hS, hc1, hs1⟩ := hI
  have hn30 := hRL.2.2.2.2.1.1
  have hsg := hRL.2.1.1
  have hcn := hRL.2.2.2.2.2.1
  have hσ := hRL.2.2.1.2.2
  have hq := hRL.2.2.1.1
  have hV := RR_voters hRL.2.2.2.2.1.2
  have cb0 : cells + 0 ≤ room_1.cells := by show cells + 0 ≤ 600000; omega
  have sb0 : slots + 0 ≤ room_1.slots := by show slots + 0 ≤ 7302250; omega
  have cb1 : cells + 1 ≤ room_1.cells := by show cells + 1 ≤ 600000; omega
  have sb1 : slots + 6 ≤ room_1.slots := by show slots + 6 ≤ 7302250; omega
  refine lv_aload_n hx hb dL_law_176 rfl (lv_at hl 2 rfl) ?_
  refine lv_aload_n hx hb dL_law_177 rfl (lv_at hl 3 rfl) ?_
  refine lv_iload_n hx hb dL_law_178 rfl (lv_at hl 0 rfl) ?_
  refine lv_iconst (v := 1) hx hb dL_law_179 (by decide +kernel) ?_
  refine lv_iadd hx hb dL_law_180 ?_
  refine va_sld hx hb hX hbl hbA hS (sc_in (j := 1) hi hL (by decide) rfl) dL_law_181 ?_
  refine lv_aload_n hx hb dL_law_182 rfl (lv_at hl 3 rfl) ?_
  refine lv_iload_n hx hb dL_law_183 rfl (lv_at hl 0 rfl) ?_
  refine lv_iconst (v := 2) hx hb dL_law_184 (by decide +kernel) ?_
  refine lv_iadd hx hb dL_law_185 ?_
  refine va_sld hx hb hX hbl hbA hS (sc_in (j := 2) hi hL (by decide) rfl) dL_law_186 ?_
  refine lv_aload_n hx hb dL_law_187 rfl (lv_at hl 3 rfl) ?_
  refine lv_iload_n hx hb dL_law_188 rfl (lv_at hl 0 rfl) ?_
  refine lv_iconst (v := 3) hx hb dL_law_189 (by decide +kernel) ?_
  refine lv_iadd hx hb dL_law_190 ?_
  refine va_sld hx hb hX hbl hbA hS (sc_in (j := 3) hi hL (by decide) rfl) dL_law_191 ?_
  refine lv_aload_n hx hb dL_law_192 rfl (lv_at hl 3 rfl) ?_
  refine lv_iload_n hx hb dL_law_193 rfl (lv_at hl 0 rfl) ?_
  refine lv_iconst (v := 4) hx hb dL_law_194 (by decide +kernel) ?_
  refine lv_iadd hx hb dL_law_195 ?_
  refine va_sld hx hb hX hbl hbA hS (sc_in (j := 4) hi hL (by decide) rfl) dL_law_196 ?_
  refine wr_callF (va_runV (As := [.int (xs (ix (nI i + 1))), .int (xs (ix (nI i + 2))), .int (xs (ix (nI i + 3))), .int (xs (ix (nI i + 4)))]) (rest := []) ⟨hx, hb, hml, hown, hts⟩ (c_X8_key l D cI cZ cR Ax _ x kk pr w wr wc ro wt nd c0 c1 c2 hh pc0 pz0 pc1 pz1 dr sd sg fd tw sw rq fw fr nr ra rd cn cl cp (xs (ix (nI i + 1))) (xs (ix (nI i + 2))) (xs (ix (nI i + 3))) (xs (ix (nI i + 4)))) (cwV 4 hts gL_law_X8_key rfl rfl rfl ⟨rfl, hd_X8_key⟩ ⟨(Nat.le_of_ble_eq_true rfl), (Nat.le_of_ble_eq_true rfl)⟩) (wr_preV hAM hPx hDx (va_recv hK hPx (ci := 6) (q0 := 0) rfl rfl)) rfl rfl hl.1 rfl (lv_room (Nat.le_of_ble_eq_true rfl)) dL_law_197 ⟨cb0, sb0⟩) hxA hS (fun v u H1 locs1 hw hPx hDx hz hk hS => ?_)
  obtain ⟨need_x, c0_x, c1_x, c2_x, hh_x⟩ := u
  try dsimp only at hw
  obtain ⟨rfl, ew0, ew1, ew2, ew3, ew4⟩ := hw
  rw [ew0, ew1, ew2, ew3, ew4] at hPx hDx
  have hPm := keepP hPm hDm hdis hk
  have hAx := fun q (hq : H1.size ≤ q) => hAx q (Nat.le_trans hz hq)
  clear hz hk
  generalize H1 = H at hPx hPm hAx hS ⊢
  refine W.eq (g2 := F0 m 200 ls [.int ((x_X8_key nd c0 c1 c2 hh nr (xs (ix (nI i + 1))) (xs (ix (nI i + 2))) (xs (ix (nI i + 3))) (xs (ix (nI i + 4)))).1)]) rfl ?_
  refine W.cs (cells' := cells) (slots' := slots) rfl rfl ?_
  refine lv_aload_n hx hb dL_law_200 rfl (lv_at hl 1 rfl) ?_
  refine lv_aload_n hx hb dL_law_201 rfl (lv_at hl 3 rfl) ?_
  refine lv_iload_n hx hb dL_law_202 rfl (lv_at hl 0 rfl) ?_
  refine lv_iconst (v := 1) hx hb dL_law_203 (by decide +kernel) ?_
  refine lv_iadd hx hb dL_law_204 ?_
  refine va_sld hx hb hX hbl hbA hS (sc_in (j := 1) hi hL (by decide) rfl) dL_law_205 ?_
  refine lv_aload_n hx hb dL_law_206 rfl (lv_at hl 3 rfl) ?_
  refine lv_iload_n hx hb dL_law_207 rfl (lv_at hl 0 rfl) ?_
  refine lv_iconst (v := 2) hx hb dL_law_208 (by decide +kernel) ?_
  refine lv_iadd hx hb dL_law_209 ?_
  refine va_sld hx hb hX hbl hbA hS (sc_in (j := 2) hi hL (by decide) rfl) dL_law_210 ?_
  refine lv_aload_n hx hb dL_law_211 rfl (lv_at hl 3 rfl) ?_
  refine lv_iload_n hx hb dL_law_212 rfl (lv_at hl 0 rfl) ?_
  refine lv_iconst (v := 3) hx hb dL_law_213 (by decide +kernel) ?_
  refine lv_iadd hx hb dL_law_214 ?_
  refine va_sld hx hb hX hbl hbA hS (sc_in (j := 3) hi hL (by decide) rfl) dL_law_215 ?_
  refine lv_aload_n hx hb dL_law_216 rfl (lv_at hl 3 rfl) ?_
  refine lv_iload_n hx hb dL_law_217 rfl (lv_at hl 0 rfl) ?_
  refine lv_iconst (v := 4) hx hb dL_law_218 (by decide +kernel) ?_
  refine lv_iadd hx hb dL_law_219 ?_
  refine va_sld hx hb hX hbl hbA hS (sc_in (j := 4) hi hL (by decide) rfl) dL_law_220 ?_
  refine wr_callF (va_runV (As := [.int (xs (ix (nI i + 1))), .int (xs (ix (nI i + 2))), .int (xs (ix (nI i + 3))), .int (xs (ix (nI i + 4)))]) (rest := [.int ((x_X8_key nd c0 c1 c2 hh nr (xs (ix (nI i + 1))) (xs (ix (nI i + 2))) (xs (ix (nI i + 3))) (xs (ix (nI i + 4)))).1)]) ⟨hx, hb, hml, hown, hts⟩ (c_X9_key l D cI cZ cR Am _ o aS aH aG aR aV aA aB aO aP aF aC nd fs fh sg fg rq fq cl nr fV fA fB fO fP fF cn fC mx (xs (ix (nI i + 1))) (xs (ix (nI i + 2))) (xs (ix (nI i + 3))) (xs (ix (nI i + 4)))) (cwV 4 hts gL_law_X9_key rfl rfl rfl ⟨rfl, hd_X9_key⟩ ⟨(Nat.le_of_ble_eq_true rfl), (Nat.le_of_ble_eq_true rfl)⟩) (wr_preV hAM hPm hDm (va_recv hK hPm (ci := 7) (q0 := 0) rfl rfl)) rfl rfl hl.1 rfl (lv_room (Nat.le_of_ble_eq_true rfl)) dL_law_221 ⟨cb0, sb0⟩) hmA hS (fun v u H1 locs1 hw hPm hDm hz hk hS => ?_)
  obtain ⟨nd_m, fs_m⟩ := u
  try dsimp only at hw
  obtain ⟨rfl, ew0, ew1⟩ := hw
  rw [ew0, ew1] at hPm hDm
  have hPx := keepP hPx hDx hdis2 hk
  have hAx := fun q (hq : H1.size ≤ q) => hAx q (Nat.le_trans hz hq)
  clear hz hk
  generalize H1 = H at hPx hPm hAx hS ⊢
  refine W.eq (g2 := F0 m 224 ls [.int ((x_X9_key nd fs nr (xs (ix (nI i + 1))) (xs (ix (nI i + 2))) (xs (ix (nI i + 3))) (xs (ix (nI i + 4)))).1), .int ((x_X8_key nd c0 c1 c2 hh nr (xs (ix (nI i + 1))) (xs (ix (nI i + 2))) (xs (ix (nI i + 3))) (xs (ix (nI i + 4)))).1)]) rfl ?_
  refine W.cs (cells' := cells) (slots' := slots) rfl rfl ?_
  have hop := op_key (nd := nd) hRL.1 hRL.2.2.2.2.1.1 hRL.2.2.2.2.1.2 (xs (ix (nI i + 1))) (xs (ix (nI i + 2))) (xs (ix (nI i + 3))) (xs (ix (nI i + 4)))
  refine lv_icmp_eq (tgt := 1511) hx hb dL_law_224 (by decide) (fun _ => ?_) (fun c9 => absurd hop.1 c9)
  rw [hop.2.1] at hPx hDx
  exact cont _ _ _ _ ⟨kk, pr, w, wr, wc, ro, wt, ((x_X9_key nd fs nr (xs (ix (nI i + 1))) (xs (ix (nI i + 2))) (xs (ix (nI i + 3))) (xs (ix (nI i + 4)))).2.1), ((x_X8_key nd c0 c1 c2 hh nr (xs (ix (nI i + 1))) (xs (ix (nI i + 2))) (xs (ix (nI i + 3))) (xs (ix (nI i + 4)))).2.2.1), ((x_X8_key nd c0 c1 c2 hh nr (xs (ix (nI i + 1))) (xs (ix (nI i + 2))) (xs (ix (nI i + 3))) (xs (ix (nI i + 4)))).2.2.2.1), ((x_X8_key nd c0 c1 c2 hh nr (xs (ix (nI i + 1))) (xs (ix (nI i + 2))) (xs (ix (nI i + 3))) (xs (ix (nI i + 4)))).2.2.2.2.1), ((x_X8_key nd c0 c1 c2 hh nr (xs (ix (nI i + 1))) (xs (ix (nI i + 2))) (xs (ix (nI i + 3))) (xs (ix (nI i + 4)))).2.2.2.2.2), pc0, pz0, pc1, pz1, dr, sd, sg, fd, tw, sw, rq, fw, fr, nr, ra, rd, cn, cl, cp, aS, aH, aG, aR, aV, aA, aB, aO, aP, aF, aC, ((x_X9_key nd fs nr (xs (ix (nI i + 1))) (xs (ix (nI i + 2))) (xs (ix (nI i + 3))) (xs (ix (nI i + 4)))).2.2), fh, fg, fq, fV, fA, fB, fO, fP, fF, fC, mx, hPx, hDx, hPm, hDm, ⟨hop.2.2.1, hRL.2.1, hRL.2.2.1, hRL.2.2.2.1, ⟨hRL.2.2.2.2.1.1, hop.2.2.2⟩, hRL.2.2.2.2.2⟩, hAx, hS, by omega, by omega⟩ ls hl

set_option maxHeartbeats 4000000 in
set_option maxRecDepth 100000 in
theorem law_holder {p : Program} {l : Launch} {e : Env} {s : State} {m : MethodId} {below : List Frame} {meth : Method} {c : Code} {D : va_G} {cI cZ cR : ClassId} {Ax Am : Nat → Prop} {b L x o N i : Nat} {xs : Nat → Int32} (hL : L ≤ 4608) (C0 : lw_At p s m meth c b L xs) (hC : LC D cI cZ cR Ax Am s) {H : Heap} {locs : List Loc} {cells slots : Nat} (hI : LI D cI cZ cR Ax Am s x o N H locs cells slots) (hN : N ≤ 512) (hi : i + 9 ≤ L) {ls : Array Slot} (hl : lv_has ls 4 [(3, .int (nI i)), (2, .ref o), (1, .ref x), (0, .ref b)])
    (cont : ∀ (H : Heap) (locs : List Loc) (cells slots : Nat), LI D cI cZ cR Ax Am s x o (N + 1) H locs cells slots → ∀ ls : Array Slot, lv_has ls 4 [(3, .int (nI i)), (2, .ref o), (1, .ref x), (0, .ref b)] → W p l e room_1 s m #[Value.ref b] below meth c H locs cells slots (lw_Z below #[Value.ref b] s) (F0 m 1511 ls [])) : W p l e room_1 s m #[Value.ref b] below meth c H locs cells slots (lw_Z below #[Value.ref b] s) (F0 m 229 ls []) := by
  obtain ⟨hx, hb, hr, hml, hown, hts0, hX, hbl, hlocks, hgv⟩ := C0
  have hts := fun w h => hts0 w (wsL_law_in w h)
  obtain ⟨hAM, hO, hdis, hxA, hmA⟩ := hC
  have hdis2 : ∀ q, Ax q → ¬ Am q := fun q h1 h2 => hdis q h2 h1
  have hK := hAM.1
  have hbA : ¬ (fun q : Nat => s.heap.size ≤ q) b := Nat.not_le.mpr hbl
  obtain ⟨kk, pr, w, wr, wc, ro, wt, nd, c0, c1, c2, hh, pc0, pz0, pc1, pz1, dr, sd, sg, fd, tw, sw, rq, fw, fr, nr, ra, rd, cn, cl, cp, aS, aH, aG, aR, aV, aA, aB, aO, aP, aF, aC, fs, fh, fg, fq, fV, fA, fB, fO, fP, fF, fC, mx, hPx, hDx, hPm, hDm, hRL, hAx, hS, hc1, hs1⟩ := hI
  have hn30 := hRL.2.2.2.2.1.1
  have hsg := hRL.2.1.1
  have hcn := hRL.2.2.2.2.2.1
  have hσ := hRL.2.2.1.2.2
  have hq := hRL.2.2.1.1
  have hV := RR_voters hRL.2.2.2.2.1.2
  have cb0 : cells + 0 ≤ room_1.cells := by show cells + 0 ≤ 600000; omega
  have sb0 : slots + 0 ≤ room_1.slots := by show slots + 0 ≤ 7302250; omega
  have cb1 : cells + 1 ≤ room_1.cells := by show cells + 1 ≤ 600000; omega
  have sb1 : slots + 6 ≤ room_1.slots := by show slots + 6 ≤ 7302250; omega
  refine lv_aload_n hx hb dL_law_229 rfl (lv_at hl 2 rfl) ?_
  refine lv_aload_n hx hb dL_law_230 rfl (lv_at hl 3 rfl) ?_
  refine lv_iload_n hx hb dL_law_231 rfl (lv_at hl 0 rfl) ?_
  refine lv_iconst (v := 1) hx hb dL_law_232 (by decide +kernel) ?_
  refine lv_iadd hx hb dL_law_233 ?_
  refine va_sld hx hb hX hbl hbA hS (sc_in (j := 1) hi hL (by decide) rfl) dL_law_234 ?_
  refine lv_aload_n hx hb dL_law_235 rfl (lv_at hl 3 rfl) ?_
  refine lv_iload_n hx hb dL_law_236 rfl (lv_at hl 0 rfl) ?_
  refine lv_iconst (v := 2) hx hb dL_law_237 (by decide +kernel) ?_
  refine lv_iadd hx hb dL_law_238 ?_
  refine va_sld hx hb hX hbl hbA hS (sc_in (j := 2) hi hL (by decide) rfl) dL_law_239 ?_
  refine ro_call (va_runV (As := [.int (xs (ix (nI i + 1))), .int (xs (ix (nI i + 2)))]) (rest := []) ⟨hx, hb, hml, hown, hts⟩ (c_X8_holder l D cI cZ cR _ x kk pr dr sd w wr wc ro wt tw sw nd c0 c1 c2 hh pc0 pz0 pc1 pz1 dr sd sg fd tw sw rq fw fr nr ra rd cn cl cp (xs (ix (nI i + 1))) (xs (ix (nI i + 2)))) (cwV 2 hts gL_law_X8_holder rfl rfl rfl ⟨rfl, hd_X8_holder⟩ ⟨(Nat.le_of_ble_eq_true rfl), (Nat.le_of_ble_eq_true rfl)⟩) (po_preV hAM hPx (va_recv hK hPx (ci := 6) (q0 := 0) rfl rfl)) rfl rfl hl.1 rfl (lv_room (Nat.le_of_ble_eq_true rfl)) dL_law_240 ⟨cb0, sb0⟩) ?_
  refine lv_aload_n hx hb dL_law_243 rfl (lv_at hl 1 rfl) ?_
  refine lv_aload_n hx hb dL_law_244 rfl (lv_at hl 3 rfl) ?_
  refine lv_iload_n hx hb dL_law_245 rfl (lv_at hl 0 rfl) ?_
  refine lv_iconst (v := 1) hx hb dL_law_246 (by decide +kernel) ?_
  refine lv_iadd hx hb dL_law_247 ?_
  refine va_sld hx hb hX hbl hbA hS (sc_in (j := 1) hi hL (by decide) rfl) dL_law_248 ?_
  refine lv_aload_n hx hb dL_law_249 rfl (lv_at hl 3 rfl) ?_
  refine lv_iload_n hx hb dL_law_250 rfl (lv_at hl 0 rfl) ?_
  refine lv_iconst (v := 2) hx hb dL_law_251 (by decide +kernel) ?_
  refine lv_iadd hx hb dL_law_252 ?_
  refine va_sld hx hb hX hbl hbA hS (sc_in (j := 2) hi hL (by decide) rfl) dL_law_253 ?_
  refine ro_call (va_runV (As := [.int (xs (ix (nI i + 1))), .int (xs (ix (nI i + 2)))]) (rest := [.int (x_X8_holder c0 c1 c2 (xs (ix (nI i + 1))) (xs (ix (nI i + 2))))]) ⟨hx, hb, hml, hown, hts⟩ (c_X9_holder l D cI cZ cR _ o aS aH aG aR aV aA aB aO aP aF aC nd fs fh sg fg rq fq cl nr fV fA fB fO fP fF cn fC mx (xs (ix (nI i + 1))) (xs (ix (nI i + 2)))) (cwV 2 hts gL_law_X9_holder rfl rfl rfl ⟨rfl, hd_X9_holder⟩ ⟨(Nat.le_of_ble_eq_true rfl), (Nat.le_of_ble_eq_true rfl)⟩) (po_preV hAM hPm (va_recv hK hPm (ci := 7) (q0 := 0) rfl rfl)) rfl rfl hl.1 rfl (lv_room (Nat.le_of_ble_eq_true rfl)) dL_law_254 ⟨cb0, sb0⟩) ?_
  refine lv_icmp_eq (tgt := 1511) hx hb dL_law_257 (by decide) (fun _ => ?_) (fun c9 => absurd (holder_eq hRL.1 _ _) c9)
  exact cont _ _ _ _ ⟨kk, pr, w, wr, wc, ro, wt, nd, c0, c1, c2, hh, pc0, pz0, pc1, pz1, dr, sd, sg, fd, tw, sw, rq, fw, fr, nr, ra, rd, cn, cl, cp, aS, aH, aG, aR, aV, aA, aB, aO, aP, aF, aC, fs, fh, fg, fq, fV, fA, fB, fO, fP, fF, fC, mx, hPx, hDx, hPm, hDm, hRL, hAx, hS, by omega, by omega⟩ ls hl

set_option maxHeartbeats 4000000 in
set_option maxRecDepth 100000 in
theorem law_seal {p : Program} {l : Launch} {e : Env} {s : State} {m : MethodId} {below : List Frame} {meth : Method} {c : Code} {D : va_G} {cI cZ cR : ClassId} {Ax Am : Nat → Prop} {b L x o N i : Nat} {xs : Nat → Int32} (hL : L ≤ 4608) (C0 : lw_At p s m meth c b L xs) (hC : LC D cI cZ cR Ax Am s) {H : Heap} {locs : List Loc} {cells slots : Nat} (hI : LI D cI cZ cR Ax Am s x o N H locs cells slots) (hN : N ≤ 512) (hi : i + 9 ≤ L) {ls : Array Slot} (hl : lv_has ls 4 [(3, .int (nI i)), (2, .ref o), (1, .ref x), (0, .ref b)])
    (cont : ∀ (H : Heap) (locs : List Loc) (cells slots : Nat), LI D cI cZ cR Ax Am s x o (N + 1) H locs cells slots → ∀ ls : Array Slot, lv_has ls 4 [(3, .int (nI i)), (2, .ref o), (1, .ref x), (0, .ref b)] → W p l e room_1 s m #[Value.ref b] below meth c H locs cells slots (lw_Z below #[Value.ref b] s) (F0 m 1511 ls [])) : W p l e room_1 s m #[Value.ref b] below meth c H locs cells slots (lw_Z below #[Value.ref b] s) (F0 m 262 ls []) := by
  obtain ⟨hx, hb, hr, hml, hown, hts0, hX, hbl, hlocks, hgv⟩ := C0
  have hts := fun w h => hts0 w (wsL_law_in w h)
  obtain ⟨hAM, hO, hdis, hxA, hmA⟩ := hC
  have hdis2 : ∀ q, Ax q → ¬ Am q := fun q h1 h2 => hdis q h2 h1
  have hK := hAM.1
  have hbA : ¬ (fun q : Nat => s.heap.size ≤ q) b := Nat.not_le.mpr hbl
  obtain ⟨kk, pr, w, wr, wc, ro, wt, nd, c0, c1, c2, hh, pc0, pz0, pc1, pz1, dr, sd, sg, fd, tw, sw, rq, fw, fr, nr, ra, rd, cn, cl, cp, aS, aH, aG, aR, aV, aA, aB, aO, aP, aF, aC, fs, fh, fg, fq, fV, fA, fB, fO, fP, fF, fC, mx, hPx, hDx, hPm, hDm, hRL, hAx, hS, hc1, hs1⟩ := hI
  have hn30 := hRL.2.2.2.2.1.1
  have hsg := hRL.2.1.1
  have hcn := hRL.2.2.2.2.2.1
  have hσ := hRL.2.2.1.2.2
  have hq := hRL.2.2.1.1
  have hV := RR_voters hRL.2.2.2.2.1.2
  have cb0 : cells + 0 ≤ room_1.cells := by show cells + 0 ≤ 600000; omega
  have sb0 : slots + 0 ≤ room_1.slots := by show slots + 0 ≤ 7302250; omega
  have cb1 : cells + 1 ≤ room_1.cells := by show cells + 1 ≤ 600000; omega
  have sb1 : slots + 6 ≤ room_1.slots := by show slots + 6 ≤ 7302250; omega
  refine lv_aload_n hx hb dL_law_262 rfl (lv_at hl 2 rfl) ?_
  refine lv_aload_n hx hb dL_law_263 rfl (lv_at hl 3 rfl) ?_
  refine lv_iload_n hx hb dL_law_264 rfl (lv_at hl 0 rfl) ?_
  refine lv_iconst (v := 1) hx hb dL_law_265 (by decide +kernel) ?_
  refine lv_iadd hx hb dL_law_266 ?_
  refine va_sld hx hb hX hbl hbA hS (sc_in (j := 1) hi hL (by decide) rfl) dL_law_267 ?_
  refine lv_aload_n hx hb dL_law_268 rfl (lv_at hl 3 rfl) ?_
  refine lv_iload_n hx hb dL_law_269 rfl (lv_at hl 0 rfl) ?_
  refine lv_iconst (v := 2) hx hb dL_law_270 (by decide +kernel) ?_
  refine lv_iadd hx hb dL_law_271 ?_
  refine va_sld hx hb hX hbl hbA hS (sc_in (j := 2) hi hL (by decide) rfl) dL_law_272 ?_
  refine lv_aload_n hx hb dL_law_273 rfl (lv_at hl 3 rfl) ?_
  refine lv_iload_n hx hb dL_law_274 rfl (lv_at hl 0 rfl) ?_
  refine lv_iconst (v := 3) hx hb dL_law_275 (by decide +kernel) ?_
  refine lv_iadd hx hb dL_law_276 ?_
  refine va_sld hx hb hX hbl hbA hS (sc_in (j := 3) hi hL (by decide) rfl) dL_law_277 ?_
  refine ro_call (va_runV (As := [.int (xs (ix (nI i + 1))), .int (xs (ix (nI i + 2))), .int (xs (ix (nI i + 3)))]) (rest := []) ⟨hx, hb, hml, hown, hts⟩ (c_X8_seal l D cI cZ cR _ x kk pr dr sd w wr wc ro wt tw sw nd c0 c1 c2 hh pc0 pz0 pc1 pz1 dr sd sg fd tw sw rq fw fr nr ra rd cn cl cp (xs (ix (nI i + 1))) (xs (ix (nI i + 2))) (xs (ix (nI i + 3)))) (cwV 3 hts gL_law_X8_seal rfl rfl rfl ⟨rfl, hd_X8_seal⟩ ⟨(Nat.le_of_ble_eq_true rfl), (Nat.le_of_ble_eq_true rfl)⟩) (po_preV hAM hPx (va_recv hK hPx (ci := 6) (q0 := 0) rfl rfl)) rfl rfl hl.1 rfl (lv_room (Nat.le_of_ble_eq_true rfl)) dL_law_278 ⟨cb0, sb0⟩) ?_
  refine lv_aload_n hx hb dL_law_281 rfl (lv_at hl 1 rfl) ?_
  refine lv_aload_n hx hb dL_law_282 rfl (lv_at hl 3 rfl) ?_
  refine lv_iload_n hx hb dL_law_283 rfl (lv_at hl 0 rfl) ?_
  refine lv_iconst (v := 1) hx hb dL_law_284 (by decide +kernel) ?_
  refine lv_iadd hx hb dL_law_285 ?_
  refine va_sld hx hb hX hbl hbA hS (sc_in (j := 1) hi hL (by decide) rfl) dL_law_286 ?_
  refine lv_aload_n hx hb dL_law_287 rfl (lv_at hl 3 rfl) ?_
  refine lv_iload_n hx hb dL_law_288 rfl (lv_at hl 0 rfl) ?_
  refine lv_iconst (v := 2) hx hb dL_law_289 (by decide +kernel) ?_
  refine lv_iadd hx hb dL_law_290 ?_
  refine va_sld hx hb hX hbl hbA hS (sc_in (j := 2) hi hL (by decide) rfl) dL_law_291 ?_
  refine lv_aload_n hx hb dL_law_292 rfl (lv_at hl 3 rfl) ?_
  refine lv_iload_n hx hb dL_law_293 rfl (lv_at hl 0 rfl) ?_
  refine lv_iconst (v := 3) hx hb dL_law_294 (by decide +kernel) ?_
  refine lv_iadd hx hb dL_law_295 ?_
  refine va_sld hx hb hX hbl hbA hS (sc_in (j := 3) hi hL (by decide) rfl) dL_law_296 ?_
  refine ro_call (va_runV (As := [.int (xs (ix (nI i + 1))), .int (xs (ix (nI i + 2))), .int (xs (ix (nI i + 3)))]) (rest := [.int (x_X8_seal hh (xs (ix (nI i + 1))) (xs (ix (nI i + 2))) (xs (ix (nI i + 3))))]) ⟨hx, hb, hml, hown, hts⟩ (c_X9_seal l D cI cZ cR _ o aS aH aG aR aV aA aB aO aP aF aC nd fs fh sg fg rq fq cl nr fV fA fB fO fP fF cn fC mx (xs (ix (nI i + 1))) (xs (ix (nI i + 2))) (xs (ix (nI i + 3)))) (cwV 3 hts gL_law_X9_seal rfl rfl rfl ⟨rfl, hd_X9_seal⟩ ⟨(Nat.le_of_ble_eq_true rfl), (Nat.le_of_ble_eq_true rfl)⟩) (po_preV hAM hPm (va_recv hK hPm (ci := 7) (q0 := 0) rfl rfl)) rfl rfl hl.1 rfl (lv_room (Nat.le_of_ble_eq_true rfl)) dL_law_297 ⟨cb0, sb0⟩) ?_
  refine lv_icmp_eq (tgt := 1511) hx hb dL_law_300 (by decide) (fun _ => ?_) (fun c9 => absurd (seal_eq hRL.1 _ _ _) c9)
  exact cont _ _ _ _ ⟨kk, pr, w, wr, wc, ro, wt, nd, c0, c1, c2, hh, pc0, pz0, pc1, pz1, dr, sd, sg, fd, tw, sw, rq, fw, fr, nr, ra, rd, cn, cl, cp, aS, aH, aG, aR, aV, aA, aB, aO, aP, aF, aC, fs, fh, fg, fq, fV, fA, fB, fO, fP, fF, fC, mx, hPx, hDx, hPm, hDm, hRL, hAx, hS, by omega, by omega⟩ ls hl

set_option maxHeartbeats 4000000 in
set_option maxRecDepth 100000 in
theorem law_right {p : Program} {l : Launch} {e : Env} {s : State} {m : MethodId} {below : List Frame} {meth : Method} {c : Code} {D : va_G} {cI cZ cR : ClassId} {Ax Am : Nat → Prop} {b L x o N i : Nat} {xs : Nat → Int32} (hL : L ≤ 4608) (C0 : lw_At p s m meth c b L xs) (hC : LC D cI cZ cR Ax Am s) {H : Heap} {locs : List Loc} {cells slots : Nat} (hI : LI D cI cZ cR Ax Am s x o N H locs cells slots) (hN : N ≤ 512) (hi : i + 9 ≤ L) {ls : Array Slot} (hl : lv_has ls 4 [(3, .int (nI i)), (2, .ref o), (1, .ref x), (0, .ref b)])
    (cont : ∀ (H : Heap) (locs : List Loc) (cells slots : Nat), LI D cI cZ cR Ax Am s x o (N + 1) H locs cells slots → ∀ ls : Array Slot, lv_has ls 4 [(3, .int (nI i)), (2, .ref o), (1, .ref x), (0, .ref b)] → W p l e room_1 s m #[Value.ref b] below meth c H locs cells slots (lw_Z below #[Value.ref b] s) (F0 m 1511 ls [])) : W p l e room_1 s m #[Value.ref b] below meth c H locs cells slots (lw_Z below #[Value.ref b] s) (F0 m 305 ls []) := by
  obtain ⟨hx, hb, hr, hml, hown, hts0, hX, hbl, hlocks, hgv⟩ := C0
  have hts := fun w h => hts0 w (wsL_law_in w h)
  obtain ⟨hAM, hO, hdis, hxA, hmA⟩ := hC
  have hdis2 : ∀ q, Ax q → ¬ Am q := fun q h1 h2 => hdis q h2 h1
  have hK := hAM.1
  have hbA : ¬ (fun q : Nat => s.heap.size ≤ q) b := Nat.not_le.mpr hbl
  obtain ⟨kk, pr, w, wr, wc, ro, wt, nd, c0, c1, c2, hh, pc0, pz0, pc1, pz1, dr, sd, sg, fd, tw, sw, rq, fw, fr, nr, ra, rd, cn, cl, cp, aS, aH, aG, aR, aV, aA, aB, aO, aP, aF, aC, fs, fh, fg, fq, fV, fA, fB, fO, fP, fF, fC, mx, hPx, hDx, hPm, hDm, hRL, hAx, hS, hc1, hs1⟩ := hI
  have hn30 := hRL.2.2.2.2.1.1
  have hsg := hRL.2.1.1
  have hcn := hRL.2.2.2.2.2.1
  have hσ := hRL.2.2.1.2.2
  have hq := hRL.2.2.1.1
  have hV := RR_voters hRL.2.2.2.2.1.2
  have cb0 : cells + 0 ≤ room_1.cells := by show cells + 0 ≤ 600000; omega
  have sb0 : slots + 0 ≤ room_1.slots := by show slots + 0 ≤ 7302250; omega
  have cb1 : cells + 1 ≤ room_1.cells := by show cells + 1 ≤ 600000; omega
  have sb1 : slots + 6 ≤ room_1.slots := by show slots + 6 ≤ 7302250; omega
  refine lv_aload_n hx hb dL_law_305 rfl (lv_at hl 2 rfl) ?_
  refine lv_aload_n hx hb dL_law_306 rfl (lv_at hl 3 rfl) ?_
  refine lv_iload_n hx hb dL_law_307 rfl (lv_at hl 0 rfl) ?_
  refine lv_iconst (v := 1) hx hb dL_law_308 (by decide +kernel) ?_
  refine lv_iadd hx hb dL_law_309 ?_
  refine va_sld hx hb hX hbl hbA hS (sc_in (j := 1) hi hL (by decide) rfl) dL_law_310 ?_
  refine lv_aload_n hx hb dL_law_311 rfl (lv_at hl 3 rfl) ?_
  refine lv_iload_n hx hb dL_law_312 rfl (lv_at hl 0 rfl) ?_
  refine lv_iconst (v := 2) hx hb dL_law_313 (by decide +kernel) ?_
  refine lv_iadd hx hb dL_law_314 ?_
  refine va_sld hx hb hX hbl hbA hS (sc_in (j := 2) hi hL (by decide) rfl) dL_law_315 ?_
  refine ro_call (va_runV (As := [.int (xs (ix (nI i + 1))), .int (xs (ix (nI i + 2)))]) (rest := []) ⟨hx, hb, hml, hown, hts⟩ (c_X8_right l D cI cZ cR _ x kk pr dr sd w wr wc ro wt tw sw nd c0 c1 c2 hh pc0 pz0 pc1 pz1 dr sd sg fd tw sw rq fw fr nr ra rd cn cl cp (xs (ix (nI i + 1))) (xs (ix (nI i + 2)))) (cwV 2 hts gL_law_X8_right rfl rfl rfl ⟨rfl, hd_X8_right⟩ ⟨(Nat.le_of_ble_eq_true rfl), (Nat.le_of_ble_eq_true rfl)⟩) (po_preV hAM hPx (va_recv hK hPx (ci := 6) (q0 := 0) rfl rfl)) rfl rfl hl.1 rfl (lv_room (Nat.le_of_ble_eq_true rfl)) dL_law_316 ⟨cb0, sb0⟩) ?_
  refine lv_aload_n hx hb dL_law_319 rfl (lv_at hl 1 rfl) ?_
  refine lv_aload_n hx hb dL_law_320 rfl (lv_at hl 3 rfl) ?_
  refine lv_iload_n hx hb dL_law_321 rfl (lv_at hl 0 rfl) ?_
  refine lv_iconst (v := 1) hx hb dL_law_322 (by decide +kernel) ?_
  refine lv_iadd hx hb dL_law_323 ?_
  refine va_sld hx hb hX hbl hbA hS (sc_in (j := 1) hi hL (by decide) rfl) dL_law_324 ?_
  refine lv_aload_n hx hb dL_law_325 rfl (lv_at hl 3 rfl) ?_
  refine lv_iload_n hx hb dL_law_326 rfl (lv_at hl 0 rfl) ?_
  refine lv_iconst (v := 2) hx hb dL_law_327 (by decide +kernel) ?_
  refine lv_iadd hx hb dL_law_328 ?_
  refine va_sld hx hb hX hbl hbA hS (sc_in (j := 2) hi hL (by decide) rfl) dL_law_329 ?_
  refine ro_call (va_runV (As := [.int (xs (ix (nI i + 1))), .int (xs (ix (nI i + 2)))]) (rest := [.int (x_X8_right (xs (ix (nI i + 1))) (xs (ix (nI i + 2))))]) ⟨hx, hb, hml, hown, hts⟩ (c_X9_right l D cI cZ cR _ o aS aH aG aR aV aA aB aO aP aF aC nd fs fh sg fg rq fq cl nr fV fA fB fO fP fF cn fC mx (xs (ix (nI i + 1))) (xs (ix (nI i + 2)))) (cwV 2 hts gL_law_X9_right rfl rfl rfl ⟨rfl, hd_X9_right⟩ ⟨(Nat.le_of_ble_eq_true rfl), (Nat.le_of_ble_eq_true rfl)⟩) (po_preV hAM hPm (va_recv hK hPm (ci := 7) (q0 := 0) rfl rfl)) rfl rfl hl.1 rfl (lv_room (Nat.le_of_ble_eq_true rfl)) dL_law_330 ⟨cb0, sb0⟩) ?_
  refine lv_icmp_eq (tgt := 1511) hx hb dL_law_333 (by decide) (fun _ => ?_) (fun c9 => absurd (rightI_eq _ _) c9)
  exact cont _ _ _ _ ⟨kk, pr, w, wr, wc, ro, wt, nd, c0, c1, c2, hh, pc0, pz0, pc1, pz1, dr, sd, sg, fd, tw, sw, rq, fw, fr, nr, ra, rd, cn, cl, cp, aS, aH, aG, aR, aV, aA, aB, aO, aP, aF, aC, fs, fh, fg, fq, fV, fA, fB, fO, fP, fF, fC, mx, hPx, hDx, hPm, hDm, hRL, hAx, hS, by omega, by omega⟩ ls hl

set_option maxHeartbeats 4000000 in
set_option maxRecDepth 100000 in
theorem law_open {p : Program} {l : Launch} {e : Env} {s : State} {m : MethodId} {below : List Frame} {meth : Method} {c : Code} {D : va_G} {cI cZ cR : ClassId} {Ax Am : Nat → Prop} {b L x o N i : Nat} {xs : Nat → Int32} (hL : L ≤ 4608) (C0 : lw_At p s m meth c b L xs) (hC : LC D cI cZ cR Ax Am s) {H : Heap} {locs : List Loc} {cells slots : Nat} (hI : LI D cI cZ cR Ax Am s x o N H locs cells slots) (hN : N ≤ 512) (hi : i + 9 ≤ L) {ls : Array Slot} (hl : lv_has ls 4 [(3, .int (nI i)), (2, .ref o), (1, .ref x), (0, .ref b)])
    (cont : ∀ (H : Heap) (locs : List Loc) (cells slots : Nat), LI D cI cZ cR Ax Am s x o (N + 1) H locs cells slots → ∀ ls : Array Slot, lv_has ls 4 [(3, .int (nI i)), (2, .ref o), (1, .ref x), (0, .ref b)] → W p l e room_1 s m #[Value.ref b] below meth c H locs cells slots (lw_Z below #[Value.ref b] s) (F0 m 1511 ls [])) : W p l e room_1 s m #[Value.ref b] below meth c H locs cells slots (lw_Z below #[Value.ref b] s) (F0 m 338 ls []) := by
  obtain ⟨hx, hb, hr, hml, hown, hts0, hX, hbl, hlocks, hgv⟩ := C0
  have hts := fun w h => hts0 w (wsL_law_in w h)
  obtain ⟨hAM, hO, hdis, hxA, hmA⟩ := hC
  have hdis2 : ∀ q, Ax q → ¬ Am q := fun q h1 h2 => hdis q h2 h1
  have hK := hAM.1
  have hbA : ¬ (fun q : Nat => s.heap.size ≤ q) b := Nat.not_le.mpr hbl
  obtain ⟨kk, pr, w, wr, wc, ro, wt, nd, c0, c1, c2, hh, pc0, pz0, pc1, pz1, dr, sd, sg, fd, tw, sw, rq, fw, fr, nr, ra, rd, cn, cl, cp, aS, aH, aG, aR, aV, aA, aB, aO, aP, aF, aC, fs, fh, fg, fq, fV, fA, fB, fO, fP, fF, fC, mx, hPx, hDx, hPm, hDm, hRL, hAx, hS, hc1, hs1⟩ := hI
  have hn30 := hRL.2.2.2.2.1.1
  have hsg := hRL.2.1.1
  have hcn := hRL.2.2.2.2.2.1
  have hσ := hRL.2.2.1.2.2
  have hq := hRL.2.2.1.1
  have hV := RR_voters hRL.2.2.2.2.1.2
  have cb0 : cells + 0 ≤ room_1.cells := by show cells + 0 ≤ 600000; omega
  have sb0 : slots + 0 ≤ room_1.slots := by show slots + 0 ≤ 7302250; omega
  have cb1 : cells + 1 ≤ room_1.cells := by show cells + 1 ≤ 600000; omega
  have sb1 : slots + 6 ≤ room_1.slots := by show slots + 6 ≤ 7302250; omega
  refine lv_aload_n hx hb dL_law_338 rfl (lv_at hl 2 rfl) ?_
  refine lv_aload_n hx hb dL_law_339 rfl (lv_at hl 3 rfl) ?_
  refine lv_iload_n hx hb dL_law_340 rfl (lv_at hl 0 rfl) ?_
  refine lv_iconst (v := 1) hx hb dL_law_341 (by decide +kernel) ?_
  refine lv_iadd hx hb dL_law_342 ?_
  refine va_sld hx hb hX hbl hbA hS (sc_in (j := 1) hi hL (by decide) rfl) dL_law_343 ?_
  refine lv_aload_n hx hb dL_law_344 rfl (lv_at hl 3 rfl) ?_
  refine lv_iload_n hx hb dL_law_345 rfl (lv_at hl 0 rfl) ?_
  refine lv_iconst (v := 2) hx hb dL_law_346 (by decide +kernel) ?_
  refine lv_iadd hx hb dL_law_347 ?_
  refine va_sld hx hb hX hbl hbA hS (sc_in (j := 2) hi hL (by decide) rfl) dL_law_348 ?_
  refine ro_call (va_runV (As := [.int (xs (ix (nI i + 1))), .int (xs (ix (nI i + 2)))]) (rest := []) ⟨hx, hb, hml, hown, hts⟩ (c_X8_open l D cI cZ cR _ x kk pr dr sd w wr wc ro wt tw sw nd c0 c1 c2 hh pc0 pz0 pc1 pz1 dr sd sg fd tw sw rq fw fr nr ra rd cn cl cp (xs (ix (nI i + 1))) (xs (ix (nI i + 2)))) (cwV 2 hts gL_law_X8_open rfl rfl rfl ⟨rfl, hd_X8_open⟩ ⟨(Nat.le_of_ble_eq_true rfl), (Nat.le_of_ble_eq_true rfl)⟩) (po_preV hAM hPx (va_recv hK hPx (ci := 6) (q0 := 0) rfl rfl)) rfl rfl hl.1 rfl (lv_room (Nat.le_of_ble_eq_true rfl)) dL_law_349 ⟨cb0, sb0⟩) ?_
  refine lv_aload_n hx hb dL_law_352 rfl (lv_at hl 1 rfl) ?_
  refine lv_aload_n hx hb dL_law_353 rfl (lv_at hl 3 rfl) ?_
  refine lv_iload_n hx hb dL_law_354 rfl (lv_at hl 0 rfl) ?_
  refine lv_iconst (v := 1) hx hb dL_law_355 (by decide +kernel) ?_
  refine lv_iadd hx hb dL_law_356 ?_
  refine va_sld hx hb hX hbl hbA hS (sc_in (j := 1) hi hL (by decide) rfl) dL_law_357 ?_
  refine lv_aload_n hx hb dL_law_358 rfl (lv_at hl 3 rfl) ?_
  refine lv_iload_n hx hb dL_law_359 rfl (lv_at hl 0 rfl) ?_
  refine lv_iconst (v := 2) hx hb dL_law_360 (by decide +kernel) ?_
  refine lv_iadd hx hb dL_law_361 ?_
  refine va_sld hx hb hX hbl hbA hS (sc_in (j := 2) hi hL (by decide) rfl) dL_law_362 ?_
  refine ro_call (va_runV (As := [.int (xs (ix (nI i + 1))), .int (xs (ix (nI i + 2)))]) (rest := [.int (x_X8_open c0 c1 c2 (xs (ix (nI i + 1))) (xs (ix (nI i + 2))))]) ⟨hx, hb, hml, hown, hts⟩ (c_X9_open l D cI cZ cR _ o aS aH aG aR aV aA aB aO aP aF aC nd fs fh sg fg rq fq cl nr fV fA fB fO fP fF cn fC mx (xs (ix (nI i + 1))) (xs (ix (nI i + 2)))) (cwV 2 hts gL_law_X9_open rfl rfl rfl ⟨rfl, hd_X9_open⟩ ⟨(Nat.le_of_ble_eq_true rfl), (Nat.le_of_ble_eq_true rfl)⟩) (po_preV hAM hPm (va_recv hK hPm (ci := 7) (q0 := 0) rfl rfl)) rfl rfl hl.1 rfl (lv_room (Nat.le_of_ble_eq_true rfl)) dL_law_363 ⟨cb0, sb0⟩) ?_
  refine lv_icmp_eq (tgt := 1511) hx hb dL_law_366 (by decide) (fun _ => ?_) (fun c9 => absurd (open_eq hRL.1 _ _) c9)
  exact cont _ _ _ _ ⟨kk, pr, w, wr, wc, ro, wt, nd, c0, c1, c2, hh, pc0, pz0, pc1, pz1, dr, sd, sg, fd, tw, sw, rq, fw, fr, nr, ra, rd, cn, cl, cp, aS, aH, aG, aR, aV, aA, aB, aO, aP, aF, aC, fs, fh, fg, fq, fV, fA, fB, fO, fP, fF, fC, mx, hPx, hDx, hPm, hDm, hRL, hAx, hS, by omega, by omega⟩ ls hl

set_option maxHeartbeats 4000000 in
set_option maxRecDepth 100000 in
theorem law_weight {p : Program} {l : Launch} {e : Env} {s : State} {m : MethodId} {below : List Frame} {meth : Method} {c : Code} {D : va_G} {cI cZ cR : ClassId} {Ax Am : Nat → Prop} {b L x o N i : Nat} {xs : Nat → Int32} (hL : L ≤ 4608) (C0 : lw_At p s m meth c b L xs) (hC : LC D cI cZ cR Ax Am s) {H : Heap} {locs : List Loc} {cells slots : Nat} (hI : LI D cI cZ cR Ax Am s x o N H locs cells slots) (hN : N ≤ 512) (hi : i + 9 ≤ L) {ls : Array Slot} (hl : lv_has ls 4 [(3, .int (nI i)), (2, .ref o), (1, .ref x), (0, .ref b)])
    (cont : ∀ (H : Heap) (locs : List Loc) (cells slots : Nat), LI D cI cZ cR Ax Am s x o (N + 1) H locs cells slots → ∀ ls : Array Slot, lv_has ls 4 [(3, .int (nI i)), (2, .ref o), (1, .ref x), (0, .ref b)] → W p l e room_1 s m #[Value.ref b] below meth c H locs cells slots (lw_Z below #[Value.ref b] s) (F0 m 1511 ls [])) : W p l e room_1 s m #[Value.ref b] below meth c H locs cells slots (lw_Z below #[Value.ref b] s) (F0 m 371 ls []) := by
  obtain ⟨hx, hb, hr, hml, hown, hts0, hX, hbl, hlocks, hgv⟩ := C0
  have hts := fun w h => hts0 w (wsL_law_in w h)
  obtain ⟨hAM, hO, hdis, hxA, hmA⟩ := hC
  have hdis2 : ∀ q, Ax q → ¬ Am q := fun q h1 h2 => hdis q h2 h1
  have hK := hAM.1
  have hbA : ¬ (fun q : Nat => s.heap.size ≤ q) b := Nat.not_le.mpr hbl
  obtain ⟨kk, pr, w, wr, wc, ro, wt, nd, c0, c1, c2, hh, pc0, pz0, pc1, pz1, dr, sd, sg, fd, tw, sw, rq, fw, fr, nr, ra, rd, cn, cl, cp, aS, aH, aG, aR, aV, aA, aB, aO, aP, aF, aC, fs, fh, fg, fq, fV, fA, fB, fO, fP, fF, fC, mx, hPx, hDx, hPm, hDm, hRL, hAx, hS, hc1, hs1⟩ := hI
  have hn30 := hRL.2.2.2.2.1.1
  have hsg := hRL.2.1.1
  have hcn := hRL.2.2.2.2.2.1
  have hσ := hRL.2.2.1.2.2
  have hq := hRL.2.2.1.1
  have hV := RR_voters hRL.2.2.2.2.1.2
  have cb0 : cells + 0 ≤ room_1.cells := by show cells + 0 ≤ 600000; omega
  have sb0 : slots + 0 ≤ room_1.slots := by show slots + 0 ≤ 7302250; omega
  have cb1 : cells + 1 ≤ room_1.cells := by show cells + 1 ≤ 600000; omega
  have sb1 : slots + 6 ≤ room_1.slots := by show slots + 6 ≤ 7302250; omega
  refine lv_aload_n hx hb dL_law_371 rfl (lv_at hl 2 rfl) ?_
  refine lv_aload_n hx hb dL_law_372 rfl (lv_at hl 3 rfl) ?_
  refine lv_iload_n hx hb dL_law_373 rfl (lv_at hl 0 rfl) ?_
  refine lv_iconst (v := 1) hx hb dL_law_374 (by decide +kernel) ?_
  refine lv_iadd hx hb dL_law_375 ?_
  refine va_sld hx hb hX hbl hbA hS (sc_in (j := 1) hi hL (by decide) rfl) dL_law_376 ?_
  refine lv_aload_n hx hb dL_law_377 rfl (lv_at hl 3 rfl) ?_
  refine lv_iload_n hx hb dL_law_378 rfl (lv_at hl 0 rfl) ?_
  refine lv_iconst (v := 2) hx hb dL_law_379 (by decide +kernel) ?_
  refine lv_iadd hx hb dL_law_380 ?_
  refine va_sld hx hb hX hbl hbA hS (sc_in (j := 2) hi hL (by decide) rfl) dL_law_381 ?_
  refine ro_call (va_runV (As := [.int (xs (ix (nI i + 1))), .int (xs (ix (nI i + 2)))]) (rest := []) ⟨hx, hb, hml, hown, hts⟩ (c_X8_weight l D cI cZ cR _ x kk pr dr sd w wr wc ro wt tw sw nd c0 c1 c2 hh pc0 pz0 pc1 pz1 dr sd sg fd tw sw rq fw fr nr ra rd cn cl cp (xs (ix (nI i + 1))) (xs (ix (nI i + 2)))) (cwV 2 hts gL_law_X8_weight rfl rfl rfl ⟨rfl, hd_X8_weight⟩ ⟨(Nat.le_of_ble_eq_true rfl), (Nat.le_of_ble_eq_true rfl)⟩) (po_preV hAM hPx (va_recv hK hPx (ci := 6) (q0 := 0) rfl rfl)) rfl rfl hl.1 rfl (lv_room (Nat.le_of_ble_eq_true rfl)) dL_law_382 ⟨cb0, sb0⟩) ?_
  refine lv_aload_n hx hb dL_law_385 rfl (lv_at hl 1 rfl) ?_
  refine lv_aload_n hx hb dL_law_386 rfl (lv_at hl 3 rfl) ?_
  refine lv_iload_n hx hb dL_law_387 rfl (lv_at hl 0 rfl) ?_
  refine lv_iconst (v := 1) hx hb dL_law_388 (by decide +kernel) ?_
  refine lv_iadd hx hb dL_law_389 ?_
  refine va_sld hx hb hX hbl hbA hS (sc_in (j := 1) hi hL (by decide) rfl) dL_law_390 ?_
  refine lv_aload_n hx hb dL_law_391 rfl (lv_at hl 3 rfl) ?_
  refine lv_iload_n hx hb dL_law_392 rfl (lv_at hl 0 rfl) ?_
  refine lv_iconst (v := 2) hx hb dL_law_393 (by decide +kernel) ?_
  refine lv_iadd hx hb dL_law_394 ?_
  refine va_sld hx hb hX hbl hbA hS (sc_in (j := 2) hi hL (by decide) rfl) dL_law_395 ?_
  refine ro_call (va_runV (As := [.int (xs (ix (nI i + 1))), .int (xs (ix (nI i + 2)))]) (rest := [.int (x_X8_weight (xs (ix (nI i + 1))) (xs (ix (nI i + 2))))]) ⟨hx, hb, hml, hown, hts⟩ (c_X9_weight l D cI cZ cR _ o aS aH aG aR aV aA aB aO aP aF aC nd fs fh sg fg rq fq cl nr fV fA fB fO fP fF cn fC mx (xs (ix (nI i + 1))) (xs (ix (nI i + 2)))) (cwV 2 hts gL_law_X9_weight rfl rfl rfl ⟨rfl, hd_X9_weight⟩ ⟨(Nat.le_of_ble_eq_true rfl), (Nat.le_of_ble_eq_true rfl)⟩) (po_preV hAM hPm (va_recv hK hPm (ci := 7) (q0 := 0) rfl rfl)) rfl rfl hl.1 rfl (lv_room (Nat.le_of_ble_eq_true rfl)) dL_law_396 ⟨cb0, sb0⟩) ?_
  refine lv_icmp_eq (tgt := 1511) hx hb dL_law_399 (by decide) (fun _ => ?_) (fun c9 => absurd (weight_eq _ _) c9)
  exact cont _ _ _ _ ⟨kk, pr, w, wr, wc, ro, wt, nd, c0, c1, c2, hh, pc0, pz0, pc1, pz1, dr, sd, sg, fd, tw, sw, rq, fw, fr, nr, ra, rd, cn, cl, cp, aS, aH, aG, aR, aV, aA, aB, aO, aP, aF, aC, fs, fh, fg, fq, fV, fA, fB, fO, fP, fF, fC, mx, hPx, hDx, hPm, hDm, hRL, hAx, hS, by omega, by omega⟩ ls hl

set_option maxHeartbeats 4000000 in
set_option maxRecDepth 100000 in
theorem law_opened {p : Program} {l : Launch} {e : Env} {s : State} {m : MethodId} {below : List Frame} {meth : Method} {c : Code} {D : va_G} {cI cZ cR : ClassId} {Ax Am : Nat → Prop} {b L x o N i : Nat} {xs : Nat → Int32} (hL : L ≤ 4608) (C0 : lw_At p s m meth c b L xs) (hC : LC D cI cZ cR Ax Am s) {H : Heap} {locs : List Loc} {cells slots : Nat} (hI : LI D cI cZ cR Ax Am s x o N H locs cells slots) (hN : N ≤ 512) (hi : i + 9 ≤ L) {ls : Array Slot} (hl : lv_has ls 4 [(3, .int (nI i)), (2, .ref o), (1, .ref x), (0, .ref b)])
    (cont : ∀ (H : Heap) (locs : List Loc) (cells slots : Nat), LI D cI cZ cR Ax Am s x o (N + 1) H locs cells slots → ∀ ls : Array Slot, lv_has ls 4 [(3, .int (nI i)), (2, .ref o), (1, .ref x), (0, .ref b)] → W p l e room_1 s m #[Value.ref b] below meth c H locs cells slots (lw_Z below #[Value.ref b] s) (F0 m 1511 ls [])) : W p l e room_1 s m #[Value.ref b] below meth c H locs cells slots (lw_Z below #[Value.ref b] s) (F0 m 404 ls []) := by
  obtain ⟨hx, hb, hr, hml, hown, hts0, hX, hbl, hlocks, hgv⟩ := C0
  have hts := fun w h => hts0 w (wsL_law_in w h)
  obtain ⟨hAM, hO, hdis, hxA, hmA⟩ := hC
  have hdis2 : ∀ q, Ax q → ¬ Am q := fun q h1 h2 => hdis q h2 h1
  have hK := hAM.1
  have hbA : ¬ (fun q : Nat => s.heap.size ≤ q) b := Nat.not_le.mpr hbl
  obtain ⟨kk, pr, w, wr, wc, ro, wt, nd, c0, c1, c2, hh, pc0, pz0, pc1, pz1, dr, sd, sg, fd, tw, sw, rq, fw, fr, nr, ra, rd, cn, cl, cp, aS, aH, aG, aR, aV, aA, aB, aO, aP, aF, aC, fs, fh, fg, fq, fV, fA, fB, fO, fP, fF, fC, mx, hPx, hDx, hPm, hDm, hRL, hAx, hS, hc1, hs1⟩ := hI
  have hn30 := hRL.2.2.2.2.1.1
  have hsg := hRL.2.1.1
  have hcn := hRL.2.2.2.2.2.1
  have hσ := hRL.2.2.1.2.2
  have hq := hRL.2.2.1.1
  have hV := RR_voters hRL.2.2.2.2.1.2
  have cb0 : cells + 0 ≤ room_1.cells := by show cells + 0 ≤ 600000; omega
  have sb0 : slots + 0 ≤ room_1.slots := by show slots + 0 ≤ 7302250; omega
  have cb1 : cells + 1 ≤ room_1.cells := by show cells + 1 ≤ 600000; omega
  have sb1 : slots + 6 ≤ room_1.slots := by show slots + 6 ≤ 7302250; omega
  refine lv_aload_n hx hb dL_law_404 rfl (lv_at hl 2 rfl) ?_
  refine lv_aload_n hx hb dL_law_405 rfl (lv_at hl 3 rfl) ?_
  refine lv_iload_n hx hb dL_law_406 rfl (lv_at hl 0 rfl) ?_
  refine lv_iconst (v := 1) hx hb dL_law_407 (by decide +kernel) ?_
  refine lv_iadd hx hb dL_law_408 ?_
  refine va_sld hx hb hX hbl hbA hS (sc_in (j := 1) hi hL (by decide) rfl) dL_law_409 ?_
  refine lv_aload_n hx hb dL_law_410 rfl (lv_at hl 3 rfl) ?_
  refine lv_iload_n hx hb dL_law_411 rfl (lv_at hl 0 rfl) ?_
  refine lv_iconst (v := 2) hx hb dL_law_412 (by decide +kernel) ?_
  refine lv_iadd hx hb dL_law_413 ?_
  refine va_sld hx hb hX hbl hbA hS (sc_in (j := 2) hi hL (by decide) rfl) dL_law_414 ?_
  refine lv_aload_n hx hb dL_law_415 rfl (lv_at hl 3 rfl) ?_
  refine lv_iload_n hx hb dL_law_416 rfl (lv_at hl 0 rfl) ?_
  refine lv_iconst (v := 3) hx hb dL_law_417 (by decide +kernel) ?_
  refine lv_iadd hx hb dL_law_418 ?_
  refine va_sld hx hb hX hbl hbA hS (sc_in (j := 3) hi hL (by decide) rfl) dL_law_419 ?_
  refine lv_aload_n hx hb dL_law_420 rfl (lv_at hl 3 rfl) ?_
  refine lv_iload_n hx hb dL_law_421 rfl (lv_at hl 0 rfl) ?_
  refine lv_iconst (v := 4) hx hb dL_law_422 (by decide +kernel) ?_
  refine lv_iadd hx hb dL_law_423 ?_
  refine va_sld hx hb hX hbl hbA hS (sc_in (j := 4) hi hL (by decide) rfl) dL_law_424 ?_
  refine ro_call (va_runV (As := [.int (xs (ix (nI i + 1))), .int (xs (ix (nI i + 2))), .int (xs (ix (nI i + 3))), .int (xs (ix (nI i + 4)))]) (rest := []) ⟨hx, hb, hml, hown, hts⟩ (c_X8_opened l D cI cZ cR _ x kk pr dr sd w wr wc ro wt tw sw nd c0 c1 c2 hh pc0 pz0 pc1 pz1 dr sd sg fd tw sw rq fw fr nr ra rd cn cl cp (xs (ix (nI i + 1))) (xs (ix (nI i + 2))) (xs (ix (nI i + 3))) (xs (ix (nI i + 4)))) (cwV 4 hts gL_law_X8_opened rfl rfl rfl ⟨rfl, hd_X8_opened⟩ ⟨(Nat.le_of_ble_eq_true rfl), (Nat.le_of_ble_eq_true rfl)⟩) (po_preV hAM hPx (va_recv hK hPx (ci := 6) (q0 := 0) rfl rfl)) rfl rfl hl.1 rfl (lv_room (Nat.le_of_ble_eq_true rfl)) dL_law_425 ⟨cb0, sb0⟩) ?_
  refine lv_aload_n hx hb dL_law_428 rfl (lv_at hl 1 rfl) ?_
  refine lv_aload_n hx hb dL_law_429 rfl (lv_at hl 3 rfl) ?_
  refine lv_iload_n hx hb dL_law_430 rfl (lv_at hl 0 rfl) ?_
  refine lv_iconst (v := 1) hx hb dL_law_431 (by decide +kernel) ?_
  refine lv_iadd hx hb dL_law_432 ?_
  refine va_sld hx hb hX hbl hbA hS (sc_in (j := 1) hi hL (by decide) rfl) dL_law_433 ?_
  refine lv_aload_n hx hb dL_law_434 rfl (lv_at hl 3 rfl) ?_
  refine lv_iload_n hx hb dL_law_435 rfl (lv_at hl 0 rfl) ?_
  refine lv_iconst (v := 2) hx hb dL_law_436 (by decide +kernel) ?_
  refine lv_iadd hx hb dL_law_437 ?_
  refine va_sld hx hb hX hbl hbA hS (sc_in (j := 2) hi hL (by decide) rfl) dL_law_438 ?_
  refine lv_aload_n hx hb dL_law_439 rfl (lv_at hl 3 rfl) ?_
  refine lv_iload_n hx hb dL_law_440 rfl (lv_at hl 0 rfl) ?_
  refine lv_iconst (v := 3) hx hb dL_law_441 (by decide +kernel) ?_
  refine lv_iadd hx hb dL_law_442 ?_
  refine va_sld hx hb hX hbl hbA hS (sc_in (j := 3) hi hL (by decide) rfl) dL_law_443 ?_
  refine lv_aload_n hx hb dL_law_444 rfl (lv_at hl 3 rfl) ?_
  refine lv_iload_n hx hb dL_law_445 rfl (lv_at hl 0 rfl) ?_
  refine lv_iconst (v := 4) hx hb dL_law_446 (by decide +kernel) ?_
  refine lv_iadd hx hb dL_law_447 ?_
  refine va_sld hx hb hX hbl hbA hS (sc_in (j := 4) hi hL (by decide) rfl) dL_law_448 ?_
  refine ro_call (va_runV (As := [.int (xs (ix (nI i + 1))), .int (xs (ix (nI i + 2))), .int (xs (ix (nI i + 3))), .int (xs (ix (nI i + 4)))]) (rest := [.int (x_X8_opened nd c0 c1 c2 (xs (ix (nI i + 1))) (xs (ix (nI i + 2))) (xs (ix (nI i + 3))) (xs (ix (nI i + 4))))]) ⟨hx, hb, hml, hown, hts⟩ (c_X9_opened l D cI cZ cR _ o aS aH aG aR aV aA aB aO aP aF aC nd fs fh sg fg rq fq cl nr fV fA fB fO fP fF cn fC mx (xs (ix (nI i + 1))) (xs (ix (nI i + 2))) (xs (ix (nI i + 3))) (xs (ix (nI i + 4)))) (cwV 4 hts gL_law_X9_opened rfl rfl rfl ⟨rfl, hd_X9_opened⟩ ⟨(Nat.le_of_ble_eq_true rfl), (Nat.le_of_ble_eq_true rfl)⟩) (po_preV hAM hPm (va_recv hK hPm (ci := 7) (q0 := 0) rfl rfl)) rfl rfl hl.1 rfl (lv_room (Nat.le_of_ble_eq_true rfl)) dL_law_449 ⟨cb0, sb0⟩) ?_
  refine lv_icmp_eq (tgt := 1511) hx hb dL_law_452 (by decide) (fun _ => ?_) (fun c9 => absurd (opened_eq hRL.1 nd _ _ _ _) c9)
  exact cont _ _ _ _ ⟨kk, pr, w, wr, wc, ro, wt, nd, c0, c1, c2, hh, pc0, pz0, pc1, pz1, dr, sd, sg, fd, tw, sw, rq, fw, fr, nr, ra, rd, cn, cl, cp, aS, aH, aG, aR, aV, aA, aB, aO, aP, aF, aC, fs, fh, fg, fq, fV, fA, fB, fO, fP, fF, fC, mx, hPx, hDx, hPm, hDm, hRL, hAx, hS, by omega, by omega⟩ ls hl

set_option maxHeartbeats 4000000 in
set_option maxRecDepth 100000 in
theorem law_prove {p : Program} {l : Launch} {e : Env} {s : State} {m : MethodId} {below : List Frame} {meth : Method} {c : Code} {D : va_G} {cI cZ cR : ClassId} {Ax Am : Nat → Prop} {b L x o N i : Nat} {xs : Nat → Int32} (hL : L ≤ 4608) (C0 : lw_At p s m meth c b L xs) (hC : LC D cI cZ cR Ax Am s) {H : Heap} {locs : List Loc} {cells slots : Nat} (hI : LI D cI cZ cR Ax Am s x o N H locs cells slots) (hN : N ≤ 512) (hi : i + 9 ≤ L) {ls : Array Slot} (hl : lv_has ls 4 [(3, .int (nI i)), (2, .ref o), (1, .ref x), (0, .ref b)])
    (cont : ∀ (H : Heap) (locs : List Loc) (cells slots : Nat), LI D cI cZ cR Ax Am s x o (N + 1) H locs cells slots → ∀ ls : Array Slot, lv_has ls 4 [(3, .int (nI i)), (2, .ref o), (1, .ref x), (0, .ref b)] → W p l e room_1 s m #[Value.ref b] below meth c H locs cells slots (lw_Z below #[Value.ref b] s) (F0 m 1511 ls [])) : W p l e room_1 s m #[Value.ref b] below meth c H locs cells slots (lw_Z below #[Value.ref b] s) (F0 m 457 ls []) := by
  obtain ⟨hx, hb, hr, hml, hown, hts0, hX, hbl, hlocks, hgv⟩ := C0
  have hts := fun w h => hts0 w (wsL_law_in w h)
  obtain ⟨hAM, hO, hdis, hxA, hmA⟩ := hC
  have hdis2 : ∀ q, Ax q → ¬ Am q := fun q h1 h2 => hdis q h2 h1
  have hK := hAM.1
  have hbA : ¬ (fun q : Nat => s.heap.size ≤ q) b := Nat.not_le.mpr hbl
  obtain ⟨kk, pr, w, wr, wc, ro, wt, nd, c0, c1, c2, hh, pc0, pz0, pc1, pz1, dr, sd, sg, fd, tw, sw, rq, fw, fr, nr, ra, rd, cn, cl, cp, aS, aH, aG, aR, aV, aA, aB, aO, aP, aF, aC, fs, fh, fg, fq, fV, fA, fB, fO, fP, fF, fC, mx, hPx, hDx, hPm, hDm, hRL, hAx, hS, hc1, hs1⟩ := hI
  have hn30 := hRL.2.2.2.2.1.1
  have hsg := hRL.2.1.1
  have hcn := hRL.2.2.2.2.2.1
  have hσ := hRL.2.2.1.2.2
  have hq := hRL.2.2.1.1
  have hV := RR_voters hRL.2.2.2.2.1.2
  have cb0 : cells + 0 ≤ room_1.cells := by show cells + 0 ≤ 600000; omega
  have sb0 : slots + 0 ≤ room_1.slots := by show slots + 0 ≤ 7302250; omega
  have cb1 : cells + 1 ≤ room_1.cells := by show cells + 1 ≤ 600000; omega
  have sb1 : slots + 6 ≤ room_1.slots := by show slots + 6 ≤ 7302250; omega
  refine lv_aload_n hx hb dL_law_457 rfl (lv_at hl 2 rfl) ?_
  refine lv_aload_n hx hb dL_law_458 rfl (lv_at hl 3 rfl) ?_
  refine lv_iload_n hx hb dL_law_459 rfl (lv_at hl 0 rfl) ?_
  refine lv_iconst (v := 1) hx hb dL_law_460 (by decide +kernel) ?_
  refine lv_iadd hx hb dL_law_461 ?_
  refine va_sld hx hb hX hbl hbA hS (sc_in (j := 1) hi hL (by decide) rfl) dL_law_462 ?_
  refine lv_aload_n hx hb dL_law_463 rfl (lv_at hl 3 rfl) ?_
  refine lv_iload_n hx hb dL_law_464 rfl (lv_at hl 0 rfl) ?_
  refine lv_iconst (v := 2) hx hb dL_law_465 (by decide +kernel) ?_
  refine lv_iadd hx hb dL_law_466 ?_
  refine va_sld hx hb hX hbl hbA hS (sc_in (j := 2) hi hL (by decide) rfl) dL_law_467 ?_
  refine lv_aload_n hx hb dL_law_468 rfl (lv_at hl 3 rfl) ?_
  refine lv_iload_n hx hb dL_law_469 rfl (lv_at hl 0 rfl) ?_
  refine lv_iconst (v := 3) hx hb dL_law_470 (by decide +kernel) ?_
  refine lv_iadd hx hb dL_law_471 ?_
  refine va_sld hx hb hX hbl hbA hS (sc_in (j := 3) hi hL (by decide) rfl) dL_law_472 ?_
  refine lv_aload_n hx hb dL_law_473 rfl (lv_at hl 3 rfl) ?_
  refine lv_iload_n hx hb dL_law_474 rfl (lv_at hl 0 rfl) ?_
  refine lv_iconst (v := 4) hx hb dL_law_475 (by decide +kernel) ?_
  refine lv_iadd hx hb dL_law_476 ?_
  refine va_sld hx hb hX hbl hbA hS (sc_in (j := 4) hi hL (by decide) rfl) dL_law_477 ?_
  refine lv_aload_n hx hb dL_law_478 rfl (lv_at hl 3 rfl) ?_
  refine lv_iload_n hx hb dL_law_479 rfl (lv_at hl 0 rfl) ?_
  refine lv_iconst (v := 5) hx hb dL_law_480 (by decide +kernel) ?_
  refine lv_iadd hx hb dL_law_481 ?_
  refine va_sld hx hb hX hbl hbA hS (sc_in (j := 5) hi hL (by decide) rfl) dL_law_482 ?_
  refine lv_aload_n hx hb dL_law_483 rfl (lv_at hl 3 rfl) ?_
  refine lv_iload_n hx hb dL_law_484 rfl (lv_at hl 0 rfl) ?_
  refine lv_bipush (v := 6) hx hb dL_law_485 (by decide +kernel) ?_
  refine lv_iadd hx hb dL_law_487 ?_
  refine va_sld hx hb hX hbl hbA hS (sc_in (j := 6) hi hL (by decide) rfl) dL_law_488 ?_
  refine wr_callF (va_runV (As := [.int (xs (ix (nI i + 1))), .int (xs (ix (nI i + 2))), .int (xs (ix (nI i + 3))), .int (xs (ix (nI i + 4))), .int (xs (ix (nI i + 5))), .int (xs (ix (nI i + 6)))]) (rest := []) ⟨hx, hb, hml, hown, hts⟩ (c_X8_prove l D cI cZ cR Ax _ x kk pr w wr wc ro wt nd c0 c1 c2 hh pc0 pz0 pc1 pz1 dr sd sg fd tw sw rq fw fr nr ra rd cn cl cp (xs (ix (nI i + 1))) (xs (ix (nI i + 2))) (xs (ix (nI i + 3))) (xs (ix (nI i + 4))) (xs (ix (nI i + 5))) (xs (ix (nI i + 6)))) (cwV 6 hts gL_law_X8_prove rfl rfl rfl ⟨rfl, hd_X8_prove⟩ ⟨(Nat.le_of_ble_eq_true rfl), (Nat.le_of_ble_eq_true rfl)⟩) (wr_preV hAM hPx hDx (va_recv hK hPx (ci := 6) (q0 := 0) rfl rfl)) rfl rfl hl.1 rfl (lv_room (Nat.le_of_ble_eq_true rfl)) dL_law_489 ⟨cb0, sb0⟩) hxA hS (fun v u H1 locs1 hw hPx hDx hz hk hS => ?_)
  obtain ⟨pc0_x, pz0_x, pc1_x, pz1_x⟩ := u
  try dsimp only at hw
  subst hw
  have hPm := keepP hPm hDm hdis hk
  have hAx := fun q (hq : H1.size ≤ q) => hAx q (Nat.le_trans hz hq)
  clear hz hk
  generalize H1 = H at hPx hPm hAx hS ⊢
  refine W.eq (g2 := F0 m 492 ls [.int (x_X8_prove hh (xs (ix (nI i + 1))) (xs (ix (nI i + 2))) (xs (ix (nI i + 3))) (xs (ix (nI i + 4))) (xs (ix (nI i + 5))) (xs (ix (nI i + 6))))]) rfl ?_
  refine W.cs (cells' := cells) (slots' := slots) rfl rfl ?_
  refine lv_aload_n hx hb dL_law_492 rfl (lv_at hl 1 rfl) ?_
  refine lv_aload_n hx hb dL_law_493 rfl (lv_at hl 3 rfl) ?_
  refine lv_iload_n hx hb dL_law_494 rfl (lv_at hl 0 rfl) ?_
  refine lv_iconst (v := 1) hx hb dL_law_495 (by decide +kernel) ?_
  refine lv_iadd hx hb dL_law_496 ?_
  refine va_sld hx hb hX hbl hbA hS (sc_in (j := 1) hi hL (by decide) rfl) dL_law_497 ?_
  refine lv_aload_n hx hb dL_law_498 rfl (lv_at hl 3 rfl) ?_
  refine lv_iload_n hx hb dL_law_499 rfl (lv_at hl 0 rfl) ?_
  refine lv_iconst (v := 2) hx hb dL_law_500 (by decide +kernel) ?_
  refine lv_iadd hx hb dL_law_501 ?_
  refine va_sld hx hb hX hbl hbA hS (sc_in (j := 2) hi hL (by decide) rfl) dL_law_502 ?_
  refine lv_aload_n hx hb dL_law_503 rfl (lv_at hl 3 rfl) ?_
  refine lv_iload_n hx hb dL_law_504 rfl (lv_at hl 0 rfl) ?_
  refine lv_iconst (v := 3) hx hb dL_law_505 (by decide +kernel) ?_
  refine lv_iadd hx hb dL_law_506 ?_
  refine va_sld hx hb hX hbl hbA hS (sc_in (j := 3) hi hL (by decide) rfl) dL_law_507 ?_
  refine lv_aload_n hx hb dL_law_508 rfl (lv_at hl 3 rfl) ?_
  refine lv_iload_n hx hb dL_law_509 rfl (lv_at hl 0 rfl) ?_
  refine lv_iconst (v := 4) hx hb dL_law_510 (by decide +kernel) ?_
  refine lv_iadd hx hb dL_law_511 ?_
  refine va_sld hx hb hX hbl hbA hS (sc_in (j := 4) hi hL (by decide) rfl) dL_law_512 ?_
  refine lv_aload_n hx hb dL_law_513 rfl (lv_at hl 3 rfl) ?_
  refine lv_iload_n hx hb dL_law_514 rfl (lv_at hl 0 rfl) ?_
  refine lv_iconst (v := 5) hx hb dL_law_515 (by decide +kernel) ?_
  refine lv_iadd hx hb dL_law_516 ?_
  refine va_sld hx hb hX hbl hbA hS (sc_in (j := 5) hi hL (by decide) rfl) dL_law_517 ?_
  refine lv_aload_n hx hb dL_law_518 rfl (lv_at hl 3 rfl) ?_
  refine lv_iload_n hx hb dL_law_519 rfl (lv_at hl 0 rfl) ?_
  refine lv_bipush (v := 6) hx hb dL_law_520 (by decide +kernel) ?_
  refine lv_iadd hx hb dL_law_522 ?_
  refine va_sld hx hb hX hbl hbA hS (sc_in (j := 6) hi hL (by decide) rfl) dL_law_523 ?_
  refine wr_callF (va_runV (As := [.int (xs (ix (nI i + 1))), .int (xs (ix (nI i + 2))), .int (xs (ix (nI i + 3))), .int (xs (ix (nI i + 4))), .int (xs (ix (nI i + 5))), .int (xs (ix (nI i + 6)))]) (rest := [.int (x_X8_prove hh (xs (ix (nI i + 1))) (xs (ix (nI i + 2))) (xs (ix (nI i + 3))) (xs (ix (nI i + 4))) (xs (ix (nI i + 5))) (xs (ix (nI i + 6))))]) ⟨hx, hb, hml, hown, hts⟩ (c_X9_prove l D cI cZ cR Am _ o aS aH aG aR aV aA aB aO aP aF aC nd fs fh sg fg rq fq cl nr fV fA fB fO fP fF cn fC mx (xs (ix (nI i + 1))) (xs (ix (nI i + 2))) (xs (ix (nI i + 3))) (xs (ix (nI i + 4))) (xs (ix (nI i + 5))) (xs (ix (nI i + 6)))) (cwV 6 hts gL_law_X9_prove rfl rfl rfl ⟨rfl, hd_X9_prove⟩ ⟨(Nat.le_of_ble_eq_true rfl), (Nat.le_of_ble_eq_true rfl)⟩) (wr_preV hAM hPm hDm (va_recv hK hPm (ci := 7) (q0 := 0) rfl rfl)) rfl rfl hl.1 rfl (lv_room (Nat.le_of_ble_eq_true rfl)) dL_law_524 ⟨cb0, sb0⟩) hmA hS (fun v mx_m H1 locs1 hw hPm hDm hz hk hS => ?_)
  try dsimp only at hw
  subst hw
  have hPx := keepP hPx hDx hdis2 hk
  have hAx := fun q (hq : H1.size ≤ q) => hAx q (Nat.le_trans hz hq)
  clear hz hk
  generalize H1 = H at hPx hPm hAx hS ⊢
  refine W.eq (g2 := F0 m 527 ls [.int (x_X9_prove fs (xs (ix (nI i + 1))) (xs (ix (nI i + 2))) (xs (ix (nI i + 3))) (xs (ix (nI i + 4))) (xs (ix (nI i + 5))) (xs (ix (nI i + 6)))), .int (x_X8_prove hh (xs (ix (nI i + 1))) (xs (ix (nI i + 2))) (xs (ix (nI i + 3))) (xs (ix (nI i + 4))) (xs (ix (nI i + 5))) (xs (ix (nI i + 6))))]) rfl ?_
  refine W.cs (cells' := cells) (slots' := slots) rfl rfl ?_
  refine lv_icmp_eq (tgt := 1511) hx hb dL_law_527 (by decide) (fun _ => ?_) (fun c9 => absurd (prove_eq hRL.1 _ _ _ _ _ _) c9)
  exact cont _ _ _ _ ⟨kk, pr, w, wr, wc, ro, wt, nd, c0, c1, c2, hh, pc0_x, pz0_x, pc1_x, pz1_x, dr, sd, sg, fd, tw, sw, rq, fw, fr, nr, ra, rd, cn, cl, cp, aS, aH, aG, aR, aV, aA, aB, aO, aP, aF, aC, fs, fh, fg, fq, fV, fA, fB, fO, fP, fF, fC, mx_m, hPx, hDx, hPm, hDm, hRL, hAx, hS, by omega, by omega⟩ ls hl
