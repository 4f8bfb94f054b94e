set_option maxHeartbeats 4000000 in
set_option maxRecDepth 100000 in
/-- THE LAW, from its entry -/
theorem whole_start {p : Program} {e : Env} {s : State} {m : MethodId} {below : List Frame} {meth : Method} {c : Code} (l : Launch) (hflags : l.flags = flags0) {b L : Nat} {xs : Nat → Int32} (hL : L ≤ 4608) (C0 : lw_At p s m meth c b L xs) : W p l e room_1 s m #[Value.ref b] below meth c s.heap [] 0 0 (lw_Z below #[Value.ref b] s) (entryFrame m ([Value.ref b] : List Value).toArray 4) := by
  obtain ⟨hx, hb, hr, hml, hown, hts0, hX, hbl, hlocks, hgv⟩ := id C0
  have hts := fun w h => hts0 w (wsL_law_in w h)
  have hA : ∀ q : Nat, s.heap.size ≤ q → (fun q : Nat => s.heap.size ≤ q) q := fun _ h => h
  obtain ⟨D, cI, cZ, cR, hAM, hO⟩ := AM0 hts0
  have hK := hAM.1
  have hS : va_S (fun q : Nat => s.heap.size ≤ q) s.heap s.heap [] := va_S.rf
  have hP : va_P D vwCl [] s.heap := fun k q h => by simp at h
  have hD : va_D (fun q : Nat => s.heap.size ≤ q) [] := ⟨fun i j p q h => by simp at h, fun k q h => by simp at h⟩
  have hl := lv_entry ([.ref b]) (n := 4) (Nat.le_of_ble_eq_true rfl)
  rw [lg_entry_eq]
  generalize (lg_sl ([.ref b]) ++ List.replicate (4 - (lg_sl ([.ref b])).length) Slot.unset).toArray = ls at hl ⊢
  have hl : lv_has ls 4 [(0, .ref b)] := hl
  refine va_new (ci := 6) (fs := [.null, .null, .null, .null]) (C := RX8) (T := TX8) (N := 4) hx hb hts0 inX8 tyX8 tyX8_ok hown (hts0 (.classLink R_law 7 RX8) (by decide +kernel)) (hts0 (.instantiable RX8 4) (by decide +kernel)) (hts0 (.initialized RX8) (by decide +kernel)) hK hP hD hS hA rfl (by decide +kernel) (Nat.le_of_ble_eq_true rfl) (Nat.le_of_ble_eq_true rfl) dL_law_0 (fun x H hP hD hS => ?_)
  refine W.cs (cells' := 1) (slots' := 4) rfl rfl ?_
  refine lv_dup hx hb dL_law_3 rfl ?_
  refine wr_call (va_runI (As := []) (rest := [.ref x]) ⟨hx, hb, hml, hown, hts⟩ (c_X8_init l D cI cZ cR (fun q : Nat => s.heap.size ≤ q) _ [] x) (cwI 0 hts gL_law_X8_init rfl rfl rfl (hts0 (.initialized RX8) (by decide +kernel)) (hts0 (.methodLink R_law 9 yX8_init) (by decide +kernel)) (hts0 (.instanceMethod yX8_init) (by decide +kernel)) rfl hd_X8_init ⟨(Nat.le_of_ble_eq_true rfl), (Nat.le_of_ble_eq_true rfl)⟩) (al_pre hAM hO hP hD (hA_up hA hS)) rfl rfl hl.1 rfl (lv_room (Nat.le_of_ble_eq_true rfl)) dL_law_4 ⟨(Nat.le_of_ble_eq_true rfl), (Nat.le_of_ble_eq_true rfl)⟩) hS (fun v u H locs hw hP hD _ hS => ?_)
  obtain ⟨kk, pr, ro, wt, tw, sw, dr, sd, w, wr, wc⟩ := u
  subst hw
  have hP : va_P D vwCl [(x, .inr (6, [.ref kk, .ref pr, .ref ro, .ref w])), (kk, .inr (0, [.int 1, .int 1, .int 0, .int 0, .int 4])), (pr, .inr (1, [.int 0, .int 0, .int 0, .int 0])), (ro, .inr (2, [.ref wt, .ref tw, .ref dr])), (wt, .inl (cI, 36, .inl x_X4_init)), (tw, .inr (4, [.ref sw, .int 0])), (sw, .inl (cI, 40, .inl (fun _ => 0))), (dr, .inr (4, [.ref sd, .int 0])), (sd, .inl (cI, 40, .inl (fun _ => 0))), (w, .inr (5, [.ref wr, .ref wc, .int 0, .int 0, .int 100])), (wr, .inl (cR, 30, .inr (.inr (.inr (.inr (fun _ => none)))))), (wc, .inl (cI, 30, .inl (fun _ => 0)))] H := hP
  have hD : va_D (fun q : Nat => s.heap.size ≤ q) [(x, .inr (6, [.ref kk, .ref pr, .ref ro, .ref w])), (kk, .inr (0, [.int 1, .int 1, .int 0, .int 0, .int 4])), (pr, .inr (1, [.int 0, .int 0, .int 0, .int 0])), (ro, .inr (2, [.ref wt, .ref tw, .ref dr])), (wt, .inl (cI, 36, .inl x_X4_init)), (tw, .inr (4, [.ref sw, .int 0])), (sw, .inl (cI, 40, .inl (fun _ => 0))), (dr, .inr (4, [.ref sd, .int 0])), (sd, .inl (cI, 40, .inl (fun _ => 0))), (w, .inr (5, [.ref wr, .ref wc, .int 0, .int 0, .int 100])), (wr, .inl (cR, 30, .inr (.inr (.inr (.inr (fun _ => none)))))), (wc, .inl (cI, 30, .inl (fun _ => 0)))] := hD
  refine W.eq (g2 := F0 m 7 ls [.ref x]) rfl ?_
  refine W.cs (cells' := 12) (slots' := 201) rfl rfl ?_
  refine lv_astore_n (lv' := [(1, .ref x), (0, .ref b)]) hx hb dL_law_7 rfl hl (by decide) rfl (fun ls hl => ?_)
  refine va_new (ci := 7) (fs := [.int 0, .null, .null, .int 0, .null, .int 0, .null, .int 0, .int 0, .null, .null, .null, .null, .null, .null, .int 0, .null, .int 0]) (C := RX9) (T := TX9) (N := 18) hx hb hts0 inX9 tyX9 tyX9_ok hown (hts0 (.classLink R_law 10 RX9) (by decide +kernel)) (hts0 (.instantiable RX9 18) (by decide +kernel)) (hts0 (.initialized RX9) (by decide +kernel)) hK hP hD hS hA rfl (by decide +kernel) (Nat.le_of_ble_eq_true rfl) (Nat.le_of_ble_eq_true rfl) dL_law_8 (fun o H hP hD hS => ?_)
  refine W.cs (cells' := 13) (slots' := 219) rfl rfl ?_
  refine lv_dup hx hb dL_law_11 rfl ?_
  refine wr_call (va_runI (As := []) (rest := [.ref o]) ⟨hx, hb, hml, hown, hts⟩ (c_X9_init l D cI cZ cR (fun q : Nat => s.heap.size ≤ q) _ [(x, .inr (6, [.ref kk, .ref pr, .ref ro, .ref w])), (kk, .inr (0, [.int 1, .int 1, .int 0, .int 0, .int 4])), (pr, .inr (1, [.int 0, .int 0, .int 0, .int 0])), (ro, .inr (2, [.ref wt, .ref tw, .ref dr])), (wt, .inl (cI, 36, .inl x_X4_init)), (tw, .inr (4, [.ref sw, .int 0])), (sw, .inl (cI, 40, .inl (fun _ => 0))), (dr, .inr (4, [.ref sd, .int 0])), (sd, .inl (cI, 40, .inl (fun _ => 0))), (w, .inr (5, [.ref wr, .ref wc, .int 0, .int 0, .int 100])), (wr, .inl (cR, 30, .inr (.inr (.inr (.inr (fun _ => none)))))), (wc, .inl (cI, 30, .inl (fun _ => 0)))] o) (cwI 0 hts gL_law_X9_init rfl rfl rfl (hts0 (.initialized RX9) (by decide +kernel)) (hts0 (.methodLink R_law 12 yX9_init) (by decide +kernel)) (hts0 (.instanceMethod yX9_init) (by decide +kernel)) rfl hd_X9_init ⟨(Nat.le_of_ble_eq_true rfl), (Nat.le_of_ble_eq_true rfl)⟩) (al_pre hAM hO hP hD (hA_up hA hS)) rfl rfl hl.1 rfl (lv_room (Nat.le_of_ble_eq_true rfl)) dL_law_12 ⟨(Nat.le_of_ble_eq_true rfl), (Nat.le_of_ble_eq_true rfl)⟩) hS (fun v u H locs hw hP hD _ hS => ?_)
  obtain ⟨aS, aH, aG, aR, aV, aA, aB, aO, aP, aF, aC⟩ := u
  subst hw
  have hP : va_P D vwCl ([(x, .inr (6, [.ref kk, .ref pr, .ref ro, .ref w])), (kk, .inr (0, [.int 1, .int 1, .int 0, .int 0, .int 4])), (pr, .inr (1, [.int 0, .int 0, .int 0, .int 0])), (ro, .inr (2, [.ref wt, .ref tw, .ref dr])), (wt, .inl (cI, 36, .inl x_X4_init)), (tw, .inr (4, [.ref sw, .int 0])), (sw, .inl (cI, 40, .inl (fun _ => 0))), (dr, .inr (4, [.ref sd, .int 0])), (sd, .inl (cI, 40, .inl (fun _ => 0))), (w, .inr (5, [.ref wr, .ref wc, .int 0, .int 0, .int 100])), (wr, .inl (cR, 30, .inr (.inr (.inr (.inr (fun _ => none)))))), (wc, .inl (cI, 30, .inl (fun _ => 0)))] ++ (mW cI cZ o aS aH aG aR aV aA aB aO aP aF aC 1 (upd (fun _ => 0) (ix 0) 1) x_X9_init 0 (fun _ => 0) 0 (fun _ => 0) 100 0 (fun _ => 0) (fun _ => 0) (fun _ => 0) (fun _ => 0) (fun _ => 0) (fun _ => 0) 0 (fun _ => 0) 0)) H := hP
  have hD : va_D (fun q : Nat => s.heap.size ≤ q) ([(x, .inr (6, [.ref kk, .ref pr, .ref ro, .ref w])), (kk, .inr (0, [.int 1, .int 1, .int 0, .int 0, .int 4])), (pr, .inr (1, [.int 0, .int 0, .int 0, .int 0])), (ro, .inr (2, [.ref wt, .ref tw, .ref dr])), (wt, .inl (cI, 36, .inl x_X4_init)), (tw, .inr (4, [.ref sw, .int 0])), (sw, .inl (cI, 40, .inl (fun _ => 0))), (dr, .inr (4, [.ref sd, .int 0])), (sd, .inl (cI, 40, .inl (fun _ => 0))), (w, .inr (5, [.ref wr, .ref wc, .int 0, .int 0, .int 100])), (wr, .inl (cR, 30, .inr (.inr (.inr (.inr (fun _ => none)))))), (wc, .inl (cI, 30, .inl (fun _ => 0)))] ++ (mW cI cZ o aS aH aG aR aV aA aB aO aP aF aC 1 (upd (fun _ => 0) (ix 0) 1) x_X9_init 0 (fun _ => 0) 0 (fun _ => 0) 100 0 (fun _ => 0) (fun _ => 0) (fun _ => 0) (fun _ => 0) (fun _ => 0) (fun _ => 0) 0 (fun _ => 0) 0)) := hD
  refine W.eq (g2 := F0 m 15 ls [.ref o]) rfl ?_
  refine W.cs (cells' := 24) (slots' := 638) rfl rfl ?_
  refine lv_astore_n (lv' := [(2, .ref o), (1, .ref x), (0, .ref b)]) hx hb dL_law_15 rfl hl (by decide) rfl (fun ls hl => ?_)
  refine lv_iconst (v := nI (9 * 0)) hx hb dL_law_16 (by decide +kernel) ?_
  refine lv_istore_n (lv' := [(3, .int (nI (9 * 0))), (2, .ref o), (1, .ref x), (0, .ref b)]) hx hb dL_law_17 rfl hl (by decide) rfl (fun ls hl => ?_)
  obtain ⟨hD1, hDm⟩ := split_D hD
  have hP1 : va_P D vwCl [(x, .inr (6, [.ref kk, .ref pr, .ref ro, .ref w])), (kk, .inr (0, [.int 1, .int 1, .int 0, .int 0, .int 4])), (pr, .inr (1, [.int 0, .int 0, .int 0, .int 0])), (ro, .inr (2, [.ref wt, .ref tw, .ref dr])), (wt, .inl (cI, 36, .inl x_X4_init)), (tw, .inr (4, [.ref sw, .int 0])), (sw, .inl (cI, 40, .inl (fun _ => 0))), (dr, .inr (4, [.ref sd, .int 0])), (sd, .inl (cI, 40, .inl (fun _ => 0))), (w, .inr (5, [.ref wr, .ref wc, .int 0, .int 0, .int 100])), (wr, .inl (cR, 30, .inr (.inr (.inr (.inr (fun _ => none)))))), (wc, .inl (cI, 30, .inl (fun _ => 0)))] H := fun k q hk => hP k q (apL hk)
  have hPm : va_P D vwCl (mW cI cZ o aS aH aG aR aV aA aB aO aP aF aC 1 (upd (fun _ => 0) (ix 0) 1) x_X9_init 0 (fun _ => 0) 0 (fun _ => 0) 100 0 (fun _ => 0) (fun _ => 0) (fun _ => 0) (fun _ => 0) (fun _ => 0) (fun _ => 0) 0 (fun _ => 0) 0) H := fun k q hk => hP _ q (pre_at k hk)
  have hAm : ∀ q, inW (mW cI cZ o aS aH aG aR aV aA aB aO aP aF aC 1 (upd (fun _ => 0) (ix 0) 1) x_X9_init 0 (fun _ => 0) 0 (fun _ => 0) 100 0 (fun _ => 0) (fun _ => 0) (fun _ => 0) (fun _ => 0) (fun _ => 0) (fun _ => 0) 0 (fun _ => 0) 0) q → s.heap.size ≤ q ∧ q < H.size := by
    intro q hq
    obtain ⟨k, z, hz, e1⟩ := hq
    subst e1
    exact ⟨hD.2 _ z (pre_at k hz), (hP _ z (pre_at k hz)).lt⟩
  have hPx : va_P D vwCl (cW cI cR x kk pr w wr wc ro wt 1 1 0 0 4 0 0 0 0 dr sd 0 (fun _ => 0) tw sw 0 (fun _ => 0) x_X4_init 0 (fun _ => 0) (fun _ => (0, 0, 0, 0, false, false)) 0 100 (fun _ => 0)) H := by
    unfold cW cWg
    rw [rwA0]
    exact hP1.sub [0, 1, 2, 7, 8, 9, 10, 11, 3, 4, 5, 6] rfl
  have hDx : va_D (fun q => s.heap.size ≤ q ∧ ¬ inW (mW cI cZ o aS aH aG aR aV aA aB aO aP aF aC 1 (upd (fun _ => 0) (ix 0) 1) x_X9_init 0 (fun _ => 0) 0 (fun _ => 0) 100 0 (fun _ => 0) (fun _ => 0) (fun _ => 0) (fun _ => 0) (fun _ => 0) (fun _ => 0) 0 (fun _ => 0) 0) q) (cW cI cR x kk pr w wr wc ro wt 1 1 0 0 4 0 0 0 0 dr sd 0 (fun _ => 0) tw sw 0 (fun _ => 0) x_X4_init 0 (fun _ => 0) (fun _ => (0, 0, 0, 0, false, false)) 0 100 (fun _ => 0)) := by
    unfold cW cWg
    rw [rwA0]
    exact hD1.sub [0, 1, 2, 7, 8, 9, 10, 11, 3, 4, 5, 6] (by decide) rfl
  have hC : LC D cI cZ cR (fun q => s.heap.size ≤ q ∧ ¬ inW (mW cI cZ o aS aH aG aR aV aA aB aO aP aF aC 1 (upd (fun _ => 0) (ix 0) 1) x_X9_init 0 (fun _ => 0) 0 (fun _ => 0) 100 0 (fun _ => 0) (fun _ => 0) (fun _ => 0) (fun _ => 0) (fun _ => 0) (fun _ => 0) 0 (fun _ => 0) 0) q) (inW (mW cI cZ o aS aH aG aR aV aA aB aO aP aF aC 1 (upd (fun _ => 0) (ix 0) 1) x_X9_init 0 (fun _ => 0) 0 (fun _ => 0) 100 0 (fun _ => 0) (fun _ => 0) (fun _ => 0) (fun _ => 0) (fun _ => 0) (fun _ => 0) 0 (fun _ => 0) 0)) s := ⟨hAM, hO, fun q h1 h2 => h2.2 h1, fun q h => h.1, fun q h => (hAm q h).1⟩
  exact law_loop hL C0 hC (L + 1) 0 (by omega) (by omega) H locs 24 638 ⟨kk, pr, w, wr, wc, ro, wt, 1, 1, 0, 0, 4, 0, 0, 0, 0, dr, sd, 0, (fun _ => 0), tw, sw, 0, (fun _ => 0), x_X4_init, 0, (fun _ => 0), (fun _ => (0, 0, 0, 0, false, false)), 0, 100, (fun _ => 0), aS, aH, aG, aR, aV, aA, aB, aO, aP, aF, aC, (upd (fun _ => 0) (ix 0) 1), x_X9_init, (fun _ => 0), (fun _ => 0), (fun _ => 0), (fun _ => 0), (fun _ => 0), (fun _ => 0), (fun _ => 0), (fun _ => 0), (fun _ => 0), 0, hPx, hDx, hPm, hDm, REL0, fun q hq => ⟨Nat.le_trans hS.1 hq, fun h => absurd (hAm q h).2 (Nat.not_lt.mpr hq)⟩, hS, by omega, by omega⟩ ls hl
