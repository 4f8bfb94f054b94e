/-! THE CLAIM OUT OF ONE WALK OF THE LAW'S BODY. Your part is whole_start (and what it stands on); all else here is the same for every law, but numbers. -/
def R_law : String := "WallCountLaw"
def lw_P (b : Addr) (xs : List Int32) (args : Array Value) (s : State) : Prop := args = #[.ref b] ∧ s.IntsAt b xs ∧ xs.length ≤ 4608 ∧ (Jvm.Cond.and given_1 narrow_1).before args s = true
def lw_Q (_ : Array Value) (s : State) (o : Outcome) (t : State) : Prop := o = .returned (some (.int 1)) ∧ Framed s o t [] 600000 7302250
def lw_Z (below : List Frame) (a : Array Value) (s : State) : State → Prop := fun t => ∃ o, t.status = .running ∧ Ended t below o ∧ lw_Q a s o t
/-- the law's own end, with 1 on the stack, nothing written that was there before, its room as the claim has it -/
theorem lw_ret {p : Program} {l : Launch} {e : Env} {s : State} {m : MethodId} {below : List Frame} {meth : Method} {c : Code} {b : Nat} (hx : p.tables.exec = Jvm.exec) (hb : c.code = code) (hr : meth.sig.returnType = ret) (hlocks : meth.locks = false) {pc : Nat} {H : Heap} {ls : Array Slot} (hdg : decode code pc = .ok (.ireturn, 1)) : W p l e room_1 s m #[Value.ref b] below meth c H [] 600000 7302250 (lw_Z below #[Value.ref b] s) (F0 m pc ls [.int 1]) := by
  intro T hT X
  obtain ⟨fs, hret, hrun, hended, hW, hframe⟩ := X.leave (v := some (.int 1)) (hlocks := hlocks) (fun h => by rw [hr] at h; cases h)
  have hmeth' : T.vm.method? m = some meth := X.method'
  refine ⟨T.setFrames fs, ?_, .returned (some (.int 1)), hrun, hended, rfl, ⟨_, rfl⟩, hW, hframe⟩
  jvm_step X.here [X.here.top, hx, hb, hdg, hmeth', hr, ret, narrow_b1]
  (try refine ⟨rfl, ?_⟩); (try refine ⟨rfl, ?_⟩)
  first | (intro acts; rw [hret _ acts rfl rfl rfl]) | rw [hret _ _ rfl rfl rfl]
  exact Steps.refl _
/-- what holds at the law's entry: the machine, the code, the tables' words (any of lw_tbl by 'hts w (by decide +kernel)'), the script of L ints xs at the cell b, what the Statement gives of the start (any of its parts by flat_of_before) -/
def lw_At (p : Program) (s : State) (m : MethodId) (meth : Method) (c : Code) (b L : Nat) (xs : Nat → Int32) : Prop :=
  p.tables.exec = Jvm.exec ∧ c.code = code ∧ meth.sig.returnType = ret ∧ c.maxLocals = 4 ∧ s.vm.findClass R_law = some m.cls ∧ (∀ w ∈ lw_tbl, w.before #[Value.ref b] s = true) ∧ va_X b L xs s s.heap ∧ b < s.heap.size ∧ meth.locks = false ∧ (Jvm.Cond.and given_1 narrow_1).before #[Value.ref b] s = true
/-! what the law's loop holds -/
def REL (c0 c1 c2 hh : Int32) (fs : Nat → Int32) (sg : Nat) (fd fg : Nat → Int32) (rq : Nat) (fw fq fr fh : Nat → Int32) (nr : Nat) (rd : Nat → R6) (fV fA fB fO fP fF : Nat → Int32) (cn : Nat) (cp fC : Nat → Int32) : Prop := KR c0 c1 c2 hh fs ∧ (sg ≤ 40 ∧ ∀ i, i < sg → fd i = fg i) ∧ (rq ≤ 40 ∧ (∀ i, i < rq → fw i = fq i) ∧ VT rq fq) ∧ (∀ i, i < 36 → fr i = fh i) ∧ (nr ≤ 30 ∧ RR fs fV fA fB fO fP fF nr rd) ∧ (cn ≤ 30 ∧ ∀ i, i < cn → cp i = fC i)
theorem RR_voters {fs fV fA fB fO fP fF : Nat → Int32} {nr : Nat} {rd : Nat → R6} (hR : RR fs fV fA fB fO fP fF nr rd) : ∀ i, i < nr → x_X9_isVoter (fV i) = true := fun i hi => (hR i hi).2.2.2.2.2.2.1
def LI (D : va_G) (cI cZ cR : ClassId) (Ax Am : Nat → Prop) (s : State) (x o : Nat) (N : Nat) (H : Heap) (locs : List Loc) (cells slots : Nat) : Prop :=
  ∃ (kk pr w wr wc ro wt : Nat) (nd c0 c1 c2 hh pc0 pz0 pc1 pz1 : Int32) (dr sd sg : Nat) (fd : Nat → Int32) (tw sw rq : Nat) (fw fr : Nat → Int32) (nr : Nat) (ra : Nat → Nat) (rd : Nat → R6) (cn : Nat) (cl : Int32) (cp : Nat → Int32) (aS aH aG aR aV aA aB aO aP aF aC : Nat) (fs fh fg fq fV fA fB fO fP fF fC : Nat → Int32) (mx : Int32),
    va_P D vwCl (cW cI cR x kk pr w wr wc ro wt nd c0 c1 c2 hh pc0 pz0 pc1 pz1 dr sd sg fd tw sw rq fw fr nr ra rd cn cl cp) H ∧ va_D Ax (cW cI cR x kk pr w wr wc ro wt nd c0 c1 c2 hh pc0 pz0 pc1 pz1 dr sd sg fd tw sw rq fw fr nr ra rd cn cl cp) ∧
    va_P D vwCl (mW cI cZ o aS aH aG aR aV aA aB aO aP aF aC nd fs fh sg fg rq fq cl nr fV fA fB fO fP fF cn fC mx) H ∧ va_D Am (mW cI cZ o aS aH aG aR aV aA aB aO aP aF aC nd fs fh sg fg rq fq cl nr fV fA fB fO fP fF cn fC mx) ∧
    REL c0 c1 c2 hh fs sg fd fg rq fw fq fr fh nr rd fV fA fB fO fP fF cn cp fC ∧ (∀ q : Nat, H.size ≤ q → Ax q) ∧ va_S (fun q : Nat => s.heap.size ≤ q) s.heap H locs ∧ cells ≤ 24 + N ∧ slots ≤ 1000 + 6 * N
theorem keepP {D : va_G} {cl : List vw_C} {A B : Nat → Prop} {ws : va_W} {H H1 : Heap} (hP : va_P D cl ws H) (hD : va_D B ws) (hdis : ∀ q, B q → ¬ A q) (hk : ∀ q : Nat, q < H.size → ¬ A q → H1[q]? = H[q]?) : va_P D cl ws H1 := hP.kept (fun k q hq => hk q.1 ((hP k q hq).lt) (hdis q.1 (hD.2 k q hq)))
theorem sc_in {i L j : Nat} {x : Int32} (h : i + 9 ≤ L) (hL : L ≤ 4608) (hj : j ≤ 8) (hx : x = nI j) : vp_in (nI i + x) L := by
  rw [hx, nI_add]
  exact vp_in_nI (by omega) (by omega)
section WB4
variable {p : Program} {l : Launch} {e : Env} {R : Room} {s : State} {m : MethodId} {args : Array Value} {below : List Frame} {meth : Method} {c : Code} {H : Heap} {locs : List Loc} {cells slots : Nat} {Q : State → Prop} {cc : ByteArray} {pc : Nat} {ls : Array Slot} {rest st0 : List Value} {a : Array Value}
/-- behind a writing call, in a wider world -/
theorem wr_callF {S : Type} {D : va_G} {post : Option Value → S → Prop} {ws : S → va_W} {A A0 : Nat → Prop} {mc ms : Nat} {H0 : Heap} (hr : va_Run p l e R s m args below meth c H locs cells slots mc ms (F0 m pc ls st0) rest (wr_Q D post ws A a) A) (hA : ∀ q, A q → A0 q) (hS : va_S A0 H0 H locs)
    (k : ∀ (v : Option Value) (u : S) (H1 : Heap) (locs1 : List Loc), post v u → va_P D vwCl (ws u) H1 → va_D A (ws u) → H.size ≤ H1.size → (∀ q : Nat, q < H.size → ¬ A q → H1[q]? = H[q]?) → va_S A0 H0 H1 locs1 → W p l e R s m args below meth c H1 locs1 (cells + mc) (slots + ms) Q (F0 m (pc + 3) ls (v.toList ++ rest))) : W p l e R s m args below meth c H locs cells slots Q (F0 m pc ls st0) := by
  intro T hT X
  obtain ⟨v', st₀, t, T', L, h0, X', hL, e1, e2, ⟨⟨v, u, hq1, hq2, hq3, hq4⟩, hF1, hF2⟩, st⟩ := hr T hT X
  cases hq1
  rw [h0] at hF1 hF2
  obtain ⟨t2, a1, b1⟩ := k v' u t.heap (locs ++ L) hq2 hq3 hq4 hF1 hF2 ⟨Nat.le_trans hS.1 hF1, fun q h1 h2 => (hF2 q (Nat.lt_of_lt_of_le h1 hS.1) (fun q2 => h2 (hA q q2))).trans (hS.2.1 q h1 h2), t_lL hS.2.2 (fun q hq => hA _ (hL q hq))⟩ T' e1 X'
  exact ⟨t2, st t2 a1, b1⟩
end WB4
/-- what stands fixed in the law -/
def LC (D : va_G) (cI cZ cR : ClassId) (Ax Am : Nat → Prop) (s : State) : Prop := AM D cI cZ cR s ∧ va_AO RX5 s ∧ (∀ q, Am q → ¬ Ax q) ∧ (∀ q, Ax q → s.heap.size ≤ q) ∧ (∀ q, Am q → s.heap.size ≤ q)
