section
-- ===== PART A: goes FIRST, ahead of the names: the tables' words, and 'selects' of the private methods out of them =====
/-- a private method of a class that the tables say can be made, by its rows of tables_1 -/
def lw_okq (q : MethodName × Nat) : Prop := (q.1.cls ≠ "java/lang/invoke/MethodHandle" ∧ q.1.cls ≠ "java/lang/invoke/VarHandle") ∧ Cond.instantiable q.1.cls q.2 ∈ tables_1 ∧ Cond.privateMethod q.1 ∈ tables_1 ∧ Cond.instanceMethod q.1 ∈ tables_1
theorem lw_p0 : lw_okq (⟨"WallCount$Roll", "trait", "(II)I"⟩, 3) := ⟨⟨by decide +kernel, by decide +kernel⟩, List.mem_of_getElem? (i := 63) (by decide +kernel), List.mem_of_getElem? (i := 304) (by decide +kernel), List.mem_of_getElem? (i := 305) (by decide +kernel)⟩
theorem lw_p1 : lw_okq (⟨"WallCount$Wall", "hasLaterOne", "(II)Z"⟩, 6) := ⟨⟨by decide +kernel, by decide +kernel⟩, List.mem_of_getElem? (i := 93) (by decide +kernel), List.mem_of_getElem? (i := 461) (by decide +kernel), List.mem_of_getElem? (i := 462) (by decide +kernel)⟩
theorem lw_p2 : lw_okq (⟨"WallCount$Wall", "wordOf", "(I)I"⟩, 6) := ⟨⟨by decide +kernel, by decide +kernel⟩, List.mem_of_getElem? (i := 93) (by decide +kernel), List.mem_of_getElem? (i := 477) (by decide +kernel), List.mem_of_getElem? (i := 478) (by decide +kernel)⟩
theorem lw_p3 : lw_okq (⟨"WallCountModel", "h", "()I"⟩, 18) := ⟨⟨by decide +kernel, by decide +kernel⟩, List.mem_of_getElem? (i := 600) (by decide +kernel), List.mem_of_getElem? (i := 672) (by decide +kernel), List.mem_of_getElem? (i := 673) (by decide +kernel)⟩
theorem lw_p4 : lw_okq (⟨"WallCountModel", "partOf", "(I)I"⟩, 18) := ⟨⟨by decide +kernel, by decide +kernel⟩, List.mem_of_getElem? (i := 600) (by decide +kernel), List.mem_of_getElem? (i := 689) (by decide +kernel), List.mem_of_getElem? (i := 690) (by decide +kernel)⟩
theorem lw_p5 : lw_okq (⟨"WallCountModel", "sealOf", "(III)I"⟩, 18) := ⟨⟨by decide +kernel, by decide +kernel⟩, List.mem_of_getElem? (i := 600) (by decide +kernel), List.mem_of_getElem? (i := 697) (by decide +kernel), List.mem_of_getElem? (i := 698) (by decide +kernel)⟩
theorem lw_p6 : lw_okq (⟨"WallCountModel", "proved", "(IIIIII)I"⟩, 18) := ⟨⟨by decide +kernel, by decide +kernel⟩, List.mem_of_getElem? (i := 600) (by decide +kernel), List.mem_of_getElem? (i := 741) (by decide +kernel), List.mem_of_getElem? (i := 742) (by decide +kernel)⟩
theorem lw_p7 : lw_okq (⟨"WallCountModel", "mix", "(I)V"⟩, 18) := ⟨⟨by decide +kernel, by decide +kernel⟩, List.mem_of_getElem? (i := 600) (by decide +kernel), List.mem_of_getElem? (i := 745) (by decide +kernel), List.mem_of_getElem? (i := 746) (by decide +kernel)⟩
theorem lw_p8 : lw_okq (⟨"WallCountModel", "tOf", "(IIII)I"⟩, 18) := ⟨⟨by decide +kernel, by decide +kernel⟩, List.mem_of_getElem? (i := 600) (by decide +kernel), List.mem_of_getElem? (i := 753) (by decide +kernel), List.mem_of_getElem? (i := 754) (by decide +kernel)⟩
theorem lw_p9 : lw_okq (⟨"WallCountModel", "holds", "(IIIIII)Z"⟩, 18) := ⟨⟨by decide +kernel, by decide +kernel⟩, List.mem_of_getElem? (i := 600) (by decide +kernel), List.mem_of_getElem? (i := 761) (by decide +kernel), List.mem_of_getElem? (i := 762) (by decide +kernel)⟩
theorem lw_p10 : lw_okq (⟨"WallCountModel", "faultOf", "()I"⟩, 18) := ⟨⟨by decide +kernel, by decide +kernel⟩, List.mem_of_getElem? (i := 600) (by decide +kernel), List.mem_of_getElem? (i := 784) (by decide +kernel), List.mem_of_getElem? (i := 785) (by decide +kernel)⟩
theorem lw_p11 : lw_okq (⟨"WallCountModel", "mayVote", "(I)Z"⟩, 18) := ⟨⟨by decide +kernel, by decide +kernel⟩, List.mem_of_getElem? (i := 600) (by decide +kernel), List.mem_of_getElem? (i := 796) (by decide +kernel), List.mem_of_getElem? (i := 797) (by decide +kernel)⟩
theorem lw_p12 : lw_okq (⟨"WallCountModel", "addRow", "(IIIIZ)I"⟩, 18) := ⟨⟨by decide +kernel, by decide +kernel⟩, List.mem_of_getElem? (i := 600) (by decide +kernel), List.mem_of_getElem? (i := 815) (by decide +kernel), List.mem_of_getElem? (i := 816) (by decide +kernel)⟩
theorem lw_p13 : lw_okq (⟨"WallCountModel", "isRow", "(I)Z"⟩, 18) := ⟨⟨by decide +kernel, by decide +kernel⟩, List.mem_of_getElem? (i := 600) (by decide +kernel), List.mem_of_getElem? (i := 823) (by decide +kernel), List.mem_of_getElem? (i := 824) (by decide +kernel)⟩
theorem lw_p14 : lw_okq (⟨"WallCountModel", "stateOf", "(I)I"⟩, 18) := ⟨⟨by decide +kernel, by decide +kernel⟩, List.mem_of_getElem? (i := 600) (by decide +kernel), List.mem_of_getElem? (i := 835) (by decide +kernel), List.mem_of_getElem? (i := 836) (by decide +kernel)⟩
theorem lw_p15 : lw_okq (⟨"WallCountModel", "flawOf", "(I)I"⟩, 18) := ⟨⟨by decide +kernel, by decide +kernel⟩, List.mem_of_getElem? (i := 600) (by decide +kernel), List.mem_of_getElem? (i := 839) (by decide +kernel), List.mem_of_getElem? (i := 840) (by decide +kernel)⟩
def lw_privs_1 : List (MethodName × Nat) := [(⟨"WallCount$Roll", "trait", "(II)I"⟩, 3), (⟨"WallCount$Wall", "hasLaterOne", "(II)Z"⟩, 6), (⟨"WallCount$Wall", "wordOf", "(I)I"⟩, 6), (⟨"WallCountModel", "h", "()I"⟩, 18), (⟨"WallCountModel", "partOf", "(I)I"⟩, 18), (⟨"WallCountModel", "sealOf", "(III)I"⟩, 18), (⟨"WallCountModel", "proved", "(IIIIII)I"⟩, 18), (⟨"WallCountModel", "mix", "(I)V"⟩, 18), (⟨"WallCountModel", "tOf", "(IIII)I"⟩, 18), (⟨"WallCountModel", "holds", "(IIIIII)Z"⟩, 18), (⟨"WallCountModel", "faultOf", "()I"⟩, 18), (⟨"WallCountModel", "mayVote", "(I)Z"⟩, 18), (⟨"WallCountModel", "addRow", "(IIIIZ)I"⟩, 18), (⟨"WallCountModel", "isRow", "(I)Z"⟩, 18), (⟨"WallCountModel", "stateOf", "(I)I"⟩, 18), (⟨"WallCountModel", "flawOf", "(I)I"⟩, 18)]
theorem lw_r1 : ∀ q ∈ lw_privs_1, lw_okq q := List.forall_mem_cons.mpr ⟨lw_p0, List.forall_mem_cons.mpr ⟨lw_p1, List.forall_mem_cons.mpr ⟨lw_p2, List.forall_mem_cons.mpr ⟨lw_p3, List.forall_mem_cons.mpr ⟨lw_p4, List.forall_mem_cons.mpr ⟨lw_p5, List.forall_mem_cons.mpr ⟨lw_p6, List.forall_mem_cons.mpr ⟨lw_p7, List.forall_mem_cons.mpr ⟨lw_p8, List.forall_mem_cons.mpr ⟨lw_p9, List.forall_mem_cons.mpr ⟨lw_p10, List.forall_mem_cons.mpr ⟨lw_p11, List.forall_mem_cons.mpr ⟨lw_p12, List.forall_mem_cons.mpr ⟨lw_p13, List.forall_mem_cons.mpr ⟨lw_p14, List.forall_mem_cons.mpr ⟨lw_p15, fun _ h => absurd h List.not_mem_nil⟩⟩⟩⟩⟩⟩⟩⟩⟩⟩⟩⟩⟩⟩⟩⟩
theorem lw_p16 : lw_okq (⟨"WallCountModel", "wordOf", "(I)I"⟩, 18) := ⟨⟨by decide +kernel, by decide +kernel⟩, List.mem_of_getElem? (i := 600) (by decide +kernel), List.mem_of_getElem? (i := 843) (by decide +kernel), List.mem_of_getElem? (i := 844) (by decide +kernel)⟩
theorem lw_p17 : lw_okq (⟨"WallCountModel", "headOf", "(I)I"⟩, 18) := ⟨⟨by decide +kernel, by decide +kernel⟩, List.mem_of_getElem? (i := 600) (by decide +kernel), List.mem_of_getElem? (i := 850) (by decide +kernel), List.mem_of_getElem? (i := 851) (by decide +kernel)⟩
theorem lw_p18 : lw_okq (⟨"WallCountModel", "rowsThatAre", "(I)I"⟩, 18) := ⟨⟨by decide +kernel, by decide +kernel⟩, List.mem_of_getElem? (i := 600) (by decide +kernel), List.mem_of_getElem? (i := 923) (by decide +kernel), List.mem_of_getElem? (i := 924) (by decide +kernel)⟩
def lw_privs_2 : List (MethodName × Nat) := [(⟨"WallCountModel", "wordOf", "(I)I"⟩, 18), (⟨"WallCountModel", "headOf", "(I)I"⟩, 18), (⟨"WallCountModel", "rowsThatAre", "(I)I"⟩, 18)]
theorem lw_r2 : ∀ q ∈ lw_privs_2, lw_okq q := List.forall_mem_cons.mpr ⟨lw_p16, List.forall_mem_cons.mpr ⟨lw_p17, List.forall_mem_cons.mpr ⟨lw_p18, fun _ h => absurd h List.not_mem_nil⟩⟩⟩
def lw_privs : List (MethodName × Nat) := lw_privs_1 ++ (lw_privs_2)
def lw_tbl : List Cond := k2_sels lw_privs ++ tables_1
theorem lw_privs_ok : ∀ q ∈ lw_privs, lw_okq q := by
  show ∀ q ∈ lw_privs_1 ++ (lw_privs_2), lw_okq q
  exact List.forall_mem_append.mpr ⟨lw_r1, lw_r2⟩
-- ===== end of PART A; then your names; then what follows =====
end
section
/-! ===== BEGIN words of one list among another's, by their places ===== -/
theorem goodIn_r {big : List Cond} (ws : List Cond) (ps : List Nat) (hp : ws = ps.filterMap (fun i => big[i]?)) (h : ws.all goodWord = true) : GoodIn big ws := by
  intro w hw
  have h1 := List.all_eq_true.mp h w hw
  rw [hp] at hw
  obtain ⟨i, -, hi⟩ := List.mem_filterMap.mp hw
  have hm : w ∈ big := by first | exact List.mem_of_getElem? hi | exact List.getElem?_mem hi
  exact ⟨hm, good_of_word h1⟩
theorem goodIn_app {big a b : List Cond} (ha : GoodIn big a) (hb : GoodIn big b) : GoodIn big (a ++ b) := fun w h => (List.mem_append.mp h).elim (ha w) (hb w)
theorem goodIn_ca {big a b : List Cond} {c : Cond} (ha : GoodIn big (c :: a)) (hb : GoodIn big b) : GoodIn big (c :: (a ++ b)) := fun w h => (List.mem_cons.mp h).elim (fun e => ha w (List.mem_cons.mpr (Or.inl e))) (fun h => (List.mem_append.mp h).elim (fun h => ha w (List.mem_cons.mpr (Or.inr h))) (hb w))
theorem goodIn_sub {big ws : List Cond} (hm : ∀ w ∈ ws, w ∈ big) (h : ws.all goodWord = true) : GoodIn big ws := fun w hw => ⟨hm w hw, good_of_word (List.all_eq_true.mp h w hw)⟩
/-! ===== END ===== -/

/-! ===== BEGIN printed: names, fields, word lists, decode rows ===== -/
def RX0 : String := "WallCount$Key"
def TX0 : u_T := fun k => match k with
  | 0 => ("WallCount$Key", "need", "I", false)
  | 1 => ("WallCount$Key", "c0", "I", false)
  | 2 => ("WallCount$Key", "c1", "I", false)
  | 3 => ("WallCount$Key", "c2", "I", false)
  | _ => ("WallCount$Key", "h", "I", false)
def tyX0 : Nat → FieldType := fun k => match k with
  | 0 => .int
  | 1 => .int
  | 2 => .int
  | 3 => .int
  | _ => .int
abbrev wsX00 : List Cond := u_ws RX0 TX0 5
theorem nmX0 : ∀ a, a < 5 → ∀ b, b < 5 → a ≠ b → (TX0 a).2.1 ≠ (TX0 b).2.1 := by decide +kernel
theorem tyX0_ok : ∀ k, k < 5 → parseFieldDescriptor (TX0 k).2.2.1 = some (tyX0 k) := by decide +kernel
abbrev cX0_init : ByteArray := prog_2_method_1_code
def yX0_init : MethodName := ⟨RX0, "<init>", "()V"⟩
abbrev cX0_become : ByteArray := prog_2_method_2_code
def yX0_become : MethodName := ⟨RX0, "become", "(IIII)V"⟩
abbrev cX0_need : ByteArray := prog_2_method_3_code
def yX0_need : MethodName := ⟨RX0, "need", "()I"⟩
abbrev cX0_h : ByteArray := prog_2_method_4_code
def yX0_h : MethodName := ⟨RX0, "h", "()I"⟩
abbrev cX0_part : ByteArray := prog_2_method_5_code
def yX0_part : MethodName := ⟨RX0, "part", "(I)I"⟩
abbrev cX0_sealedB : ByteArray := prog_2_method_6_code
def yX0_sealedB : MethodName := ⟨RX0, "sealedB", "(II)I"⟩
abbrev cX0_share : ByteArray := prog_2_method_7_code
def yX0_share : MethodName := ⟨RX0, "share", "(II)I"⟩
abbrev cX0_weightIn : ByteArray := prog_2_method_8_code
def yX0_weightIn : MethodName := ⟨RX0, "weightIn", "(II)I"⟩
abbrev cX0_unsealed : ByteArray := prog_2_method_9_code
def yX0_unsealed : MethodName := ⟨RX0, "unsealed", "(III)I"⟩
def RX1 : String := "WallCount$Odds"
def TX1 : u_T := fun k => match k with
  | _ => ("", "", "", false)
def tyX1 : Nat → FieldType := fun k => match k with
  | _ => .int
abbrev wsX10 : List Cond := u_ws RX1 TX1 0
theorem nmX1 : ∀ a, a < 0 → ∀ b, b < 0 → a ≠ b → (TX1 a).2.1 ≠ (TX1 b).2.1 := by decide +kernel
theorem tyX1_ok : ∀ k, k < 0 → parseFieldDescriptor (TX1 k).2.2.1 = some (tyX1 k) := by decide +kernel
abbrev cX1_choose : ByteArray := prog_3_method_2_code
def yX1_choose : MethodName := ⟨RX1, "choose", "(II)J"⟩
abbrev cX1_forOne : ByteArray := prog_3_method_3_code
def yX1_forOne : MethodName := ⟨RX1, "forOne", "(I)I"⟩
abbrev cX1_waysForOne : ByteArray := prog_3_method_4_code
def yX1_waysForOne : MethodName := ⟨RX1, "waysForOne", "(III)J"⟩
abbrev cX1_leastDrawn : ByteArray := prog_3_method_5_code
def yX1_leastDrawn : MethodName := ⟨RX1, "leastDrawn", "(IIII)I"⟩
abbrev cX1_slipDrawn : ByteArray := prog_3_method_6_code
def yX1_slipDrawn : MethodName := ⟨RX1, "slipDrawn", "(III)I"⟩
abbrev cX1_inLowestTerms : ByteArray := prog_3_method_7_code
def yX1_inLowestTerms : MethodName := ⟨RX1, "inLowestTerms", "(JJI)J"⟩
abbrev cX1_greatestShared : ByteArray := prog_3_method_8_code
def yX1_greatestShared : MethodName := ⟨RX1, "greatestShared", "(JJ)J"⟩
def RX2 : String := "WallCount$Powers"
def TX2 : u_T := fun k => match k with
  | _ => ("", "", "", false)
def tyX2 : Nat → FieldType := fun k => match k with
  | _ => .int
abbrev wsX20 : List Cond := u_ws RX2 TX2 0
theorem nmX2 : ∀ a, a < 0 → ∀ b, b < 0 → a ≠ b → (TX2 a).2.1 ≠ (TX2 b).2.1 := by decide +kernel
theorem tyX2_ok : ∀ k, k < 0 → parseFieldDescriptor (TX2 k).2.2.1 = some (tyX2 k) := by decide +kernel
abbrev cX2_power : ByteArray := prog_4_method_2_code
def yX2_power : MethodName := ⟨RX2, "power", "(III)I"⟩
abbrev cX2_of : ByteArray := prog_4_method_3_code
def yX2_of : MethodName := ⟨RX2, "of", "(II)I"⟩
abbrev cX2_ofG : ByteArray := prog_4_method_4_code
def yX2_ofG : MethodName := ⟨RX2, "ofG", "(I)I"⟩
abbrev cX2_inverse : ByteArray := prog_4_method_5_code
def yX2_inverse : MethodName := ⟨RX2, "inverse", "(II)I"⟩
abbrev cX2_divided : ByteArray := prog_4_method_6_code
def yX2_divided : MethodName := ⟨RX2, "divided", "(II)I"⟩
abbrev cX2_isRight : ByteArray := prog_4_method_7_code
def yX2_isRight : MethodName := ⟨RX2, "isRight", "(II)Z"⟩
abbrev cX2_exponentOf : ByteArray := prog_4_method_8_code
def yX2_exponentOf : MethodName := ⟨RX2, "exponentOf", "(I)I"⟩
def RX3 : String := "WallCount$Proof"
def TX3 : u_T := fun k => match k with
  | 0 => ("WallCount$Proof", "c0", "I", false)
  | 1 => ("WallCount$Proof", "z0", "I", false)
  | 2 => ("WallCount$Proof", "c1", "I", false)
  | _ => ("WallCount$Proof", "z1", "I", false)
def tyX3 : Nat → FieldType := fun k => match k with
  | 0 => .int
  | 1 => .int
  | 2 => .int
  | _ => .int
abbrev wsX30 : List Cond := u_ws RX3 TX3 4
theorem nmX3 : ∀ a, a < 4 → ∀ b, b < 4 → a ≠ b → (TX3 a).2.1 ≠ (TX3 b).2.1 := by decide +kernel
theorem tyX3_ok : ∀ k, k < 4 → parseFieldDescriptor (TX3 k).2.2.1 = some (tyX3 k) := by decide +kernel
abbrev cX3_init : ByteArray := prog_5_method_1_code
def yX3_init : MethodName := ⟨RX3, "<init>", "()V"⟩
abbrev cX3_become : ByteArray := prog_5_method_2_code
def yX3_become : MethodName := ⟨RX3, "become", "(IIII)V"⟩
abbrev cX3_number : ByteArray := prog_5_method_3_code
def yX3_number : MethodName := ⟨RX3, "number", "(I)I"⟩
abbrev cX3_holds : ByteArray := prog_5_method_4_code
def yX3_holds : MethodName := ⟨RX3, "holds", "(LWallCount$Key;II)Z"⟩
abbrev cX3_make : ByteArray := prog_5_method_5_code
def yX3_make : MethodName := ⟨RX3, "make", "(LWallCount$Key;IIIII)V"⟩
abbrev cX3_sOf : ByteArray := prog_5_method_6_code
def yX3_sOf : MethodName := ⟨RX3, "sOf", "(III)I"⟩
abbrev cX3_tOf : ByteArray := prog_5_method_7_code
def yX3_tOf : MethodName := ⟨RX3, "tOf", "(LWallCount$Key;IIII)I"⟩
abbrev cX3_mixedWith : ByteArray := prog_5_method_8_code
def yX3_mixedWith : MethodName := ⟨RX3, "mixedWith", "(II)I"⟩
def RX4 : String := "WallCount$Roll"
def TX4 : u_T := fun k => match k with
  | 0 => ("WallCount$Roll", "traits", "[I", true)
  | 1 => ("WallCount$Roll", "whoMay", "LWallCount$Text;", false)
  | _ => ("WallCount$Roll", "draft", "LWallCount$Text;", false)
def tyX4 : Nat → FieldType := fun k => match k with
  | 0 => .array .int
  | 1 => .object "WallCount$Text"
  | _ => .object "WallCount$Text"
abbrev wsX40 : List Cond := u_ws RX4 TX4 3
theorem nmX4 : ∀ a, a < 3 → ∀ b, b < 3 → a ≠ b → (TX4 a).2.1 ≠ (TX4 b).2.1 := by decide +kernel
theorem tyX4_ok : ∀ k, k < 3 → parseFieldDescriptor (TX4 k).2.2.1 = some (tyX4 k) := by decide +kernel
abbrev cX4_init : ByteArray := prog_6_method_1_code
def yX4_init : MethodName := ⟨RX4, "<init>", "()V"⟩
abbrev cX4_draft : ByteArray := prog_6_method_2_code
def yX4_draft : MethodName := ⟨RX4, "draft", "()LWallCount$Text;"⟩
abbrev cX4_adoptDraft : ByteArray := prog_6_method_3_code
def yX4_adoptDraft : MethodName := ⟨RX4, "adoptDraft", "()V"⟩
abbrev cX4_change : ByteArray := prog_6_method_4_code
def yX4_change : MethodName := ⟨RX4, "change", "(III)I"⟩
abbrev cX4_allows : ByteArray := prog_6_method_5_code
def yX4_allows : MethodName := ⟨RX4, "allows", "(I)Z"⟩
abbrev cX4_trait : ByteArray := prog_6_method_6_code
def yX4_trait : MethodName := ⟨RX4, "trait", "(II)I"⟩
def RX5 : String := "WallCount$Row"
def TX5 : u_T := fun k => match k with
  | 0 => ("WallCount$Row", "voter", "I", true)
  | 1 => ("WallCount$Row", "a", "I", true)
  | 2 => ("WallCount$Row", "b", "I", true)
  | 3 => ("WallCount$Row", "hour", "I", true)
  | 4 => ("WallCount$Row", "sound", "Z", false)
  | _ => ("WallCount$Row", "proved", "Z", false)
def tyX5 : Nat → FieldType := fun k => match k with
  | 0 => .int
  | 1 => .int
  | 2 => .int
  | 3 => .int
  | 4 => .boolean
  | _ => .boolean
abbrev wsX50 : List Cond := u_ws RX5 TX5 6
theorem nmX5 : ∀ a, a < 6 → ∀ b, b < 6 → a ≠ b → (TX5 a).2.1 ≠ (TX5 b).2.1 := by decide +kernel
theorem tyX5_ok : ∀ k, k < 6 → parseFieldDescriptor (TX5 k).2.2.1 = some (tyX5 k) := by decide +kernel
abbrev cX5_init : ByteArray := prog_7_method_1_code
def yX5_init : MethodName := ⟨RX5, "<init>", "(IIIIZZ)V"⟩
abbrev cX5_word : ByteArray := prog_7_method_2_code
def yX5_word : MethodName := ⟨RX5, "word", "()I"⟩
abbrev cX5_wordWith : ByteArray := prog_7_method_3_code
def yX5_wordWith : MethodName := ⟨RX5, "wordWith", "(II)I"⟩
def RX6 : String := "WallCount$Text"
def TX6 : u_T := fun k => match k with
  | 0 => ("WallCount$Text", "signs", "[I", true)
  | _ => ("WallCount$Text", "size", "I", false)
def tyX6 : Nat → FieldType := fun k => match k with
  | 0 => .array .int
  | _ => .int
abbrev wsX60 : List Cond := u_ws RX6 TX6 2
theorem nmX6 : ∀ a, a < 2 → ∀ b, b < 2 → a ≠ b → (TX6 a).2.1 ≠ (TX6 b).2.1 := by decide +kernel
theorem tyX6_ok : ∀ k, k < 2 → parseFieldDescriptor (TX6 k).2.2.1 = some (tyX6 k) := by decide +kernel
abbrev cX6_init : ByteArray := prog_8_method_1_code
def yX6_init : MethodName := ⟨RX6, "<init>", "()V"⟩
abbrev cX6_size : ByteArray := prog_8_method_2_code
def yX6_size : MethodName := ⟨RX6, "size", "()I"⟩
abbrev cX6_clear : ByteArray := prog_8_method_3_code
def yX6_clear : MethodName := ⟨RX6, "clear", "()V"⟩
abbrev cX6_add : ByteArray := prog_8_method_4_code
def yX6_add : MethodName := ⟨RX6, "add", "(I)Z"⟩
abbrev cX6_faultPlace : ByteArray := prog_8_method_5_code
def yX6_faultPlace : MethodName := ⟨RX6, "faultPlace", "()I"⟩
abbrev cX6_stateBehind : ByteArray := prog_8_method_6_code
def yX6_stateBehind : MethodName := ⟨RX6, "stateBehind", "(II)I"⟩
abbrev cX6_allows : ByteArray := prog_8_method_7_code
def yX6_allows : MethodName := ⟨RX6, "allows", "(III)Z"⟩
abbrev cX6_passes : ByteArray := prog_8_method_8_code
def yX6_passes : MethodName := ⟨RX6, "passes", "(III)Z"⟩
abbrev cX6_isName : ByteArray := prog_8_method_9_code
def yX6_isName : MethodName := ⟨RX6, "isName", "(I)Z"⟩
abbrev cX6_isCompare : ByteArray := prog_8_method_10_code
def yX6_isCompare : MethodName := ⟨RX6, "isCompare", "(I)Z"⟩
abbrev cX6_isDigit : ByteArray := prog_8_method_11_code
def yX6_isDigit : MethodName := ⟨RX6, "isDigit", "(I)Z"⟩
abbrev cX6_isJoin : ByteArray := prog_8_method_12_code
def yX6_isJoin : MethodName := ⟨RX6, "isJoin", "(I)Z"⟩
def RX7 : String := "WallCount$Wall"
def TX7 : u_T := fun k => match k with
  | 0 => ("WallCount$Wall", "roll", "LWallCount$Roll;", true)
  | 1 => ("WallCount$Wall", "rows", "[LWallCount$Row;", true)
  | 2 => ("WallCount$Wall", "copied", "[I", true)
  | 3 => ("WallCount$Wall", "size", "I", false)
  | 4 => ("WallCount$Wall", "copiedSize", "I", false)
  | _ => ("WallCount$Wall", "closeHour", "I", false)
def tyX7 : Nat → FieldType := fun k => match k with
  | 0 => .object "WallCount$Roll"
  | 1 => .array (.object "WallCount$Row")
  | 2 => .array .int
  | 3 => .int
  | 4 => .int
  | _ => .int
abbrev wsX70 : List Cond := u_ws RX7 TX7 6
theorem nmX7 : ∀ a, a < 6 → ∀ b, b < 6 → a ≠ b → (TX7 a).2.1 ≠ (TX7 b).2.1 := by decide +kernel
theorem tyX7_ok : ∀ k, k < 6 → parseFieldDescriptor (TX7 k).2.2.1 = some (tyX7 k) := by decide +kernel
abbrev cX7_init : ByteArray := prog_9_method_1_code
def yX7_init : MethodName := ⟨RX7, "<init>", "(LWallCount$Roll;)V"⟩
abbrev cX7_size : ByteArray := prog_9_method_2_code
def yX7_size : MethodName := ⟨RX7, "size", "()I"⟩
abbrev cX7_copiedSize : ByteArray := prog_9_method_3_code
def yX7_copiedSize : MethodName := ⟨RX7, "copiedSize", "()I"⟩
abbrev cX7_closeHour : ByteArray := prog_9_method_4_code
def yX7_closeHour : MethodName := ⟨RX7, "closeHour", "()I"⟩
abbrev cX7_changeClose : ByteArray := prog_9_method_5_code
def yX7_changeClose : MethodName := ⟨RX7, "changeClose", "(I)I"⟩
abbrev cX7_isFull : ByteArray := prog_9_method_6_code
def yX7_isFull : MethodName := ⟨RX7, "isFull", "()Z"⟩
abbrev cX7_add : ByteArray := prog_9_method_7_code
def yX7_add : MethodName := ⟨RX7, "add", "(LWallCount$Row;)I"⟩
abbrev cX7_at : ByteArray := prog_9_method_8_code
def yX7_at : MethodName := ⟨RX7, "at", "(I)LWallCount$Row;"⟩
abbrev cX7_kindOf : ByteArray := prog_9_method_9_code
def yX7_kindOf : MethodName := ⟨RX7, "kindOf", "(I)I"⟩
abbrev cX7_hasLaterOne : ByteArray := prog_9_method_10_code
def yX7_hasLaterOne : MethodName := ⟨RX7, "hasLaterOne", "(II)Z"⟩
abbrev cX7_howManyAre : ByteArray := prog_9_method_11_code
def yX7_howManyAre : MethodName := ⟨RX7, "howManyAre", "(I)I"⟩
abbrev cX7_product : ByteArray := prog_9_method_12_code
def yX7_product : MethodName := ⟨RX7, "product", "(I)I"⟩
abbrev cX7_headBehind : ByteArray := prog_9_method_13_code
def yX7_headBehind : MethodName := ⟨RX7, "headBehind", "(I)I"⟩
abbrev cX7_firstWithWord : ByteArray := prog_9_method_14_code
def yX7_firstWithWord : MethodName := ⟨RX7, "firstWithWord", "(II)I"⟩
abbrev cX7_wordOf : ByteArray := prog_9_method_15_code
def yX7_wordOf : MethodName := ⟨RX7, "wordOf", "(I)I"⟩
abbrev cX7_addCopied : ByteArray := prog_9_method_16_code
def yX7_addCopied : MethodName := ⟨RX7, "addCopied", "(I)Z"⟩
abbrev cX7_firstUnlike : ByteArray := prog_9_method_17_code
def yX7_firstUnlike : MethodName := ⟨RX7, "firstUnlike", "()I"⟩
def RX8 : String := "WallCount"
def TX8 : u_T := fun k => match k with
  | 0 => ("WallCount", "secret", "LWallCount$Key;", true)
  | 1 => ("WallCount", "proof", "LWallCount$Proof;", true)
  | 2 => ("WallCount", "roll", "LWallCount$Roll;", true)
  | _ => ("WallCount", "wall", "LWallCount$Wall;", true)
def tyX8 : Nat → FieldType := fun k => match k with
  | 0 => .object "WallCount$Key"
  | 1 => .object "WallCount$Proof"
  | 2 => .object "WallCount$Roll"
  | _ => .object "WallCount$Wall"
abbrev wsX80 : List Cond := u_ws RX8 TX8 4
theorem nmX8 : ∀ a, a < 4 → ∀ b, b < 4 → a ≠ b → (TX8 a).2.1 ≠ (TX8 b).2.1 := by decide +kernel
theorem tyX8_ok : ∀ k, k < 4 → parseFieldDescriptor (TX8 k).2.2.1 = some (tyX8 k) := by decide +kernel
abbrev cX8_init : ByteArray := prog_1_method_1_code
def yX8_init : MethodName := ⟨RX8, "<init>", "()V"⟩
abbrev cX8_key : ByteArray := prog_1_method_2_code
def yX8_key : MethodName := ⟨RX8, "key", "(IIII)I"⟩
abbrev cX8_holder : ByteArray := prog_1_method_3_code
def yX8_holder : MethodName := ⟨RX8, "holder", "(II)I"⟩
abbrev cX8_seal : ByteArray := prog_1_method_4_code
def yX8_seal : MethodName := ⟨RX8, "seal", "(III)I"⟩
abbrev cX8_right : ByteArray := prog_1_method_5_code
def yX8_right : MethodName := ⟨RX8, "right", "(II)I"⟩
abbrev cX8_open : ByteArray := prog_1_method_6_code
def yX8_open : MethodName := ⟨RX8, "open", "(II)I"⟩
abbrev cX8_weight : ByteArray := prog_1_method_7_code
def yX8_weight : MethodName := ⟨RX8, "weight", "(II)I"⟩
abbrev cX8_opened : ByteArray := prog_1_method_8_code
def yX8_opened : MethodName := ⟨RX8, "opened", "(IIII)I"⟩
abbrev cX8_prove : ByteArray := prog_1_method_9_code
def yX8_prove : MethodName := ⟨RX8, "prove", "(IIIIII)I"⟩
abbrev cX8_check : ByteArray := prog_1_method_10_code
def yX8_check : MethodName := ⟨RX8, "check", "(IIIIII)I"⟩
abbrev cX8_voter : ByteArray := prog_1_method_11_code
def yX8_voter : MethodName := ⟨RX8, "voter", "(III)I"⟩
abbrev cX8_say : ByteArray := prog_1_method_12_code
def yX8_say : MethodName := ⟨RX8, "say", "(I)I"⟩
abbrev cX8_wipe : ByteArray := prog_1_method_13_code
def yX8_wipe : MethodName := ⟨RX8, "wipe", "()I"⟩
abbrev cX8_fault : ByteArray := prog_1_method_14_code
def yX8_fault : MethodName := ⟨RX8, "fault", "()I"⟩
abbrev cX8_rule : ByteArray := prog_1_method_15_code
def yX8_rule : MethodName := ⟨RX8, "rule", "()I"⟩
abbrev cX8_may : ByteArray := prog_1_method_16_code
def yX8_may : MethodName := ⟨RX8, "may", "(I)I"⟩
abbrev cX8_close : ByteArray := prog_1_method_17_code
def yX8_close : MethodName := ⟨RX8, "close", "(I)I"⟩
abbrev cX8_row : ByteArray := prog_1_method_18_code
def yX8_row : MethodName := ⟨RX8, "row", "(IIII)I"⟩
abbrev cX8_attach : ByteArray := prog_1_method_19_code
def yX8_attach : MethodName := ⟨RX8, "attach", "(IIIII)I"⟩
abbrev cX8_cast : ByteArray := prog_1_method_20_code
def yX8_cast : MethodName := ⟨RX8, "cast", "(IIIIIII)I"⟩
abbrev cX8_ofRow : ByteArray := prog_1_method_21_code
def yX8_ofRow : MethodName := ⟨RX8, "ofRow", "(II)I"⟩
abbrev cX8_find : ByteArray := prog_1_method_22_code
def yX8_find : MethodName := ⟨RX8, "find", "(II)I"⟩
abbrev cX8_tally : ByteArray := prog_1_method_23_code
def yX8_tally : MethodName := ⟨RX8, "tally", "(I)I"⟩
abbrev cX8_copy : ByteArray := prog_1_method_24_code
def yX8_copy : MethodName := ⟨RX8, "copy", "(I)I"⟩
abbrev cX8_parted : ByteArray := prog_1_method_25_code
def yX8_parted : MethodName := ⟨RX8, "parted", "()I"⟩
abbrev cX8_lies : ByteArray := prog_1_method_26_code
def yX8_lies : MethodName := ⟨RX8, "lies", "(IIII)J"⟩
abbrev cX8_ask : ByteArray := prog_1_method_27_code
def yX8_ask : MethodName := ⟨RX8, "ask", "(III)I"⟩
abbrev cX8_slips : ByteArray := prog_1_method_28_code
def yX8_slips : MethodName := ⟨RX8, "slips", "(IIII)J"⟩
abbrev cX8_drawn : ByteArray := prog_1_method_29_code
def yX8_drawn : MethodName := ⟨RX8, "drawn", "(III)I"⟩
abbrev cX8_sure : ByteArray := prog_1_method_30_code
def yX8_sure : MethodName := ⟨RX8, "sure", "(II)I"⟩
abbrev cX8_told : ByteArray := prog_1_method_31_code
def yX8_told : MethodName := ⟨RX8, "told", "(IIIIIIII)J"⟩
abbrev cX8_forced : ByteArray := prog_1_method_32_code
def yX8_forced : MethodName := ⟨RX8, "forced", "(IIIIII)I"⟩
abbrev cX8_count : ByteArray := prog_1_method_33_code
def yX8_count : MethodName := ⟨RX8, "count", "(I)I"⟩
abbrev cX8_within : ByteArray := prog_1_method_34_code
def yX8_within : MethodName := ⟨RX8, "within", "(III)Z"⟩
abbrev cX8_isExponent : ByteArray := prog_1_method_35_code
def yX8_isExponent : MethodName := ⟨RX8, "isExponent", "(I)Z"⟩
abbrev cX8_areLots : ByteArray := prog_1_method_36_code
def yX8_areLots : MethodName := ⟨RX8, "areLots", "(IIII)Z"⟩
abbrev cX8_isResidue : ByteArray := prog_1_method_37_code
def yX8_isResidue : MethodName := ⟨RX8, "isResidue", "(I)Z"⟩
abbrev cX8_isHolder : ByteArray := prog_1_method_38_code
def yX8_isHolder : MethodName := ⟨RX8, "isHolder", "(I)Z"⟩
abbrev cX8_isSet : ByteArray := prog_1_method_39_code
def yX8_isSet : MethodName := ⟨RX8, "isSet", "(I)Z"⟩
abbrev cX8_isIn : ByteArray := prog_1_method_40_code
def yX8_isIn : MethodName := ⟨RX8, "isIn", "(II)Z"⟩
abbrev cX8_isVoter : ByteArray := prog_1_method_41_code
def yX8_isVoter : MethodName := ⟨RX8, "isVoter", "(I)Z"⟩
abbrev cX8_isRowNumber : ByteArray := prog_1_method_42_code
def yX8_isRowNumber : MethodName := ⟨RX8, "isRowNumber", "(I)Z"⟩
abbrev cX8_areBooth : ByteArray := prog_1_method_43_code
def yX8_areBooth : MethodName := ⟨RX8, "areBooth", "(II)Z"⟩
abbrev cX8_areSums : ByteArray := prog_1_method_44_code
def yX8_areSums : MethodName := ⟨RX8, "areSums", "(III)Z"⟩
abbrev cX8_areKnown : ByteArray := prog_1_method_45_code
def yX8_areKnown : MethodName := ⟨RX8, "areKnown", "(IIIIII)Z"⟩
def RX9 : String := "WallCountModel"
def TX9 : u_T := fun k => match k with
  | 0 => ("WallCountModel", "need", "I", false)
  | 1 => ("WallCountModel", "secret", "[I", true)
  | 2 => ("WallCountModel", "has", "[I", true)
  | 3 => ("WallCountModel", "signs", "I", false)
  | 4 => ("WallCountModel", "sign", "[I", true)
  | 5 => ("WallCountModel", "ruleMany", "I", false)
  | 6 => ("WallCountModel", "ruleSign", "[I", true)
  | 7 => ("WallCountModel", "close", "I", false)
  | 8 => ("WallCountModel", "rows", "I", false)
  | 9 => ("WallCountModel", "rowVoter", "[I", true)
  | 10 => ("WallCountModel", "rowA", "[I", true)
  | 11 => ("WallCountModel", "rowB", "[I", true)
  | 12 => ("WallCountModel", "rowHour", "[I", true)
  | 13 => ("WallCountModel", "isProved", "[Z", true)
  | 14 => ("WallCountModel", "proof", "[I", true)
  | 15 => ("WallCountModel", "copies", "I", false)
  | 16 => ("WallCountModel", "copied", "[I", true)
  | _ => ("WallCountModel", "mixed", "I", false)
def tyX9 : Nat → FieldType := fun k => match k with
  | 0 => .int
  | 1 => .array .int
  | 2 => .array .int
  | 3 => .int
  | 4 => .array .int
  | 5 => .int
  | 6 => .array .int
  | 7 => .int
  | 8 => .int
  | 9 => .array .int
  | 10 => .array .int
  | 11 => .array .int
  | 12 => .array .int
  | 13 => .array .boolean
  | 14 => .array .int
  | 15 => .int
  | 16 => .array .int
  | _ => .int
abbrev wsX90 : List Cond := u_ws RX9 TX9 18
theorem nmX9 : ∀ a, a < 18 → ∀ b, b < 18 → a ≠ b → (TX9 a).2.1 ≠ (TX9 b).2.1 := by decide +kernel
theorem tyX9_ok : ∀ k, k < 18 → parseFieldDescriptor (TX9 k).2.2.1 = some (tyX9 k) := by decide +kernel
abbrev cX9_init : ByteArray := prog_11_method_1_code
def yX9_init : MethodName := ⟨RX9, "<init>", "()V"⟩
abbrev cX9_in : ByteArray := prog_11_method_2_code
def yX9_in : MethodName := ⟨RX9, "in", "(III)Z"⟩
abbrev cX9_isPower : ByteArray := prog_11_method_3_code
def yX9_isPower : MethodName := ⟨RX9, "isPower", "(I)Z"⟩
abbrev cX9_isNumber : ByteArray := prog_11_method_4_code
def yX9_isNumber : MethodName := ⟨RX9, "isNumber", "(I)Z"⟩
abbrev cX9_times : ByteArray := prog_11_method_5_code
def yX9_times : MethodName := ⟨RX9, "times", "(II)I"⟩
abbrev cX9_raise : ByteArray := prog_11_method_6_code
def yX9_raise : MethodName := ⟨RX9, "raise", "(JII)J"⟩
abbrev cX9_power : ByteArray := prog_11_method_7_code
def yX9_power : MethodName := ⟨RX9, "power", "(II)I"⟩
abbrev cX9_by : ByteArray := prog_11_method_8_code
def yX9_by : MethodName := ⟨RX9, "by", "(II)I"⟩
abbrev cX9_partOf : ByteArray := prog_11_method_9_code
def yX9_partOf : MethodName := ⟨RX9, "partOf", "(I)I"⟩
abbrev cX9_h : ByteArray := prog_11_method_10_code
def yX9_h : MethodName := ⟨RX9, "h", "()I"⟩
abbrev cX9_key : ByteArray := prog_11_method_11_code
def yX9_key : MethodName := ⟨RX9, "key", "(IIII)I"⟩
abbrev cX9_isHolder : ByteArray := prog_11_method_12_code
def yX9_isHolder : MethodName := ⟨RX9, "isHolder", "(I)Z"⟩
abbrev cX9_holder : ByteArray := prog_11_method_13_code
def yX9_holder : MethodName := ⟨RX9, "holder", "(II)I"⟩
abbrev cX9_sealOf : ByteArray := prog_11_method_14_code
def yX9_sealOf : MethodName := ⟨RX9, "sealOf", "(III)I"⟩
abbrev cX9_seal : ByteArray := prog_11_method_15_code
def yX9_seal : MethodName := ⟨RX9, "seal", "(III)I"⟩
abbrev cX9_isRight : ByteArray := prog_11_method_16_code
def yX9_isRight : MethodName := ⟨RX9, "isRight", "(II)Z"⟩
abbrev cX9_right : ByteArray := prog_11_method_17_code
def yX9_right : MethodName := ⟨RX9, "right", "(II)I"⟩
abbrev cX9_open : ByteArray := prog_11_method_18_code
def yX9_open : MethodName := ⟨RX9, "open", "(II)I"⟩
abbrev cX9_isSet : ByteArray := prog_11_method_19_code
def yX9_isSet : MethodName := ⟨RX9, "isSet", "(I)Z"⟩
abbrev cX9_weightOf : ByteArray := prog_11_method_20_code
def yX9_weightOf : MethodName := ⟨RX9, "weightOf", "(II)I"⟩
abbrev cX9_weight : ByteArray := prog_11_method_21_code
def yX9_weight : MethodName := ⟨RX9, "weight", "(II)I"⟩
abbrev cX9_opened : ByteArray := prog_11_method_22_code
def yX9_opened : MethodName := ⟨RX9, "opened", "(IIII)I"⟩
abbrev cX9_mix : ByteArray := prog_11_method_23_code
def yX9_mix : MethodName := ⟨RX9, "mix", "(I)V"⟩
abbrev cX9_sOf : ByteArray := prog_11_method_24_code
def yX9_sOf : MethodName := ⟨RX9, "sOf", "(III)I"⟩
abbrev cX9_tOf : ByteArray := prog_11_method_25_code
def yX9_tOf : MethodName := ⟨RX9, "tOf", "(IIII)I"⟩
abbrev cX9_prove : ByteArray := prog_11_method_26_code
def yX9_prove : MethodName := ⟨RX9, "prove", "(IIIIII)I"⟩
abbrev cX9_proved : ByteArray := prog_11_method_27_code
def yX9_proved : MethodName := ⟨RX9, "proved", "(IIIIII)I"⟩
abbrev cX9_holds : ByteArray := prog_11_method_28_code
def yX9_holds : MethodName := ⟨RX9, "holds", "(IIIIII)Z"⟩
abbrev cX9_check : ByteArray := prog_11_method_29_code
def yX9_check : MethodName := ⟨RX9, "check", "(IIIIII)I"⟩
abbrev cX9_isVoter : ByteArray := prog_11_method_30_code
def yX9_isVoter : MethodName := ⟨RX9, "isVoter", "(I)Z"⟩
abbrev cX9_voter : ByteArray := prog_11_method_31_code
def yX9_voter : MethodName := ⟨RX9, "voter", "(III)I"⟩
abbrev cX9_say : ByteArray := prog_11_method_32_code
def yX9_say : MethodName := ⟨RX9, "say", "(I)I"⟩
abbrev cX9_wipe : ByteArray := prog_11_method_33_code
def yX9_wipe : MethodName := ⟨RX9, "wipe", "()I"⟩
abbrev cX9_faultOf : ByteArray := prog_11_method_34_code
def yX9_faultOf : MethodName := ⟨RX9, "faultOf", "()I"⟩
abbrev cX9_fault : ByteArray := prog_11_method_35_code
def yX9_fault : MethodName := ⟨RX9, "fault", "()I"⟩
abbrev cX9_rule : ByteArray := prog_11_method_36_code
def yX9_rule : MethodName := ⟨RX9, "rule", "()I"⟩
abbrev cX9_mayVote : ByteArray := prog_11_method_37_code
def yX9_mayVote : MethodName := ⟨RX9, "mayVote", "(I)Z"⟩
abbrev cX9_may : ByteArray := prog_11_method_38_code
def yX9_may : MethodName := ⟨RX9, "may", "(I)I"⟩
abbrev cX9_isHour : ByteArray := prog_11_method_39_code
def yX9_isHour : MethodName := ⟨RX9, "isHour", "(I)Z"⟩
abbrev cX9_isTold : ByteArray := prog_11_method_40_code
def yX9_isTold : MethodName := ⟨RX9, "isTold", "(I)Z"⟩
abbrev cX9_close : ByteArray := prog_11_method_41_code
def yX9_close : MethodName := ⟨RX9, "close", "(I)I"⟩
abbrev cX9_addRow : ByteArray := prog_11_method_42_code
def yX9_addRow : MethodName := ⟨RX9, "addRow", "(IIIIZ)I"⟩
abbrev cX9_row : ByteArray := prog_11_method_43_code
def yX9_row : MethodName := ⟨RX9, "row", "(IIII)I"⟩
abbrev cX9_isRow : ByteArray := prog_11_method_44_code
def yX9_isRow : MethodName := ⟨RX9, "isRow", "(I)Z"⟩
abbrev cX9_attach : ByteArray := prog_11_method_45_code
def yX9_attach : MethodName := ⟨RX9, "attach", "(IIIII)I"⟩
abbrev cX9_cast : ByteArray := prog_11_method_46_code
def yX9_cast : MethodName := ⟨RX9, "cast", "(IIIIIII)I"⟩
abbrev cX9_flawOf : ByteArray := prog_11_method_47_code
def yX9_flawOf : MethodName := ⟨RX9, "flawOf", "(I)I"⟩
abbrev cX9_stateOf : ByteArray := prog_11_method_48_code
def yX9_stateOf : MethodName := ⟨RX9, "stateOf", "(I)I"⟩
abbrev cX9_wordOf : ByteArray := prog_11_method_49_code
def yX9_wordOf : MethodName := ⟨RX9, "wordOf", "(I)I"⟩
abbrev cX9_headOf : ByteArray := prog_11_method_50_code
def yX9_headOf : MethodName := ⟨RX9, "headOf", "(I)I"⟩
abbrev cX9_ofRow : ByteArray := prog_11_method_51_code
def yX9_ofRow : MethodName := ⟨RX9, "ofRow", "(II)I"⟩
abbrev cX9_find : ByteArray := prog_11_method_52_code
def yX9_find : MethodName := ⟨RX9, "find", "(II)I"⟩
abbrev cX9_tally : ByteArray := prog_11_method_53_code
def yX9_tally : MethodName := ⟨RX9, "tally", "(I)I"⟩
abbrev cX9_copy : ByteArray := prog_11_method_54_code
def yX9_copy : MethodName := ⟨RX9, "copy", "(I)I"⟩
abbrev cX9_parted : ByteArray := prog_11_method_55_code
def yX9_parted : MethodName := ⟨RX9, "parted", "()I"⟩
abbrev cX9_choose : ByteArray := prog_11_method_56_code
def yX9_choose : MethodName := ⟨RX9, "choose", "(II)J"⟩
abbrev cX9_term : ByteArray := prog_11_method_57_code
def yX9_term : MethodName := ⟨RX9, "term", "(JJI)J"⟩
abbrev cX9_isBooth : ByteArray := prog_11_method_58_code
def yX9_isBooth : MethodName := ⟨RX9, "isBooth", "(II)Z"⟩
abbrev cX9_lies : ByteArray := prog_11_method_59_code
def yX9_lies : MethodName := ⟨RX9, "lies", "(IIII)J"⟩
abbrev cX9_ask : ByteArray := prog_11_method_60_code
def yX9_ask : MethodName := ⟨RX9, "ask", "(III)I"⟩
abbrev cX9_isAll : ByteArray := prog_11_method_61_code
def yX9_isAll : MethodName := ⟨RX9, "isAll", "(I)Z"⟩
abbrev cX9_slips : ByteArray := prog_11_method_62_code
def yX9_slips : MethodName := ⟨RX9, "slips", "(IIII)J"⟩
abbrev cX9_drawn : ByteArray := prog_11_method_63_code
def yX9_drawn : MethodName := ⟨RX9, "drawn", "(III)I"⟩
abbrev cX9_sure : ByteArray := prog_11_method_64_code
def yX9_sure : MethodName := ⟨RX9, "sure", "(II)I"⟩
abbrev cX9_areSums : ByteArray := prog_11_method_65_code
def yX9_areSums : MethodName := ⟨RX9, "areSums", "(IIIIII)Z"⟩
abbrev cX9_told : ByteArray := prog_11_method_66_code
def yX9_told : MethodName := ⟨RX9, "told", "(IIIIIIII)J"⟩
abbrev cX9_forced : ByteArray := prog_11_method_67_code
def yX9_forced : MethodName := ⟨RX9, "forced", "(IIIIII)I"⟩
abbrev cX9_rowsThatAre : ByteArray := prog_11_method_68_code
def yX9_rowsThatAre : MethodName := ⟨RX9, "rowsThatAre", "(I)I"⟩
abbrev cX9_count : ByteArray := prog_11_method_69_code
def yX9_count : MethodName := ⟨RX9, "count", "(I)I"⟩
def RJ6 : String := "java/lang/Integer"
def TJ6 : u_T := fun k => match k with
  | _ => ("", "", "", false)
def tyJ6 : Nat → FieldType := fun k => match k with
  | _ => .int
abbrev wsJ60 : List Cond := u_ws RJ6 TJ6 0
theorem nmJ6 : ∀ a, a < 0 → ∀ b, b < 0 → a ≠ b → (TJ6 a).2.1 ≠ (TJ6 b).2.1 := by decide +kernel
theorem tyJ6_ok : ∀ k, k < 0 → parseFieldDescriptor (TJ6 k).2.2.1 = some (tyJ6 k) := by decide +kernel
abbrev cJ6_bitCount_0f7a4 : ByteArray := prog_12_method_49_code
def yJ6_bitCount_0f7a4 : MethodName := ⟨RJ6, "bitCount", "(I)I"⟩
def RJ9 : String := "java/lang/Math"
def TJ9 : u_T := fun k => match k with
  | _ => ("", "", "", false)
def tyJ9 : Nat → FieldType := fun k => match k with
  | _ => .int
abbrev wsJ90 : List Cond := u_ws RJ9 TJ9 0
theorem nmJ9 : ∀ a, a < 0 → ∀ b, b < 0 → a ≠ b → (TJ9 a).2.1 ≠ (TJ9 b).2.1 := by decide +kernel
theorem tyJ9_ok : ∀ k, k < 0 → parseFieldDescriptor (TJ9 k).2.2.1 = some (tyJ9 k) := by decide +kernel
abbrev cJ9_max_7cf53 : ByteArray := prog_13_method_65_code
def yJ9_max_7cf53 : MethodName := ⟨RJ9, "max", "(II)I"⟩
def RL : String := "WallCountLaw"
abbrev cL_law : ByteArray := code
def yL_law : MethodName := ⟨RL, "law", "([I)Z"⟩
def wsX0_init : List Cond := .code yX0_init cX0_init 1 none :: ([.methodLink RX0 3 objectInit, .instanceMethod objectInit, .code objectInit ⟨#[0xb1]⟩ 1 none, .fieldLink RX0 9 "WallCount$Key" "need" "I", .fieldLink RX0 15 "WallCount$Key" "c0" "I", .fieldLink RX0 18 "WallCount$Key" "c1" "I", .fieldLink RX0 21 "WallCount$Key" "c2" "I", .fieldLink RX0 24 "WallCount$Key" "h" "I"] ++ wsX00)
def wsX2_power : List Cond := .code yX2_power cX2_power 6 (some .int) :: ([])
def wsX2_ofG : List Cond := .code yX2_ofG cX2_ofG 1 (some .int) :: ([.methodLink RX2 11 yX2_power, .static yX2_power, .initialized RX2, .code yX2_power cX2_power 6 (some .int)])
def wsX0_become : List Cond := .code yX0_become cX0_become 5 none :: ([.fieldLink RX0 9 "WallCount$Key" "need" "I", .fieldLink RX0 15 "WallCount$Key" "c0" "I", .fieldLink RX0 18 "WallCount$Key" "c1" "I", .fieldLink RX0 21 "WallCount$Key" "c2" "I", .fieldLink RX0 24 "WallCount$Key" "h" "I", .methodLink RX0 27 yX2_ofG, .static yX2_ofG, .initialized RX2, .code yX2_ofG cX2_ofG 1 (some .int), .methodLink RX2 11 yX2_power, .static yX2_power, .code yX2_power cX2_power 6 (some .int)] ++ wsX00)
def wsX0_need : List Cond := .code yX0_need cX0_need 1 (some .int) :: ([.fieldLink RX0 9 "WallCount$Key" "need" "I"] ++ wsX00)
def wsX0_h : List Cond := .code yX0_h cX0_h 1 (some .int) :: ([.fieldLink RX0 24 "WallCount$Key" "h" "I"] ++ wsX00)
def wsX0_part : List Cond := .code yX0_part cX0_part 2 (some .int) :: ([.fieldLink RX0 15 "WallCount$Key" "c0" "I", .fieldLink RX0 18 "WallCount$Key" "c1" "I", .fieldLink RX0 21 "WallCount$Key" "c2" "I"] ++ wsX00)
def wsX2_of : List Cond := .code yX2_of cX2_of 2 (some .int) :: ([.methodLink RX2 11 yX2_power, .static yX2_power, .initialized RX2, .code yX2_power cX2_power 6 (some .int)])
def wsX0_sealedB : List Cond := .code yX0_sealedB cX0_sealedB 3 (some .int) :: ([.fieldLink RX0 24 "WallCount$Key" "h" "I", .methodLink RX0 33 yX2_of, .static yX2_of, .initialized RX2, .code yX2_of cX2_of 2 (some .int), .methodLink RX2 11 yX2_power, .static yX2_power, .code yX2_power cX2_power 6 (some .int), .methodLink RX0 27 yX2_ofG, .static yX2_ofG, .code yX2_ofG cX2_ofG 1 (some .int)] ++ wsX00)
def wsX0_share : List Cond := .code yX0_share cX0_share 3 (some .int) :: ([.methodLink RX0 37 yX0_part, .instanceMethod yX0_part, .selects RX0 yX0_part yX0_part, .initialized RX0, .code yX0_part cX0_part 2 (some .int), .fieldLink RX0 15 "WallCount$Key" "c0" "I", .fieldLink RX0 18 "WallCount$Key" "c1" "I", .fieldLink RX0 21 "WallCount$Key" "c2" "I", .methodLink RX0 33 yX2_of, .static yX2_of, .initialized RX2, .code yX2_of cX2_of 2 (some .int), .methodLink RX2 11 yX2_power, .static yX2_power, .code yX2_power cX2_power 6 (some .int)] ++ wsX00)
def wsX8_isIn : List Cond := .code yX8_isIn cX8_isIn 2 (some .boolean) :: ([])
def wsX2_inverse : List Cond := .code yX2_inverse cX2_inverse 2 (some .int) :: ([.methodLink RX2 11 yX2_power, .static yX2_power, .initialized RX2, .code yX2_power cX2_power 6 (some .int)])
def wsX0_weightIn : List Cond := .code yX0_weightIn cX0_weightIn 4 (some .int) :: ([.static yX8_isIn, .initialized RX8, .code yX8_isIn cX8_isIn 2 (some .boolean), .methodLink RX0 44 yX2_inverse, .static yX2_inverse, .initialized RX2, .code yX2_inverse cX2_inverse 2 (some .int), .methodLink RX2 11 yX2_power, .static yX2_power, .code yX2_power cX2_power 6 (some .int)])
def wsX2_divided : List Cond := .code yX2_divided cX2_divided 2 (some .int) :: ([.methodLink RX2 15 yX2_inverse, .static yX2_inverse, .initialized RX2, .code yX2_inverse cX2_inverse 2 (some .int), .methodLink RX2 11 yX2_power, .static yX2_power, .code yX2_power cX2_power 6 (some .int)])
def wsX0_unsealed_r1 : List Cond := [Cond.static yX8_isIn, Cond.initialized RX8, Cond.code yX8_isIn cX8_isIn 2 (some .boolean), Cond.methodLink RX0 47 yX0_share, Cond.instanceMethod yX0_share, Cond.selects RX0 yX0_share yX0_share, Cond.initialized RX0, Cond.code yX0_share cX0_share 3 (some .int), Cond.methodLink RX0 37 yX0_part, Cond.instanceMethod yX0_part, Cond.selects RX0 yX0_part yX0_part, Cond.code yX0_part cX0_part 2 (some .int), Cond.fieldLink RX0 15 "WallCount$Key" "c0" "I", Cond.fieldLink RX0 18 "WallCount$Key" "c1" "I", Cond.fieldLink RX0 21 "WallCount$Key" "c2" "I", Cond.methodLink RX0 33 yX2_of, Cond.static yX2_of, Cond.initialized RX2, Cond.code yX2_of cX2_of 2 (some .int), Cond.methodLink RX2 11 yX2_power, Cond.static yX2_power, Cond.code yX2_power cX2_power 6 (some .int), Cond.methodLink RX0 50 yX0_weightIn, Cond.static yX0_weightIn]
def wsX0_unsealed_r2 : List Cond := [Cond.code yX0_weightIn cX0_weightIn 4 (some .int), Cond.methodLink RX0 44 yX2_inverse, Cond.static yX2_inverse, Cond.code yX2_inverse cX2_inverse 2 (some .int), Cond.methodLink RX0 53 yX2_divided, Cond.static yX2_divided, Cond.code yX2_divided cX2_divided 2 (some .int), Cond.methodLink RX2 15 yX2_inverse]
def wsX0_unsealed : List Cond := .code yX0_unsealed cX0_unsealed 6 (some .int) :: ((wsX0_unsealed_r1 ++ wsX0_unsealed_r2) ++ wsX00)
def wsX1_choose : List Cond := .code yX1_choose cX1_choose 5 (some .long) :: ([])
def wsX1_forOne : List Cond := .code yX1_forOne cX1_forOne 1 (some .int) :: ([])
def wsX1_waysForOne : List Cond := .code yX1_waysForOne cX1_waysForOne 6 (some .long) :: ([.methodLink RX1 9 yX1_forOne, .static yX1_forOne, .initialized RX1, .code yX1_forOne cX1_forOne 1 (some .int), .methodLink RX1 15 yX1_choose, .static yX1_choose, .code yX1_choose cX1_choose 5 (some .long)])
def wsX1_leastDrawn : List Cond := .code yX1_leastDrawn cX1_leastDrawn 5 (some .int) :: ([.constantLong RX1 19 (100), .methodLink RX1 15 yX1_choose, .static yX1_choose, .initialized RX1, .code yX1_choose cX1_choose 5 (some .long)])
def wsX1_slipDrawn : List Cond := .code yX1_slipDrawn cX1_slipDrawn 6 (some .int) :: ([.constantLong RX1 21 (16807), .constantLong RX1 23 (2147483647)])
def wsX1_greatestShared : List Cond := .code yX1_greatestShared cX1_greatestShared 11 (some .long) :: ([])
def wsX1_inLowestTerms : List Cond := .code yX1_inLowestTerms cX1_inLowestTerms 7 (some .long) :: ([.methodLink RX1 25 yX1_greatestShared, .static yX1_greatestShared, .initialized RX1, .code yX1_greatestShared cX1_greatestShared 11 (some .long)])
def wsX8_within : List Cond := .code yX8_within cX8_within 3 (some .boolean) :: ([])
def wsX8_isResidue : List Cond := .code yX8_isResidue cX8_isResidue 1 (some .boolean) :: ([.methodLink RX8 39 yX8_within, .static yX8_within, .initialized RX8, .code yX8_within cX8_within 3 (some .boolean)])
def wsX2_isRight : List Cond := .code yX2_isRight cX2_isRight 2 (some .boolean) :: ([.static yX8_isResidue, .initialized RX8, .code yX8_isResidue cX8_isResidue 1 (some .boolean), .methodLink RX8 39 yX8_within, .static yX8_within, .code yX8_within cX8_within 3 (some .boolean), .methodLink RX2 23 yX2_of, .static yX2_of, .initialized RX2, .code yX2_of cX2_of 2 (some .int), .methodLink RX2 11 yX2_power, .static yX2_power, .code yX2_power cX2_power 6 (some .int)])
def wsX2_exponentOf : List Cond := .code yX2_exponentOf cX2_exponentOf 3 (some .int) :: ([])
def wsX3_init : List Cond := .code yX3_init cX3_init 1 none :: ([.methodLink RX3 3 objectInit, .instanceMethod objectInit, .code objectInit ⟨#[0xb1]⟩ 1 none])
def wsX3_become : List Cond := .code yX3_become cX3_become 5 none :: ([.fieldLink RX3 9 "WallCount$Proof" "c0" "I", .fieldLink RX3 15 "WallCount$Proof" "z0" "I", .fieldLink RX3 18 "WallCount$Proof" "c1" "I", .fieldLink RX3 21 "WallCount$Proof" "z1" "I"] ++ wsX30)
def wsX3_number : List Cond := .code yX3_number cX3_number 2 (some .int) :: ([.fieldLink RX3 9 "WallCount$Proof" "c0" "I", .fieldLink RX3 15 "WallCount$Proof" "z0" "I", .fieldLink RX3 18 "WallCount$Proof" "c1" "I", .fieldLink RX3 21 "WallCount$Proof" "z1" "I"] ++ wsX30)
def wsX8_isExponent : List Cond := .code yX8_isExponent cX8_isExponent 1 (some .boolean) :: ([.methodLink RX8 39 yX8_within, .static yX8_within, .initialized RX8, .code yX8_within cX8_within 3 (some .boolean)])
def wsX8_areLots : List Cond := .code yX8_areLots cX8_areLots 4 (some .boolean) :: ([.methodLink RX8 43 yX8_isExponent, .static yX8_isExponent, .initialized RX8, .code yX8_isExponent cX8_isExponent 1 (some .boolean), .methodLink RX8 39 yX8_within, .static yX8_within, .code yX8_within cX8_within 3 (some .boolean)])
def wsX3_mixedWith : List Cond := .code yX3_mixedWith cX3_mixedWith 2 (some .int) :: ([])
def wsX3_sOf : List Cond := .code yX3_sOf cX3_sOf 3 (some .int) :: ([.methodLink RX3 46 yX2_ofG, .static yX2_ofG, .initialized RX2, .code yX2_ofG cX2_ofG 1 (some .int), .methodLink RX2 11 yX2_power, .static yX2_power, .code yX2_power cX2_power 6 (some .int), .methodLink RX3 59 yX2_of, .static yX2_of, .code yX2_of cX2_of 2 (some .int), .methodLink RX3 66 yX2_divided, .static yX2_divided, .code yX2_divided cX2_divided 2 (some .int), .methodLink RX2 15 yX2_inverse, .static yX2_inverse, .code yX2_inverse cX2_inverse 2 (some .int)])
def wsX3_tOf : List Cond := .code yX3_tOf cX3_tOf 6 (some .int) :: ([.methodLink RX3 46 yX2_ofG, .static yX2_ofG, .initialized RX2, .code yX2_ofG cX2_ofG 1 (some .int), .methodLink RX2 11 yX2_power, .static yX2_power, .code yX2_power cX2_power 6 (some .int), .methodLink RX3 66 yX2_divided, .static yX2_divided, .code yX2_divided cX2_divided 2 (some .int), .methodLink RX2 15 yX2_inverse, .static yX2_inverse, .code yX2_inverse cX2_inverse 2 (some .int), .methodLink RX3 55 yX0_h, .instanceMethod yX0_h, .selects RX0 yX0_h yX0_h, .initialized RX0, .code yX0_h cX0_h 1 (some .int), .fieldLink RX0 24 "WallCount$Key" "h" "I", .methodLink RX3 59 yX2_of, .static yX2_of, .code yX2_of cX2_of 2 (some .int)] ++ wsX00)
def wsX3_holds_r1 : List Cond := [Cond.fieldLink RX3 9 "WallCount$Proof" "c0" "I", Cond.fieldLink RX3 15 "WallCount$Proof" "z0" "I", Cond.fieldLink RX3 18 "WallCount$Proof" "c1" "I", Cond.fieldLink RX3 21 "WallCount$Proof" "z1" "I", Cond.methodLink RX3 24 yX2_isRight, Cond.static yX2_isRight, Cond.initialized RX2, Cond.code yX2_isRight cX2_isRight 2 (some .boolean), Cond.static yX8_isResidue, Cond.initialized RX8, Cond.code yX8_isResidue cX8_isResidue 1 (some .boolean), Cond.methodLink RX8 39 yX8_within, Cond.static yX8_within, Cond.code yX8_within cX8_within 3 (some .boolean), Cond.methodLink RX2 23 yX2_of, Cond.static yX2_of, Cond.code yX2_of cX2_of 2 (some .int), Cond.methodLink RX2 11 yX2_power, Cond.static yX2_power, Cond.code yX2_power cX2_power 6 (some .int), Cond.static yX8_areLots, Cond.code yX8_areLots cX8_areLots 4 (some .boolean), Cond.methodLink RX8 43 yX8_isExponent, Cond.static yX8_isExponent]
def wsX3_holds_r2 : List Cond := [Cond.code yX8_isExponent cX8_isExponent 1 (some .boolean), Cond.methodLink RX3 34 yX3_mixedWith, Cond.static yX3_mixedWith, Cond.initialized RX3, Cond.code yX3_mixedWith cX3_mixedWith 2 (some .int), Cond.methodLink RX3 38 yX3_sOf, Cond.static yX3_sOf, Cond.code yX3_sOf cX3_sOf 3 (some .int), Cond.methodLink RX3 46 yX2_ofG, Cond.static yX2_ofG, Cond.code yX2_ofG cX2_ofG 1 (some .int), Cond.methodLink RX3 59 yX2_of, Cond.methodLink RX3 66 yX2_divided, Cond.static yX2_divided, Cond.code yX2_divided cX2_divided 2 (some .int), Cond.methodLink RX2 15 yX2_inverse, Cond.static yX2_inverse, Cond.code yX2_inverse cX2_inverse 2 (some .int), Cond.methodLink RX3 42 yX3_tOf, Cond.static yX3_tOf, Cond.code yX3_tOf cX3_tOf 6 (some .int), Cond.methodLink RX3 55 yX0_h, Cond.instanceMethod yX0_h, Cond.selects RX0 yX0_h yX0_h]
def wsX3_holds_r3 : List Cond := [Cond.initialized RX0, Cond.code yX0_h cX0_h 1 (some .int), Cond.fieldLink RX0 24 "WallCount$Key" "h" "I"]
def wsX3_holds : List Cond := .code yX3_holds cX3_holds 5 (some .boolean) :: ((wsX3_holds_r1 ++ (wsX3_holds_r2 ++ wsX3_holds_r3)) ++ wsX30 ++ wsX00)
def wsX3_make_r1 : List Cond := [Cond.methodLink RX3 46 yX2_ofG, Cond.static yX2_ofG, Cond.initialized RX2, Cond.code yX2_ofG cX2_ofG 1 (some .int), Cond.methodLink RX2 11 yX2_power, Cond.static yX2_power, Cond.code yX2_power cX2_power 6 (some .int), Cond.methodLink RX3 50 yX0_sealedB, Cond.instanceMethod yX0_sealedB, Cond.selects RX0 yX0_sealedB yX0_sealedB, Cond.initialized RX0, Cond.code yX0_sealedB cX0_sealedB 3 (some .int), Cond.fieldLink RX0 24 "WallCount$Key" "h" "I", Cond.methodLink RX0 33 yX2_of, Cond.static yX2_of, Cond.code yX2_of cX2_of 2 (some .int), Cond.methodLink RX0 27 yX2_ofG, Cond.methodLink RX3 55 yX0_h, Cond.instanceMethod yX0_h, Cond.selects RX0 yX0_h yX0_h, Cond.code yX0_h cX0_h 1 (some .int), Cond.methodLink RX3 59 yX2_of, Cond.methodLink RX3 38 yX3_sOf, Cond.static yX3_sOf]
def wsX3_make_r2 : List Cond := [Cond.initialized RX3, Cond.code yX3_sOf cX3_sOf 3 (some .int), Cond.methodLink RX3 66 yX2_divided, Cond.static yX2_divided, Cond.code yX2_divided cX2_divided 2 (some .int), Cond.methodLink RX2 15 yX2_inverse, Cond.static yX2_inverse, Cond.code yX2_inverse cX2_inverse 2 (some .int), Cond.methodLink RX3 42 yX3_tOf, Cond.static yX3_tOf, Cond.code yX3_tOf cX3_tOf 6 (some .int), Cond.methodLink RX3 34 yX3_mixedWith, Cond.static yX3_mixedWith, Cond.code yX3_mixedWith cX3_mixedWith 2 (some .int), Cond.methodLink RX3 62 yX3_become, Cond.instanceMethod yX3_become, Cond.selects RX3 yX3_become yX3_become, Cond.code yX3_become cX3_become 5 none, Cond.fieldLink RX3 9 "WallCount$Proof" "c0" "I", Cond.fieldLink RX3 15 "WallCount$Proof" "z0" "I", Cond.fieldLink RX3 18 "WallCount$Proof" "c1" "I", Cond.fieldLink RX3 21 "WallCount$Proof" "z1" "I"]
def wsX3_make : List Cond := .code yX3_make cX3_make 16 none :: ((wsX3_make_r1 ++ wsX3_make_r2) ++ wsX00 ++ wsX30)
def wsX6_init : List Cond := .code yX6_init cX6_init 1 none :: ([.methodLink RX6 3 objectInit, .instanceMethod objectInit, .code objectInit ⟨#[0xb1]⟩ 1 none, .arrayClass .int, .fieldLink RX6 9 "WallCount$Text" "signs" "[I", .fieldLink RX6 15 "WallCount$Text" "size" "I"] ++ wsX60)
def wsX4_init : List Cond := .code yX4_init cX4_init 2 none :: ([.methodLink RX4 3 objectInit, .instanceMethod objectInit, .code objectInit ⟨#[0xb1]⟩ 1 none, .arrayClass .int, .fieldLink RX4 9 "WallCount$Roll" "traits" "[I", .classLink RX4 15 RX6, .instantiable RX6 2, .initialized RX6, .fieldLink RX4 18 "WallCount$Roll" "whoMay" "LWallCount$Text;", .fieldLink RX4 22 "WallCount$Roll" "draft" "LWallCount$Text;", .methodLink RX4 17 yX6_init, .instanceMethod yX6_init, .code yX6_init cX6_init 1 none, .methodLink RX6 3 objectInit, .fieldLink RX6 9 "WallCount$Text" "signs" "[I", .fieldLink RX6 15 "WallCount$Text" "size" "I"] ++ wsX40 ++ wsX60)
def wsX4_draft : List Cond := .code yX4_draft cX4_draft 1 (some (.object "WallCount$Text")) :: ([.fieldLink RX4 22 "WallCount$Roll" "draft" "LWallCount$Text;"] ++ wsX40)
def wsX6_clear : List Cond := .code yX6_clear cX6_clear 1 none :: ([.fieldLink RX6 15 "WallCount$Text" "size" "I"] ++ wsX60)
def wsX4_adoptDraft : List Cond := .code yX4_adoptDraft cX4_adoptDraft 2 none :: ([.fieldLink RX4 18 "WallCount$Roll" "whoMay" "LWallCount$Text;", .fieldLink RX4 22 "WallCount$Roll" "draft" "LWallCount$Text;", .methodLink RX4 25 yX6_clear, .instanceMethod yX6_clear, .selects RX6 yX6_clear yX6_clear, .initialized RX6, .code yX6_clear cX6_clear 1 none, .fieldLink RX6 15 "WallCount$Text" "size" "I"] ++ wsX40 ++ wsX60)
def wsX4_trait : List Cond := .code yX4_trait cX4_trait 4 (some .int) :: ([.fieldLink RX4 9 "WallCount$Roll" "traits" "[I"] ++ wsX40)
def wsX4_change : List Cond := .code yX4_change cX4_change 6 (some .int) :: ([.fieldLink RX4 9 "WallCount$Roll" "traits" "[I", .methodLink RX4 28 yX4_trait, .instanceMethod yX4_trait, .selects RX4 yX4_trait yX4_trait, .initialized RX4, .code yX4_trait cX4_trait 4 (some .int)] ++ wsX40)
def wsX6_isName : List Cond := .code yX6_isName cX6_isName 1 (some .boolean) :: ([])
def wsX6_isCompare : List Cond := .code yX6_isCompare cX6_isCompare 1 (some .boolean) :: ([])
def wsX6_isDigit : List Cond := .code yX6_isDigit cX6_isDigit 1 (some .boolean) :: ([])
def wsX6_passes : List Cond := .code yX6_passes cX6_passes 3 (some .boolean) :: ([])
def wsX6_allows : List Cond := .code yX6_allows cX6_allows 11 (some .boolean) :: ([.fieldLink RX6 15 "WallCount$Text" "size" "I", .fieldLink RX6 9 "WallCount$Text" "signs" "[I", .methodLink RX6 23 yX6_isName, .static yX6_isName, .initialized RX6, .code yX6_isName cX6_isName 1 (some .boolean), .methodLink RX6 27 yX6_isCompare, .static yX6_isCompare, .code yX6_isCompare cX6_isCompare 1 (some .boolean), .methodLink RX6 30 yX6_isDigit, .static yX6_isDigit, .code yX6_isDigit cX6_isDigit 1 (some .boolean), .methodLink RX6 36 yX6_passes, .static yX6_passes, .code yX6_passes cX6_passes 3 (some .boolean)] ++ wsX60)
def wsX4_allows_r1 : List Cond := [Cond.fieldLink RX4 18 "WallCount$Roll" "whoMay" "LWallCount$Text;", Cond.methodLink RX4 28 yX4_trait, Cond.instanceMethod yX4_trait, Cond.selects RX4 yX4_trait yX4_trait, Cond.initialized RX4, Cond.code yX4_trait cX4_trait 4 (some .int), Cond.fieldLink RX4 9 "WallCount$Roll" "traits" "[I", Cond.methodLink RX4 32 yX6_allows, Cond.instanceMethod yX6_allows, Cond.selects RX6 yX6_allows yX6_allows, Cond.initialized RX6, Cond.code yX6_allows cX6_allows 11 (some .boolean), Cond.fieldLink RX6 15 "WallCount$Text" "size" "I", Cond.fieldLink RX6 9 "WallCount$Text" "signs" "[I", Cond.methodLink RX6 23 yX6_isName, Cond.static yX6_isName, Cond.code yX6_isName cX6_isName 1 (some .boolean), Cond.methodLink RX6 27 yX6_isCompare, Cond.static yX6_isCompare, Cond.code yX6_isCompare cX6_isCompare 1 (some .boolean), Cond.methodLink RX6 30 yX6_isDigit, Cond.static yX6_isDigit, Cond.code yX6_isDigit cX6_isDigit 1 (some .boolean), Cond.methodLink RX6 36 yX6_passes]
def wsX4_allows_r2 : List Cond := [Cond.static yX6_passes, Cond.code yX6_passes cX6_passes 3 (some .boolean)]
def wsX4_allows : List Cond := .code yX4_allows cX4_allows 2 (some .boolean) :: ((wsX4_allows_r1 ++ wsX4_allows_r2) ++ wsX40 ++ wsX60)
def wsX5_init : List Cond := .code yX5_init cX5_init 7 none :: ([.methodLink RX5 3 objectInit, .instanceMethod objectInit, .code objectInit ⟨#[0xb1]⟩ 1 none, .fieldLink RX5 9 "WallCount$Row" "voter" "I", .fieldLink RX5 15 "WallCount$Row" "a" "I", .fieldLink RX5 18 "WallCount$Row" "b" "I", .fieldLink RX5 21 "WallCount$Row" "hour" "I", .fieldLink RX5 24 "WallCount$Row" "sound" "Z", .fieldLink RX5 28 "WallCount$Row" "proved" "Z"] ++ wsX50)
def wsX5_wordWith : List Cond := .code yX5_wordWith cX5_wordWith 2 (some .int) :: ([])
def wsX5_word : List Cond := .code yX5_word cX5_word 2 (some .int) :: ([.fieldLink RX5 9 "WallCount$Row" "voter" "I", .fieldLink RX5 15 "WallCount$Row" "a" "I", .fieldLink RX5 18 "WallCount$Row" "b" "I", .fieldLink RX5 21 "WallCount$Row" "hour" "I", .methodLink RX5 31 yX5_wordWith, .static yX5_wordWith, .initialized RX5, .code yX5_wordWith cX5_wordWith 2 (some .int)] ++ wsX50)
def wsX6_size : List Cond := .code yX6_size cX6_size 1 (some .int) :: ([.fieldLink RX6 15 "WallCount$Text" "size" "I"] ++ wsX60)
def wsX6_add : List Cond := .code yX6_add cX6_add 2 (some .boolean) :: ([.fieldLink RX6 15 "WallCount$Text" "size" "I", .fieldLink RX6 9 "WallCount$Text" "signs" "[I"] ++ wsX60)
def wsX6_isJoin : List Cond := .code yX6_isJoin cX6_isJoin 1 (some .boolean) :: ([])
def wsX6_stateBehind : List Cond := .code yX6_stateBehind cX6_stateBehind 2 (some .int) :: ([.methodLink RX6 23 yX6_isName, .static yX6_isName, .initialized RX6, .code yX6_isName cX6_isName 1 (some .boolean), .methodLink RX6 27 yX6_isCompare, .static yX6_isCompare, .code yX6_isCompare cX6_isCompare 1 (some .boolean), .methodLink RX6 30 yX6_isDigit, .static yX6_isDigit, .code yX6_isDigit cX6_isDigit 1 (some .boolean), .methodLink RX6 33 yX6_isJoin, .static yX6_isJoin, .code yX6_isJoin cX6_isJoin 1 (some .boolean)])
def wsX6_faultPlace : List Cond := .code yX6_faultPlace cX6_faultPlace 3 (some .int) :: ([.fieldLink RX6 15 "WallCount$Text" "size" "I", .fieldLink RX6 9 "WallCount$Text" "signs" "[I", .methodLink RX6 19 yX6_stateBehind, .static yX6_stateBehind, .initialized RX6, .code yX6_stateBehind cX6_stateBehind 2 (some .int), .methodLink RX6 23 yX6_isName, .static yX6_isName, .code yX6_isName cX6_isName 1 (some .boolean), .methodLink RX6 27 yX6_isCompare, .static yX6_isCompare, .code yX6_isCompare cX6_isCompare 1 (some .boolean), .methodLink RX6 30 yX6_isDigit, .static yX6_isDigit, .code yX6_isDigit cX6_isDigit 1 (some .boolean), .methodLink RX6 33 yX6_isJoin, .static yX6_isJoin, .code yX6_isJoin cX6_isJoin 1 (some .boolean)] ++ wsX60)
def wsX7_init : List Cond := .code yX7_init cX7_init 2 none :: ([.methodLink RX7 3 objectInit, .instanceMethod objectInit, .code objectInit ⟨#[0xb1]⟩ 1 none, .fieldLink RX7 9 "WallCount$Wall" "roll" "LWallCount$Roll;", .classLink RX7 15 RX5, .fieldLink RX7 17 "WallCount$Wall" "rows" "[LWallCount$Row;", .arrayClass .int, .fieldLink RX7 21 "WallCount$Wall" "copied" "[I", .fieldLink RX7 25 "WallCount$Wall" "size" "I", .fieldLink RX7 29 "WallCount$Wall" "copiedSize" "I", .fieldLink RX7 32 "WallCount$Wall" "closeHour" "I"] ++ wsX70)
def wsX7_size : List Cond := .code yX7_size cX7_size 1 (some .int) :: ([.fieldLink RX7 25 "WallCount$Wall" "size" "I"] ++ wsX70)
def wsX7_copiedSize : List Cond := .code yX7_copiedSize cX7_copiedSize 1 (some .int) :: ([.fieldLink RX7 29 "WallCount$Wall" "copiedSize" "I"] ++ wsX70)
def wsX7_closeHour : List Cond := .code yX7_closeHour cX7_closeHour 1 (some .int) :: ([.fieldLink RX7 32 "WallCount$Wall" "closeHour" "I"] ++ wsX70)
def wsX7_changeClose : List Cond := .code yX7_changeClose cX7_changeClose 3 (some .int) :: ([.fieldLink RX7 32 "WallCount$Wall" "closeHour" "I"] ++ wsX70)
def wsX7_isFull : List Cond := .code yX7_isFull cX7_isFull 1 (some .boolean) :: ([.fieldLink RX7 25 "WallCount$Wall" "size" "I", .fieldLink RX7 17 "WallCount$Wall" "rows" "[LWallCount$Row;"] ++ wsX70)
def wsX7_add : List Cond := .code yX7_add cX7_add 2 (some .int) :: ([.fieldLink RX7 25 "WallCount$Wall" "size" "I", .fieldLink RX7 17 "WallCount$Wall" "rows" "[LWallCount$Row;"] ++ wsX70)
def wsX7_at : List Cond := .code yX7_at cX7_at 2 (some (.object "WallCount$Row")) :: ([.fieldLink RX7 25 "WallCount$Wall" "size" "I", .fieldLink RX7 17 "WallCount$Wall" "rows" "[LWallCount$Row;"] ++ wsX70)
def wsX7_hasLaterOne : List Cond := .code yX7_hasLaterOne cX7_hasLaterOne 5 (some .boolean) :: ([.fieldLink RX7 25 "WallCount$Wall" "size" "I", .fieldLink RX7 46 "WallCount$Row" "voter" "I", .fieldLink RX7 39 "WallCount$Row" "hour" "I", .fieldLink RX7 32 "WallCount$Wall" "closeHour" "I", .fieldLink RX7 42 "WallCount$Row" "sound" "Z", .methodLink RX7 35 yX7_at, .instanceMethod yX7_at, .selects RX7 yX7_at yX7_at, .initialized RX7, .code yX7_at cX7_at 2 (some (.object "WallCount$Row")), .fieldLink RX7 17 "WallCount$Wall" "rows" "[LWallCount$Row;"] ++ wsX70 ++ wsX50)
def wsX7_kindOf_r1 : List Cond := [Cond.fieldLink RX7 39 "WallCount$Row" "hour" "I", Cond.fieldLink RX7 32 "WallCount$Wall" "closeHour" "I", Cond.fieldLink RX7 42 "WallCount$Row" "sound" "Z", Cond.fieldLink RX7 9 "WallCount$Wall" "roll" "LWallCount$Roll;", Cond.fieldLink RX7 46 "WallCount$Row" "voter" "I", Cond.methodLink RX7 35 yX7_at, Cond.instanceMethod yX7_at, Cond.selects RX7 yX7_at yX7_at, Cond.initialized RX7, Cond.code yX7_at cX7_at 2 (some (.object "WallCount$Row")), Cond.fieldLink RX7 25 "WallCount$Wall" "size" "I", Cond.fieldLink RX7 17 "WallCount$Wall" "rows" "[LWallCount$Row;", Cond.methodLink RX7 49 yX4_allows, Cond.instanceMethod yX4_allows, Cond.selects RX4 yX4_allows yX4_allows, Cond.initialized RX4, Cond.code yX4_allows cX4_allows 2 (some .boolean), Cond.fieldLink RX4 18 "WallCount$Roll" "whoMay" "LWallCount$Text;", Cond.methodLink RX4 28 yX4_trait, Cond.instanceMethod yX4_trait, Cond.selects RX4 yX4_trait yX4_trait, Cond.code yX4_trait cX4_trait 4 (some .int), Cond.fieldLink RX4 9 "WallCount$Roll" "traits" "[I", Cond.methodLink RX4 32 yX6_allows]
def wsX7_kindOf_r2 : List Cond := [Cond.instanceMethod yX6_allows, Cond.selects RX6 yX6_allows yX6_allows, Cond.initialized RX6, Cond.code yX6_allows cX6_allows 11 (some .boolean), Cond.fieldLink RX6 15 "WallCount$Text" "size" "I", Cond.fieldLink RX6 9 "WallCount$Text" "signs" "[I", Cond.methodLink RX6 23 yX6_isName, Cond.static yX6_isName, Cond.code yX6_isName cX6_isName 1 (some .boolean), Cond.methodLink RX6 27 yX6_isCompare, Cond.static yX6_isCompare, Cond.code yX6_isCompare cX6_isCompare 1 (some .boolean), Cond.methodLink RX6 30 yX6_isDigit, Cond.static yX6_isDigit, Cond.code yX6_isDigit cX6_isDigit 1 (some .boolean), Cond.methodLink RX6 36 yX6_passes, Cond.static yX6_passes, Cond.code yX6_passes cX6_passes 3 (some .boolean), Cond.methodLink RX7 55 yX7_hasLaterOne, Cond.instanceMethod yX7_hasLaterOne, Cond.selects RX7 yX7_hasLaterOne yX7_hasLaterOne, Cond.code yX7_hasLaterOne cX7_hasLaterOne 5 (some .boolean)]
def wsX7_kindOf : List Cond := .code yX7_kindOf cX7_kindOf 3 (some .int) :: ((wsX7_kindOf_r1 ++ wsX7_kindOf_r2) ++ wsX50 ++ wsX70 ++ wsX40 ++ wsX60)
def wsX7_howManyAre_r1 : List Cond := [Cond.fieldLink RX7 25 "WallCount$Wall" "size" "I", Cond.methodLink RX7 59 yX7_kindOf, Cond.instanceMethod yX7_kindOf, Cond.selects RX7 yX7_kindOf yX7_kindOf, Cond.initialized RX7, Cond.code yX7_kindOf cX7_kindOf 3 (some .int), Cond.fieldLink RX7 39 "WallCount$Row" "hour" "I", Cond.fieldLink RX7 32 "WallCount$Wall" "closeHour" "I", Cond.fieldLink RX7 42 "WallCount$Row" "sound" "Z", Cond.fieldLink RX7 9 "WallCount$Wall" "roll" "LWallCount$Roll;", Cond.fieldLink RX7 46 "WallCount$Row" "voter" "I", Cond.methodLink RX7 35 yX7_at, Cond.instanceMethod yX7_at, Cond.selects RX7 yX7_at yX7_at, Cond.code yX7_at cX7_at 2 (some (.object "WallCount$Row")), Cond.fieldLink RX7 17 "WallCount$Wall" "rows" "[LWallCount$Row;", Cond.methodLink RX7 49 yX4_allows, Cond.instanceMethod yX4_allows, Cond.selects RX4 yX4_allows yX4_allows, Cond.initialized RX4, Cond.code yX4_allows cX4_allows 2 (some .boolean), Cond.fieldLink RX4 18 "WallCount$Roll" "whoMay" "LWallCount$Text;", Cond.methodLink RX4 28 yX4_trait, Cond.instanceMethod yX4_trait]
def wsX7_howManyAre_r2 : List Cond := [Cond.selects RX4 yX4_trait yX4_trait, Cond.code yX4_trait cX4_trait 4 (some .int), Cond.fieldLink RX4 9 "WallCount$Roll" "traits" "[I", Cond.methodLink RX4 32 yX6_allows, Cond.instanceMethod yX6_allows, Cond.selects RX6 yX6_allows yX6_allows, Cond.initialized RX6, Cond.code yX6_allows cX6_allows 11 (some .boolean), Cond.fieldLink RX6 15 "WallCount$Text" "size" "I", Cond.fieldLink RX6 9 "WallCount$Text" "signs" "[I", Cond.methodLink RX6 23 yX6_isName, Cond.static yX6_isName, Cond.code yX6_isName cX6_isName 1 (some .boolean), Cond.methodLink RX6 27 yX6_isCompare, Cond.static yX6_isCompare, Cond.code yX6_isCompare cX6_isCompare 1 (some .boolean), Cond.methodLink RX6 30 yX6_isDigit, Cond.static yX6_isDigit, Cond.code yX6_isDigit cX6_isDigit 1 (some .boolean), Cond.methodLink RX6 36 yX6_passes, Cond.static yX6_passes, Cond.code yX6_passes cX6_passes 3 (some .boolean), Cond.methodLink RX7 55 yX7_hasLaterOne, Cond.instanceMethod yX7_hasLaterOne]
def wsX7_howManyAre_r3 : List Cond := [Cond.selects RX7 yX7_hasLaterOne yX7_hasLaterOne, Cond.code yX7_hasLaterOne cX7_hasLaterOne 5 (some .boolean)]
def wsX7_howManyAre : List Cond := .code yX7_howManyAre cX7_howManyAre 4 (some .int) :: ((wsX7_howManyAre_r1 ++ (wsX7_howManyAre_r2 ++ wsX7_howManyAre_r3)) ++ wsX70 ++ wsX50 ++ wsX40 ++ wsX60)
def wsX7_product_r1 : List Cond := [Cond.fieldLink RX7 25 "WallCount$Wall" "size" "I", Cond.fieldLink RX7 63 "WallCount$Row" "a" "I", Cond.fieldLink RX7 66 "WallCount$Row" "b" "I", Cond.methodLink RX7 35 yX7_at, Cond.instanceMethod yX7_at, Cond.selects RX7 yX7_at yX7_at, Cond.initialized RX7, Cond.code yX7_at cX7_at 2 (some (.object "WallCount$Row")), Cond.fieldLink RX7 17 "WallCount$Wall" "rows" "[LWallCount$Row;", Cond.methodLink RX7 59 yX7_kindOf, Cond.instanceMethod yX7_kindOf, Cond.selects RX7 yX7_kindOf yX7_kindOf, Cond.code yX7_kindOf cX7_kindOf 3 (some .int), Cond.fieldLink RX7 39 "WallCount$Row" "hour" "I", Cond.fieldLink RX7 32 "WallCount$Wall" "closeHour" "I", Cond.fieldLink RX7 42 "WallCount$Row" "sound" "Z", Cond.fieldLink RX7 9 "WallCount$Wall" "roll" "LWallCount$Roll;", Cond.fieldLink RX7 46 "WallCount$Row" "voter" "I", Cond.methodLink RX7 49 yX4_allows, Cond.instanceMethod yX4_allows, Cond.selects RX4 yX4_allows yX4_allows, Cond.initialized RX4, Cond.code yX4_allows cX4_allows 2 (some .boolean), Cond.fieldLink RX4 18 "WallCount$Roll" "whoMay" "LWallCount$Text;"]
def wsX7_product_r2 : List Cond := [Cond.methodLink RX4 28 yX4_trait, Cond.instanceMethod yX4_trait, Cond.selects RX4 yX4_trait yX4_trait, Cond.code yX4_trait cX4_trait 4 (some .int), Cond.fieldLink RX4 9 "WallCount$Roll" "traits" "[I", Cond.methodLink RX4 32 yX6_allows, Cond.instanceMethod yX6_allows, Cond.selects RX6 yX6_allows yX6_allows, Cond.initialized RX6, Cond.code yX6_allows cX6_allows 11 (some .boolean), Cond.fieldLink RX6 15 "WallCount$Text" "size" "I", Cond.fieldLink RX6 9 "WallCount$Text" "signs" "[I", Cond.methodLink RX6 23 yX6_isName, Cond.static yX6_isName, Cond.code yX6_isName cX6_isName 1 (some .boolean), Cond.methodLink RX6 27 yX6_isCompare, Cond.static yX6_isCompare, Cond.code yX6_isCompare cX6_isCompare 1 (some .boolean), Cond.methodLink RX6 30 yX6_isDigit, Cond.static yX6_isDigit, Cond.code yX6_isDigit cX6_isDigit 1 (some .boolean), Cond.methodLink RX6 36 yX6_passes, Cond.static yX6_passes, Cond.code yX6_passes cX6_passes 3 (some .boolean)]
def wsX7_product_r3 : List Cond := [Cond.methodLink RX7 55 yX7_hasLaterOne, Cond.instanceMethod yX7_hasLaterOne, Cond.selects RX7 yX7_hasLaterOne yX7_hasLaterOne, Cond.code yX7_hasLaterOne cX7_hasLaterOne 5 (some .boolean)]
def wsX7_product : List Cond := .code yX7_product cX7_product 5 (some .int) :: ((wsX7_product_r1 ++ (wsX7_product_r2 ++ wsX7_product_r3)) ++ wsX70 ++ wsX50 ++ wsX40 ++ wsX60)
def wsX7_wordOf : List Cond := .code yX7_wordOf cX7_wordOf 3 (some .int) :: ([.methodLink RX7 35 yX7_at, .instanceMethod yX7_at, .selects RX7 yX7_at yX7_at, .initialized RX7, .code yX7_at cX7_at 2 (some (.object "WallCount$Row")), .fieldLink RX7 25 "WallCount$Wall" "size" "I", .fieldLink RX7 17 "WallCount$Wall" "rows" "[LWallCount$Row;", .methodLink RX7 76 yX5_word, .instanceMethod yX5_word, .selects RX5 yX5_word yX5_word, .initialized RX5, .code yX5_word cX5_word 2 (some .int), .fieldLink RX5 9 "WallCount$Row" "voter" "I", .fieldLink RX5 15 "WallCount$Row" "a" "I", .fieldLink RX5 18 "WallCount$Row" "b" "I", .fieldLink RX5 21 "WallCount$Row" "hour" "I", .methodLink RX5 31 yX5_wordWith, .static yX5_wordWith, .code yX5_wordWith cX5_wordWith 2 (some .int)] ++ wsX70 ++ wsX50)
def wsX7_headBehind_r1 : List Cond := [Cond.fieldLink RX7 25 "WallCount$Wall" "size" "I", Cond.constantLong RX7 69 (10007), Cond.constantLong RX7 74 (999983), Cond.methodLink RX7 71 yX7_wordOf, Cond.instanceMethod yX7_wordOf, Cond.selects RX7 yX7_wordOf yX7_wordOf, Cond.initialized RX7, Cond.code yX7_wordOf cX7_wordOf 3 (some .int), Cond.methodLink RX7 35 yX7_at, Cond.instanceMethod yX7_at, Cond.selects RX7 yX7_at yX7_at, Cond.code yX7_at cX7_at 2 (some (.object "WallCount$Row")), Cond.fieldLink RX7 17 "WallCount$Wall" "rows" "[LWallCount$Row;", Cond.methodLink RX7 76 yX5_word, Cond.instanceMethod yX5_word, Cond.selects RX5 yX5_word yX5_word, Cond.initialized RX5, Cond.code yX5_word cX5_word 2 (some .int), Cond.fieldLink RX5 9 "WallCount$Row" "voter" "I", Cond.fieldLink RX5 15 "WallCount$Row" "a" "I", Cond.fieldLink RX5 18 "WallCount$Row" "b" "I", Cond.fieldLink RX5 21 "WallCount$Row" "hour" "I", Cond.methodLink RX5 31 yX5_wordWith, Cond.static yX5_wordWith]
def wsX7_headBehind_r2 : List Cond := [Cond.code yX5_wordWith cX5_wordWith 2 (some .int)]
def wsX7_headBehind : List Cond := .code yX7_headBehind cX7_headBehind 5 (some .int) :: ((wsX7_headBehind_r1 ++ wsX7_headBehind_r2) ++ wsX70 ++ wsX50)
def wsX7_firstWithWord : List Cond := .code yX7_firstWithWord cX7_firstWithWord 4 (some .int) :: ([.fieldLink RX7 25 "WallCount$Wall" "size" "I", .methodLink RX7 71 yX7_wordOf, .instanceMethod yX7_wordOf, .selects RX7 yX7_wordOf yX7_wordOf, .initialized RX7, .code yX7_wordOf cX7_wordOf 3 (some .int), .methodLink RX7 35 yX7_at, .instanceMethod yX7_at, .selects RX7 yX7_at yX7_at, .code yX7_at cX7_at 2 (some (.object "WallCount$Row")), .fieldLink RX7 17 "WallCount$Wall" "rows" "[LWallCount$Row;", .methodLink RX7 76 yX5_word, .instanceMethod yX5_word, .selects RX5 yX5_word yX5_word, .initialized RX5, .code yX5_word cX5_word 2 (some .int), .fieldLink RX5 9 "WallCount$Row" "voter" "I", .fieldLink RX5 15 "WallCount$Row" "a" "I", .fieldLink RX5 18 "WallCount$Row" "b" "I", .fieldLink RX5 21 "WallCount$Row" "hour" "I", .methodLink RX5 31 yX5_wordWith, .static yX5_wordWith, .code yX5_wordWith cX5_wordWith 2 (some .int)] ++ wsX70 ++ wsX50)
def wsX7_addCopied : List Cond := .code yX7_addCopied cX7_addCopied 2 (some .boolean) :: ([.fieldLink RX7 29 "WallCount$Wall" "copiedSize" "I", .fieldLink RX7 21 "WallCount$Wall" "copied" "[I"] ++ wsX70)
def wsX7_firstUnlike_r1 : List Cond := [Cond.fieldLink RX7 25 "WallCount$Wall" "size" "I", Cond.fieldLink RX7 29 "WallCount$Wall" "copiedSize" "I", Cond.fieldLink RX7 21 "WallCount$Wall" "copied" "[I", Cond.methodLink RX7 71 yX7_wordOf, Cond.instanceMethod yX7_wordOf, Cond.selects RX7 yX7_wordOf yX7_wordOf, Cond.initialized RX7, Cond.code yX7_wordOf cX7_wordOf 3 (some .int), Cond.methodLink RX7 35 yX7_at, Cond.instanceMethod yX7_at, Cond.selects RX7 yX7_at yX7_at, Cond.code yX7_at cX7_at 2 (some (.object "WallCount$Row")), Cond.fieldLink RX7 17 "WallCount$Wall" "rows" "[LWallCount$Row;", Cond.methodLink RX7 76 yX5_word, Cond.instanceMethod yX5_word, Cond.selects RX5 yX5_word yX5_word, Cond.initialized RX5, Cond.code yX5_word cX5_word 2 (some .int), Cond.fieldLink RX5 9 "WallCount$Row" "voter" "I", Cond.fieldLink RX5 15 "WallCount$Row" "a" "I", Cond.fieldLink RX5 18 "WallCount$Row" "b" "I", Cond.fieldLink RX5 21 "WallCount$Row" "hour" "I", Cond.methodLink RX5 31 yX5_wordWith, Cond.static yX5_wordWith]
def wsX7_firstUnlike_r2 : List Cond := [Cond.code yX5_wordWith cX5_wordWith 2 (some .int)]
def wsX7_firstUnlike : List Cond := .code yX7_firstUnlike cX7_firstUnlike 2 (some .int) :: ((wsX7_firstUnlike_r1 ++ wsX7_firstUnlike_r2) ++ wsX70 ++ wsX50)
def wsX8_init_r1 : List Cond := [Cond.methodLink RX8 1 objectInit, Cond.instanceMethod objectInit, Cond.code objectInit ⟨#[0xb1]⟩ 1 none, Cond.classLink RX8 7 RX0, Cond.instantiable RX0 5, Cond.initialized RX0, Cond.fieldLink RX8 10 "WallCount" "secret" "LWallCount$Key;", Cond.classLink RX8 16 RX3, Cond.instantiable RX3 4, Cond.initialized RX3, Cond.fieldLink RX8 19 "WallCount" "proof" "LWallCount$Proof;", Cond.classLink RX8 23 RX4, Cond.instantiable RX4 3, Cond.initialized RX4, Cond.fieldLink RX8 26 "WallCount" "roll" "LWallCount$Roll;", Cond.classLink RX8 30 RX7, Cond.instantiable RX7 6, Cond.initialized RX7, Cond.fieldLink RX8 35 "WallCount" "wall" "LWallCount$Wall;", Cond.methodLink RX8 9 yX0_init, Cond.instanceMethod yX0_init, Cond.code yX0_init cX0_init 1 none, Cond.methodLink RX0 3 objectInit, Cond.fieldLink RX0 9 "WallCount$Key" "need" "I"]
def wsX8_init_r2 : List Cond := [Cond.fieldLink RX0 15 "WallCount$Key" "c0" "I", Cond.fieldLink RX0 18 "WallCount$Key" "c1" "I", Cond.fieldLink RX0 21 "WallCount$Key" "c2" "I", Cond.fieldLink RX0 24 "WallCount$Key" "h" "I", Cond.instanceMethod yX3_init, Cond.code yX3_init cX3_init 1 none, Cond.methodLink RX3 3 objectInit, Cond.methodLink RX8 25 yX4_init, Cond.instanceMethod yX4_init, Cond.code yX4_init cX4_init 2 none, Cond.methodLink RX4 3 objectInit, Cond.arrayClass .int, Cond.fieldLink RX4 9 "WallCount$Roll" "traits" "[I", Cond.classLink RX4 15 RX6, Cond.instantiable RX6 2, Cond.initialized RX6, Cond.fieldLink RX4 18 "WallCount$Roll" "whoMay" "LWallCount$Text;", Cond.fieldLink RX4 22 "WallCount$Roll" "draft" "LWallCount$Text;", Cond.methodLink RX4 17 yX6_init, Cond.instanceMethod yX6_init, Cond.code yX6_init cX6_init 1 none, Cond.methodLink RX6 3 objectInit, Cond.fieldLink RX6 9 "WallCount$Text" "signs" "[I", Cond.fieldLink RX6 15 "WallCount$Text" "size" "I"]
def wsX8_init_r3 : List Cond := [Cond.methodLink RX8 32 yX7_init, Cond.instanceMethod yX7_init, Cond.code yX7_init cX7_init 2 none, Cond.methodLink RX7 3 objectInit, Cond.fieldLink RX7 9 "WallCount$Wall" "roll" "LWallCount$Roll;", Cond.classLink RX7 15 RX5, Cond.fieldLink RX7 17 "WallCount$Wall" "rows" "[LWallCount$Row;", Cond.fieldLink RX7 21 "WallCount$Wall" "copied" "[I", Cond.fieldLink RX7 25 "WallCount$Wall" "size" "I", Cond.fieldLink RX7 29 "WallCount$Wall" "copiedSize" "I", Cond.fieldLink RX7 32 "WallCount$Wall" "closeHour" "I"]
def wsX8_init : List Cond := .code yX8_init cX8_init 1 none :: ((wsX8_init_r1 ++ (wsX8_init_r2 ++ wsX8_init_r3)) ++ wsX00 ++ wsX80 ++ wsX30 ++ wsX40 ++ wsX70 ++ wsX60)
def wsX8_key_r1 : List Cond := [Cond.fieldLink RX8 35 "WallCount" "wall" "LWallCount$Wall;", Cond.fieldLink RX8 10 "WallCount" "secret" "LWallCount$Key;", Cond.methodLink RX8 39 yX8_within, Cond.static yX8_within, Cond.initialized RX8, Cond.code yX8_within cX8_within 3 (some .boolean), Cond.methodLink RX8 43 yX8_isExponent, Cond.static yX8_isExponent, Cond.code yX8_isExponent cX8_isExponent 1 (some .boolean), Cond.methodLink RX8 47 yX7_size, Cond.instanceMethod yX7_size, Cond.selects RX7 yX7_size yX7_size, Cond.initialized RX7, Cond.code yX7_size cX7_size 1 (some .int), Cond.fieldLink RX7 25 "WallCount$Wall" "size" "I", Cond.methodLink RX8 51 yX0_become, Cond.instanceMethod yX0_become, Cond.selects RX0 yX0_become yX0_become, Cond.initialized RX0, Cond.code yX0_become cX0_become 5 none, Cond.fieldLink RX0 9 "WallCount$Key" "need" "I", Cond.fieldLink RX0 15 "WallCount$Key" "c0" "I", Cond.fieldLink RX0 18 "WallCount$Key" "c1" "I", Cond.fieldLink RX0 21 "WallCount$Key" "c2" "I"]
def wsX8_key_r2 : List Cond := [Cond.fieldLink RX0 24 "WallCount$Key" "h" "I", Cond.methodLink RX0 27 yX2_ofG, Cond.static yX2_ofG, Cond.initialized RX2, Cond.code yX2_ofG cX2_ofG 1 (some .int), Cond.methodLink RX2 11 yX2_power, Cond.static yX2_power, Cond.code yX2_power cX2_power 6 (some .int), Cond.methodLink RX8 55 yX0_h, Cond.instanceMethod yX0_h, Cond.selects RX0 yX0_h yX0_h, Cond.code yX0_h cX0_h 1 (some .int)]
def wsX8_key : List Cond := .code yX8_key cX8_key 5 (some .int) :: ((wsX8_key_r1 ++ wsX8_key_r2) ++ wsX80 ++ wsX70 ++ wsX00)
def wsX8_isHolder : List Cond := .code yX8_isHolder cX8_isHolder 1 (some .boolean) :: ([.methodLink RX8 39 yX8_within, .static yX8_within, .initialized RX8, .code yX8_within cX8_within 3 (some .boolean)])
def wsX8_holder : List Cond := .code yX8_holder cX8_holder 3 (some .int) :: ([.fieldLink RX8 10 "WallCount" "secret" "LWallCount$Key;", .methodLink RX8 58 yX8_isHolder, .static yX8_isHolder, .initialized RX8, .code yX8_isHolder cX8_isHolder 1 (some .boolean), .methodLink RX8 39 yX8_within, .static yX8_within, .code yX8_within cX8_within 3 (some .boolean), .methodLink RX8 61 yX0_part, .instanceMethod yX0_part, .selects RX0 yX0_part yX0_part, .initialized RX0, .code yX0_part cX0_part 2 (some .int), .fieldLink RX0 15 "WallCount$Key" "c0" "I", .fieldLink RX0 18 "WallCount$Key" "c1" "I", .fieldLink RX0 21 "WallCount$Key" "c2" "I", .methodLink RX8 65 yX2_ofG, .static yX2_ofG, .initialized RX2, .code yX2_ofG cX2_ofG 1 (some .int), .methodLink RX2 11 yX2_power, .static yX2_power, .code yX2_power cX2_power 6 (some .int)] ++ wsX80 ++ wsX00)
def wsX8_seal_r1 : List Cond := [Cond.fieldLink RX8 10 "WallCount" "secret" "LWallCount$Key;", Cond.methodLink RX8 43 yX8_isExponent, Cond.static yX8_isExponent, Cond.initialized RX8, Cond.code yX8_isExponent cX8_isExponent 1 (some .boolean), Cond.methodLink RX8 39 yX8_within, Cond.static yX8_within, Cond.code yX8_within cX8_within 3 (some .boolean), Cond.methodLink RX8 65 yX2_ofG, Cond.static yX2_ofG, Cond.initialized RX2, Cond.code yX2_ofG cX2_ofG 1 (some .int), Cond.methodLink RX2 11 yX2_power, Cond.static yX2_power, Cond.code yX2_power cX2_power 6 (some .int), Cond.methodLink RX8 70 yX0_sealedB, Cond.instanceMethod yX0_sealedB, Cond.selects RX0 yX0_sealedB yX0_sealedB, Cond.initialized RX0, Cond.code yX0_sealedB cX0_sealedB 3 (some .int), Cond.fieldLink RX0 24 "WallCount$Key" "h" "I", Cond.methodLink RX0 33 yX2_of, Cond.static yX2_of, Cond.code yX2_of cX2_of 2 (some .int)]
def wsX8_seal_r2 : List Cond := [Cond.methodLink RX0 27 yX2_ofG]
def wsX8_seal : List Cond := .code yX8_seal cX8_seal 4 (some .int) :: ((wsX8_seal_r1 ++ wsX8_seal_r2) ++ wsX80 ++ wsX00)
def wsX8_right : List Cond := .code yX8_right cX8_right 3 (some .int) :: ([.methodLink RX8 74 yX2_isRight, .static yX2_isRight, .initialized RX2, .code yX2_isRight cX2_isRight 2 (some .boolean), .static yX8_isResidue, .initialized RX8, .code yX8_isResidue cX8_isResidue 1 (some .boolean), .methodLink RX8 39 yX8_within, .static yX8_within, .code yX8_within cX8_within 3 (some .boolean), .methodLink RX2 23 yX2_of, .static yX2_of, .code yX2_of cX2_of 2 (some .int), .methodLink RX2 11 yX2_power, .static yX2_power, .code yX2_power cX2_power 6 (some .int)])
def wsX8_open_r1 : List Cond := [Cond.fieldLink RX8 10 "WallCount" "secret" "LWallCount$Key;", Cond.methodLink RX8 58 yX8_isHolder, Cond.static yX8_isHolder, Cond.initialized RX8, Cond.code yX8_isHolder cX8_isHolder 1 (some .boolean), Cond.methodLink RX8 39 yX8_within, Cond.static yX8_within, Cond.code yX8_within cX8_within 3 (some .boolean), Cond.methodLink RX8 78 yX8_isResidue, Cond.static yX8_isResidue, Cond.code yX8_isResidue cX8_isResidue 1 (some .boolean), Cond.methodLink RX8 81 yX0_share, Cond.instanceMethod yX0_share, Cond.selects RX0 yX0_share yX0_share, Cond.initialized RX0, Cond.code yX0_share cX0_share 3 (some .int), Cond.methodLink RX0 37 yX0_part, Cond.instanceMethod yX0_part, Cond.selects RX0 yX0_part yX0_part, Cond.code yX0_part cX0_part 2 (some .int), Cond.fieldLink RX0 15 "WallCount$Key" "c0" "I", Cond.fieldLink RX0 18 "WallCount$Key" "c1" "I", Cond.fieldLink RX0 21 "WallCount$Key" "c2" "I", Cond.methodLink RX0 33 yX2_of]
def wsX8_open_r2 : List Cond := [Cond.static yX2_of, Cond.initialized RX2, Cond.code yX2_of cX2_of 2 (some .int), Cond.methodLink RX2 11 yX2_power, Cond.static yX2_power, Cond.code yX2_power cX2_power 6 (some .int)]
def wsX8_open : List Cond := .code yX8_open cX8_open 3 (some .int) :: ((wsX8_open_r1 ++ wsX8_open_r2) ++ wsX80 ++ wsX00)
def wsX8_isSet : List Cond := .code yX8_isSet cX8_isSet 1 (some .boolean) :: ([.methodLink RX8 39 yX8_within, .static yX8_within, .initialized RX8, .code yX8_within cX8_within 3 (some .boolean)])
def wsX8_weight : List Cond := .code yX8_weight cX8_weight 3 (some .int) :: ([.methodLink RX8 58 yX8_isHolder, .static yX8_isHolder, .initialized RX8, .code yX8_isHolder cX8_isHolder 1 (some .boolean), .methodLink RX8 39 yX8_within, .static yX8_within, .code yX8_within cX8_within 3 (some .boolean), .methodLink RX8 84 yX8_isIn, .static yX8_isIn, .code yX8_isIn cX8_isIn 2 (some .boolean), .methodLink RX8 87 yX8_isSet, .static yX8_isSet, .code yX8_isSet cX8_isSet 1 (some .boolean), .methodLink RX8 90 yX0_weightIn, .static yX0_weightIn, .initialized RX0, .code yX0_weightIn cX0_weightIn 4 (some .int), .methodLink RX0 44 yX2_inverse, .static yX2_inverse, .initialized RX2, .code yX2_inverse cX2_inverse 2 (some .int), .methodLink RX2 11 yX2_power, .static yX2_power, .code yX2_power cX2_power 6 (some .int)])
def wsJ6_bitCount_0f7a4 : List Cond := .code yJ6_bitCount_0f7a4 cJ6_bitCount_0f7a4 1 (some .int) :: ([.constant RJ6 265 (1431655765), .constant RJ6 266 (858993459), .constant RJ6 267 (252645135)])
def wsX8_opened_r1 : List Cond := [Cond.fieldLink RX8 10 "WallCount" "secret" "LWallCount$Key;", Cond.methodLink RX8 78 yX8_isResidue, Cond.static yX8_isResidue, Cond.initialized RX8, Cond.code yX8_isResidue cX8_isResidue 1 (some .boolean), Cond.methodLink RX8 39 yX8_within, Cond.static yX8_within, Cond.code yX8_within cX8_within 3 (some .boolean), Cond.methodLink RX8 87 yX8_isSet, Cond.static yX8_isSet, Cond.code yX8_isSet cX8_isSet 1 (some .boolean), Cond.methodLink RX8 93 yJ6_bitCount_0f7a4, Cond.static yJ6_bitCount_0f7a4, Cond.initialized RJ6, Cond.code yJ6_bitCount_0f7a4 cJ6_bitCount_0f7a4 1 (some .int), Cond.constant RJ6 265 (1431655765), Cond.constant RJ6 266 (858993459), Cond.constant RJ6 267 (252645135), Cond.methodLink RX8 98 yX0_need, Cond.instanceMethod yX0_need, Cond.selects RX0 yX0_need yX0_need, Cond.initialized RX0, Cond.code yX0_need cX0_need 1 (some .int), Cond.fieldLink RX0 9 "WallCount$Key" "need" "I"]
def wsX8_opened_r2 : List Cond := [Cond.methodLink RX8 101 yX0_unsealed, Cond.instanceMethod yX0_unsealed, Cond.selects RX0 yX0_unsealed yX0_unsealed, Cond.code yX0_unsealed cX0_unsealed 6 (some .int), Cond.static yX8_isIn, Cond.code yX8_isIn cX8_isIn 2 (some .boolean), Cond.methodLink RX0 47 yX0_share, Cond.instanceMethod yX0_share, Cond.selects RX0 yX0_share yX0_share, Cond.code yX0_share cX0_share 3 (some .int), Cond.methodLink RX0 37 yX0_part, Cond.instanceMethod yX0_part, Cond.selects RX0 yX0_part yX0_part, Cond.code yX0_part cX0_part 2 (some .int), Cond.fieldLink RX0 15 "WallCount$Key" "c0" "I", Cond.fieldLink RX0 18 "WallCount$Key" "c1" "I", Cond.fieldLink RX0 21 "WallCount$Key" "c2" "I", Cond.methodLink RX0 33 yX2_of, Cond.static yX2_of, Cond.initialized RX2, Cond.code yX2_of cX2_of 2 (some .int), Cond.methodLink RX2 11 yX2_power, Cond.static yX2_power, Cond.code yX2_power cX2_power 6 (some .int)]
def wsX8_opened_r3 : List Cond := [Cond.methodLink RX0 50 yX0_weightIn, Cond.static yX0_weightIn, Cond.code yX0_weightIn cX0_weightIn 4 (some .int), Cond.methodLink RX0 44 yX2_inverse, Cond.static yX2_inverse, Cond.code yX2_inverse cX2_inverse 2 (some .int), Cond.methodLink RX0 53 yX2_divided, Cond.static yX2_divided, Cond.code yX2_divided cX2_divided 2 (some .int), Cond.methodLink RX2 15 yX2_inverse, Cond.methodLink RX8 105 yX2_exponentOf, Cond.static yX2_exponentOf, Cond.code yX2_exponentOf cX2_exponentOf 3 (some .int)]
def wsX8_opened : List Cond := .code yX8_opened cX8_opened 6 (some .int) :: ((wsX8_opened_r1 ++ (wsX8_opened_r2 ++ wsX8_opened_r3)) ++ wsX80 ++ wsX00)
def wsX8_prove_r1 : List Cond := [Cond.fieldLink RX8 19 "WallCount" "proof" "LWallCount$Proof;", Cond.fieldLink RX8 10 "WallCount" "secret" "LWallCount$Key;", Cond.methodLink RX8 39 yX8_within, Cond.static yX8_within, Cond.initialized RX8, Cond.code yX8_within cX8_within 3 (some .boolean), Cond.methodLink RX8 108 yX8_areLots, Cond.static yX8_areLots, Cond.code yX8_areLots cX8_areLots 4 (some .boolean), Cond.methodLink RX8 43 yX8_isExponent, Cond.static yX8_isExponent, Cond.code yX8_isExponent cX8_isExponent 1 (some .boolean), Cond.methodLink RX8 112 yX3_make, Cond.instanceMethod yX3_make, Cond.selects RX3 yX3_make yX3_make, Cond.initialized RX3, Cond.code yX3_make cX3_make 16 none, Cond.methodLink RX3 46 yX2_ofG, Cond.static yX2_ofG, Cond.initialized RX2, Cond.code yX2_ofG cX2_ofG 1 (some .int), Cond.methodLink RX2 11 yX2_power, Cond.static yX2_power, Cond.code yX2_power cX2_power 6 (some .int)]
def wsX8_prove_r2 : List Cond := [Cond.methodLink RX3 50 yX0_sealedB, Cond.instanceMethod yX0_sealedB, Cond.selects RX0 yX0_sealedB yX0_sealedB, Cond.initialized RX0, Cond.code yX0_sealedB cX0_sealedB 3 (some .int), Cond.fieldLink RX0 24 "WallCount$Key" "h" "I", Cond.methodLink RX0 33 yX2_of, Cond.static yX2_of, Cond.code yX2_of cX2_of 2 (some .int), Cond.methodLink RX0 27 yX2_ofG, Cond.methodLink RX3 55 yX0_h, Cond.instanceMethod yX0_h, Cond.selects RX0 yX0_h yX0_h, Cond.code yX0_h cX0_h 1 (some .int), Cond.methodLink RX3 59 yX2_of, Cond.methodLink RX3 38 yX3_sOf, Cond.static yX3_sOf, Cond.code yX3_sOf cX3_sOf 3 (some .int), Cond.methodLink RX3 66 yX2_divided, Cond.static yX2_divided, Cond.code yX2_divided cX2_divided 2 (some .int), Cond.methodLink RX2 15 yX2_inverse, Cond.static yX2_inverse, Cond.code yX2_inverse cX2_inverse 2 (some .int)]
def wsX8_prove_r3 : List Cond := [Cond.methodLink RX3 42 yX3_tOf, Cond.static yX3_tOf, Cond.code yX3_tOf cX3_tOf 6 (some .int), Cond.methodLink RX3 34 yX3_mixedWith, Cond.static yX3_mixedWith, Cond.code yX3_mixedWith cX3_mixedWith 2 (some .int), Cond.methodLink RX3 62 yX3_become, Cond.instanceMethod yX3_become, Cond.selects RX3 yX3_become yX3_become, Cond.code yX3_become cX3_become 5 none, Cond.fieldLink RX3 9 "WallCount$Proof" "c0" "I", Cond.fieldLink RX3 15 "WallCount$Proof" "z0" "I", Cond.fieldLink RX3 18 "WallCount$Proof" "c1" "I", Cond.fieldLink RX3 21 "WallCount$Proof" "z1" "I", Cond.methodLink RX8 116 yX3_number, Cond.instanceMethod yX3_number, Cond.selects RX3 yX3_number yX3_number, Cond.code yX3_number cX3_number 2 (some .int)]
def wsX8_prove : List Cond := .code yX8_prove cX8_prove 7 (some .int) :: ((wsX8_prove_r1 ++ (wsX8_prove_r2 ++ wsX8_prove_r3)) ++ wsX80 ++ wsX00 ++ wsX30)
def wsX8_check_r1 : List Cond := [Cond.fieldLink RX8 19 "WallCount" "proof" "LWallCount$Proof;", Cond.fieldLink RX8 10 "WallCount" "secret" "LWallCount$Key;", Cond.methodLink RX8 119 yX3_become, Cond.instanceMethod yX3_become, Cond.selects RX3 yX3_become yX3_become, Cond.initialized RX3, Cond.code yX3_become cX3_become 5 none, Cond.fieldLink RX3 9 "WallCount$Proof" "c0" "I", Cond.fieldLink RX3 15 "WallCount$Proof" "z0" "I", Cond.fieldLink RX3 18 "WallCount$Proof" "c1" "I", Cond.fieldLink RX3 21 "WallCount$Proof" "z1" "I", Cond.methodLink RX8 120 yX3_holds, Cond.instanceMethod yX3_holds, Cond.selects RX3 yX3_holds yX3_holds, Cond.code yX3_holds cX3_holds 5 (some .boolean), Cond.methodLink RX3 24 yX2_isRight, Cond.static yX2_isRight, Cond.initialized RX2, Cond.code yX2_isRight cX2_isRight 2 (some .boolean), Cond.static yX8_isResidue, Cond.initialized RX8, Cond.code yX8_isResidue cX8_isResidue 1 (some .boolean), Cond.methodLink RX8 39 yX8_within, Cond.static yX8_within]
def wsX8_check_r2 : List Cond := [Cond.code yX8_within cX8_within 3 (some .boolean), Cond.methodLink RX2 23 yX2_of, Cond.static yX2_of, Cond.code yX2_of cX2_of 2 (some .int), Cond.methodLink RX2 11 yX2_power, Cond.static yX2_power, Cond.code yX2_power cX2_power 6 (some .int), Cond.static yX8_areLots, Cond.code yX8_areLots cX8_areLots 4 (some .boolean), Cond.methodLink RX8 43 yX8_isExponent, Cond.static yX8_isExponent, Cond.code yX8_isExponent cX8_isExponent 1 (some .boolean), Cond.methodLink RX3 34 yX3_mixedWith, Cond.static yX3_mixedWith, Cond.code yX3_mixedWith cX3_mixedWith 2 (some .int), Cond.methodLink RX3 38 yX3_sOf, Cond.static yX3_sOf, Cond.code yX3_sOf cX3_sOf 3 (some .int), Cond.methodLink RX3 46 yX2_ofG, Cond.static yX2_ofG, Cond.code yX2_ofG cX2_ofG 1 (some .int), Cond.methodLink RX3 59 yX2_of, Cond.methodLink RX3 66 yX2_divided, Cond.static yX2_divided]
def wsX8_check_r3 : List Cond := [Cond.code yX2_divided cX2_divided 2 (some .int), Cond.methodLink RX2 15 yX2_inverse, Cond.static yX2_inverse, Cond.code yX2_inverse cX2_inverse 2 (some .int), Cond.methodLink RX3 42 yX3_tOf, Cond.static yX3_tOf, Cond.code yX3_tOf cX3_tOf 6 (some .int), Cond.methodLink RX3 55 yX0_h, Cond.instanceMethod yX0_h, Cond.selects RX0 yX0_h yX0_h, Cond.initialized RX0, Cond.code yX0_h cX0_h 1 (some .int), Cond.fieldLink RX0 24 "WallCount$Key" "h" "I"]
def wsX8_check : List Cond := .code yX8_check cX8_check 7 (some .int) :: ((wsX8_check_r1 ++ (wsX8_check_r2 ++ wsX8_check_r3)) ++ wsX80 ++ wsX30 ++ wsX00)
def wsX8_isVoter : List Cond := .code yX8_isVoter cX8_isVoter 1 (some .boolean) :: ([.methodLink RX8 39 yX8_within, .static yX8_within, .initialized RX8, .code yX8_within cX8_within 3 (some .boolean)])
def wsX8_voter : List Cond := .code yX8_voter cX8_voter 4 (some .int) :: ([.fieldLink RX8 26 "WallCount" "roll" "LWallCount$Roll;", .methodLink RX8 124 yX8_isVoter, .static yX8_isVoter, .initialized RX8, .code yX8_isVoter cX8_isVoter 1 (some .boolean), .methodLink RX8 39 yX8_within, .static yX8_within, .code yX8_within cX8_within 3 (some .boolean), .methodLink RX8 127 yX4_change, .instanceMethod yX4_change, .selects RX4 yX4_change yX4_change, .initialized RX4, .code yX4_change cX4_change 6 (some .int), .fieldLink RX4 9 "WallCount$Roll" "traits" "[I", .methodLink RX4 28 yX4_trait, .instanceMethod yX4_trait, .selects RX4 yX4_trait yX4_trait, .code yX4_trait cX4_trait 4 (some .int)] ++ wsX80 ++ wsX40)
def wsX8_say : List Cond := .code yX8_say cX8_say 2 (some .int) :: ([.fieldLink RX8 26 "WallCount" "roll" "LWallCount$Roll;", .methodLink RX8 39 yX8_within, .static yX8_within, .initialized RX8, .code yX8_within cX8_within 3 (some .boolean), .methodLink RX8 130 yX4_draft, .instanceMethod yX4_draft, .selects RX4 yX4_draft yX4_draft, .initialized RX4, .code yX4_draft cX4_draft 1 (some (.object "WallCount$Text")), .fieldLink RX4 22 "WallCount$Roll" "draft" "LWallCount$Text;", .methodLink RX8 134 yX6_add, .instanceMethod yX6_add, .selects RX6 yX6_add yX6_add, .initialized RX6, .code yX6_add cX6_add 2 (some .boolean), .fieldLink RX6 15 "WallCount$Text" "size" "I", .fieldLink RX6 9 "WallCount$Text" "signs" "[I", .methodLink RX8 139 yX6_size, .instanceMethod yX6_size, .selects RX6 yX6_size yX6_size, .code yX6_size cX6_size 1 (some .int)] ++ wsX80 ++ wsX40 ++ wsX60)
def wsX8_wipe : List Cond := .code yX8_wipe cX8_wipe 2 (some .int) :: ([.fieldLink RX8 26 "WallCount" "roll" "LWallCount$Roll;", .methodLink RX8 130 yX4_draft, .instanceMethod yX4_draft, .selects RX4 yX4_draft yX4_draft, .initialized RX4, .code yX4_draft cX4_draft 1 (some (.object "WallCount$Text")), .fieldLink RX4 22 "WallCount$Roll" "draft" "LWallCount$Text;", .methodLink RX8 139 yX6_size, .instanceMethod yX6_size, .selects RX6 yX6_size yX6_size, .initialized RX6, .code yX6_size cX6_size 1 (some .int), .fieldLink RX6 15 "WallCount$Text" "size" "I", .methodLink RX8 140 yX6_clear, .instanceMethod yX6_clear, .selects RX6 yX6_clear yX6_clear, .code yX6_clear cX6_clear 1 none] ++ wsX80 ++ wsX40 ++ wsX60)
def wsX8_fault_r1 : List Cond := [Cond.fieldLink RX8 26 "WallCount" "roll" "LWallCount$Roll;", Cond.methodLink RX8 130 yX4_draft, Cond.instanceMethod yX4_draft, Cond.selects RX4 yX4_draft yX4_draft, Cond.initialized RX4, Cond.code yX4_draft cX4_draft 1 (some (.object "WallCount$Text")), Cond.fieldLink RX4 22 "WallCount$Roll" "draft" "LWallCount$Text;", Cond.methodLink RX8 143 yX6_faultPlace, Cond.instanceMethod yX6_faultPlace, Cond.selects RX6 yX6_faultPlace yX6_faultPlace, Cond.initialized RX6, Cond.code yX6_faultPlace cX6_faultPlace 3 (some .int), Cond.fieldLink RX6 15 "WallCount$Text" "size" "I", Cond.fieldLink RX6 9 "WallCount$Text" "signs" "[I", Cond.methodLink RX6 19 yX6_stateBehind, Cond.static yX6_stateBehind, Cond.code yX6_stateBehind cX6_stateBehind 2 (some .int), Cond.methodLink RX6 23 yX6_isName, Cond.static yX6_isName, Cond.code yX6_isName cX6_isName 1 (some .boolean), Cond.methodLink RX6 27 yX6_isCompare, Cond.static yX6_isCompare, Cond.code yX6_isCompare cX6_isCompare 1 (some .boolean), Cond.methodLink RX6 30 yX6_isDigit]
def wsX8_fault_r2 : List Cond := [Cond.static yX6_isDigit, Cond.code yX6_isDigit cX6_isDigit 1 (some .boolean), Cond.methodLink RX6 33 yX6_isJoin, Cond.static yX6_isJoin, Cond.code yX6_isJoin cX6_isJoin 1 (some .boolean)]
def wsX8_fault : List Cond := .code yX8_fault cX8_fault 1 (some .int) :: ((wsX8_fault_r1 ++ wsX8_fault_r2) ++ wsX80 ++ wsX40 ++ wsX60)
def wsX8_rule_r1 : List Cond := [Cond.fieldLink RX8 26 "WallCount" "roll" "LWallCount$Roll;", Cond.methodLink RX8 130 yX4_draft, Cond.instanceMethod yX4_draft, Cond.selects RX4 yX4_draft yX4_draft, Cond.initialized RX4, Cond.code yX4_draft cX4_draft 1 (some (.object "WallCount$Text")), Cond.fieldLink RX4 22 "WallCount$Roll" "draft" "LWallCount$Text;", Cond.methodLink RX8 143 yX6_faultPlace, Cond.instanceMethod yX6_faultPlace, Cond.selects RX6 yX6_faultPlace yX6_faultPlace, Cond.initialized RX6, Cond.code yX6_faultPlace cX6_faultPlace 3 (some .int), Cond.fieldLink RX6 15 "WallCount$Text" "size" "I", Cond.fieldLink RX6 9 "WallCount$Text" "signs" "[I", Cond.methodLink RX6 19 yX6_stateBehind, Cond.static yX6_stateBehind, Cond.code yX6_stateBehind cX6_stateBehind 2 (some .int), Cond.methodLink RX6 23 yX6_isName, Cond.static yX6_isName, Cond.code yX6_isName cX6_isName 1 (some .boolean), Cond.methodLink RX6 27 yX6_isCompare, Cond.static yX6_isCompare, Cond.code yX6_isCompare cX6_isCompare 1 (some .boolean), Cond.methodLink RX6 30 yX6_isDigit]
def wsX8_rule_r2 : List Cond := [Cond.static yX6_isDigit, Cond.code yX6_isDigit cX6_isDigit 1 (some .boolean), Cond.methodLink RX6 33 yX6_isJoin, Cond.static yX6_isJoin, Cond.code yX6_isJoin cX6_isJoin 1 (some .boolean), Cond.methodLink RX8 146 yX4_adoptDraft, Cond.instanceMethod yX4_adoptDraft, Cond.selects RX4 yX4_adoptDraft yX4_adoptDraft, Cond.code yX4_adoptDraft cX4_adoptDraft 2 none, Cond.fieldLink RX4 18 "WallCount$Roll" "whoMay" "LWallCount$Text;", Cond.methodLink RX4 25 yX6_clear, Cond.instanceMethod yX6_clear, Cond.selects RX6 yX6_clear yX6_clear, Cond.code yX6_clear cX6_clear 1 none]
def wsX8_rule : List Cond := .code yX8_rule cX8_rule 1 (some .int) :: ((wsX8_rule_r1 ++ wsX8_rule_r2) ++ wsX80 ++ wsX40 ++ wsX60)
def wsX8_may_r1 : List Cond := [Cond.fieldLink RX8 26 "WallCount" "roll" "LWallCount$Roll;", Cond.methodLink RX8 124 yX8_isVoter, Cond.static yX8_isVoter, Cond.initialized RX8, Cond.code yX8_isVoter cX8_isVoter 1 (some .boolean), Cond.methodLink RX8 39 yX8_within, Cond.static yX8_within, Cond.code yX8_within cX8_within 3 (some .boolean), Cond.methodLink RX8 149 yX4_allows, Cond.instanceMethod yX4_allows, Cond.selects RX4 yX4_allows yX4_allows, Cond.initialized RX4, Cond.code yX4_allows cX4_allows 2 (some .boolean), Cond.fieldLink RX4 18 "WallCount$Roll" "whoMay" "LWallCount$Text;", Cond.methodLink RX4 28 yX4_trait, Cond.instanceMethod yX4_trait, Cond.selects RX4 yX4_trait yX4_trait, Cond.code yX4_trait cX4_trait 4 (some .int), Cond.fieldLink RX4 9 "WallCount$Roll" "traits" "[I", Cond.methodLink RX4 32 yX6_allows, Cond.instanceMethod yX6_allows, Cond.selects RX6 yX6_allows yX6_allows, Cond.initialized RX6, Cond.code yX6_allows cX6_allows 11 (some .boolean)]
def wsX8_may_r2 : List Cond := [Cond.fieldLink RX6 15 "WallCount$Text" "size" "I", Cond.fieldLink RX6 9 "WallCount$Text" "signs" "[I", Cond.methodLink RX6 23 yX6_isName, Cond.static yX6_isName, Cond.code yX6_isName cX6_isName 1 (some .boolean), Cond.methodLink RX6 27 yX6_isCompare, Cond.static yX6_isCompare, Cond.code yX6_isCompare cX6_isCompare 1 (some .boolean), Cond.methodLink RX6 30 yX6_isDigit, Cond.static yX6_isDigit, Cond.code yX6_isDigit cX6_isDigit 1 (some .boolean), Cond.methodLink RX6 36 yX6_passes, Cond.static yX6_passes, Cond.code yX6_passes cX6_passes 3 (some .boolean)]
def wsX8_may : List Cond := .code yX8_may cX8_may 2 (some .int) :: ((wsX8_may_r1 ++ wsX8_may_r2) ++ wsX80 ++ wsX40 ++ wsX60)
def wsX8_close : List Cond := .code yX8_close cX8_close 2 (some .int) :: ([.fieldLink RX8 35 "WallCount" "wall" "LWallCount$Wall;", .methodLink RX8 39 yX8_within, .static yX8_within, .initialized RX8, .code yX8_within cX8_within 3 (some .boolean), .methodLink RX8 152 yX7_changeClose, .instanceMethod yX7_changeClose, .selects RX7 yX7_changeClose yX7_changeClose, .initialized RX7, .code yX7_changeClose cX7_changeClose 3 (some .int), .fieldLink RX7 32 "WallCount$Wall" "closeHour" "I"] ++ wsX80 ++ wsX70)
def wsX8_isRowNumber : List Cond := .code yX8_isRowNumber cX8_isRowNumber 1 (some .boolean) :: ([.constant RX8 244 (1000000), .methodLink RX8 39 yX8_within, .static yX8_within, .initialized RX8, .code yX8_within cX8_within 3 (some .boolean)])
def wsX8_row_r1 : List Cond := [Cond.fieldLink RX8 35 "WallCount" "wall" "LWallCount$Wall;", Cond.fieldLink RX8 19 "WallCount" "proof" "LWallCount$Proof;", Cond.classLink RX8 162 RX5, Cond.instantiable RX5 6, Cond.initialized RX5, Cond.fieldLink RX8 10 "WallCount" "secret" "LWallCount$Key;", Cond.methodLink RX8 124 yX8_isVoter, Cond.static yX8_isVoter, Cond.initialized RX8, Cond.code yX8_isVoter cX8_isVoter 1 (some .boolean), Cond.methodLink RX8 39 yX8_within, Cond.static yX8_within, Cond.code yX8_within cX8_within 3 (some .boolean), Cond.methodLink RX8 155 yX8_isRowNumber, Cond.static yX8_isRowNumber, Cond.code yX8_isRowNumber cX8_isRowNumber 1 (some .boolean), Cond.constant RX8 244 (1000000), Cond.methodLink RX8 158 yX7_isFull, Cond.instanceMethod yX7_isFull, Cond.selects RX7 yX7_isFull yX7_isFull, Cond.initialized RX7, Cond.code yX7_isFull cX7_isFull 1 (some .boolean), Cond.fieldLink RX7 25 "WallCount$Wall" "size" "I", Cond.fieldLink RX7 17 "WallCount$Wall" "rows" "[LWallCount$Row;"]
def wsX8_row_r2 : List Cond := [Cond.methodLink RX8 119 yX3_become, Cond.instanceMethod yX3_become, Cond.selects RX3 yX3_become yX3_become, Cond.initialized RX3, Cond.code yX3_become cX3_become 5 none, Cond.fieldLink RX3 9 "WallCount$Proof" "c0" "I", Cond.fieldLink RX3 15 "WallCount$Proof" "z0" "I", Cond.fieldLink RX3 18 "WallCount$Proof" "c1" "I", Cond.fieldLink RX3 21 "WallCount$Proof" "z1" "I", Cond.methodLink RX8 120 yX3_holds, Cond.instanceMethod yX3_holds, Cond.selects RX3 yX3_holds yX3_holds, Cond.code yX3_holds cX3_holds 5 (some .boolean), Cond.methodLink RX3 24 yX2_isRight, Cond.static yX2_isRight, Cond.initialized RX2, Cond.code yX2_isRight cX2_isRight 2 (some .boolean), Cond.static yX8_isResidue, Cond.code yX8_isResidue cX8_isResidue 1 (some .boolean), Cond.methodLink RX2 23 yX2_of, Cond.static yX2_of, Cond.code yX2_of cX2_of 2 (some .int), Cond.methodLink RX2 11 yX2_power, Cond.static yX2_power]
def wsX8_row_r3 : List Cond := [Cond.code yX2_power cX2_power 6 (some .int), Cond.static yX8_areLots, Cond.code yX8_areLots cX8_areLots 4 (some .boolean), Cond.methodLink RX8 43 yX8_isExponent, Cond.static yX8_isExponent, Cond.code yX8_isExponent cX8_isExponent 1 (some .boolean), Cond.methodLink RX3 34 yX3_mixedWith, Cond.static yX3_mixedWith, Cond.code yX3_mixedWith cX3_mixedWith 2 (some .int), Cond.methodLink RX3 38 yX3_sOf, Cond.static yX3_sOf, Cond.code yX3_sOf cX3_sOf 3 (some .int), Cond.methodLink RX3 46 yX2_ofG, Cond.static yX2_ofG, Cond.code yX2_ofG cX2_ofG 1 (some .int), Cond.methodLink RX3 59 yX2_of, Cond.methodLink RX3 66 yX2_divided, Cond.static yX2_divided, Cond.code yX2_divided cX2_divided 2 (some .int), Cond.methodLink RX2 15 yX2_inverse, Cond.static yX2_inverse, Cond.code yX2_inverse cX2_inverse 2 (some .int), Cond.methodLink RX3 42 yX3_tOf, Cond.static yX3_tOf]
def wsX8_row_r4 : List Cond := [Cond.code yX3_tOf cX3_tOf 6 (some .int), Cond.methodLink RX3 55 yX0_h, Cond.instanceMethod yX0_h, Cond.selects RX0 yX0_h yX0_h, Cond.initialized RX0, Cond.code yX0_h cX0_h 1 (some .int), Cond.fieldLink RX0 24 "WallCount$Key" "h" "I", Cond.methodLink RX8 164 yX5_init, Cond.instanceMethod yX5_init, Cond.code yX5_init cX5_init 7 none, Cond.methodLink RX5 3 objectInit, Cond.instanceMethod objectInit, Cond.code objectInit ⟨#[0xb1]⟩ 1 none, Cond.fieldLink RX5 9 "WallCount$Row" "voter" "I", Cond.fieldLink RX5 15 "WallCount$Row" "a" "I", Cond.fieldLink RX5 18 "WallCount$Row" "b" "I", Cond.fieldLink RX5 21 "WallCount$Row" "hour" "I", Cond.fieldLink RX5 24 "WallCount$Row" "sound" "Z", Cond.fieldLink RX5 28 "WallCount$Row" "proved" "Z", Cond.methodLink RX8 167 yX7_add, Cond.instanceMethod yX7_add, Cond.selects RX7 yX7_add yX7_add, Cond.code yX7_add cX7_add 2 (some .int)]
def wsX8_row : List Cond := .code yX8_row cX8_row 5 (some .int) :: ((wsX8_row_r1 ++ (wsX8_row_r2 ++ (wsX8_row_r3 ++ wsX8_row_r4))) ++ wsX80 ++ wsX50 ++ wsX70 ++ wsX30 ++ wsX00)
def wsX8_attach_r1 : List Cond := [Cond.fieldLink RX8 35 "WallCount" "wall" "LWallCount$Wall;", Cond.fieldLink RX8 174 "WallCount$Row" "proved" "Z", Cond.fieldLink RX8 19 "WallCount" "proof" "LWallCount$Proof;", Cond.fieldLink RX8 10 "WallCount" "secret" "LWallCount$Key;", Cond.fieldLink RX8 178 "WallCount$Row" "a" "I", Cond.fieldLink RX8 182 "WallCount$Row" "b" "I", Cond.fieldLink RX8 185 "WallCount$Row" "sound" "Z", Cond.methodLink RX8 170 yX7_at, Cond.instanceMethod yX7_at, Cond.selects RX7 yX7_at yX7_at, Cond.initialized RX7, Cond.code yX7_at cX7_at 2 (some (.object "WallCount$Row")), Cond.fieldLink RX7 25 "WallCount$Wall" "size" "I", Cond.fieldLink RX7 17 "WallCount$Wall" "rows" "[LWallCount$Row;", Cond.methodLink RX8 155 yX8_isRowNumber, Cond.static yX8_isRowNumber, Cond.initialized RX8, Cond.code yX8_isRowNumber cX8_isRowNumber 1 (some .boolean), Cond.constant RX8 244 (1000000), Cond.methodLink RX8 39 yX8_within, Cond.static yX8_within, Cond.code yX8_within cX8_within 3 (some .boolean), Cond.methodLink RX8 119 yX3_become, Cond.instanceMethod yX3_become]
def wsX8_attach_r2 : List Cond := [Cond.selects RX3 yX3_become yX3_become, Cond.initialized RX3, Cond.code yX3_become cX3_become 5 none, Cond.fieldLink RX3 9 "WallCount$Proof" "c0" "I", Cond.fieldLink RX3 15 "WallCount$Proof" "z0" "I", Cond.fieldLink RX3 18 "WallCount$Proof" "c1" "I", Cond.fieldLink RX3 21 "WallCount$Proof" "z1" "I", Cond.methodLink RX8 120 yX3_holds, Cond.instanceMethod yX3_holds, Cond.selects RX3 yX3_holds yX3_holds, Cond.code yX3_holds cX3_holds 5 (some .boolean), Cond.methodLink RX3 24 yX2_isRight, Cond.static yX2_isRight, Cond.initialized RX2, Cond.code yX2_isRight cX2_isRight 2 (some .boolean), Cond.static yX8_isResidue, Cond.code yX8_isResidue cX8_isResidue 1 (some .boolean), Cond.methodLink RX2 23 yX2_of, Cond.static yX2_of, Cond.code yX2_of cX2_of 2 (some .int), Cond.methodLink RX2 11 yX2_power, Cond.static yX2_power, Cond.code yX2_power cX2_power 6 (some .int), Cond.static yX8_areLots]
def wsX8_attach_r3 : List Cond := [Cond.code yX8_areLots cX8_areLots 4 (some .boolean), Cond.methodLink RX8 43 yX8_isExponent, Cond.static yX8_isExponent, Cond.code yX8_isExponent cX8_isExponent 1 (some .boolean), Cond.methodLink RX3 34 yX3_mixedWith, Cond.static yX3_mixedWith, Cond.code yX3_mixedWith cX3_mixedWith 2 (some .int), Cond.methodLink RX3 38 yX3_sOf, Cond.static yX3_sOf, Cond.code yX3_sOf cX3_sOf 3 (some .int), Cond.methodLink RX3 46 yX2_ofG, Cond.static yX2_ofG, Cond.code yX2_ofG cX2_ofG 1 (some .int), Cond.methodLink RX3 59 yX2_of, Cond.methodLink RX3 66 yX2_divided, Cond.static yX2_divided, Cond.code yX2_divided cX2_divided 2 (some .int), Cond.methodLink RX2 15 yX2_inverse, Cond.static yX2_inverse, Cond.code yX2_inverse cX2_inverse 2 (some .int), Cond.methodLink RX3 42 yX3_tOf, Cond.static yX3_tOf, Cond.code yX3_tOf cX3_tOf 6 (some .int), Cond.methodLink RX3 55 yX0_h]
def wsX8_attach_r4 : List Cond := [Cond.instanceMethod yX0_h, Cond.selects RX0 yX0_h yX0_h, Cond.initialized RX0, Cond.code yX0_h cX0_h 1 (some .int), Cond.fieldLink RX0 24 "WallCount$Key" "h" "I"]
def wsX8_attach : List Cond := .code yX8_attach cX8_attach 7 (some .int) :: ((wsX8_attach_r1 ++ (wsX8_attach_r2 ++ (wsX8_attach_r3 ++ wsX8_attach_r4))) ++ wsX80 ++ wsX50 ++ wsX70 ++ wsX30 ++ wsX00)
def wsX8_cast_r1 : List Cond := [Cond.fieldLink RX8 35 "WallCount" "wall" "LWallCount$Wall;", Cond.fieldLink RX8 10 "WallCount" "secret" "LWallCount$Key;", Cond.fieldLink RX8 19 "WallCount" "proof" "LWallCount$Proof;", Cond.classLink RX8 162 RX5, Cond.instantiable RX5 6, Cond.initialized RX5, Cond.methodLink RX8 124 yX8_isVoter, Cond.static yX8_isVoter, Cond.initialized RX8, Cond.code yX8_isVoter cX8_isVoter 1 (some .boolean), Cond.methodLink RX8 39 yX8_within, Cond.static yX8_within, Cond.code yX8_within cX8_within 3 (some .boolean), Cond.methodLink RX8 108 yX8_areLots, Cond.static yX8_areLots, Cond.code yX8_areLots cX8_areLots 4 (some .boolean), Cond.methodLink RX8 43 yX8_isExponent, Cond.static yX8_isExponent, Cond.code yX8_isExponent cX8_isExponent 1 (some .boolean), Cond.methodLink RX8 158 yX7_isFull, Cond.instanceMethod yX7_isFull, Cond.selects RX7 yX7_isFull yX7_isFull, Cond.initialized RX7, Cond.code yX7_isFull cX7_isFull 1 (some .boolean)]
def wsX8_cast_r2 : List Cond := [Cond.fieldLink RX7 25 "WallCount$Wall" "size" "I", Cond.fieldLink RX7 17 "WallCount$Wall" "rows" "[LWallCount$Row;", Cond.methodLink RX8 65 yX2_ofG, Cond.static yX2_ofG, Cond.initialized RX2, Cond.code yX2_ofG cX2_ofG 1 (some .int), Cond.methodLink RX2 11 yX2_power, Cond.static yX2_power, Cond.code yX2_power cX2_power 6 (some .int), Cond.methodLink RX8 70 yX0_sealedB, Cond.instanceMethod yX0_sealedB, Cond.selects RX0 yX0_sealedB yX0_sealedB, Cond.initialized RX0, Cond.code yX0_sealedB cX0_sealedB 3 (some .int), Cond.fieldLink RX0 24 "WallCount$Key" "h" "I", Cond.methodLink RX0 33 yX2_of, Cond.static yX2_of, Cond.code yX2_of cX2_of 2 (some .int), Cond.methodLink RX0 27 yX2_ofG, Cond.methodLink RX8 112 yX3_make, Cond.instanceMethod yX3_make, Cond.selects RX3 yX3_make yX3_make, Cond.initialized RX3, Cond.code yX3_make cX3_make 16 none]
def wsX8_cast_r3 : List Cond := [Cond.methodLink RX3 46 yX2_ofG, Cond.methodLink RX3 50 yX0_sealedB, Cond.methodLink RX3 55 yX0_h, Cond.instanceMethod yX0_h, Cond.selects RX0 yX0_h yX0_h, Cond.code yX0_h cX0_h 1 (some .int), Cond.methodLink RX3 59 yX2_of, Cond.methodLink RX3 38 yX3_sOf, Cond.static yX3_sOf, Cond.code yX3_sOf cX3_sOf 3 (some .int), Cond.methodLink RX3 66 yX2_divided, Cond.static yX2_divided, Cond.code yX2_divided cX2_divided 2 (some .int), Cond.methodLink RX2 15 yX2_inverse, Cond.static yX2_inverse, Cond.code yX2_inverse cX2_inverse 2 (some .int), Cond.methodLink RX3 42 yX3_tOf, Cond.static yX3_tOf, Cond.code yX3_tOf cX3_tOf 6 (some .int), Cond.methodLink RX3 34 yX3_mixedWith, Cond.static yX3_mixedWith, Cond.code yX3_mixedWith cX3_mixedWith 2 (some .int), Cond.methodLink RX3 62 yX3_become, Cond.instanceMethod yX3_become]
def wsX8_cast_r4 : List Cond := [Cond.selects RX3 yX3_become yX3_become, Cond.code yX3_become cX3_become 5 none, Cond.fieldLink RX3 9 "WallCount$Proof" "c0" "I", Cond.fieldLink RX3 15 "WallCount$Proof" "z0" "I", Cond.fieldLink RX3 18 "WallCount$Proof" "c1" "I", Cond.fieldLink RX3 21 "WallCount$Proof" "z1" "I", Cond.methodLink RX8 120 yX3_holds, Cond.instanceMethod yX3_holds, Cond.selects RX3 yX3_holds yX3_holds, Cond.code yX3_holds cX3_holds 5 (some .boolean), Cond.methodLink RX3 24 yX2_isRight, Cond.static yX2_isRight, Cond.code yX2_isRight cX2_isRight 2 (some .boolean), Cond.static yX8_isResidue, Cond.code yX8_isResidue cX8_isResidue 1 (some .boolean), Cond.methodLink RX2 23 yX2_of, Cond.methodLink RX8 164 yX5_init, Cond.instanceMethod yX5_init, Cond.code yX5_init cX5_init 7 none, Cond.methodLink RX5 3 objectInit, Cond.instanceMethod objectInit, Cond.code objectInit ⟨#[0xb1]⟩ 1 none, Cond.fieldLink RX5 9 "WallCount$Row" "voter" "I", Cond.fieldLink RX5 15 "WallCount$Row" "a" "I"]
def wsX8_cast_r5 : List Cond := [Cond.fieldLink RX5 18 "WallCount$Row" "b" "I", Cond.fieldLink RX5 21 "WallCount$Row" "hour" "I", Cond.fieldLink RX5 24 "WallCount$Row" "sound" "Z", Cond.fieldLink RX5 28 "WallCount$Row" "proved" "Z", Cond.methodLink RX8 167 yX7_add, Cond.instanceMethod yX7_add, Cond.selects RX7 yX7_add yX7_add, Cond.code yX7_add cX7_add 2 (some .int)]
def wsX8_cast : List Cond := .code yX8_cast cX8_cast 10 (some .int) :: ((wsX8_cast_r1 ++ (wsX8_cast_r2 ++ (wsX8_cast_r3 ++ (wsX8_cast_r4 ++ wsX8_cast_r5)))) ++ wsX80 ++ wsX50 ++ wsX70 ++ wsX00 ++ wsX30)
def wsX8_ofRow_r1 : List Cond := [Cond.fieldLink RX8 35 "WallCount" "wall" "LWallCount$Wall;", Cond.fieldLink RX8 188 "WallCount$Row" "voter" "I", Cond.fieldLink RX8 178 "WallCount$Row" "a" "I", Cond.fieldLink RX8 182 "WallCount$Row" "b" "I", Cond.fieldLink RX8 191 "WallCount$Row" "hour" "I", Cond.methodLink RX8 170 yX7_at, Cond.instanceMethod yX7_at, Cond.selects RX7 yX7_at yX7_at, Cond.initialized RX7, Cond.code yX7_at cX7_at 2 (some (.object "WallCount$Row")), Cond.fieldLink RX7 25 "WallCount$Wall" "size" "I", Cond.fieldLink RX7 17 "WallCount$Wall" "rows" "[LWallCount$Row;", Cond.methodLink RX8 194 yX7_kindOf, Cond.instanceMethod yX7_kindOf, Cond.selects RX7 yX7_kindOf yX7_kindOf, Cond.code yX7_kindOf cX7_kindOf 3 (some .int), Cond.fieldLink RX7 39 "WallCount$Row" "hour" "I", Cond.fieldLink RX7 32 "WallCount$Wall" "closeHour" "I", Cond.fieldLink RX7 42 "WallCount$Row" "sound" "Z", Cond.fieldLink RX7 9 "WallCount$Wall" "roll" "LWallCount$Roll;", Cond.fieldLink RX7 46 "WallCount$Row" "voter" "I", Cond.methodLink RX7 35 yX7_at, Cond.methodLink RX7 49 yX4_allows, Cond.instanceMethod yX4_allows]
def wsX8_ofRow_r2 : List Cond := [Cond.selects RX4 yX4_allows yX4_allows, Cond.initialized RX4, Cond.code yX4_allows cX4_allows 2 (some .boolean), Cond.fieldLink RX4 18 "WallCount$Roll" "whoMay" "LWallCount$Text;", Cond.methodLink RX4 28 yX4_trait, Cond.instanceMethod yX4_trait, Cond.selects RX4 yX4_trait yX4_trait, Cond.code yX4_trait cX4_trait 4 (some .int), Cond.fieldLink RX4 9 "WallCount$Roll" "traits" "[I", Cond.methodLink RX4 32 yX6_allows, Cond.instanceMethod yX6_allows, Cond.selects RX6 yX6_allows yX6_allows, Cond.initialized RX6, Cond.code yX6_allows cX6_allows 11 (some .boolean), Cond.fieldLink RX6 15 "WallCount$Text" "size" "I", Cond.fieldLink RX6 9 "WallCount$Text" "signs" "[I", Cond.methodLink RX6 23 yX6_isName, Cond.static yX6_isName, Cond.code yX6_isName cX6_isName 1 (some .boolean), Cond.methodLink RX6 27 yX6_isCompare, Cond.static yX6_isCompare, Cond.code yX6_isCompare cX6_isCompare 1 (some .boolean), Cond.methodLink RX6 30 yX6_isDigit, Cond.static yX6_isDigit]
def wsX8_ofRow_r3 : List Cond := [Cond.code yX6_isDigit cX6_isDigit 1 (some .boolean), Cond.methodLink RX6 36 yX6_passes, Cond.static yX6_passes, Cond.code yX6_passes cX6_passes 3 (some .boolean), Cond.methodLink RX7 55 yX7_hasLaterOne, Cond.instanceMethod yX7_hasLaterOne, Cond.selects RX7 yX7_hasLaterOne yX7_hasLaterOne, Cond.code yX7_hasLaterOne cX7_hasLaterOne 5 (some .boolean), Cond.methodLink RX8 197 yX5_word, Cond.instanceMethod yX5_word, Cond.selects RX5 yX5_word yX5_word, Cond.initialized RX5, Cond.code yX5_word cX5_word 2 (some .int), Cond.fieldLink RX5 9 "WallCount$Row" "voter" "I", Cond.fieldLink RX5 15 "WallCount$Row" "a" "I", Cond.fieldLink RX5 18 "WallCount$Row" "b" "I", Cond.fieldLink RX5 21 "WallCount$Row" "hour" "I", Cond.methodLink RX5 31 yX5_wordWith, Cond.static yX5_wordWith, Cond.code yX5_wordWith cX5_wordWith 2 (some .int), Cond.methodLink RX8 200 yX7_headBehind, Cond.instanceMethod yX7_headBehind, Cond.selects RX7 yX7_headBehind yX7_headBehind, Cond.code yX7_headBehind cX7_headBehind 5 (some .int)]
def wsX8_ofRow_r4 : List Cond := [Cond.constantLong RX7 69 (10007), Cond.constantLong RX7 74 (999983), Cond.methodLink RX7 71 yX7_wordOf, Cond.instanceMethod yX7_wordOf, Cond.selects RX7 yX7_wordOf yX7_wordOf, Cond.code yX7_wordOf cX7_wordOf 3 (some .int), Cond.methodLink RX7 76 yX5_word]
def wsX8_ofRow : List Cond := .code yX8_ofRow cX8_ofRow 4 (some .int) :: ((wsX8_ofRow_r1 ++ (wsX8_ofRow_r2 ++ (wsX8_ofRow_r3 ++ wsX8_ofRow_r4))) ++ wsX80 ++ wsX50 ++ wsX70 ++ wsX40 ++ wsX60)
def wsX8_find_r1 : List Cond := [Cond.fieldLink RX8 35 "WallCount" "wall" "LWallCount$Wall;", Cond.methodLink RX8 39 yX8_within, Cond.static yX8_within, Cond.initialized RX8, Cond.code yX8_within cX8_within 3 (some .boolean), Cond.methodLink RX8 203 yX7_firstWithWord, Cond.instanceMethod yX7_firstWithWord, Cond.selects RX7 yX7_firstWithWord yX7_firstWithWord, Cond.initialized RX7, Cond.code yX7_firstWithWord cX7_firstWithWord 4 (some .int), Cond.fieldLink RX7 25 "WallCount$Wall" "size" "I", Cond.methodLink RX7 71 yX7_wordOf, Cond.instanceMethod yX7_wordOf, Cond.selects RX7 yX7_wordOf yX7_wordOf, Cond.code yX7_wordOf cX7_wordOf 3 (some .int), Cond.methodLink RX7 35 yX7_at, Cond.instanceMethod yX7_at, Cond.selects RX7 yX7_at yX7_at, Cond.code yX7_at cX7_at 2 (some (.object "WallCount$Row")), Cond.fieldLink RX7 17 "WallCount$Wall" "rows" "[LWallCount$Row;", Cond.methodLink RX7 76 yX5_word, Cond.instanceMethod yX5_word, Cond.selects RX5 yX5_word yX5_word, Cond.initialized RX5]
def wsX8_find_r2 : List Cond := [Cond.code yX5_word cX5_word 2 (some .int), Cond.fieldLink RX5 9 "WallCount$Row" "voter" "I", Cond.fieldLink RX5 15 "WallCount$Row" "a" "I", Cond.fieldLink RX5 18 "WallCount$Row" "b" "I", Cond.fieldLink RX5 21 "WallCount$Row" "hour" "I", Cond.methodLink RX5 31 yX5_wordWith, Cond.static yX5_wordWith, Cond.code yX5_wordWith cX5_wordWith 2 (some .int)]
def wsX8_find : List Cond := .code yX8_find cX8_find 3 (some .int) :: ((wsX8_find_r1 ++ wsX8_find_r2) ++ wsX80 ++ wsX70 ++ wsX50)
def wsX8_tally_r1 : List Cond := [Cond.fieldLink RX8 35 "WallCount" "wall" "LWallCount$Wall;", Cond.methodLink RX8 206 yX7_product, Cond.instanceMethod yX7_product, Cond.selects RX7 yX7_product yX7_product, Cond.initialized RX7, Cond.code yX7_product cX7_product 5 (some .int), Cond.fieldLink RX7 25 "WallCount$Wall" "size" "I", Cond.fieldLink RX7 63 "WallCount$Row" "a" "I", Cond.fieldLink RX7 66 "WallCount$Row" "b" "I", Cond.methodLink RX7 35 yX7_at, Cond.instanceMethod yX7_at, Cond.selects RX7 yX7_at yX7_at, Cond.code yX7_at cX7_at 2 (some (.object "WallCount$Row")), Cond.fieldLink RX7 17 "WallCount$Wall" "rows" "[LWallCount$Row;", Cond.methodLink RX7 59 yX7_kindOf, Cond.instanceMethod yX7_kindOf, Cond.selects RX7 yX7_kindOf yX7_kindOf, Cond.code yX7_kindOf cX7_kindOf 3 (some .int), Cond.fieldLink RX7 39 "WallCount$Row" "hour" "I", Cond.fieldLink RX7 32 "WallCount$Wall" "closeHour" "I", Cond.fieldLink RX7 42 "WallCount$Row" "sound" "Z", Cond.fieldLink RX7 9 "WallCount$Wall" "roll" "LWallCount$Roll;", Cond.fieldLink RX7 46 "WallCount$Row" "voter" "I", Cond.methodLink RX7 49 yX4_allows]
def wsX8_tally_r2 : List Cond := [Cond.instanceMethod yX4_allows, Cond.selects RX4 yX4_allows yX4_allows, Cond.initialized RX4, Cond.code yX4_allows cX4_allows 2 (some .boolean), Cond.fieldLink RX4 18 "WallCount$Roll" "whoMay" "LWallCount$Text;", Cond.methodLink RX4 28 yX4_trait, Cond.instanceMethod yX4_trait, Cond.selects RX4 yX4_trait yX4_trait, Cond.code yX4_trait cX4_trait 4 (some .int), Cond.fieldLink RX4 9 "WallCount$Roll" "traits" "[I", Cond.methodLink RX4 32 yX6_allows, Cond.instanceMethod yX6_allows, Cond.selects RX6 yX6_allows yX6_allows, Cond.initialized RX6, Cond.code yX6_allows cX6_allows 11 (some .boolean), Cond.fieldLink RX6 15 "WallCount$Text" "size" "I", Cond.fieldLink RX6 9 "WallCount$Text" "signs" "[I", Cond.methodLink RX6 23 yX6_isName, Cond.static yX6_isName, Cond.code yX6_isName cX6_isName 1 (some .boolean), Cond.methodLink RX6 27 yX6_isCompare, Cond.static yX6_isCompare, Cond.code yX6_isCompare cX6_isCompare 1 (some .boolean), Cond.methodLink RX6 30 yX6_isDigit]
def wsX8_tally_r3 : List Cond := [Cond.static yX6_isDigit, Cond.code yX6_isDigit cX6_isDigit 1 (some .boolean), Cond.methodLink RX6 36 yX6_passes, Cond.static yX6_passes, Cond.code yX6_passes cX6_passes 3 (some .boolean), Cond.methodLink RX7 55 yX7_hasLaterOne, Cond.instanceMethod yX7_hasLaterOne, Cond.selects RX7 yX7_hasLaterOne yX7_hasLaterOne, Cond.code yX7_hasLaterOne cX7_hasLaterOne 5 (some .boolean), Cond.methodLink RX8 209 yX7_howManyAre, Cond.instanceMethod yX7_howManyAre, Cond.selects RX7 yX7_howManyAre yX7_howManyAre, Cond.code yX7_howManyAre cX7_howManyAre 4 (some .int)]
def wsX8_tally : List Cond := .code yX8_tally cX8_tally 2 (some .int) :: ((wsX8_tally_r1 ++ (wsX8_tally_r2 ++ wsX8_tally_r3)) ++ wsX80 ++ wsX70 ++ wsX50 ++ wsX40 ++ wsX60)
def wsX8_copy : List Cond := .code yX8_copy cX8_copy 2 (some .int) :: ([.fieldLink RX8 35 "WallCount" "wall" "LWallCount$Wall;", .methodLink RX8 39 yX8_within, .static yX8_within, .initialized RX8, .code yX8_within cX8_within 3 (some .boolean), .methodLink RX8 212 yX7_addCopied, .instanceMethod yX7_addCopied, .selects RX7 yX7_addCopied yX7_addCopied, .initialized RX7, .code yX7_addCopied cX7_addCopied 2 (some .boolean), .fieldLink RX7 29 "WallCount$Wall" "copiedSize" "I", .fieldLink RX7 21 "WallCount$Wall" "copied" "[I", .methodLink RX8 215 yX7_copiedSize, .instanceMethod yX7_copiedSize, .selects RX7 yX7_copiedSize yX7_copiedSize, .code yX7_copiedSize cX7_copiedSize 1 (some .int)] ++ wsX80 ++ wsX70)
def wsX8_parted_r1 : List Cond := [Cond.fieldLink RX8 35 "WallCount" "wall" "LWallCount$Wall;", Cond.methodLink RX8 218 yX7_firstUnlike, Cond.instanceMethod yX7_firstUnlike, Cond.selects RX7 yX7_firstUnlike yX7_firstUnlike, Cond.initialized RX7, Cond.code yX7_firstUnlike cX7_firstUnlike 2 (some .int), Cond.fieldLink RX7 25 "WallCount$Wall" "size" "I", Cond.fieldLink RX7 29 "WallCount$Wall" "copiedSize" "I", Cond.fieldLink RX7 21 "WallCount$Wall" "copied" "[I", Cond.methodLink RX7 71 yX7_wordOf, Cond.instanceMethod yX7_wordOf, Cond.selects RX7 yX7_wordOf yX7_wordOf, Cond.code yX7_wordOf cX7_wordOf 3 (some .int), Cond.methodLink RX7 35 yX7_at, Cond.instanceMethod yX7_at, Cond.selects RX7 yX7_at yX7_at, Cond.code yX7_at cX7_at 2 (some (.object "WallCount$Row")), Cond.fieldLink RX7 17 "WallCount$Wall" "rows" "[LWallCount$Row;", Cond.methodLink RX7 76 yX5_word, Cond.instanceMethod yX5_word, Cond.selects RX5 yX5_word yX5_word, Cond.initialized RX5, Cond.code yX5_word cX5_word 2 (some .int), Cond.fieldLink RX5 9 "WallCount$Row" "voter" "I"]
def wsX8_parted_r2 : List Cond := [Cond.fieldLink RX5 15 "WallCount$Row" "a" "I", Cond.fieldLink RX5 18 "WallCount$Row" "b" "I", Cond.fieldLink RX5 21 "WallCount$Row" "hour" "I", Cond.methodLink RX5 31 yX5_wordWith, Cond.static yX5_wordWith, Cond.code yX5_wordWith cX5_wordWith 2 (some .int)]
def wsX8_parted : List Cond := .code yX8_parted cX8_parted 1 (some .int) :: ((wsX8_parted_r1 ++ wsX8_parted_r2) ++ wsX80 ++ wsX70 ++ wsX50)
def wsX8_areBooth : List Cond := .code yX8_areBooth cX8_areBooth 2 (some .boolean) :: ([.methodLink RX8 39 yX8_within, .static yX8_within, .initialized RX8, .code yX8_within cX8_within 3 (some .boolean)])
def wsX8_lies : List Cond := .code yX8_lies cX8_lies 5 (some .long) :: ([.constantLong RX8 224 (-1000000000000000002), .methodLink RX8 221 yX8_areBooth, .static yX8_areBooth, .initialized RX8, .code yX8_areBooth cX8_areBooth 2 (some .boolean), .methodLink RX8 39 yX8_within, .static yX8_within, .code yX8_within cX8_within 3 (some .boolean), .methodLink RX8 226 yX1_choose, .static yX1_choose, .initialized RX1, .code yX1_choose cX1_choose 5 (some .long), .methodLink RX8 232 yX1_inLowestTerms, .static yX1_inLowestTerms, .code yX1_inLowestTerms cX1_inLowestTerms 7 (some .long), .methodLink RX1 25 yX1_greatestShared, .static yX1_greatestShared, .code yX1_greatestShared cX1_greatestShared 11 (some .long)])
def wsX8_ask : List Cond := .code yX8_ask cX8_ask 4 (some .int) :: ([.methodLink RX8 221 yX8_areBooth, .static yX8_areBooth, .initialized RX8, .code yX8_areBooth cX8_areBooth 2 (some .boolean), .methodLink RX8 39 yX8_within, .static yX8_within, .code yX8_within cX8_within 3 (some .boolean), .methodLink RX8 236 yX1_leastDrawn, .static yX1_leastDrawn, .initialized RX1, .code yX1_leastDrawn cX1_leastDrawn 5 (some .int), .constantLong RX1 19 (100), .methodLink RX1 15 yX1_choose, .static yX1_choose, .code yX1_choose cX1_choose 5 (some .long)])
def wsX8_slips : List Cond := .code yX8_slips cX8_slips 5 (some .long) :: ([.constantLong RX8 224 (-1000000000000000002), .methodLink RX8 39 yX8_within, .static yX8_within, .initialized RX8, .code yX8_within cX8_within 3 (some .boolean), .methodLink RX8 240 yX1_waysForOne, .static yX1_waysForOne, .initialized RX1, .code yX1_waysForOne cX1_waysForOne 6 (some .long), .methodLink RX1 9 yX1_forOne, .static yX1_forOne, .code yX1_forOne cX1_forOne 1 (some .int), .methodLink RX1 15 yX1_choose, .static yX1_choose, .code yX1_choose cX1_choose 5 (some .long), .methodLink RX8 226 yX1_choose, .methodLink RX8 232 yX1_inLowestTerms, .static yX1_inLowestTerms, .code yX1_inLowestTerms cX1_inLowestTerms 7 (some .long), .methodLink RX1 25 yX1_greatestShared, .static yX1_greatestShared, .code yX1_greatestShared cX1_greatestShared 11 (some .long)])
def wsX8_drawn : List Cond := .code yX8_drawn cX8_drawn 4 (some .int) :: ([.constant RX8 244 (1000000), .methodLink RX8 39 yX8_within, .static yX8_within, .initialized RX8, .code yX8_within cX8_within 3 (some .boolean), .methodLink RX8 245 yX1_slipDrawn, .static yX1_slipDrawn, .initialized RX1, .code yX1_slipDrawn cX1_slipDrawn 6 (some .int), .constantLong RX1 21 (16807), .constantLong RX1 23 (2147483647)])
def wsX8_sure : List Cond := .code yX8_sure cX8_sure 3 (some .int) :: ([.methodLink RX8 39 yX8_within, .static yX8_within, .initialized RX8, .code yX8_within cX8_within 3 (some .boolean), .methodLink RX8 248 yX1_forOne, .static yX1_forOne, .initialized RX1, .code yX1_forOne cX1_forOne 1 (some .int), .methodLink RX8 236 yX1_leastDrawn, .static yX1_leastDrawn, .code yX1_leastDrawn cX1_leastDrawn 5 (some .int), .constantLong RX1 19 (100), .methodLink RX1 15 yX1_choose, .static yX1_choose, .code yX1_choose cX1_choose 5 (some .long)])
def wsX8_areSums : List Cond := .code yX8_areSums cX8_areSums 3 (some .boolean) :: ([.methodLink RX8 39 yX8_within, .static yX8_within, .initialized RX8, .code yX8_within cX8_within 3 (some .boolean)])
def wsX8_areKnown : List Cond := .code yX8_areKnown cX8_areKnown 6 (some .boolean) :: ([.methodLink RX8 39 yX8_within, .static yX8_within, .initialized RX8, .code yX8_within cX8_within 3 (some .boolean)])
def wsX8_told : List Cond := .code yX8_told cX8_told 11 (some .long) :: ([.constantLong RX8 224 (-1000000000000000002), .constantLong RX8 258 (-1000000000000000003), .methodLink RX8 251 yX8_areSums, .static yX8_areSums, .initialized RX8, .code yX8_areSums cX8_areSums 3 (some .boolean), .methodLink RX8 39 yX8_within, .static yX8_within, .code yX8_within cX8_within 3 (some .boolean), .methodLink RX8 254 yX8_areKnown, .static yX8_areKnown, .code yX8_areKnown cX8_areKnown 6 (some .boolean), .methodLink RX8 232 yX1_inLowestTerms, .static yX1_inLowestTerms, .initialized RX1, .code yX1_inLowestTerms cX1_inLowestTerms 7 (some .long), .methodLink RX1 25 yX1_greatestShared, .static yX1_greatestShared, .code yX1_greatestShared cX1_greatestShared 11 (some .long)])
def wsX8_forced : List Cond := .code yX8_forced cX8_forced 8 (some .int) :: ([.methodLink RX8 260 Lib.Math.max.name, .static Lib.Math.max.name, .initialized "java/lang/Math", .code Lib.Math.max.name Lib.Math.max.code 2 (some .int), .methodLink RX8 251 yX8_areSums, .static yX8_areSums, .initialized RX8, .code yX8_areSums cX8_areSums 3 (some .boolean), .methodLink RX8 39 yX8_within, .static yX8_within, .code yX8_within cX8_within 3 (some .boolean), .methodLink RX8 254 yX8_areKnown, .static yX8_areKnown, .code yX8_areKnown cX8_areKnown 6 (some .boolean)])
def wsX8_count_r1 : List Cond := [Cond.fieldLink RX8 35 "WallCount" "wall" "LWallCount$Wall;", Cond.fieldLink RX8 26 "WallCount" "roll" "LWallCount$Roll;", Cond.fieldLink RX8 10 "WallCount" "secret" "LWallCount$Key;", Cond.methodLink RX8 39 yX8_within, Cond.static yX8_within, Cond.initialized RX8, Cond.code yX8_within cX8_within 3 (some .boolean), Cond.methodLink RX8 209 yX7_howManyAre, Cond.instanceMethod yX7_howManyAre, Cond.selects RX7 yX7_howManyAre yX7_howManyAre, Cond.initialized RX7, Cond.code yX7_howManyAre cX7_howManyAre 4 (some .int), Cond.fieldLink RX7 25 "WallCount$Wall" "size" "I", Cond.methodLink RX7 59 yX7_kindOf, Cond.instanceMethod yX7_kindOf, Cond.selects RX7 yX7_kindOf yX7_kindOf, Cond.code yX7_kindOf cX7_kindOf 3 (some .int), Cond.fieldLink RX7 39 "WallCount$Row" "hour" "I", Cond.fieldLink RX7 32 "WallCount$Wall" "closeHour" "I", Cond.fieldLink RX7 42 "WallCount$Row" "sound" "Z", Cond.fieldLink RX7 9 "WallCount$Wall" "roll" "LWallCount$Roll;", Cond.fieldLink RX7 46 "WallCount$Row" "voter" "I", Cond.methodLink RX7 35 yX7_at, Cond.instanceMethod yX7_at]
def wsX8_count_r2 : List Cond := [Cond.selects RX7 yX7_at yX7_at, Cond.code yX7_at cX7_at 2 (some (.object "WallCount$Row")), Cond.fieldLink RX7 17 "WallCount$Wall" "rows" "[LWallCount$Row;", Cond.methodLink RX7 49 yX4_allows, Cond.instanceMethod yX4_allows, Cond.selects RX4 yX4_allows yX4_allows, Cond.initialized RX4, Cond.code yX4_allows cX4_allows 2 (some .boolean), Cond.fieldLink RX4 18 "WallCount$Roll" "whoMay" "LWallCount$Text;", Cond.methodLink RX4 28 yX4_trait, Cond.instanceMethod yX4_trait, Cond.selects RX4 yX4_trait yX4_trait, Cond.code yX4_trait cX4_trait 4 (some .int), Cond.fieldLink RX4 9 "WallCount$Roll" "traits" "[I", Cond.methodLink RX4 32 yX6_allows, Cond.instanceMethod yX6_allows, Cond.selects RX6 yX6_allows yX6_allows, Cond.initialized RX6, Cond.code yX6_allows cX6_allows 11 (some .boolean), Cond.fieldLink RX6 15 "WallCount$Text" "size" "I", Cond.fieldLink RX6 9 "WallCount$Text" "signs" "[I", Cond.methodLink RX6 23 yX6_isName, Cond.static yX6_isName, Cond.code yX6_isName cX6_isName 1 (some .boolean)]
def wsX8_count_r3 : List Cond := [Cond.methodLink RX6 27 yX6_isCompare, Cond.static yX6_isCompare, Cond.code yX6_isCompare cX6_isCompare 1 (some .boolean), Cond.methodLink RX6 30 yX6_isDigit, Cond.static yX6_isDigit, Cond.code yX6_isDigit cX6_isDigit 1 (some .boolean), Cond.methodLink RX6 36 yX6_passes, Cond.static yX6_passes, Cond.code yX6_passes cX6_passes 3 (some .boolean), Cond.methodLink RX7 55 yX7_hasLaterOne, Cond.instanceMethod yX7_hasLaterOne, Cond.selects RX7 yX7_hasLaterOne yX7_hasLaterOne, Cond.code yX7_hasLaterOne cX7_hasLaterOne 5 (some .boolean), Cond.methodLink RX8 47 yX7_size, Cond.instanceMethod yX7_size, Cond.selects RX7 yX7_size yX7_size, Cond.code yX7_size cX7_size 1 (some .int), Cond.methodLink RX8 130 yX4_draft, Cond.instanceMethod yX4_draft, Cond.selects RX4 yX4_draft yX4_draft, Cond.code yX4_draft cX4_draft 1 (some (.object "WallCount$Text")), Cond.fieldLink RX4 22 "WallCount$Roll" "draft" "LWallCount$Text;", Cond.methodLink RX8 139 yX6_size, Cond.instanceMethod yX6_size]
def wsX8_count_r4 : List Cond := [Cond.selects RX6 yX6_size yX6_size, Cond.code yX6_size cX6_size 1 (some .int), Cond.methodLink RX8 55 yX0_h, Cond.instanceMethod yX0_h, Cond.selects RX0 yX0_h yX0_h, Cond.initialized RX0, Cond.code yX0_h cX0_h 1 (some .int), Cond.fieldLink RX0 24 "WallCount$Key" "h" "I", Cond.methodLink RX8 98 yX0_need, Cond.instanceMethod yX0_need, Cond.selects RX0 yX0_need yX0_need, Cond.code yX0_need cX0_need 1 (some .int), Cond.fieldLink RX0 9 "WallCount$Key" "need" "I", Cond.methodLink RX8 265 yX7_closeHour, Cond.instanceMethod yX7_closeHour, Cond.selects RX7 yX7_closeHour yX7_closeHour, Cond.code yX7_closeHour cX7_closeHour 1 (some .int), Cond.methodLink RX8 215 yX7_copiedSize, Cond.instanceMethod yX7_copiedSize, Cond.selects RX7 yX7_copiedSize yX7_copiedSize, Cond.code yX7_copiedSize cX7_copiedSize 1 (some .int), Cond.fieldLink RX7 29 "WallCount$Wall" "copiedSize" "I"]
def wsX8_count : List Cond := .code yX8_count cX8_count 2 (some .int) :: ((wsX8_count_r1 ++ (wsX8_count_r2 ++ (wsX8_count_r3 ++ wsX8_count_r4))) ++ wsX80 ++ wsX70 ++ wsX50 ++ wsX40 ++ wsX60 ++ wsX00)
def wsX9_init : List Cond := .code yX9_init cX9_init 2 none :: ([.methodLink RX9 1 objectInit, .instanceMethod objectInit, .code objectInit ⟨#[0xb1]⟩ 1 none, .fieldLink RX9 7 "WallCountModel" "need" "I", .arrayClass .int, .fieldLink RX9 13 "WallCountModel" "secret" "[I", .fieldLink RX9 17 "WallCountModel" "has" "[I", .fieldLink RX9 20 "WallCountModel" "sign" "[I", .fieldLink RX9 23 "WallCountModel" "ruleSign" "[I", .fieldLink RX9 26 "WallCountModel" "close" "I", .fieldLink RX9 29 "WallCountModel" "rowVoter" "[I", .fieldLink RX9 32 "WallCountModel" "rowA" "[I", .fieldLink RX9 35 "WallCountModel" "rowB" "[I", .fieldLink RX9 38 "WallCountModel" "rowHour" "[I", .arrayClass .boolean, .fieldLink RX9 41 "WallCountModel" "isProved" "[Z", .fieldLink RX9 45 "WallCountModel" "proof" "[I", .fieldLink RX9 48 "WallCountModel" "copied" "[I"] ++ wsX90)
def wsX9_in : List Cond := .code yX9_in cX9_in 3 (some .boolean) :: ([])
def wsX9_isPower : List Cond := .code yX9_isPower cX9_isPower 1 (some .boolean) :: ([.methodLink RX9 51 yX9_in, .static yX9_in, .initialized RX9, .code yX9_in cX9_in 3 (some .boolean)])
def wsX9_isNumber : List Cond := .code yX9_isNumber cX9_isNumber 1 (some .boolean) :: ([.methodLink RX9 51 yX9_in, .static yX9_in, .initialized RX9, .code yX9_in cX9_in 3 (some .boolean)])
def wsX9_times : List Cond := .code yX9_times cX9_times 2 (some .int) :: ([.constantLong RX9 55 (10007)])
def wsX9_raise : List Cond := .code yX9_raise cX9_raise 9 (some .long) :: ([])
def wsX9_power : List Cond := .code yX9_power cX9_power 2 (some .int) :: ([.methodLink RX9 57 yX9_raise, .static yX9_raise, .initialized RX9, .code yX9_raise cX9_raise 9 (some .long)])
def wsX9_by : List Cond := .code yX9_by cX9_by 2 (some .int) :: ([.methodLink RX9 61 yX9_power, .static yX9_power, .initialized RX9, .code yX9_power cX9_power 2 (some .int), .methodLink RX9 57 yX9_raise, .static yX9_raise, .code yX9_raise cX9_raise 9 (some .long), .methodLink RX9 65 yX9_times, .static yX9_times, .code yX9_times cX9_times 2 (some .int), .constantLong RX9 55 (10007)])
def wsX9_partOf : List Cond := .code yX9_partOf cX9_partOf 2 (some .int) :: ([.fieldLink RX9 13 "WallCountModel" "secret" "[I"] ++ wsX90)
def wsX9_h : List Cond := .code yX9_h cX9_h 1 (some .int) :: ([.fieldLink RX9 13 "WallCountModel" "secret" "[I", .methodLink RX9 61 yX9_power, .static yX9_power, .initialized RX9, .code yX9_power cX9_power 2 (some .int), .methodLink RX9 57 yX9_raise, .static yX9_raise, .code yX9_raise cX9_raise 9 (some .long)] ++ wsX90)
def wsX9_key : List Cond := .code yX9_key cX9_key 5 (some .int) :: ([.fieldLink RX9 72 "WallCountModel" "rows" "I", .fieldLink RX9 7 "WallCountModel" "need" "I", .fieldLink RX9 13 "WallCountModel" "secret" "[I", .methodLink RX9 51 yX9_in, .static yX9_in, .initialized RX9, .code yX9_in cX9_in 3 (some .boolean), .methodLink RX9 68 yX9_isPower, .static yX9_isPower, .code yX9_isPower cX9_isPower 1 (some .boolean), .methodLink RX9 75 yX9_h, .instanceMethod yX9_h, .selects RX9 yX9_h yX9_h, .code yX9_h cX9_h 1 (some .int), .methodLink RX9 61 yX9_power, .static yX9_power, .code yX9_power cX9_power 2 (some .int), .methodLink RX9 57 yX9_raise, .static yX9_raise, .code yX9_raise cX9_raise 9 (some .long)] ++ wsX90)
def wsX9_isHolder : List Cond := .code yX9_isHolder cX9_isHolder 1 (some .boolean) :: ([.methodLink RX9 51 yX9_in, .static yX9_in, .initialized RX9, .code yX9_in cX9_in 3 (some .boolean)])
def wsX9_holder : List Cond := .code yX9_holder cX9_holder 3 (some .int) :: ([.methodLink RX9 79 yX9_isHolder, .static yX9_isHolder, .initialized RX9, .code yX9_isHolder cX9_isHolder 1 (some .boolean), .methodLink RX9 51 yX9_in, .static yX9_in, .code yX9_in cX9_in 3 (some .boolean), .methodLink RX9 82 yX9_partOf, .instanceMethod yX9_partOf, .selects RX9 yX9_partOf yX9_partOf, .code yX9_partOf cX9_partOf 2 (some .int), .fieldLink RX9 13 "WallCountModel" "secret" "[I", .methodLink RX9 61 yX9_power, .static yX9_power, .code yX9_power cX9_power 2 (some .int), .methodLink RX9 57 yX9_raise, .static yX9_raise, .code yX9_raise cX9_raise 9 (some .long)] ++ wsX90)
def wsX9_sealOf : List Cond := .code yX9_sealOf cX9_sealOf 4 (some .int) :: ([.methodLink RX9 61 yX9_power, .static yX9_power, .initialized RX9, .code yX9_power cX9_power 2 (some .int), .methodLink RX9 57 yX9_raise, .static yX9_raise, .code yX9_raise cX9_raise 9 (some .long), .methodLink RX9 75 yX9_h, .instanceMethod yX9_h, .selects RX9 yX9_h yX9_h, .code yX9_h cX9_h 1 (some .int), .fieldLink RX9 13 "WallCountModel" "secret" "[I", .methodLink RX9 65 yX9_times, .static yX9_times, .code yX9_times cX9_times 2 (some .int), .constantLong RX9 55 (10007)] ++ wsX90)
def wsX9_seal_r1 : List Cond := [Cond.methodLink RX9 68 yX9_isPower, Cond.static yX9_isPower, Cond.initialized RX9, Cond.code yX9_isPower cX9_isPower 1 (some .boolean), Cond.methodLink RX9 51 yX9_in, Cond.static yX9_in, Cond.code yX9_in cX9_in 3 (some .boolean), Cond.methodLink RX9 86 yX9_sealOf, Cond.instanceMethod yX9_sealOf, Cond.selects RX9 yX9_sealOf yX9_sealOf, Cond.code yX9_sealOf cX9_sealOf 4 (some .int), Cond.methodLink RX9 61 yX9_power, Cond.static yX9_power, Cond.code yX9_power cX9_power 2 (some .int), Cond.methodLink RX9 57 yX9_raise, Cond.static yX9_raise, Cond.code yX9_raise cX9_raise 9 (some .long), Cond.methodLink RX9 75 yX9_h, Cond.instanceMethod yX9_h, Cond.selects RX9 yX9_h yX9_h, Cond.code yX9_h cX9_h 1 (some .int), Cond.fieldLink RX9 13 "WallCountModel" "secret" "[I", Cond.methodLink RX9 65 yX9_times, Cond.static yX9_times]
def wsX9_seal_r2 : List Cond := [Cond.code yX9_times cX9_times 2 (some .int), Cond.constantLong RX9 55 (10007)]
def wsX9_seal : List Cond := .code yX9_seal cX9_seal 4 (some .int) :: ((wsX9_seal_r1 ++ wsX9_seal_r2) ++ wsX90)
def wsX9_isRight : List Cond := .code yX9_isRight cX9_isRight 2 (some .boolean) :: ([.methodLink RX9 90 yX9_isNumber, .static yX9_isNumber, .initialized RX9, .code yX9_isNumber cX9_isNumber 1 (some .boolean), .methodLink RX9 51 yX9_in, .static yX9_in, .code yX9_in cX9_in 3 (some .boolean), .methodLink RX9 61 yX9_power, .static yX9_power, .code yX9_power cX9_power 2 (some .int), .methodLink RX9 57 yX9_raise, .static yX9_raise, .code yX9_raise cX9_raise 9 (some .long)])
def wsX9_right : List Cond := .code yX9_right cX9_right 3 (some .int) :: ([.methodLink RX9 93 yX9_isRight, .static yX9_isRight, .initialized RX9, .code yX9_isRight cX9_isRight 2 (some .boolean), .methodLink RX9 90 yX9_isNumber, .static yX9_isNumber, .code yX9_isNumber cX9_isNumber 1 (some .boolean), .methodLink RX9 51 yX9_in, .static yX9_in, .code yX9_in cX9_in 3 (some .boolean), .methodLink RX9 61 yX9_power, .static yX9_power, .code yX9_power cX9_power 2 (some .int), .methodLink RX9 57 yX9_raise, .static yX9_raise, .code yX9_raise cX9_raise 9 (some .long)])
def wsX9_open : List Cond := .code yX9_open cX9_open 3 (some .int) :: ([.methodLink RX9 79 yX9_isHolder, .static yX9_isHolder, .initialized RX9, .code yX9_isHolder cX9_isHolder 1 (some .boolean), .methodLink RX9 51 yX9_in, .static yX9_in, .code yX9_in cX9_in 3 (some .boolean), .methodLink RX9 90 yX9_isNumber, .static yX9_isNumber, .code yX9_isNumber cX9_isNumber 1 (some .boolean), .methodLink RX9 82 yX9_partOf, .instanceMethod yX9_partOf, .selects RX9 yX9_partOf yX9_partOf, .code yX9_partOf cX9_partOf 2 (some .int), .fieldLink RX9 13 "WallCountModel" "secret" "[I", .methodLink RX9 61 yX9_power, .static yX9_power, .code yX9_power cX9_power 2 (some .int), .methodLink RX9 57 yX9_raise, .static yX9_raise, .code yX9_raise cX9_raise 9 (some .long)] ++ wsX90)
def wsX9_isSet : List Cond := .code yX9_isSet cX9_isSet 1 (some .boolean) :: ([.methodLink RX9 51 yX9_in, .static yX9_in, .initialized RX9, .code yX9_in cX9_in 3 (some .boolean)])
def wsX9_weightOf : List Cond := .code yX9_weightOf cX9_weightOf 5 (some .int) :: ([.constantLong RX9 97 (5003), .methodLink RX9 57 yX9_raise, .static yX9_raise, .initialized RX9, .code yX9_raise cX9_raise 9 (some .long)])
def wsX9_weight : List Cond := .code yX9_weight cX9_weight 3 (some .int) :: ([.methodLink RX9 79 yX9_isHolder, .static yX9_isHolder, .initialized RX9, .code yX9_isHolder cX9_isHolder 1 (some .boolean), .methodLink RX9 51 yX9_in, .static yX9_in, .code yX9_in cX9_in 3 (some .boolean), .methodLink RX9 99 yX9_isSet, .static yX9_isSet, .code yX9_isSet cX9_isSet 1 (some .boolean), .methodLink RX9 102 yX9_weightOf, .static yX9_weightOf, .code yX9_weightOf cX9_weightOf 5 (some .int), .constantLong RX9 97 (5003), .methodLink RX9 57 yX9_raise, .static yX9_raise, .code yX9_raise cX9_raise 9 (some .long)])
def wsX9_opened_r1 : List Cond := [Cond.fieldLink RX9 7 "WallCountModel" "need" "I", Cond.methodLink RX9 90 yX9_isNumber, Cond.static yX9_isNumber, Cond.initialized RX9, Cond.code yX9_isNumber cX9_isNumber 1 (some .boolean), Cond.methodLink RX9 51 yX9_in, Cond.static yX9_in, Cond.code yX9_in cX9_in 3 (some .boolean), Cond.methodLink RX9 99 yX9_isSet, Cond.static yX9_isSet, Cond.code yX9_isSet cX9_isSet 1 (some .boolean), Cond.methodLink RX9 82 yX9_partOf, Cond.instanceMethod yX9_partOf, Cond.selects RX9 yX9_partOf yX9_partOf, Cond.code yX9_partOf cX9_partOf 2 (some .int), Cond.fieldLink RX9 13 "WallCountModel" "secret" "[I", Cond.methodLink RX9 61 yX9_power, Cond.static yX9_power, Cond.code yX9_power cX9_power 2 (some .int), Cond.methodLink RX9 57 yX9_raise, Cond.static yX9_raise, Cond.code yX9_raise cX9_raise 9 (some .long), Cond.methodLink RX9 102 yX9_weightOf, Cond.static yX9_weightOf]
def wsX9_opened_r2 : List Cond := [Cond.code yX9_weightOf cX9_weightOf 5 (some .int), Cond.constantLong RX9 97 (5003), Cond.methodLink RX9 65 yX9_times, Cond.static yX9_times, Cond.code yX9_times cX9_times 2 (some .int), Cond.constantLong RX9 55 (10007), Cond.methodLink RX9 105 yX9_by, Cond.static yX9_by, Cond.code yX9_by cX9_by 2 (some .int)]
def wsX9_opened : List Cond := .code yX9_opened cX9_opened 10 (some .int) :: ((wsX9_opened_r1 ++ wsX9_opened_r2) ++ wsX90)
def wsX9_mix : List Cond := .code yX9_mix cX9_mix 2 none :: ([.fieldLink RX9 108 "WallCountModel" "mixed" "I", .constantLong RX9 111 (31), .constantLong RX9 97 (5003)] ++ wsX90)
def wsX9_sOf : List Cond := .code yX9_sOf cX9_sOf 3 (some .int) :: ([.methodLink RX9 61 yX9_power, .static yX9_power, .initialized RX9, .code yX9_power cX9_power 2 (some .int), .methodLink RX9 57 yX9_raise, .static yX9_raise, .code yX9_raise cX9_raise 9 (some .long), .methodLink RX9 105 yX9_by, .static yX9_by, .code yX9_by cX9_by 2 (some .int), .methodLink RX9 65 yX9_times, .static yX9_times, .code yX9_times cX9_times 2 (some .int), .constantLong RX9 55 (10007)])
def wsX9_tOf : List Cond := .code yX9_tOf cX9_tOf 5 (some .int) :: ([.methodLink RX9 75 yX9_h, .instanceMethod yX9_h, .selects RX9 yX9_h yX9_h, .initialized RX9, .code yX9_h cX9_h 1 (some .int), .fieldLink RX9 13 "WallCountModel" "secret" "[I", .methodLink RX9 61 yX9_power, .static yX9_power, .code yX9_power cX9_power 2 (some .int), .methodLink RX9 57 yX9_raise, .static yX9_raise, .code yX9_raise cX9_raise 9 (some .long), .methodLink RX9 105 yX9_by, .static yX9_by, .code yX9_by cX9_by 2 (some .int), .methodLink RX9 65 yX9_times, .static yX9_times, .code yX9_times cX9_times 2 (some .int), .constantLong RX9 55 (10007)] ++ wsX90)
def wsX9_proved_r1 : List Cond := [Cond.fieldLink RX9 108 "WallCountModel" "mixed" "I", Cond.constantLong RX9 97 (5003), Cond.methodLink RX9 86 yX9_sealOf, Cond.instanceMethod yX9_sealOf, Cond.selects RX9 yX9_sealOf yX9_sealOf, Cond.initialized RX9, Cond.code yX9_sealOf cX9_sealOf 4 (some .int), Cond.methodLink RX9 61 yX9_power, Cond.static yX9_power, Cond.code yX9_power cX9_power 2 (some .int), Cond.methodLink RX9 57 yX9_raise, Cond.static yX9_raise, Cond.code yX9_raise cX9_raise 9 (some .long), Cond.methodLink RX9 75 yX9_h, Cond.instanceMethod yX9_h, Cond.selects RX9 yX9_h yX9_h, Cond.code yX9_h cX9_h 1 (some .int), Cond.fieldLink RX9 13 "WallCountModel" "secret" "[I", Cond.methodLink RX9 65 yX9_times, Cond.static yX9_times, Cond.code yX9_times cX9_times 2 (some .int), Cond.constantLong RX9 55 (10007), Cond.methodLink RX9 117 yX9_mix, Cond.instanceMethod yX9_mix]
def wsX9_proved_r2 : List Cond := [Cond.selects RX9 yX9_mix yX9_mix, Cond.code yX9_mix cX9_mix 2 none, Cond.constantLong RX9 111 (31), Cond.methodLink RX9 121 yX9_sOf, Cond.static yX9_sOf, Cond.code yX9_sOf cX9_sOf 3 (some .int), Cond.methodLink RX9 105 yX9_by, Cond.static yX9_by, Cond.code yX9_by cX9_by 2 (some .int), Cond.methodLink RX9 124 yX9_tOf, Cond.instanceMethod yX9_tOf, Cond.selects RX9 yX9_tOf yX9_tOf, Cond.code yX9_tOf cX9_tOf 5 (some .int)]
def wsX9_proved : List Cond := .code yX9_proved cX9_proved 12 (some .int) :: ((wsX9_proved_r1 ++ wsX9_proved_r2) ++ wsX90)
def wsX9_prove_r1 : List Cond := [Cond.methodLink RX9 51 yX9_in, Cond.static yX9_in, Cond.initialized RX9, Cond.code yX9_in cX9_in 3 (some .boolean), Cond.methodLink RX9 68 yX9_isPower, Cond.static yX9_isPower, Cond.code yX9_isPower cX9_isPower 1 (some .boolean), Cond.methodLink RX9 113 yX9_proved, Cond.instanceMethod yX9_proved, Cond.selects RX9 yX9_proved yX9_proved, Cond.code yX9_proved cX9_proved 12 (some .int), Cond.fieldLink RX9 108 "WallCountModel" "mixed" "I", Cond.constantLong RX9 97 (5003), Cond.methodLink RX9 86 yX9_sealOf, Cond.instanceMethod yX9_sealOf, Cond.selects RX9 yX9_sealOf yX9_sealOf, Cond.code yX9_sealOf cX9_sealOf 4 (some .int), Cond.methodLink RX9 61 yX9_power, Cond.static yX9_power, Cond.code yX9_power cX9_power 2 (some .int), Cond.methodLink RX9 57 yX9_raise, Cond.static yX9_raise, Cond.code yX9_raise cX9_raise 9 (some .long), Cond.methodLink RX9 75 yX9_h]
def wsX9_prove_r2 : List Cond := [Cond.instanceMethod yX9_h, Cond.selects RX9 yX9_h yX9_h, Cond.code yX9_h cX9_h 1 (some .int), Cond.fieldLink RX9 13 "WallCountModel" "secret" "[I", Cond.methodLink RX9 65 yX9_times, Cond.static yX9_times, Cond.code yX9_times cX9_times 2 (some .int), Cond.constantLong RX9 55 (10007), Cond.methodLink RX9 117 yX9_mix, Cond.instanceMethod yX9_mix, Cond.selects RX9 yX9_mix yX9_mix, Cond.code yX9_mix cX9_mix 2 none, Cond.constantLong RX9 111 (31), Cond.methodLink RX9 121 yX9_sOf, Cond.static yX9_sOf, Cond.code yX9_sOf cX9_sOf 3 (some .int), Cond.methodLink RX9 105 yX9_by, Cond.static yX9_by, Cond.code yX9_by cX9_by 2 (some .int), Cond.methodLink RX9 124 yX9_tOf, Cond.instanceMethod yX9_tOf, Cond.selects RX9 yX9_tOf yX9_tOf, Cond.code yX9_tOf cX9_tOf 5 (some .int)]
def wsX9_prove : List Cond := .code yX9_prove cX9_prove 7 (some .int) :: ((wsX9_prove_r1 ++ wsX9_prove_r2) ++ wsX90)
def wsX9_holds_r1 : List Cond := [Cond.fieldLink RX9 108 "WallCountModel" "mixed" "I", Cond.methodLink RX9 93 yX9_isRight, Cond.static yX9_isRight, Cond.initialized RX9, Cond.code yX9_isRight cX9_isRight 2 (some .boolean), Cond.methodLink RX9 90 yX9_isNumber, Cond.static yX9_isNumber, Cond.code yX9_isNumber cX9_isNumber 1 (some .boolean), Cond.methodLink RX9 51 yX9_in, Cond.static yX9_in, Cond.code yX9_in cX9_in 3 (some .boolean), Cond.methodLink RX9 61 yX9_power, Cond.static yX9_power, Cond.code yX9_power cX9_power 2 (some .int), Cond.methodLink RX9 57 yX9_raise, Cond.static yX9_raise, Cond.code yX9_raise cX9_raise 9 (some .long), Cond.methodLink RX9 68 yX9_isPower, Cond.static yX9_isPower, Cond.code yX9_isPower cX9_isPower 1 (some .boolean), Cond.methodLink RX9 117 yX9_mix, Cond.instanceMethod yX9_mix, Cond.selects RX9 yX9_mix yX9_mix, Cond.code yX9_mix cX9_mix 2 none]
def wsX9_holds_r2 : List Cond := [Cond.constantLong RX9 111 (31), Cond.constantLong RX9 97 (5003), Cond.methodLink RX9 121 yX9_sOf, Cond.static yX9_sOf, Cond.code yX9_sOf cX9_sOf 3 (some .int), Cond.methodLink RX9 105 yX9_by, Cond.static yX9_by, Cond.code yX9_by cX9_by 2 (some .int), Cond.methodLink RX9 65 yX9_times, Cond.static yX9_times, Cond.code yX9_times cX9_times 2 (some .int), Cond.constantLong RX9 55 (10007), Cond.methodLink RX9 124 yX9_tOf, Cond.instanceMethod yX9_tOf, Cond.selects RX9 yX9_tOf yX9_tOf, Cond.code yX9_tOf cX9_tOf 5 (some .int), Cond.methodLink RX9 75 yX9_h, Cond.instanceMethod yX9_h, Cond.selects RX9 yX9_h yX9_h, Cond.code yX9_h cX9_h 1 (some .int), Cond.fieldLink RX9 13 "WallCountModel" "secret" "[I"]
def wsX9_holds : List Cond := .code yX9_holds cX9_holds 7 (some .boolean) :: ((wsX9_holds_r1 ++ wsX9_holds_r2) ++ wsX90)
def wsX9_check_r1 : List Cond := [Cond.methodLink RX9 128 yX9_holds, Cond.instanceMethod yX9_holds, Cond.selects RX9 yX9_holds yX9_holds, Cond.initialized RX9, Cond.code yX9_holds cX9_holds 7 (some .boolean), Cond.fieldLink RX9 108 "WallCountModel" "mixed" "I", Cond.methodLink RX9 93 yX9_isRight, Cond.static yX9_isRight, Cond.code yX9_isRight cX9_isRight 2 (some .boolean), Cond.methodLink RX9 90 yX9_isNumber, Cond.static yX9_isNumber, Cond.code yX9_isNumber cX9_isNumber 1 (some .boolean), Cond.methodLink RX9 51 yX9_in, Cond.static yX9_in, Cond.code yX9_in cX9_in 3 (some .boolean), Cond.methodLink RX9 61 yX9_power, Cond.static yX9_power, Cond.code yX9_power cX9_power 2 (some .int), Cond.methodLink RX9 57 yX9_raise, Cond.static yX9_raise, Cond.code yX9_raise cX9_raise 9 (some .long), Cond.methodLink RX9 68 yX9_isPower, Cond.static yX9_isPower, Cond.code yX9_isPower cX9_isPower 1 (some .boolean)]
def wsX9_check_r2 : List Cond := [Cond.methodLink RX9 117 yX9_mix, Cond.instanceMethod yX9_mix, Cond.selects RX9 yX9_mix yX9_mix, Cond.code yX9_mix cX9_mix 2 none, Cond.constantLong RX9 111 (31), Cond.constantLong RX9 97 (5003), Cond.methodLink RX9 121 yX9_sOf, Cond.static yX9_sOf, Cond.code yX9_sOf cX9_sOf 3 (some .int), Cond.methodLink RX9 105 yX9_by, Cond.static yX9_by, Cond.code yX9_by cX9_by 2 (some .int), Cond.methodLink RX9 65 yX9_times, Cond.static yX9_times, Cond.code yX9_times cX9_times 2 (some .int), Cond.constantLong RX9 55 (10007), Cond.methodLink RX9 124 yX9_tOf, Cond.instanceMethod yX9_tOf, Cond.selects RX9 yX9_tOf yX9_tOf, Cond.code yX9_tOf cX9_tOf 5 (some .int), Cond.methodLink RX9 75 yX9_h, Cond.instanceMethod yX9_h, Cond.selects RX9 yX9_h yX9_h, Cond.code yX9_h cX9_h 1 (some .int)]
def wsX9_check_r3 : List Cond := [Cond.fieldLink RX9 13 "WallCountModel" "secret" "[I"]
def wsX9_check : List Cond := .code yX9_check cX9_check 7 (some .int) :: ((wsX9_check_r1 ++ (wsX9_check_r2 ++ wsX9_check_r3)) ++ wsX90)
def wsX9_isVoter : List Cond := .code yX9_isVoter cX9_isVoter 1 (some .boolean) :: ([.methodLink RX9 51 yX9_in, .static yX9_in, .initialized RX9, .code yX9_in cX9_in 3 (some .boolean)])
def wsX9_voter : List Cond := .code yX9_voter cX9_voter 5 (some .int) :: ([.fieldLink RX9 17 "WallCountModel" "has" "[I", .methodLink RX9 132 yX9_isVoter, .static yX9_isVoter, .initialized RX9, .code yX9_isVoter cX9_isVoter 1 (some .boolean), .methodLink RX9 51 yX9_in, .static yX9_in, .code yX9_in cX9_in 3 (some .boolean)] ++ wsX90)
def wsX9_say : List Cond := .code yX9_say cX9_say 2 (some .int) :: ([.fieldLink RX9 135 "WallCountModel" "signs" "I", .fieldLink RX9 20 "WallCountModel" "sign" "[I", .methodLink RX9 51 yX9_in, .static yX9_in, .initialized RX9, .code yX9_in cX9_in 3 (some .boolean)] ++ wsX90)
def wsX9_wipe : List Cond := .code yX9_wipe cX9_wipe 2 (some .int) :: ([.fieldLink RX9 135 "WallCountModel" "signs" "I"] ++ wsX90)
def wsX9_faultOf : List Cond := .code yX9_faultOf cX9_faultOf 7 (some .int) :: ([.fieldLink RX9 135 "WallCountModel" "signs" "I", .fieldLink RX9 20 "WallCountModel" "sign" "[I", .methodLink RX9 51 yX9_in, .static yX9_in, .initialized RX9, .code yX9_in cX9_in 3 (some .boolean)] ++ wsX90)
def wsX9_fault : List Cond := .code yX9_fault cX9_fault 1 (some .int) :: ([.methodLink RX9 138 yX9_faultOf, .instanceMethod yX9_faultOf, .selects RX9 yX9_faultOf yX9_faultOf, .initialized RX9, .code yX9_faultOf cX9_faultOf 7 (some .int), .fieldLink RX9 135 "WallCountModel" "signs" "I", .fieldLink RX9 20 "WallCountModel" "sign" "[I", .methodLink RX9 51 yX9_in, .static yX9_in, .code yX9_in cX9_in 3 (some .boolean)] ++ wsX90)
def wsX9_rule : List Cond := .code yX9_rule cX9_rule 2 (some .int) :: ([.fieldLink RX9 135 "WallCountModel" "signs" "I", .fieldLink RX9 141 "WallCountModel" "ruleMany" "I", .fieldLink RX9 23 "WallCountModel" "ruleSign" "[I", .fieldLink RX9 20 "WallCountModel" "sign" "[I", .methodLink RX9 138 yX9_faultOf, .instanceMethod yX9_faultOf, .selects RX9 yX9_faultOf yX9_faultOf, .initialized RX9, .code yX9_faultOf cX9_faultOf 7 (some .int), .methodLink RX9 51 yX9_in, .static yX9_in, .code yX9_in cX9_in 3 (some .boolean)] ++ wsX90)
def wsX9_mayVote : List Cond := .code yX9_mayVote cX9_mayVote 9 (some .boolean) :: ([.fieldLink RX9 141 "WallCountModel" "ruleMany" "I", .fieldLink RX9 23 "WallCountModel" "ruleSign" "[I", .fieldLink RX9 17 "WallCountModel" "has" "[I", .methodLink RX9 51 yX9_in, .static yX9_in, .initialized RX9, .code yX9_in cX9_in 3 (some .boolean)] ++ wsX90)
def wsX9_may : List Cond := .code yX9_may cX9_may 2 (some .int) :: ([.methodLink RX9 132 yX9_isVoter, .static yX9_isVoter, .initialized RX9, .code yX9_isVoter cX9_isVoter 1 (some .boolean), .methodLink RX9 51 yX9_in, .static yX9_in, .code yX9_in cX9_in 3 (some .boolean), .methodLink RX9 144 yX9_mayVote, .instanceMethod yX9_mayVote, .selects RX9 yX9_mayVote yX9_mayVote, .code yX9_mayVote cX9_mayVote 9 (some .boolean), .fieldLink RX9 141 "WallCountModel" "ruleMany" "I", .fieldLink RX9 23 "WallCountModel" "ruleSign" "[I", .fieldLink RX9 17 "WallCountModel" "has" "[I"] ++ wsX90)
def wsX9_isHour : List Cond := .code yX9_isHour cX9_isHour 1 (some .boolean) :: ([.methodLink RX9 51 yX9_in, .static yX9_in, .initialized RX9, .code yX9_in cX9_in 3 (some .boolean)])
def wsX9_isTold : List Cond := .code yX9_isTold cX9_isTold 1 (some .boolean) :: ([.constant RX9 147 (1000000), .methodLink RX9 51 yX9_in, .static yX9_in, .initialized RX9, .code yX9_in cX9_in 3 (some .boolean)])
def wsX9_close : List Cond := .code yX9_close cX9_close 3 (some .int) :: ([.fieldLink RX9 26 "WallCountModel" "close" "I", .methodLink RX9 148 yX9_isHour, .static yX9_isHour, .initialized RX9, .code yX9_isHour cX9_isHour 1 (some .boolean), .methodLink RX9 51 yX9_in, .static yX9_in, .code yX9_in cX9_in 3 (some .boolean)] ++ wsX90)
def wsX9_addRow : List Cond := .code yX9_addRow cX9_addRow 7 (some .int) :: ([.fieldLink RX9 29 "WallCountModel" "rowVoter" "[I", .fieldLink RX9 72 "WallCountModel" "rows" "I", .fieldLink RX9 32 "WallCountModel" "rowA" "[I", .fieldLink RX9 35 "WallCountModel" "rowB" "[I", .fieldLink RX9 38 "WallCountModel" "rowHour" "[I", .fieldLink RX9 41 "WallCountModel" "isProved" "[Z", .fieldLink RX9 45 "WallCountModel" "proof" "[I"] ++ wsX90)
def wsX9_row_r1 : List Cond := [Cond.fieldLink RX9 72 "WallCountModel" "rows" "I", Cond.methodLink RX9 132 yX9_isVoter, Cond.static yX9_isVoter, Cond.initialized RX9, Cond.code yX9_isVoter cX9_isVoter 1 (some .boolean), Cond.methodLink RX9 51 yX9_in, Cond.static yX9_in, Cond.code yX9_in cX9_in 3 (some .boolean), Cond.methodLink RX9 151 yX9_isTold, Cond.static yX9_isTold, Cond.code yX9_isTold cX9_isTold 1 (some .boolean), Cond.constant RX9 147 (1000000), Cond.methodLink RX9 148 yX9_isHour, Cond.static yX9_isHour, Cond.code yX9_isHour cX9_isHour 1 (some .boolean), Cond.methodLink RX9 154 yX9_addRow, Cond.instanceMethod yX9_addRow, Cond.selects RX9 yX9_addRow yX9_addRow, Cond.code yX9_addRow cX9_addRow 7 (some .int), Cond.fieldLink RX9 29 "WallCountModel" "rowVoter" "[I", Cond.fieldLink RX9 32 "WallCountModel" "rowA" "[I", Cond.fieldLink RX9 35 "WallCountModel" "rowB" "[I", Cond.fieldLink RX9 38 "WallCountModel" "rowHour" "[I", Cond.fieldLink RX9 41 "WallCountModel" "isProved" "[Z"]
def wsX9_row_r2 : List Cond := [Cond.fieldLink RX9 45 "WallCountModel" "proof" "[I"]
def wsX9_row : List Cond := .code yX9_row cX9_row 5 (some .int) :: ((wsX9_row_r1 ++ wsX9_row_r2) ++ wsX90)
def wsX9_isRow : List Cond := .code yX9_isRow cX9_isRow 2 (some .boolean) :: ([.fieldLink RX9 72 "WallCountModel" "rows" "I", .methodLink RX9 51 yX9_in, .static yX9_in, .initialized RX9, .code yX9_in cX9_in 3 (some .boolean)] ++ wsX90)
def wsX9_attach : List Cond := .code yX9_attach cX9_attach 6 (some .int) :: ([.fieldLink RX9 41 "WallCountModel" "isProved" "[Z", .fieldLink RX9 45 "WallCountModel" "proof" "[I", .methodLink RX9 158 yX9_isRow, .instanceMethod yX9_isRow, .selects RX9 yX9_isRow yX9_isRow, .initialized RX9, .code yX9_isRow cX9_isRow 2 (some .boolean), .fieldLink RX9 72 "WallCountModel" "rows" "I", .methodLink RX9 51 yX9_in, .static yX9_in, .code yX9_in cX9_in 3 (some .boolean), .methodLink RX9 151 yX9_isTold, .static yX9_isTold, .code yX9_isTold cX9_isTold 1 (some .boolean), .constant RX9 147 (1000000)] ++ wsX90)
def wsX9_cast_r1 : List Cond := [Cond.fieldLink RX9 72 "WallCountModel" "rows" "I", Cond.fieldLink RX9 45 "WallCountModel" "proof" "[I", Cond.methodLink RX9 132 yX9_isVoter, Cond.static yX9_isVoter, Cond.initialized RX9, Cond.code yX9_isVoter cX9_isVoter 1 (some .boolean), Cond.methodLink RX9 51 yX9_in, Cond.static yX9_in, Cond.code yX9_in cX9_in 3 (some .boolean), Cond.methodLink RX9 148 yX9_isHour, Cond.static yX9_isHour, Cond.code yX9_isHour cX9_isHour 1 (some .boolean), Cond.methodLink RX9 68 yX9_isPower, Cond.static yX9_isPower, Cond.code yX9_isPower cX9_isPower 1 (some .boolean), Cond.methodLink RX9 86 yX9_sealOf, Cond.instanceMethod yX9_sealOf, Cond.selects RX9 yX9_sealOf yX9_sealOf, Cond.code yX9_sealOf cX9_sealOf 4 (some .int), Cond.methodLink RX9 61 yX9_power, Cond.static yX9_power, Cond.code yX9_power cX9_power 2 (some .int), Cond.methodLink RX9 57 yX9_raise, Cond.static yX9_raise]
def wsX9_cast_r2 : List Cond := [Cond.code yX9_raise cX9_raise 9 (some .long), Cond.methodLink RX9 75 yX9_h, Cond.instanceMethod yX9_h, Cond.selects RX9 yX9_h yX9_h, Cond.code yX9_h cX9_h 1 (some .int), Cond.fieldLink RX9 13 "WallCountModel" "secret" "[I", Cond.methodLink RX9 65 yX9_times, Cond.static yX9_times, Cond.code yX9_times cX9_times 2 (some .int), Cond.constantLong RX9 55 (10007), Cond.methodLink RX9 154 yX9_addRow, Cond.instanceMethod yX9_addRow, Cond.selects RX9 yX9_addRow yX9_addRow, Cond.code yX9_addRow cX9_addRow 7 (some .int), Cond.fieldLink RX9 29 "WallCountModel" "rowVoter" "[I", Cond.fieldLink RX9 32 "WallCountModel" "rowA" "[I", Cond.fieldLink RX9 35 "WallCountModel" "rowB" "[I", Cond.fieldLink RX9 38 "WallCountModel" "rowHour" "[I", Cond.fieldLink RX9 41 "WallCountModel" "isProved" "[Z", Cond.methodLink RX9 113 yX9_proved, Cond.instanceMethod yX9_proved, Cond.selects RX9 yX9_proved yX9_proved, Cond.code yX9_proved cX9_proved 12 (some .int), Cond.fieldLink RX9 108 "WallCountModel" "mixed" "I"]
def wsX9_cast_r3 : List Cond := [Cond.constantLong RX9 97 (5003), Cond.methodLink RX9 117 yX9_mix, Cond.instanceMethod yX9_mix, Cond.selects RX9 yX9_mix yX9_mix, Cond.code yX9_mix cX9_mix 2 none, Cond.constantLong RX9 111 (31), Cond.methodLink RX9 121 yX9_sOf, Cond.static yX9_sOf, Cond.code yX9_sOf cX9_sOf 3 (some .int), Cond.methodLink RX9 105 yX9_by, Cond.static yX9_by, Cond.code yX9_by cX9_by 2 (some .int), Cond.methodLink RX9 124 yX9_tOf, Cond.instanceMethod yX9_tOf, Cond.selects RX9 yX9_tOf yX9_tOf, Cond.code yX9_tOf cX9_tOf 5 (some .int)]
def wsX9_cast : List Cond := .code yX9_cast cX9_cast 10 (some .int) :: ((wsX9_cast_r1 ++ (wsX9_cast_r2 ++ wsX9_cast_r3)) ++ wsX90)
def wsX9_flawOf_r1 : List Cond := [Cond.fieldLink RX9 38 "WallCountModel" "rowHour" "[I", Cond.fieldLink RX9 26 "WallCountModel" "close" "I", Cond.fieldLink RX9 32 "WallCountModel" "rowA" "[I", Cond.fieldLink RX9 35 "WallCountModel" "rowB" "[I", Cond.fieldLink RX9 45 "WallCountModel" "proof" "[I", Cond.fieldLink RX9 29 "WallCountModel" "rowVoter" "[I", Cond.methodLink RX9 128 yX9_holds, Cond.instanceMethod yX9_holds, Cond.selects RX9 yX9_holds yX9_holds, Cond.initialized RX9, Cond.code yX9_holds cX9_holds 7 (some .boolean), Cond.fieldLink RX9 108 "WallCountModel" "mixed" "I", Cond.methodLink RX9 93 yX9_isRight, Cond.static yX9_isRight, Cond.code yX9_isRight cX9_isRight 2 (some .boolean), Cond.methodLink RX9 90 yX9_isNumber, Cond.static yX9_isNumber, Cond.code yX9_isNumber cX9_isNumber 1 (some .boolean), Cond.methodLink RX9 51 yX9_in, Cond.static yX9_in, Cond.code yX9_in cX9_in 3 (some .boolean), Cond.methodLink RX9 61 yX9_power, Cond.static yX9_power, Cond.code yX9_power cX9_power 2 (some .int)]
def wsX9_flawOf_r2 : List Cond := [Cond.methodLink RX9 57 yX9_raise, Cond.static yX9_raise, Cond.code yX9_raise cX9_raise 9 (some .long), Cond.methodLink RX9 68 yX9_isPower, Cond.static yX9_isPower, Cond.code yX9_isPower cX9_isPower 1 (some .boolean), Cond.methodLink RX9 117 yX9_mix, Cond.instanceMethod yX9_mix, Cond.selects RX9 yX9_mix yX9_mix, Cond.code yX9_mix cX9_mix 2 none, Cond.constantLong RX9 111 (31), Cond.constantLong RX9 97 (5003), Cond.methodLink RX9 121 yX9_sOf, Cond.static yX9_sOf, Cond.code yX9_sOf cX9_sOf 3 (some .int), Cond.methodLink RX9 105 yX9_by, Cond.static yX9_by, Cond.code yX9_by cX9_by 2 (some .int), Cond.methodLink RX9 65 yX9_times, Cond.static yX9_times, Cond.code yX9_times cX9_times 2 (some .int), Cond.constantLong RX9 55 (10007), Cond.methodLink RX9 124 yX9_tOf, Cond.instanceMethod yX9_tOf]
def wsX9_flawOf_r3 : List Cond := [Cond.selects RX9 yX9_tOf yX9_tOf, Cond.code yX9_tOf cX9_tOf 5 (some .int), Cond.methodLink RX9 75 yX9_h, Cond.instanceMethod yX9_h, Cond.selects RX9 yX9_h yX9_h, Cond.code yX9_h cX9_h 1 (some .int), Cond.fieldLink RX9 13 "WallCountModel" "secret" "[I", Cond.methodLink RX9 144 yX9_mayVote, Cond.instanceMethod yX9_mayVote, Cond.selects RX9 yX9_mayVote yX9_mayVote, Cond.code yX9_mayVote cX9_mayVote 9 (some .boolean), Cond.fieldLink RX9 141 "WallCountModel" "ruleMany" "I", Cond.fieldLink RX9 23 "WallCountModel" "ruleSign" "[I", Cond.fieldLink RX9 17 "WallCountModel" "has" "[I"]
def wsX9_flawOf : List Cond := .code yX9_flawOf cX9_flawOf 3 (some .int) :: ((wsX9_flawOf_r1 ++ (wsX9_flawOf_r2 ++ wsX9_flawOf_r3)) ++ wsX90)
def wsX9_stateOf_r1 : List Cond := [Cond.fieldLink RX9 72 "WallCountModel" "rows" "I", Cond.fieldLink RX9 29 "WallCountModel" "rowVoter" "[I", Cond.methodLink RX9 161 yX9_flawOf, Cond.instanceMethod yX9_flawOf, Cond.selects RX9 yX9_flawOf yX9_flawOf, Cond.initialized RX9, Cond.code yX9_flawOf cX9_flawOf 3 (some .int), Cond.fieldLink RX9 38 "WallCountModel" "rowHour" "[I", Cond.fieldLink RX9 26 "WallCountModel" "close" "I", Cond.fieldLink RX9 32 "WallCountModel" "rowA" "[I", Cond.fieldLink RX9 35 "WallCountModel" "rowB" "[I", Cond.fieldLink RX9 45 "WallCountModel" "proof" "[I", Cond.methodLink RX9 128 yX9_holds, Cond.instanceMethod yX9_holds, Cond.selects RX9 yX9_holds yX9_holds, Cond.code yX9_holds cX9_holds 7 (some .boolean), Cond.fieldLink RX9 108 "WallCountModel" "mixed" "I", Cond.methodLink RX9 93 yX9_isRight, Cond.static yX9_isRight, Cond.code yX9_isRight cX9_isRight 2 (some .boolean), Cond.methodLink RX9 90 yX9_isNumber, Cond.static yX9_isNumber, Cond.code yX9_isNumber cX9_isNumber 1 (some .boolean), Cond.methodLink RX9 51 yX9_in]
def wsX9_stateOf_r2 : List Cond := [Cond.static yX9_in, Cond.code yX9_in cX9_in 3 (some .boolean), Cond.methodLink RX9 61 yX9_power, Cond.static yX9_power, Cond.code yX9_power cX9_power 2 (some .int), Cond.methodLink RX9 57 yX9_raise, Cond.static yX9_raise, Cond.code yX9_raise cX9_raise 9 (some .long), Cond.methodLink RX9 68 yX9_isPower, Cond.static yX9_isPower, Cond.code yX9_isPower cX9_isPower 1 (some .boolean), Cond.methodLink RX9 117 yX9_mix, Cond.instanceMethod yX9_mix, Cond.selects RX9 yX9_mix yX9_mix, Cond.code yX9_mix cX9_mix 2 none, Cond.constantLong RX9 111 (31), Cond.constantLong RX9 97 (5003), Cond.methodLink RX9 121 yX9_sOf, Cond.static yX9_sOf, Cond.code yX9_sOf cX9_sOf 3 (some .int), Cond.methodLink RX9 105 yX9_by, Cond.static yX9_by, Cond.code yX9_by cX9_by 2 (some .int), Cond.methodLink RX9 65 yX9_times]
def wsX9_stateOf_r3 : List Cond := [Cond.static yX9_times, Cond.code yX9_times cX9_times 2 (some .int), Cond.constantLong RX9 55 (10007), Cond.methodLink RX9 124 yX9_tOf, Cond.instanceMethod yX9_tOf, Cond.selects RX9 yX9_tOf yX9_tOf, Cond.code yX9_tOf cX9_tOf 5 (some .int), Cond.methodLink RX9 75 yX9_h, Cond.instanceMethod yX9_h, Cond.selects RX9 yX9_h yX9_h, Cond.code yX9_h cX9_h 1 (some .int), Cond.fieldLink RX9 13 "WallCountModel" "secret" "[I", Cond.methodLink RX9 144 yX9_mayVote, Cond.instanceMethod yX9_mayVote, Cond.selects RX9 yX9_mayVote yX9_mayVote, Cond.code yX9_mayVote cX9_mayVote 9 (some .boolean), Cond.fieldLink RX9 141 "WallCountModel" "ruleMany" "I", Cond.fieldLink RX9 23 "WallCountModel" "ruleSign" "[I", Cond.fieldLink RX9 17 "WallCountModel" "has" "[I"]
def wsX9_stateOf : List Cond := .code yX9_stateOf cX9_stateOf 5 (some .int) :: ((wsX9_stateOf_r1 ++ (wsX9_stateOf_r2 ++ wsX9_stateOf_r3)) ++ wsX90)
def wsX9_wordOf : List Cond := .code yX9_wordOf cX9_wordOf 4 (some .int) :: ([.constantLong RX9 164 (7), .constantLong RX9 166 (131), .fieldLink RX9 29 "WallCountModel" "rowVoter" "[I", .constantLong RX9 168 (9973), .fieldLink RX9 32 "WallCountModel" "rowA" "[I", .fieldLink RX9 35 "WallCountModel" "rowB" "[I", .fieldLink RX9 38 "WallCountModel" "rowHour" "[I"] ++ wsX90)
def wsX9_headOf : List Cond := .code yX9_headOf cX9_headOf 5 (some .int) :: ([.constantLong RX9 55 (10007), .constantLong RX9 173 (999983), .methodLink RX9 170 yX9_wordOf, .instanceMethod yX9_wordOf, .selects RX9 yX9_wordOf yX9_wordOf, .initialized RX9, .code yX9_wordOf cX9_wordOf 4 (some .int), .constantLong RX9 164 (7), .constantLong RX9 166 (131), .fieldLink RX9 29 "WallCountModel" "rowVoter" "[I", .constantLong RX9 168 (9973), .fieldLink RX9 32 "WallCountModel" "rowA" "[I", .fieldLink RX9 35 "WallCountModel" "rowB" "[I", .fieldLink RX9 38 "WallCountModel" "rowHour" "[I"] ++ wsX90)
def wsX9_ofRow_r1 : List Cond := [Cond.fieldLink RX9 29 "WallCountModel" "rowVoter" "[I", Cond.fieldLink RX9 32 "WallCountModel" "rowA" "[I", Cond.fieldLink RX9 35 "WallCountModel" "rowB" "[I", Cond.fieldLink RX9 38 "WallCountModel" "rowHour" "[I", Cond.methodLink RX9 158 yX9_isRow, Cond.instanceMethod yX9_isRow, Cond.selects RX9 yX9_isRow yX9_isRow, Cond.initialized RX9, Cond.code yX9_isRow cX9_isRow 2 (some .boolean), Cond.fieldLink RX9 72 "WallCountModel" "rows" "I", Cond.methodLink RX9 51 yX9_in, Cond.static yX9_in, Cond.code yX9_in cX9_in 3 (some .boolean), Cond.methodLink RX9 175 yX9_stateOf, Cond.instanceMethod yX9_stateOf, Cond.selects RX9 yX9_stateOf yX9_stateOf, Cond.code yX9_stateOf cX9_stateOf 5 (some .int), Cond.methodLink RX9 161 yX9_flawOf, Cond.instanceMethod yX9_flawOf, Cond.selects RX9 yX9_flawOf yX9_flawOf, Cond.code yX9_flawOf cX9_flawOf 3 (some .int), Cond.fieldLink RX9 26 "WallCountModel" "close" "I", Cond.fieldLink RX9 45 "WallCountModel" "proof" "[I", Cond.methodLink RX9 128 yX9_holds]
def wsX9_ofRow_r2 : List Cond := [Cond.instanceMethod yX9_holds, Cond.selects RX9 yX9_holds yX9_holds, Cond.code yX9_holds cX9_holds 7 (some .boolean), Cond.fieldLink RX9 108 "WallCountModel" "mixed" "I", Cond.methodLink RX9 93 yX9_isRight, Cond.static yX9_isRight, Cond.code yX9_isRight cX9_isRight 2 (some .boolean), Cond.methodLink RX9 90 yX9_isNumber, Cond.static yX9_isNumber, Cond.code yX9_isNumber cX9_isNumber 1 (some .boolean), Cond.methodLink RX9 61 yX9_power, Cond.static yX9_power, Cond.code yX9_power cX9_power 2 (some .int), Cond.methodLink RX9 57 yX9_raise, Cond.static yX9_raise, Cond.code yX9_raise cX9_raise 9 (some .long), Cond.methodLink RX9 68 yX9_isPower, Cond.static yX9_isPower, Cond.code yX9_isPower cX9_isPower 1 (some .boolean), Cond.methodLink RX9 117 yX9_mix, Cond.instanceMethod yX9_mix, Cond.selects RX9 yX9_mix yX9_mix, Cond.code yX9_mix cX9_mix 2 none, Cond.constantLong RX9 111 (31)]
def wsX9_ofRow_r3 : List Cond := [Cond.constantLong RX9 97 (5003), Cond.methodLink RX9 121 yX9_sOf, Cond.static yX9_sOf, Cond.code yX9_sOf cX9_sOf 3 (some .int), Cond.methodLink RX9 105 yX9_by, Cond.static yX9_by, Cond.code yX9_by cX9_by 2 (some .int), Cond.methodLink RX9 65 yX9_times, Cond.static yX9_times, Cond.code yX9_times cX9_times 2 (some .int), Cond.constantLong RX9 55 (10007), Cond.methodLink RX9 124 yX9_tOf, Cond.instanceMethod yX9_tOf, Cond.selects RX9 yX9_tOf yX9_tOf, Cond.code yX9_tOf cX9_tOf 5 (some .int), Cond.methodLink RX9 75 yX9_h, Cond.instanceMethod yX9_h, Cond.selects RX9 yX9_h yX9_h, Cond.code yX9_h cX9_h 1 (some .int), Cond.fieldLink RX9 13 "WallCountModel" "secret" "[I", Cond.methodLink RX9 144 yX9_mayVote, Cond.instanceMethod yX9_mayVote, Cond.selects RX9 yX9_mayVote yX9_mayVote, Cond.code yX9_mayVote cX9_mayVote 9 (some .boolean)]
def wsX9_ofRow_r4 : List Cond := [Cond.fieldLink RX9 141 "WallCountModel" "ruleMany" "I", Cond.fieldLink RX9 23 "WallCountModel" "ruleSign" "[I", Cond.fieldLink RX9 17 "WallCountModel" "has" "[I", Cond.methodLink RX9 170 yX9_wordOf, Cond.instanceMethod yX9_wordOf, Cond.selects RX9 yX9_wordOf yX9_wordOf, Cond.code yX9_wordOf cX9_wordOf 4 (some .int), Cond.constantLong RX9 164 (7), Cond.constantLong RX9 166 (131), Cond.constantLong RX9 168 (9973), Cond.methodLink RX9 178 yX9_headOf, Cond.instanceMethod yX9_headOf, Cond.selects RX9 yX9_headOf yX9_headOf, Cond.code yX9_headOf cX9_headOf 5 (some .int), Cond.constantLong RX9 173 (999983)]
def wsX9_ofRow : List Cond := .code yX9_ofRow cX9_ofRow 3 (some .int) :: ((wsX9_ofRow_r1 ++ (wsX9_ofRow_r2 ++ (wsX9_ofRow_r3 ++ wsX9_ofRow_r4))) ++ wsX90)
def wsX9_find : List Cond := .code yX9_find cX9_find 4 (some .int) :: ([.fieldLink RX9 72 "WallCountModel" "rows" "I", .methodLink RX9 51 yX9_in, .static yX9_in, .initialized RX9, .code yX9_in cX9_in 3 (some .boolean), .methodLink RX9 170 yX9_wordOf, .instanceMethod yX9_wordOf, .selects RX9 yX9_wordOf yX9_wordOf, .code yX9_wordOf cX9_wordOf 4 (some .int), .constantLong RX9 164 (7), .constantLong RX9 166 (131), .fieldLink RX9 29 "WallCountModel" "rowVoter" "[I", .constantLong RX9 168 (9973), .fieldLink RX9 32 "WallCountModel" "rowA" "[I", .fieldLink RX9 35 "WallCountModel" "rowB" "[I", .fieldLink RX9 38 "WallCountModel" "rowHour" "[I"] ++ wsX90)
def wsX9_tally_r1 : List Cond := [Cond.fieldLink RX9 72 "WallCountModel" "rows" "I", Cond.fieldLink RX9 32 "WallCountModel" "rowA" "[I", Cond.fieldLink RX9 35 "WallCountModel" "rowB" "[I", Cond.methodLink RX9 51 yX9_in, Cond.static yX9_in, Cond.initialized RX9, Cond.code yX9_in cX9_in 3 (some .boolean), Cond.methodLink RX9 175 yX9_stateOf, Cond.instanceMethod yX9_stateOf, Cond.selects RX9 yX9_stateOf yX9_stateOf, Cond.code yX9_stateOf cX9_stateOf 5 (some .int), Cond.fieldLink RX9 29 "WallCountModel" "rowVoter" "[I", Cond.methodLink RX9 161 yX9_flawOf, Cond.instanceMethod yX9_flawOf, Cond.selects RX9 yX9_flawOf yX9_flawOf, Cond.code yX9_flawOf cX9_flawOf 3 (some .int), Cond.fieldLink RX9 38 "WallCountModel" "rowHour" "[I", Cond.fieldLink RX9 26 "WallCountModel" "close" "I", Cond.fieldLink RX9 45 "WallCountModel" "proof" "[I", Cond.methodLink RX9 128 yX9_holds, Cond.instanceMethod yX9_holds, Cond.selects RX9 yX9_holds yX9_holds, Cond.code yX9_holds cX9_holds 7 (some .boolean), Cond.fieldLink RX9 108 "WallCountModel" "mixed" "I"]
def wsX9_tally_r2 : List Cond := [Cond.methodLink RX9 93 yX9_isRight, Cond.static yX9_isRight, Cond.code yX9_isRight cX9_isRight 2 (some .boolean), Cond.methodLink RX9 90 yX9_isNumber, Cond.static yX9_isNumber, Cond.code yX9_isNumber cX9_isNumber 1 (some .boolean), Cond.methodLink RX9 61 yX9_power, Cond.static yX9_power, Cond.code yX9_power cX9_power 2 (some .int), Cond.methodLink RX9 57 yX9_raise, Cond.static yX9_raise, Cond.code yX9_raise cX9_raise 9 (some .long), Cond.methodLink RX9 68 yX9_isPower, Cond.static yX9_isPower, Cond.code yX9_isPower cX9_isPower 1 (some .boolean), Cond.methodLink RX9 117 yX9_mix, Cond.instanceMethod yX9_mix, Cond.selects RX9 yX9_mix yX9_mix, Cond.code yX9_mix cX9_mix 2 none, Cond.constantLong RX9 111 (31), Cond.constantLong RX9 97 (5003), Cond.methodLink RX9 121 yX9_sOf, Cond.static yX9_sOf, Cond.code yX9_sOf cX9_sOf 3 (some .int)]
def wsX9_tally_r3 : List Cond := [Cond.methodLink RX9 105 yX9_by, Cond.static yX9_by, Cond.code yX9_by cX9_by 2 (some .int), Cond.methodLink RX9 65 yX9_times, Cond.static yX9_times, Cond.code yX9_times cX9_times 2 (some .int), Cond.constantLong RX9 55 (10007), Cond.methodLink RX9 124 yX9_tOf, Cond.instanceMethod yX9_tOf, Cond.selects RX9 yX9_tOf yX9_tOf, Cond.code yX9_tOf cX9_tOf 5 (some .int), Cond.methodLink RX9 75 yX9_h, Cond.instanceMethod yX9_h, Cond.selects RX9 yX9_h yX9_h, Cond.code yX9_h cX9_h 1 (some .int), Cond.fieldLink RX9 13 "WallCountModel" "secret" "[I", Cond.methodLink RX9 144 yX9_mayVote, Cond.instanceMethod yX9_mayVote, Cond.selects RX9 yX9_mayVote yX9_mayVote, Cond.code yX9_mayVote cX9_mayVote 9 (some .boolean), Cond.fieldLink RX9 141 "WallCountModel" "ruleMany" "I", Cond.fieldLink RX9 23 "WallCountModel" "ruleSign" "[I", Cond.fieldLink RX9 17 "WallCountModel" "has" "[I"]
def wsX9_tally : List Cond := .code yX9_tally cX9_tally 6 (some .int) :: ((wsX9_tally_r1 ++ (wsX9_tally_r2 ++ wsX9_tally_r3)) ++ wsX90)
def wsX9_copy : List Cond := .code yX9_copy cX9_copy 2 (some .int) :: ([.fieldLink RX9 181 "WallCountModel" "copies" "I", .fieldLink RX9 48 "WallCountModel" "copied" "[I", .methodLink RX9 51 yX9_in, .static yX9_in, .initialized RX9, .code yX9_in cX9_in 3 (some .boolean)] ++ wsX90)
def wsX9_parted : List Cond := .code yX9_parted cX9_parted 2 (some .int) :: ([.fieldLink RX9 72 "WallCountModel" "rows" "I", .fieldLink RX9 181 "WallCountModel" "copies" "I", .fieldLink RX9 48 "WallCountModel" "copied" "[I", .methodLink RX9 170 yX9_wordOf, .instanceMethod yX9_wordOf, .selects RX9 yX9_wordOf yX9_wordOf, .initialized RX9, .code yX9_wordOf cX9_wordOf 4 (some .int), .constantLong RX9 164 (7), .constantLong RX9 166 (131), .fieldLink RX9 29 "WallCountModel" "rowVoter" "[I", .constantLong RX9 168 (9973), .fieldLink RX9 32 "WallCountModel" "rowA" "[I", .fieldLink RX9 35 "WallCountModel" "rowB" "[I", .fieldLink RX9 38 "WallCountModel" "rowHour" "[I"] ++ wsX90)
def wsX9_choose : List Cond := .code yX9_choose cX9_choose 5 (some .long) :: ([])
def wsX9_term : List Cond := .code yX9_term cX9_term 11 (some .long) :: ([])
def wsX9_isBooth : List Cond := .code yX9_isBooth cX9_isBooth 2 (some .boolean) :: ([.methodLink RX9 51 yX9_in, .static yX9_in, .initialized RX9, .code yX9_in cX9_in 3 (some .boolean)])
def wsX9_lies : List Cond := .code yX9_lies cX9_lies 5 (some .long) :: ([.constantLong RX9 187 (-1000000000000000002), .methodLink RX9 184 yX9_isBooth, .static yX9_isBooth, .initialized RX9, .code yX9_isBooth cX9_isBooth 2 (some .boolean), .methodLink RX9 51 yX9_in, .static yX9_in, .code yX9_in cX9_in 3 (some .boolean), .methodLink RX9 189 yX9_choose, .static yX9_choose, .code yX9_choose cX9_choose 5 (some .long), .methodLink RX9 193 yX9_term, .static yX9_term, .code yX9_term cX9_term 11 (some .long)])
def wsX9_ask : List Cond := .code yX9_ask cX9_ask 5 (some .int) :: ([.constantLong RX9 197 (100), .methodLink RX9 184 yX9_isBooth, .static yX9_isBooth, .initialized RX9, .code yX9_isBooth cX9_isBooth 2 (some .boolean), .methodLink RX9 51 yX9_in, .static yX9_in, .code yX9_in cX9_in 3 (some .boolean), .methodLink RX9 189 yX9_choose, .static yX9_choose, .code yX9_choose cX9_choose 5 (some .long)])
def wsX9_isAll : List Cond := .code yX9_isAll cX9_isAll 1 (some .boolean) :: ([.methodLink RX9 51 yX9_in, .static yX9_in, .initialized RX9, .code yX9_in cX9_in 3 (some .boolean)])
def wsX9_slips : List Cond := .code yX9_slips cX9_slips 9 (some .long) :: ([.constantLong RX9 187 (-1000000000000000002), .methodLink RX9 199 yX9_isAll, .static yX9_isAll, .initialized RX9, .code yX9_isAll cX9_isAll 1 (some .boolean), .methodLink RX9 51 yX9_in, .static yX9_in, .code yX9_in cX9_in 3 (some .boolean), .methodLink RX9 189 yX9_choose, .static yX9_choose, .code yX9_choose cX9_choose 5 (some .long), .methodLink RX9 193 yX9_term, .static yX9_term, .code yX9_term cX9_term 11 (some .long)])
def wsX9_drawn : List Cond := .code yX9_drawn cX9_drawn 7 (some .int) :: ([.constant RX9 147 (1000000), .constantLong RX9 202 (16807), .constantLong RX9 204 (2147483647), .methodLink RX9 51 yX9_in, .static yX9_in, .initialized RX9, .code yX9_in cX9_in 3 (some .boolean), .methodLink RX9 199 yX9_isAll, .static yX9_isAll, .code yX9_isAll cX9_isAll 1 (some .boolean)])
def wsX9_sure : List Cond := .code yX9_sure cX9_sure 4 (some .int) :: ([.constantLong RX9 197 (100), .methodLink RX9 199 yX9_isAll, .static yX9_isAll, .initialized RX9, .code yX9_isAll cX9_isAll 1 (some .boolean), .methodLink RX9 51 yX9_in, .static yX9_in, .code yX9_in cX9_in 3 (some .boolean), .methodLink RX9 189 yX9_choose, .static yX9_choose, .code yX9_choose cX9_choose 5 (some .long)])
def wsX9_areSums : List Cond := .code yX9_areSums cX9_areSums 7 (some .boolean) :: ([.methodLink RX9 51 yX9_in, .static yX9_in, .initialized RX9, .code yX9_in cX9_in 3 (some .boolean)])
def wsX9_told : List Cond := .code yX9_told cX9_told 10 (some .long) :: ([.constantLong RX9 187 (-1000000000000000002), .constantLong RX9 209 (-1000000000000000003), .methodLink RX9 206 yX9_areSums, .static yX9_areSums, .initialized RX9, .code yX9_areSums cX9_areSums 7 (some .boolean), .methodLink RX9 51 yX9_in, .static yX9_in, .code yX9_in cX9_in 3 (some .boolean), .methodLink RX9 193 yX9_term, .static yX9_term, .code yX9_term cX9_term 11 (some .long)])
def wsX9_forced : List Cond := .code yX9_forced cX9_forced 8 (some .int) :: ([.methodLink RX9 206 yX9_areSums, .static yX9_areSums, .initialized RX9, .code yX9_areSums cX9_areSums 7 (some .boolean), .methodLink RX9 51 yX9_in, .static yX9_in, .code yX9_in cX9_in 3 (some .boolean)])
def wsX9_rowsThatAre_r1 : List Cond := [Cond.fieldLink RX9 72 "WallCountModel" "rows" "I", Cond.methodLink RX9 175 yX9_stateOf, Cond.instanceMethod yX9_stateOf, Cond.selects RX9 yX9_stateOf yX9_stateOf, Cond.initialized RX9, Cond.code yX9_stateOf cX9_stateOf 5 (some .int), Cond.fieldLink RX9 29 "WallCountModel" "rowVoter" "[I", Cond.methodLink RX9 161 yX9_flawOf, Cond.instanceMethod yX9_flawOf, Cond.selects RX9 yX9_flawOf yX9_flawOf, Cond.code yX9_flawOf cX9_flawOf 3 (some .int), Cond.fieldLink RX9 38 "WallCountModel" "rowHour" "[I", Cond.fieldLink RX9 26 "WallCountModel" "close" "I", Cond.fieldLink RX9 32 "WallCountModel" "rowA" "[I", Cond.fieldLink RX9 35 "WallCountModel" "rowB" "[I", Cond.fieldLink RX9 45 "WallCountModel" "proof" "[I", Cond.methodLink RX9 128 yX9_holds, Cond.instanceMethod yX9_holds, Cond.selects RX9 yX9_holds yX9_holds, Cond.code yX9_holds cX9_holds 7 (some .boolean), Cond.fieldLink RX9 108 "WallCountModel" "mixed" "I", Cond.methodLink RX9 93 yX9_isRight, Cond.static yX9_isRight, Cond.code yX9_isRight cX9_isRight 2 (some .boolean)]
def wsX9_rowsThatAre_r2 : List Cond := [Cond.methodLink RX9 90 yX9_isNumber, Cond.static yX9_isNumber, Cond.code yX9_isNumber cX9_isNumber 1 (some .boolean), Cond.methodLink RX9 51 yX9_in, Cond.static yX9_in, Cond.code yX9_in cX9_in 3 (some .boolean), Cond.methodLink RX9 61 yX9_power, Cond.static yX9_power, Cond.code yX9_power cX9_power 2 (some .int), Cond.methodLink RX9 57 yX9_raise, Cond.static yX9_raise, Cond.code yX9_raise cX9_raise 9 (some .long), Cond.methodLink RX9 68 yX9_isPower, Cond.static yX9_isPower, Cond.code yX9_isPower cX9_isPower 1 (some .boolean), Cond.methodLink RX9 117 yX9_mix, Cond.instanceMethod yX9_mix, Cond.selects RX9 yX9_mix yX9_mix, Cond.code yX9_mix cX9_mix 2 none, Cond.constantLong RX9 111 (31), Cond.constantLong RX9 97 (5003), Cond.methodLink RX9 121 yX9_sOf, Cond.static yX9_sOf, Cond.code yX9_sOf cX9_sOf 3 (some .int)]
def wsX9_rowsThatAre_r3 : List Cond := [Cond.methodLink RX9 105 yX9_by, Cond.static yX9_by, Cond.code yX9_by cX9_by 2 (some .int), Cond.methodLink RX9 65 yX9_times, Cond.static yX9_times, Cond.code yX9_times cX9_times 2 (some .int), Cond.constantLong RX9 55 (10007), Cond.methodLink RX9 124 yX9_tOf, Cond.instanceMethod yX9_tOf, Cond.selects RX9 yX9_tOf yX9_tOf, Cond.code yX9_tOf cX9_tOf 5 (some .int), Cond.methodLink RX9 75 yX9_h, Cond.instanceMethod yX9_h, Cond.selects RX9 yX9_h yX9_h, Cond.code yX9_h cX9_h 1 (some .int), Cond.fieldLink RX9 13 "WallCountModel" "secret" "[I", Cond.methodLink RX9 144 yX9_mayVote, Cond.instanceMethod yX9_mayVote, Cond.selects RX9 yX9_mayVote yX9_mayVote, Cond.code yX9_mayVote cX9_mayVote 9 (some .boolean), Cond.fieldLink RX9 141 "WallCountModel" "ruleMany" "I", Cond.fieldLink RX9 23 "WallCountModel" "ruleSign" "[I", Cond.fieldLink RX9 17 "WallCountModel" "has" "[I"]
def wsX9_rowsThatAre : List Cond := .code yX9_rowsThatAre cX9_rowsThatAre 4 (some .int) :: ((wsX9_rowsThatAre_r1 ++ (wsX9_rowsThatAre_r2 ++ wsX9_rowsThatAre_r3)) ++ wsX90)
def wsX9_count_r1 : List Cond := [Cond.fieldLink RX9 72 "WallCountModel" "rows" "I", Cond.fieldLink RX9 135 "WallCountModel" "signs" "I", Cond.fieldLink RX9 7 "WallCountModel" "need" "I", Cond.fieldLink RX9 26 "WallCountModel" "close" "I", Cond.fieldLink RX9 181 "WallCountModel" "copies" "I", Cond.methodLink RX9 51 yX9_in, Cond.static yX9_in, Cond.initialized RX9, Cond.code yX9_in cX9_in 3 (some .boolean), Cond.methodLink RX9 211 yX9_rowsThatAre, Cond.instanceMethod yX9_rowsThatAre, Cond.selects RX9 yX9_rowsThatAre yX9_rowsThatAre, Cond.code yX9_rowsThatAre cX9_rowsThatAre 4 (some .int), Cond.methodLink RX9 175 yX9_stateOf, Cond.instanceMethod yX9_stateOf, Cond.selects RX9 yX9_stateOf yX9_stateOf, Cond.code yX9_stateOf cX9_stateOf 5 (some .int), Cond.fieldLink RX9 29 "WallCountModel" "rowVoter" "[I", Cond.methodLink RX9 161 yX9_flawOf, Cond.instanceMethod yX9_flawOf, Cond.selects RX9 yX9_flawOf yX9_flawOf, Cond.code yX9_flawOf cX9_flawOf 3 (some .int), Cond.fieldLink RX9 38 "WallCountModel" "rowHour" "[I", Cond.fieldLink RX9 32 "WallCountModel" "rowA" "[I"]
def wsX9_count_r2 : List Cond := [Cond.fieldLink RX9 35 "WallCountModel" "rowB" "[I", Cond.fieldLink RX9 45 "WallCountModel" "proof" "[I", Cond.methodLink RX9 128 yX9_holds, Cond.instanceMethod yX9_holds, Cond.selects RX9 yX9_holds yX9_holds, Cond.code yX9_holds cX9_holds 7 (some .boolean), Cond.fieldLink RX9 108 "WallCountModel" "mixed" "I", Cond.methodLink RX9 93 yX9_isRight, Cond.static yX9_isRight, Cond.code yX9_isRight cX9_isRight 2 (some .boolean), Cond.methodLink RX9 90 yX9_isNumber, Cond.static yX9_isNumber, Cond.code yX9_isNumber cX9_isNumber 1 (some .boolean), Cond.methodLink RX9 61 yX9_power, Cond.static yX9_power, Cond.code yX9_power cX9_power 2 (some .int), Cond.methodLink RX9 57 yX9_raise, Cond.static yX9_raise, Cond.code yX9_raise cX9_raise 9 (some .long), Cond.methodLink RX9 68 yX9_isPower, Cond.static yX9_isPower, Cond.code yX9_isPower cX9_isPower 1 (some .boolean), Cond.methodLink RX9 117 yX9_mix, Cond.instanceMethod yX9_mix]
def wsX9_count_r3 : List Cond := [Cond.selects RX9 yX9_mix yX9_mix, Cond.code yX9_mix cX9_mix 2 none, Cond.constantLong RX9 111 (31), Cond.constantLong RX9 97 (5003), Cond.methodLink RX9 121 yX9_sOf, Cond.static yX9_sOf, Cond.code yX9_sOf cX9_sOf 3 (some .int), Cond.methodLink RX9 105 yX9_by, Cond.static yX9_by, Cond.code yX9_by cX9_by 2 (some .int), Cond.methodLink RX9 65 yX9_times, Cond.static yX9_times, Cond.code yX9_times cX9_times 2 (some .int), Cond.constantLong RX9 55 (10007), Cond.methodLink RX9 124 yX9_tOf, Cond.instanceMethod yX9_tOf, Cond.selects RX9 yX9_tOf yX9_tOf, Cond.code yX9_tOf cX9_tOf 5 (some .int), Cond.methodLink RX9 75 yX9_h, Cond.instanceMethod yX9_h, Cond.selects RX9 yX9_h yX9_h, Cond.code yX9_h cX9_h 1 (some .int), Cond.fieldLink RX9 13 "WallCountModel" "secret" "[I", Cond.methodLink RX9 144 yX9_mayVote]
def wsX9_count_r4 : List Cond := [Cond.instanceMethod yX9_mayVote, Cond.selects RX9 yX9_mayVote yX9_mayVote, Cond.code yX9_mayVote cX9_mayVote 9 (some .boolean), Cond.fieldLink RX9 141 "WallCountModel" "ruleMany" "I", Cond.fieldLink RX9 23 "WallCountModel" "ruleSign" "[I", Cond.fieldLink RX9 17 "WallCountModel" "has" "[I"]
def wsX9_count : List Cond := .code yX9_count cX9_count 2 (some .int) :: ((wsX9_count_r1 ++ (wsX9_count_r2 ++ (wsX9_count_r3 ++ wsX9_count_r4))) ++ wsX90)
def wsJ9_max_7cf53 : List Cond := .code yJ9_max_7cf53 cJ9_max_7cf53 2 (some .int) :: ([])
def wsL_law_r1 : List Cond := [Cond.classLink RL 7 RX8, Cond.instantiable RX8 4, Cond.initialized RX8, Cond.classLink RL 10 RX9, Cond.instantiable RX9 18, Cond.initialized RX9, Cond.methodLink RL 9 yX8_init, Cond.instanceMethod yX8_init, Cond.code yX8_init cX8_init 1 none, Cond.methodLink RX8 1 objectInit, Cond.instanceMethod objectInit, Cond.code objectInit ⟨#[0xb1]⟩ 1 none, Cond.classLink RX8 7 RX0, Cond.instantiable RX0 5, Cond.initialized RX0, Cond.fieldLink RX8 10 "WallCount" "secret" "LWallCount$Key;", Cond.classLink RX8 16 RX3, Cond.instantiable RX3 4, Cond.initialized RX3, Cond.fieldLink RX8 19 "WallCount" "proof" "LWallCount$Proof;", Cond.classLink RX8 23 RX4, Cond.instantiable RX4 3, Cond.initialized RX4, Cond.fieldLink RX8 26 "WallCount" "roll" "LWallCount$Roll;"]
def wsL_law_r2 : List Cond := [Cond.classLink RX8 30 RX7, Cond.instantiable RX7 6, Cond.initialized RX7, Cond.fieldLink RX8 35 "WallCount" "wall" "LWallCount$Wall;", Cond.methodLink RX8 9 yX0_init, Cond.instanceMethod yX0_init, Cond.code yX0_init cX0_init 1 none, Cond.methodLink RX0 3 objectInit, Cond.fieldLink RX0 9 "WallCount$Key" "need" "I", Cond.fieldLink RX0 15 "WallCount$Key" "c0" "I", Cond.fieldLink RX0 18 "WallCount$Key" "c1" "I", Cond.fieldLink RX0 21 "WallCount$Key" "c2" "I", Cond.fieldLink RX0 24 "WallCount$Key" "h" "I", Cond.instanceMethod yX3_init, Cond.code yX3_init cX3_init 1 none, Cond.methodLink RX3 3 objectInit, Cond.methodLink RX8 25 yX4_init, Cond.instanceMethod yX4_init, Cond.code yX4_init cX4_init 2 none, Cond.methodLink RX4 3 objectInit, Cond.arrayClass .int, Cond.fieldLink RX4 9 "WallCount$Roll" "traits" "[I", Cond.classLink RX4 15 RX6, Cond.instantiable RX6 2]
def wsL_law_r3 : List Cond := [Cond.initialized RX6, Cond.fieldLink RX4 18 "WallCount$Roll" "whoMay" "LWallCount$Text;", Cond.fieldLink RX4 22 "WallCount$Roll" "draft" "LWallCount$Text;", Cond.methodLink RX4 17 yX6_init, Cond.instanceMethod yX6_init, Cond.code yX6_init cX6_init 1 none, Cond.methodLink RX6 3 objectInit, Cond.fieldLink RX6 9 "WallCount$Text" "signs" "[I", Cond.fieldLink RX6 15 "WallCount$Text" "size" "I", Cond.methodLink RX8 32 yX7_init, Cond.instanceMethod yX7_init, Cond.code yX7_init cX7_init 2 none, Cond.methodLink RX7 3 objectInit, Cond.fieldLink RX7 9 "WallCount$Wall" "roll" "LWallCount$Roll;", Cond.classLink RX7 15 RX5, Cond.fieldLink RX7 17 "WallCount$Wall" "rows" "[LWallCount$Row;", Cond.fieldLink RX7 21 "WallCount$Wall" "copied" "[I", Cond.fieldLink RX7 25 "WallCount$Wall" "size" "I", Cond.fieldLink RX7 29 "WallCount$Wall" "copiedSize" "I", Cond.fieldLink RX7 32 "WallCount$Wall" "closeHour" "I", Cond.methodLink RL 12 yX9_init, Cond.instanceMethod yX9_init, Cond.code yX9_init cX9_init 2 none, Cond.methodLink RX9 1 objectInit]
def wsL_law_r4 : List Cond := [Cond.fieldLink RX9 7 "WallCountModel" "need" "I", Cond.fieldLink RX9 13 "WallCountModel" "secret" "[I", Cond.fieldLink RX9 17 "WallCountModel" "has" "[I", Cond.fieldLink RX9 20 "WallCountModel" "sign" "[I", Cond.fieldLink RX9 23 "WallCountModel" "ruleSign" "[I", Cond.fieldLink RX9 26 "WallCountModel" "close" "I", Cond.fieldLink RX9 29 "WallCountModel" "rowVoter" "[I", Cond.fieldLink RX9 32 "WallCountModel" "rowA" "[I", Cond.fieldLink RX9 35 "WallCountModel" "rowB" "[I", Cond.fieldLink RX9 38 "WallCountModel" "rowHour" "[I", Cond.arrayClass .boolean, Cond.fieldLink RX9 41 "WallCountModel" "isProved" "[Z", Cond.fieldLink RX9 45 "WallCountModel" "proof" "[I", Cond.fieldLink RX9 48 "WallCountModel" "copied" "[I", Cond.methodLink RL 13 yX8_key, Cond.instanceMethod yX8_key, Cond.selects RX8 yX8_key yX8_key, Cond.code yX8_key cX8_key 5 (some .int), Cond.methodLink RX8 39 yX8_within, Cond.static yX8_within, Cond.code yX8_within cX8_within 3 (some .boolean), Cond.methodLink RX8 43 yX8_isExponent, Cond.static yX8_isExponent, Cond.code yX8_isExponent cX8_isExponent 1 (some .boolean)]
def wsL_law_r5 : List Cond := [Cond.methodLink RX8 47 yX7_size, Cond.instanceMethod yX7_size, Cond.selects RX7 yX7_size yX7_size, Cond.code yX7_size cX7_size 1 (some .int), Cond.methodLink RX8 51 yX0_become, Cond.instanceMethod yX0_become, Cond.selects RX0 yX0_become yX0_become, Cond.code yX0_become cX0_become 5 none, Cond.methodLink RX0 27 yX2_ofG, Cond.static yX2_ofG, Cond.initialized RX2, Cond.code yX2_ofG cX2_ofG 1 (some .int), Cond.methodLink RX2 11 yX2_power, Cond.static yX2_power, Cond.code yX2_power cX2_power 6 (some .int), Cond.methodLink RX8 55 yX0_h, Cond.instanceMethod yX0_h, Cond.selects RX0 yX0_h yX0_h, Cond.code yX0_h cX0_h 1 (some .int), Cond.methodLink RL 17 yX9_key, Cond.instanceMethod yX9_key, Cond.selects RX9 yX9_key yX9_key, Cond.code yX9_key cX9_key 5 (some .int), Cond.fieldLink RX9 72 "WallCountModel" "rows" "I"]
def wsL_law_r6 : List Cond := [Cond.methodLink RX9 51 yX9_in, Cond.static yX9_in, Cond.code yX9_in cX9_in 3 (some .boolean), Cond.methodLink RX9 68 yX9_isPower, Cond.static yX9_isPower, Cond.code yX9_isPower cX9_isPower 1 (some .boolean), Cond.methodLink RX9 75 yX9_h, Cond.instanceMethod yX9_h, Cond.selects RX9 yX9_h yX9_h, Cond.code yX9_h cX9_h 1 (some .int), Cond.methodLink RX9 61 yX9_power, Cond.static yX9_power, Cond.code yX9_power cX9_power 2 (some .int), Cond.methodLink RX9 57 yX9_raise, Cond.static yX9_raise, Cond.code yX9_raise cX9_raise 9 (some .long), Cond.methodLink RL 18 yX8_holder, Cond.instanceMethod yX8_holder, Cond.selects RX8 yX8_holder yX8_holder, Cond.code yX8_holder cX8_holder 3 (some .int), Cond.methodLink RX8 58 yX8_isHolder, Cond.static yX8_isHolder, Cond.code yX8_isHolder cX8_isHolder 1 (some .boolean), Cond.methodLink RX8 61 yX0_part]
def wsL_law_r7 : List Cond := [Cond.instanceMethod yX0_part, Cond.selects RX0 yX0_part yX0_part, Cond.code yX0_part cX0_part 2 (some .int), Cond.methodLink RX8 65 yX2_ofG, Cond.methodLink RL 22 yX9_holder, Cond.instanceMethod yX9_holder, Cond.selects RX9 yX9_holder yX9_holder, Cond.code yX9_holder cX9_holder 3 (some .int), Cond.methodLink RX9 79 yX9_isHolder, Cond.static yX9_isHolder, Cond.code yX9_isHolder cX9_isHolder 1 (some .boolean), Cond.methodLink RX9 82 yX9_partOf, Cond.instanceMethod yX9_partOf, Cond.selects RX9 yX9_partOf yX9_partOf, Cond.code yX9_partOf cX9_partOf 2 (some .int), Cond.methodLink RL 23 yX8_seal, Cond.instanceMethod yX8_seal, Cond.selects RX8 yX8_seal yX8_seal, Cond.code yX8_seal cX8_seal 4 (some .int), Cond.methodLink RX8 70 yX0_sealedB, Cond.instanceMethod yX0_sealedB, Cond.selects RX0 yX0_sealedB yX0_sealedB, Cond.code yX0_sealedB cX0_sealedB 3 (some .int), Cond.methodLink RX0 33 yX2_of]
def wsL_law_r8 : List Cond := [Cond.static yX2_of, Cond.code yX2_of cX2_of 2 (some .int), Cond.methodLink RL 27 yX9_seal, Cond.instanceMethod yX9_seal, Cond.selects RX9 yX9_seal yX9_seal, Cond.code yX9_seal cX9_seal 4 (some .int), Cond.methodLink RX9 86 yX9_sealOf, Cond.instanceMethod yX9_sealOf, Cond.selects RX9 yX9_sealOf yX9_sealOf, Cond.code yX9_sealOf cX9_sealOf 4 (some .int), Cond.methodLink RX9 65 yX9_times, Cond.static yX9_times, Cond.code yX9_times cX9_times 2 (some .int), Cond.constantLong RX9 55 (10007), Cond.methodLink RL 28 yX8_right, Cond.instanceMethod yX8_right, Cond.selects RX8 yX8_right yX8_right, Cond.code yX8_right cX8_right 3 (some .int), Cond.methodLink RX8 74 yX2_isRight, Cond.static yX2_isRight, Cond.code yX2_isRight cX2_isRight 2 (some .boolean), Cond.static yX8_isResidue, Cond.code yX8_isResidue cX8_isResidue 1 (some .boolean), Cond.methodLink RX2 23 yX2_of]
def wsL_law_r9 : List Cond := [Cond.methodLink RL 31 yX9_right, Cond.instanceMethod yX9_right, Cond.selects RX9 yX9_right yX9_right, Cond.code yX9_right cX9_right 3 (some .int), Cond.methodLink RX9 93 yX9_isRight, Cond.static yX9_isRight, Cond.code yX9_isRight cX9_isRight 2 (some .boolean), Cond.methodLink RX9 90 yX9_isNumber, Cond.static yX9_isNumber, Cond.code yX9_isNumber cX9_isNumber 1 (some .boolean), Cond.methodLink RL 32 yX8_open, Cond.instanceMethod yX8_open, Cond.selects RX8 yX8_open yX8_open, Cond.code yX8_open cX8_open 3 (some .int), Cond.methodLink RX8 78 yX8_isResidue, Cond.methodLink RX8 81 yX0_share, Cond.instanceMethod yX0_share, Cond.selects RX0 yX0_share yX0_share, Cond.code yX0_share cX0_share 3 (some .int), Cond.methodLink RX0 37 yX0_part, Cond.methodLink RL 35 yX9_open, Cond.instanceMethod yX9_open, Cond.selects RX9 yX9_open yX9_open, Cond.code yX9_open cX9_open 3 (some .int)]
def wsL_law_r10 : List Cond := [Cond.methodLink RL 36 yX8_weight, Cond.instanceMethod yX8_weight, Cond.selects RX8 yX8_weight yX8_weight, Cond.code yX8_weight cX8_weight 3 (some .int), Cond.methodLink RX8 84 yX8_isIn, Cond.static yX8_isIn, Cond.code yX8_isIn cX8_isIn 2 (some .boolean), Cond.methodLink RX8 87 yX8_isSet, Cond.static yX8_isSet, Cond.code yX8_isSet cX8_isSet 1 (some .boolean), Cond.methodLink RX8 90 yX0_weightIn, Cond.static yX0_weightIn, Cond.code yX0_weightIn cX0_weightIn 4 (some .int), Cond.methodLink RX0 44 yX2_inverse, Cond.static yX2_inverse, Cond.code yX2_inverse cX2_inverse 2 (some .int), Cond.methodLink RL 39 yX9_weight, Cond.instanceMethod yX9_weight, Cond.selects RX9 yX9_weight yX9_weight, Cond.code yX9_weight cX9_weight 3 (some .int), Cond.methodLink RX9 99 yX9_isSet, Cond.static yX9_isSet, Cond.code yX9_isSet cX9_isSet 1 (some .boolean), Cond.methodLink RX9 102 yX9_weightOf]
def wsL_law_r11 : List Cond := [Cond.static yX9_weightOf, Cond.code yX9_weightOf cX9_weightOf 5 (some .int), Cond.constantLong RX9 97 (5003), Cond.methodLink RL 40 yX8_opened, Cond.instanceMethod yX8_opened, Cond.selects RX8 yX8_opened yX8_opened, Cond.code yX8_opened cX8_opened 6 (some .int), Cond.methodLink RX8 93 yJ6_bitCount_0f7a4, Cond.static yJ6_bitCount_0f7a4, Cond.initialized RJ6, Cond.code yJ6_bitCount_0f7a4 cJ6_bitCount_0f7a4 1 (some .int), Cond.constant RJ6 265 (1431655765), Cond.constant RJ6 266 (858993459), Cond.constant RJ6 267 (252645135), Cond.methodLink RX8 98 yX0_need, Cond.instanceMethod yX0_need, Cond.selects RX0 yX0_need yX0_need, Cond.code yX0_need cX0_need 1 (some .int), Cond.methodLink RX8 101 yX0_unsealed, Cond.instanceMethod yX0_unsealed, Cond.selects RX0 yX0_unsealed yX0_unsealed, Cond.code yX0_unsealed cX0_unsealed 6 (some .int), Cond.methodLink RX0 47 yX0_share, Cond.methodLink RX0 50 yX0_weightIn]
def wsL_law_r12 : List Cond := [Cond.methodLink RX0 53 yX2_divided, Cond.static yX2_divided, Cond.code yX2_divided cX2_divided 2 (some .int), Cond.methodLink RX2 15 yX2_inverse, Cond.methodLink RX8 105 yX2_exponentOf, Cond.static yX2_exponentOf, Cond.code yX2_exponentOf cX2_exponentOf 3 (some .int), Cond.methodLink RL 43 yX9_opened, Cond.instanceMethod yX9_opened, Cond.selects RX9 yX9_opened yX9_opened, Cond.code yX9_opened cX9_opened 10 (some .int), Cond.methodLink RX9 105 yX9_by, Cond.static yX9_by, Cond.code yX9_by cX9_by 2 (some .int), Cond.methodLink RL 44 yX8_prove, Cond.instanceMethod yX8_prove, Cond.selects RX8 yX8_prove yX8_prove, Cond.code yX8_prove cX8_prove 7 (some .int), Cond.methodLink RX8 108 yX8_areLots, Cond.static yX8_areLots, Cond.code yX8_areLots cX8_areLots 4 (some .boolean), Cond.methodLink RX8 112 yX3_make, Cond.instanceMethod yX3_make, Cond.selects RX3 yX3_make yX3_make]
def wsL_law_r13 : List Cond := [Cond.code yX3_make cX3_make 16 none, Cond.methodLink RX3 46 yX2_ofG, Cond.methodLink RX3 50 yX0_sealedB, Cond.methodLink RX3 55 yX0_h, Cond.methodLink RX3 59 yX2_of, Cond.methodLink RX3 38 yX3_sOf, Cond.static yX3_sOf, Cond.code yX3_sOf cX3_sOf 3 (some .int), Cond.methodLink RX3 66 yX2_divided, Cond.methodLink RX3 42 yX3_tOf, Cond.static yX3_tOf, Cond.code yX3_tOf cX3_tOf 6 (some .int), Cond.methodLink RX3 34 yX3_mixedWith, Cond.static yX3_mixedWith, Cond.code yX3_mixedWith cX3_mixedWith 2 (some .int), Cond.methodLink RX3 62 yX3_become, Cond.instanceMethod yX3_become, Cond.selects RX3 yX3_become yX3_become, Cond.code yX3_become cX3_become 5 none, Cond.fieldLink RX3 9 "WallCount$Proof" "c0" "I", Cond.fieldLink RX3 15 "WallCount$Proof" "z0" "I", Cond.fieldLink RX3 18 "WallCount$Proof" "c1" "I", Cond.fieldLink RX3 21 "WallCount$Proof" "z1" "I", Cond.methodLink RX8 116 yX3_number]
def wsL_law_r14 : List Cond := [Cond.instanceMethod yX3_number, Cond.selects RX3 yX3_number yX3_number, Cond.code yX3_number cX3_number 2 (some .int), Cond.methodLink RL 48 yX9_prove, Cond.instanceMethod yX9_prove, Cond.selects RX9 yX9_prove yX9_prove, Cond.code yX9_prove cX9_prove 7 (some .int), Cond.methodLink RX9 113 yX9_proved, Cond.instanceMethod yX9_proved, Cond.selects RX9 yX9_proved yX9_proved, Cond.code yX9_proved cX9_proved 12 (some .int), Cond.fieldLink RX9 108 "WallCountModel" "mixed" "I", Cond.methodLink RX9 117 yX9_mix, Cond.instanceMethod yX9_mix, Cond.selects RX9 yX9_mix yX9_mix, Cond.code yX9_mix cX9_mix 2 none, Cond.constantLong RX9 111 (31), Cond.methodLink RX9 121 yX9_sOf, Cond.static yX9_sOf, Cond.code yX9_sOf cX9_sOf 3 (some .int), Cond.methodLink RX9 124 yX9_tOf, Cond.instanceMethod yX9_tOf, Cond.selects RX9 yX9_tOf yX9_tOf, Cond.code yX9_tOf cX9_tOf 5 (some .int)]
def wsL_law_r15 : List Cond := [Cond.methodLink RL 49 yX8_check, Cond.instanceMethod yX8_check, Cond.selects RX8 yX8_check yX8_check, Cond.code yX8_check cX8_check 7 (some .int), Cond.methodLink RX8 119 yX3_become, Cond.methodLink RX8 120 yX3_holds, Cond.instanceMethod yX3_holds, Cond.selects RX3 yX3_holds yX3_holds, Cond.code yX3_holds cX3_holds 5 (some .boolean), Cond.methodLink RX3 24 yX2_isRight, Cond.methodLink RL 52 yX9_check, Cond.instanceMethod yX9_check, Cond.selects RX9 yX9_check yX9_check, Cond.code yX9_check cX9_check 7 (some .int), Cond.methodLink RX9 128 yX9_holds, Cond.instanceMethod yX9_holds, Cond.selects RX9 yX9_holds yX9_holds, Cond.code yX9_holds cX9_holds 7 (some .boolean), Cond.methodLink RL 53 yX8_voter, Cond.instanceMethod yX8_voter, Cond.selects RX8 yX8_voter yX8_voter, Cond.code yX8_voter cX8_voter 4 (some .int), Cond.methodLink RX8 124 yX8_isVoter, Cond.static yX8_isVoter]
def wsL_law_r16 : List Cond := [Cond.code yX8_isVoter cX8_isVoter 1 (some .boolean), Cond.methodLink RX8 127 yX4_change, Cond.instanceMethod yX4_change, Cond.selects RX4 yX4_change yX4_change, Cond.code yX4_change cX4_change 6 (some .int), Cond.methodLink RX4 28 yX4_trait, Cond.instanceMethod yX4_trait, Cond.selects RX4 yX4_trait yX4_trait, Cond.code yX4_trait cX4_trait 4 (some .int), Cond.methodLink RL 56 yX9_voter, Cond.instanceMethod yX9_voter, Cond.selects RX9 yX9_voter yX9_voter, Cond.code yX9_voter cX9_voter 5 (some .int), Cond.methodLink RX9 132 yX9_isVoter, Cond.static yX9_isVoter, Cond.code yX9_isVoter cX9_isVoter 1 (some .boolean), Cond.methodLink RL 57 yX8_say, Cond.instanceMethod yX8_say, Cond.selects RX8 yX8_say yX8_say, Cond.code yX8_say cX8_say 2 (some .int), Cond.methodLink RX8 130 yX4_draft, Cond.instanceMethod yX4_draft, Cond.selects RX4 yX4_draft yX4_draft, Cond.code yX4_draft cX4_draft 1 (some (.object "WallCount$Text"))]
def wsL_law_r17 : List Cond := [Cond.methodLink RX8 134 yX6_add, Cond.instanceMethod yX6_add, Cond.selects RX6 yX6_add yX6_add, Cond.code yX6_add cX6_add 2 (some .boolean), Cond.methodLink RX8 139 yX6_size, Cond.instanceMethod yX6_size, Cond.selects RX6 yX6_size yX6_size, Cond.code yX6_size cX6_size 1 (some .int), Cond.methodLink RL 61 yX9_say, Cond.instanceMethod yX9_say, Cond.selects RX9 yX9_say yX9_say, Cond.code yX9_say cX9_say 2 (some .int), Cond.fieldLink RX9 135 "WallCountModel" "signs" "I", Cond.methodLink RL 62 yX8_wipe, Cond.instanceMethod yX8_wipe, Cond.selects RX8 yX8_wipe yX8_wipe, Cond.code yX8_wipe cX8_wipe 2 (some .int), Cond.methodLink RX8 140 yX6_clear, Cond.instanceMethod yX6_clear, Cond.selects RX6 yX6_clear yX6_clear, Cond.code yX6_clear cX6_clear 1 none, Cond.methodLink RL 66 yX9_wipe, Cond.instanceMethod yX9_wipe, Cond.selects RX9 yX9_wipe yX9_wipe]
def wsL_law_r18 : List Cond := [Cond.code yX9_wipe cX9_wipe 2 (some .int), Cond.methodLink RL 67 yX8_fault, Cond.instanceMethod yX8_fault, Cond.selects RX8 yX8_fault yX8_fault, Cond.code yX8_fault cX8_fault 1 (some .int), Cond.methodLink RX8 143 yX6_faultPlace, Cond.instanceMethod yX6_faultPlace, Cond.selects RX6 yX6_faultPlace yX6_faultPlace, Cond.code yX6_faultPlace cX6_faultPlace 3 (some .int), Cond.methodLink RX6 19 yX6_stateBehind, Cond.static yX6_stateBehind, Cond.code yX6_stateBehind cX6_stateBehind 2 (some .int), Cond.methodLink RX6 23 yX6_isName, Cond.static yX6_isName, Cond.code yX6_isName cX6_isName 1 (some .boolean), Cond.methodLink RX6 27 yX6_isCompare, Cond.static yX6_isCompare, Cond.code yX6_isCompare cX6_isCompare 1 (some .boolean), Cond.methodLink RX6 30 yX6_isDigit, Cond.static yX6_isDigit, Cond.code yX6_isDigit cX6_isDigit 1 (some .boolean), Cond.methodLink RX6 33 yX6_isJoin, Cond.static yX6_isJoin, Cond.code yX6_isJoin cX6_isJoin 1 (some .boolean)]
def wsL_law_r19 : List Cond := [Cond.methodLink RL 70 yX9_fault, Cond.instanceMethod yX9_fault, Cond.selects RX9 yX9_fault yX9_fault, Cond.code yX9_fault cX9_fault 1 (some .int), Cond.methodLink RX9 138 yX9_faultOf, Cond.instanceMethod yX9_faultOf, Cond.selects RX9 yX9_faultOf yX9_faultOf, Cond.code yX9_faultOf cX9_faultOf 7 (some .int), Cond.methodLink RL 71 yX8_rule, Cond.instanceMethod yX8_rule, Cond.selects RX8 yX8_rule yX8_rule, Cond.code yX8_rule cX8_rule 1 (some .int), Cond.methodLink RX8 146 yX4_adoptDraft, Cond.instanceMethod yX4_adoptDraft, Cond.selects RX4 yX4_adoptDraft yX4_adoptDraft, Cond.code yX4_adoptDraft cX4_adoptDraft 2 none, Cond.methodLink RX4 25 yX6_clear, Cond.methodLink RL 74 yX9_rule, Cond.instanceMethod yX9_rule, Cond.selects RX9 yX9_rule yX9_rule, Cond.code yX9_rule cX9_rule 2 (some .int), Cond.fieldLink RX9 141 "WallCountModel" "ruleMany" "I", Cond.methodLink RL 75 yX8_may, Cond.instanceMethod yX8_may]
def wsL_law_r20 : List Cond := [Cond.selects RX8 yX8_may yX8_may, Cond.code yX8_may cX8_may 2 (some .int), Cond.methodLink RX8 149 yX4_allows, Cond.instanceMethod yX4_allows, Cond.selects RX4 yX4_allows yX4_allows, Cond.code yX4_allows cX4_allows 2 (some .boolean), Cond.methodLink RX4 32 yX6_allows, Cond.instanceMethod yX6_allows, Cond.selects RX6 yX6_allows yX6_allows, Cond.code yX6_allows cX6_allows 11 (some .boolean), Cond.methodLink RX6 36 yX6_passes, Cond.static yX6_passes, Cond.code yX6_passes cX6_passes 3 (some .boolean), Cond.methodLink RL 78 yX9_may, Cond.instanceMethod yX9_may, Cond.selects RX9 yX9_may yX9_may, Cond.code yX9_may cX9_may 2 (some .int), Cond.methodLink RX9 144 yX9_mayVote, Cond.instanceMethod yX9_mayVote, Cond.selects RX9 yX9_mayVote yX9_mayVote, Cond.code yX9_mayVote cX9_mayVote 9 (some .boolean), Cond.methodLink RL 79 yX8_close, Cond.instanceMethod yX8_close, Cond.selects RX8 yX8_close yX8_close]
def wsL_law_r21 : List Cond := [Cond.code yX8_close cX8_close 2 (some .int), Cond.methodLink RX8 152 yX7_changeClose, Cond.instanceMethod yX7_changeClose, Cond.selects RX7 yX7_changeClose yX7_changeClose, Cond.code yX7_changeClose cX7_changeClose 3 (some .int), Cond.methodLink RL 82 yX9_close, Cond.instanceMethod yX9_close, Cond.selects RX9 yX9_close yX9_close, Cond.code yX9_close cX9_close 3 (some .int), Cond.methodLink RX9 148 yX9_isHour, Cond.static yX9_isHour, Cond.code yX9_isHour cX9_isHour 1 (some .boolean), Cond.methodLink RL 83 yX8_row, Cond.instanceMethod yX8_row, Cond.selects RX8 yX8_row yX8_row, Cond.code yX8_row cX8_row 5 (some .int), Cond.classLink RX8 162 RX5, Cond.instantiable RX5 6, Cond.initialized RX5, Cond.methodLink RX8 155 yX8_isRowNumber, Cond.static yX8_isRowNumber, Cond.code yX8_isRowNumber cX8_isRowNumber 1 (some .boolean), Cond.constant RX8 244 (1000000), Cond.methodLink RX8 158 yX7_isFull]
def wsL_law_r22 : List Cond := [Cond.instanceMethod yX7_isFull, Cond.selects RX7 yX7_isFull yX7_isFull, Cond.code yX7_isFull cX7_isFull 1 (some .boolean), Cond.methodLink RX8 164 yX5_init, Cond.instanceMethod yX5_init, Cond.code yX5_init cX5_init 7 none, Cond.methodLink RX5 3 objectInit, Cond.fieldLink RX5 9 "WallCount$Row" "voter" "I", Cond.fieldLink RX5 15 "WallCount$Row" "a" "I", Cond.fieldLink RX5 18 "WallCount$Row" "b" "I", Cond.fieldLink RX5 21 "WallCount$Row" "hour" "I", Cond.fieldLink RX5 24 "WallCount$Row" "sound" "Z", Cond.fieldLink RX5 28 "WallCount$Row" "proved" "Z", Cond.methodLink RX8 167 yX7_add, Cond.instanceMethod yX7_add, Cond.selects RX7 yX7_add yX7_add, Cond.code yX7_add cX7_add 2 (some .int), Cond.methodLink RL 86 yX9_row, Cond.instanceMethod yX9_row, Cond.selects RX9 yX9_row yX9_row, Cond.code yX9_row cX9_row 5 (some .int), Cond.methodLink RX9 151 yX9_isTold, Cond.static yX9_isTold, Cond.code yX9_isTold cX9_isTold 1 (some .boolean)]
def wsL_law_r23 : List Cond := [Cond.constant RX9 147 (1000000), Cond.methodLink RX9 154 yX9_addRow, Cond.instanceMethod yX9_addRow, Cond.selects RX9 yX9_addRow yX9_addRow, Cond.code yX9_addRow cX9_addRow 7 (some .int), Cond.methodLink RL 87 yX8_attach, Cond.instanceMethod yX8_attach, Cond.selects RX8 yX8_attach yX8_attach, Cond.code yX8_attach cX8_attach 7 (some .int), Cond.fieldLink RX8 174 "WallCount$Row" "proved" "Z", Cond.fieldLink RX8 178 "WallCount$Row" "a" "I", Cond.fieldLink RX8 182 "WallCount$Row" "b" "I", Cond.fieldLink RX8 185 "WallCount$Row" "sound" "Z", Cond.methodLink RX8 170 yX7_at, Cond.instanceMethod yX7_at, Cond.selects RX7 yX7_at yX7_at, Cond.code yX7_at cX7_at 2 (some (.object "WallCount$Row")), Cond.methodLink RL 91 yX9_attach, Cond.instanceMethod yX9_attach, Cond.selects RX9 yX9_attach yX9_attach, Cond.code yX9_attach cX9_attach 6 (some .int), Cond.methodLink RX9 158 yX9_isRow, Cond.instanceMethod yX9_isRow, Cond.selects RX9 yX9_isRow yX9_isRow]
def wsL_law_r24 : List Cond := [Cond.code yX9_isRow cX9_isRow 2 (some .boolean), Cond.methodLink RL 92 yX8_cast, Cond.instanceMethod yX8_cast, Cond.selects RX8 yX8_cast yX8_cast, Cond.code yX8_cast cX8_cast 10 (some .int), Cond.methodLink RL 96 yX9_cast, Cond.instanceMethod yX9_cast, Cond.selects RX9 yX9_cast yX9_cast, Cond.code yX9_cast cX9_cast 10 (some .int), Cond.methodLink RL 97 yX8_ofRow, Cond.instanceMethod yX8_ofRow, Cond.selects RX8 yX8_ofRow yX8_ofRow, Cond.code yX8_ofRow cX8_ofRow 4 (some .int), Cond.fieldLink RX8 188 "WallCount$Row" "voter" "I", Cond.fieldLink RX8 191 "WallCount$Row" "hour" "I", Cond.methodLink RX8 194 yX7_kindOf, Cond.instanceMethod yX7_kindOf, Cond.selects RX7 yX7_kindOf yX7_kindOf, Cond.code yX7_kindOf cX7_kindOf 3 (some .int), Cond.fieldLink RX7 39 "WallCount$Row" "hour" "I", Cond.fieldLink RX7 42 "WallCount$Row" "sound" "Z", Cond.fieldLink RX7 46 "WallCount$Row" "voter" "I", Cond.methodLink RX7 35 yX7_at, Cond.methodLink RX7 49 yX4_allows]
def wsL_law_r25 : List Cond := [Cond.methodLink RX7 55 yX7_hasLaterOne, Cond.instanceMethod yX7_hasLaterOne, Cond.selects RX7 yX7_hasLaterOne yX7_hasLaterOne, Cond.code yX7_hasLaterOne cX7_hasLaterOne 5 (some .boolean), Cond.methodLink RX8 197 yX5_word, Cond.instanceMethod yX5_word, Cond.selects RX5 yX5_word yX5_word, Cond.code yX5_word cX5_word 2 (some .int), Cond.methodLink RX5 31 yX5_wordWith, Cond.static yX5_wordWith, Cond.code yX5_wordWith cX5_wordWith 2 (some .int), Cond.methodLink RX8 200 yX7_headBehind, Cond.instanceMethod yX7_headBehind, Cond.selects RX7 yX7_headBehind yX7_headBehind, Cond.code yX7_headBehind cX7_headBehind 5 (some .int), Cond.constantLong RX7 69 (10007), Cond.constantLong RX7 74 (999983), Cond.methodLink RX7 71 yX7_wordOf, Cond.instanceMethod yX7_wordOf, Cond.selects RX7 yX7_wordOf yX7_wordOf, Cond.code yX7_wordOf cX7_wordOf 3 (some .int), Cond.methodLink RX7 76 yX5_word, Cond.methodLink RL 100 yX9_ofRow, Cond.instanceMethod yX9_ofRow]
def wsL_law_r26 : List Cond := [Cond.selects RX9 yX9_ofRow yX9_ofRow, Cond.code yX9_ofRow cX9_ofRow 3 (some .int), Cond.methodLink RX9 175 yX9_stateOf, Cond.instanceMethod yX9_stateOf, Cond.selects RX9 yX9_stateOf yX9_stateOf, Cond.code yX9_stateOf cX9_stateOf 5 (some .int), Cond.methodLink RX9 161 yX9_flawOf, Cond.instanceMethod yX9_flawOf, Cond.selects RX9 yX9_flawOf yX9_flawOf, Cond.code yX9_flawOf cX9_flawOf 3 (some .int), Cond.methodLink RX9 170 yX9_wordOf, Cond.instanceMethod yX9_wordOf, Cond.selects RX9 yX9_wordOf yX9_wordOf, Cond.code yX9_wordOf cX9_wordOf 4 (some .int), Cond.constantLong RX9 164 (7), Cond.constantLong RX9 166 (131), Cond.constantLong RX9 168 (9973), Cond.methodLink RX9 178 yX9_headOf, Cond.instanceMethod yX9_headOf, Cond.selects RX9 yX9_headOf yX9_headOf, Cond.code yX9_headOf cX9_headOf 5 (some .int), Cond.constantLong RX9 173 (999983), Cond.methodLink RL 101 yX8_find, Cond.instanceMethod yX8_find]
def wsL_law_r27 : List Cond := [Cond.selects RX8 yX8_find yX8_find, Cond.code yX8_find cX8_find 3 (some .int), Cond.methodLink RX8 203 yX7_firstWithWord, Cond.instanceMethod yX7_firstWithWord, Cond.selects RX7 yX7_firstWithWord yX7_firstWithWord, Cond.code yX7_firstWithWord cX7_firstWithWord 4 (some .int), Cond.methodLink RL 104 yX9_find, Cond.instanceMethod yX9_find, Cond.selects RX9 yX9_find yX9_find, Cond.code yX9_find cX9_find 4 (some .int), Cond.methodLink RL 105 yX8_tally, Cond.instanceMethod yX8_tally, Cond.selects RX8 yX8_tally yX8_tally, Cond.code yX8_tally cX8_tally 2 (some .int), Cond.methodLink RX8 206 yX7_product, Cond.instanceMethod yX7_product, Cond.selects RX7 yX7_product yX7_product, Cond.code yX7_product cX7_product 5 (some .int), Cond.fieldLink RX7 63 "WallCount$Row" "a" "I", Cond.fieldLink RX7 66 "WallCount$Row" "b" "I", Cond.methodLink RX7 59 yX7_kindOf, Cond.methodLink RX8 209 yX7_howManyAre, Cond.instanceMethod yX7_howManyAre, Cond.selects RX7 yX7_howManyAre yX7_howManyAre]
def wsL_law_r28 : List Cond := [Cond.code yX7_howManyAre cX7_howManyAre 4 (some .int), Cond.methodLink RL 108 yX9_tally, Cond.instanceMethod yX9_tally, Cond.selects RX9 yX9_tally yX9_tally, Cond.code yX9_tally cX9_tally 6 (some .int), Cond.methodLink RL 109 yX8_copy, Cond.instanceMethod yX8_copy, Cond.selects RX8 yX8_copy yX8_copy, Cond.code yX8_copy cX8_copy 2 (some .int), Cond.methodLink RX8 212 yX7_addCopied, Cond.instanceMethod yX7_addCopied, Cond.selects RX7 yX7_addCopied yX7_addCopied, Cond.code yX7_addCopied cX7_addCopied 2 (some .boolean), Cond.methodLink RX8 215 yX7_copiedSize, Cond.instanceMethod yX7_copiedSize, Cond.selects RX7 yX7_copiedSize yX7_copiedSize, Cond.code yX7_copiedSize cX7_copiedSize 1 (some .int), Cond.methodLink RL 112 yX9_copy, Cond.instanceMethod yX9_copy, Cond.selects RX9 yX9_copy yX9_copy, Cond.code yX9_copy cX9_copy 2 (some .int), Cond.fieldLink RX9 181 "WallCountModel" "copies" "I", Cond.methodLink RL 113 yX8_parted, Cond.instanceMethod yX8_parted]
def wsL_law_r29 : List Cond := [Cond.selects RX8 yX8_parted yX8_parted, Cond.code yX8_parted cX8_parted 1 (some .int), Cond.methodLink RX8 218 yX7_firstUnlike, Cond.instanceMethod yX7_firstUnlike, Cond.selects RX7 yX7_firstUnlike yX7_firstUnlike, Cond.code yX7_firstUnlike cX7_firstUnlike 2 (some .int), Cond.methodLink RL 116 yX9_parted, Cond.instanceMethod yX9_parted, Cond.selects RX9 yX9_parted yX9_parted, Cond.code yX9_parted cX9_parted 2 (some .int), Cond.methodLink RL 117 yX8_lies, Cond.instanceMethod yX8_lies, Cond.selects RX8 yX8_lies yX8_lies, Cond.code yX8_lies cX8_lies 5 (some .long), Cond.constantLong RX8 224 (-1000000000000000002), Cond.methodLink RX8 221 yX8_areBooth, Cond.static yX8_areBooth, Cond.code yX8_areBooth cX8_areBooth 2 (some .boolean), Cond.methodLink RX8 226 yX1_choose, Cond.static yX1_choose, Cond.initialized RX1, Cond.code yX1_choose cX1_choose 5 (some .long), Cond.methodLink RX8 232 yX1_inLowestTerms, Cond.static yX1_inLowestTerms]
def wsL_law_r30 : List Cond := [Cond.code yX1_inLowestTerms cX1_inLowestTerms 7 (some .long), Cond.methodLink RX1 25 yX1_greatestShared, Cond.static yX1_greatestShared, Cond.code yX1_greatestShared cX1_greatestShared 11 (some .long), Cond.methodLink RL 121 yX9_lies, Cond.instanceMethod yX9_lies, Cond.selects RX9 yX9_lies yX9_lies, Cond.code yX9_lies cX9_lies 5 (some .long), Cond.constantLong RX9 187 (-1000000000000000002), Cond.methodLink RX9 184 yX9_isBooth, Cond.static yX9_isBooth, Cond.code yX9_isBooth cX9_isBooth 2 (some .boolean), Cond.methodLink RX9 189 yX9_choose, Cond.static yX9_choose, Cond.code yX9_choose cX9_choose 5 (some .long), Cond.methodLink RX9 193 yX9_term, Cond.static yX9_term, Cond.code yX9_term cX9_term 11 (some .long), Cond.methodLink RL 122 yX8_ask, Cond.instanceMethod yX8_ask, Cond.selects RX8 yX8_ask yX8_ask, Cond.code yX8_ask cX8_ask 4 (some .int), Cond.methodLink RX8 236 yX1_leastDrawn, Cond.static yX1_leastDrawn]
def wsL_law_r31 : List Cond := [Cond.code yX1_leastDrawn cX1_leastDrawn 5 (some .int), Cond.constantLong RX1 19 (100), Cond.methodLink RX1 15 yX1_choose, Cond.methodLink RL 125 yX9_ask, Cond.instanceMethod yX9_ask, Cond.selects RX9 yX9_ask yX9_ask, Cond.code yX9_ask cX9_ask 5 (some .int), Cond.constantLong RX9 197 (100), Cond.methodLink RL 126 yX8_slips, Cond.instanceMethod yX8_slips, Cond.selects RX8 yX8_slips yX8_slips, Cond.code yX8_slips cX8_slips 5 (some .long), Cond.methodLink RX8 240 yX1_waysForOne, Cond.static yX1_waysForOne, Cond.code yX1_waysForOne cX1_waysForOne 6 (some .long), Cond.methodLink RX1 9 yX1_forOne, Cond.static yX1_forOne, Cond.code yX1_forOne cX1_forOne 1 (some .int), Cond.methodLink RL 129 yX9_slips, Cond.instanceMethod yX9_slips, Cond.selects RX9 yX9_slips yX9_slips, Cond.code yX9_slips cX9_slips 9 (some .long), Cond.methodLink RX9 199 yX9_isAll, Cond.static yX9_isAll]
def wsL_law_r32 : List Cond := [Cond.code yX9_isAll cX9_isAll 1 (some .boolean), Cond.methodLink RL 130 yX8_drawn, Cond.instanceMethod yX8_drawn, Cond.selects RX8 yX8_drawn yX8_drawn, Cond.code yX8_drawn cX8_drawn 4 (some .int), Cond.methodLink RX8 245 yX1_slipDrawn, Cond.static yX1_slipDrawn, Cond.code yX1_slipDrawn cX1_slipDrawn 6 (some .int), Cond.constantLong RX1 21 (16807), Cond.constantLong RX1 23 (2147483647), Cond.methodLink RL 133 yX9_drawn, Cond.instanceMethod yX9_drawn, Cond.selects RX9 yX9_drawn yX9_drawn, Cond.code yX9_drawn cX9_drawn 7 (some .int), Cond.constantLong RX9 202 (16807), Cond.constantLong RX9 204 (2147483647), Cond.methodLink RL 134 yX8_sure, Cond.instanceMethod yX8_sure, Cond.selects RX8 yX8_sure yX8_sure, Cond.code yX8_sure cX8_sure 3 (some .int), Cond.methodLink RX8 248 yX1_forOne, Cond.methodLink RL 137 yX9_sure, Cond.instanceMethod yX9_sure, Cond.selects RX9 yX9_sure yX9_sure]
def wsL_law_r33 : List Cond := [Cond.code yX9_sure cX9_sure 4 (some .int), Cond.methodLink RL 138 yX8_told, Cond.instanceMethod yX8_told, Cond.selects RX8 yX8_told yX8_told, Cond.code yX8_told cX8_told 11 (some .long), Cond.constantLong RX8 258 (-1000000000000000003), Cond.methodLink RX8 251 yX8_areSums, Cond.static yX8_areSums, Cond.code yX8_areSums cX8_areSums 3 (some .boolean), Cond.methodLink RX8 254 yX8_areKnown, Cond.static yX8_areKnown, Cond.code yX8_areKnown cX8_areKnown 6 (some .boolean), Cond.methodLink RL 142 yX9_told, Cond.instanceMethod yX9_told, Cond.selects RX9 yX9_told yX9_told, Cond.code yX9_told cX9_told 10 (some .long), Cond.constantLong RX9 209 (-1000000000000000003), Cond.methodLink RX9 206 yX9_areSums, Cond.static yX9_areSums, Cond.code yX9_areSums cX9_areSums 7 (some .boolean), Cond.methodLink RL 143 yX8_forced, Cond.instanceMethod yX8_forced, Cond.selects RX8 yX8_forced yX8_forced, Cond.code yX8_forced cX8_forced 8 (some .int)]
def wsL_law_r34 : List Cond := [Cond.methodLink RX8 260 Lib.Math.max.name, Cond.static Lib.Math.max.name, Cond.initialized "java/lang/Math", Cond.code Lib.Math.max.name Lib.Math.max.code 2 (some .int), Cond.methodLink RL 146 yX9_forced, Cond.instanceMethod yX9_forced, Cond.selects RX9 yX9_forced yX9_forced, Cond.code yX9_forced cX9_forced 8 (some .int), Cond.methodLink RL 147 yX8_count, Cond.instanceMethod yX8_count, Cond.selects RX8 yX8_count yX8_count, Cond.code yX8_count cX8_count 2 (some .int), Cond.methodLink RX8 265 yX7_closeHour, Cond.instanceMethod yX7_closeHour, Cond.selects RX7 yX7_closeHour yX7_closeHour, Cond.code yX7_closeHour cX7_closeHour 1 (some .int), Cond.methodLink RL 150 yX9_count, Cond.instanceMethod yX9_count, Cond.selects RX9 yX9_count yX9_count, Cond.code yX9_count cX9_count 2 (some .int), Cond.methodLink RX9 211 yX9_rowsThatAre, Cond.instanceMethod yX9_rowsThatAre, Cond.selects RX9 yX9_rowsThatAre yX9_rowsThatAre, Cond.code yX9_rowsThatAre cX9_rowsThatAre 4 (some .int)]
def wsL_law : List Cond := (wsL_law_r1 ++ (wsL_law_r2 ++ (wsL_law_r3 ++ (wsL_law_r4 ++ (wsL_law_r5 ++ (wsL_law_r6 ++ (wsL_law_r7 ++ (wsL_law_r8 ++ (wsL_law_r9 ++ (wsL_law_r10 ++ (wsL_law_r11 ++ (wsL_law_r12 ++ (wsL_law_r13 ++ (wsL_law_r14 ++ (wsL_law_r15 ++ (wsL_law_r16 ++ (wsL_law_r17 ++ (wsL_law_r18 ++ (wsL_law_r19 ++ (wsL_law_r20 ++ (wsL_law_r21 ++ (wsL_law_r22 ++ (wsL_law_r23 ++ (wsL_law_r24 ++ (wsL_law_r25 ++ (wsL_law_r26 ++ (wsL_law_r27 ++ (wsL_law_r28 ++ (wsL_law_r29 ++ (wsL_law_r30 ++ (wsL_law_r31 ++ (wsL_law_r32 ++ (wsL_law_r33 ++ wsL_law_r34))))))))))))))))))))))))))))))))) ++ wsX80 ++ wsX90 ++ wsX00 ++ wsX30 ++ wsX40 ++ wsX70 ++ wsX60 ++ wsX50 ++ ([] : List Cond)
abbrev vwCl : List vw_C := [(RX0, TX0, 5), (RX3, TX3, 4), (RX4, TX4, 3), (RX5, TX5, 6), (RX6, TX6, 2), (RX7, TX7, 6), (RX8, TX8, 4), (RX9, TX9, 18)]
end
section
theorem dX0_init_0 : decode cX0_init 0 = .ok (.aload_n 0, 1) := by decide +kernel
theorem dX0_init_1 : decode cX0_init 1 = .ok (.invokespecial 3, 3) := by decide +kernel
theorem dX0_init_4 : decode cX0_init 4 = .ok (.aload_n 0, 1) := by decide +kernel
theorem dX0_init_5 : decode cX0_init 5 = .ok (.iconst 1, 1) := by decide +kernel
theorem dX0_init_6 : decode cX0_init 6 = .ok (.putfield 9, 3) := by decide +kernel
theorem dX0_init_9 : decode cX0_init 9 = .ok (.aload_n 0, 1) := by decide +kernel
theorem dX0_init_10 : decode cX0_init 10 = .ok (.iconst 1, 1) := by decide +kernel
theorem dX0_init_11 : decode cX0_init 11 = .ok (.putfield 15, 3) := by decide +kernel
theorem dX0_init_14 : decode cX0_init 14 = .ok (.aload_n 0, 1) := by decide +kernel
theorem dX0_init_15 : decode cX0_init 15 = .ok (.iconst 0, 1) := by decide +kernel
theorem dX0_init_16 : decode cX0_init 16 = .ok (.putfield 18, 3) := by decide +kernel
theorem dX0_init_19 : decode cX0_init 19 = .ok (.aload_n 0, 1) := by decide +kernel
theorem dX0_init_20 : decode cX0_init 20 = .ok (.iconst 0, 1) := by decide +kernel
theorem dX0_init_21 : decode cX0_init 21 = .ok (.putfield 21, 3) := by decide +kernel
theorem dX0_init_24 : decode cX0_init 24 = .ok (.aload_n 0, 1) := by decide +kernel
theorem dX0_init_25 : decode cX0_init 25 = .ok (.iconst 4, 1) := by decide +kernel
theorem dX0_init_26 : decode cX0_init 26 = .ok (.putfield 24, 3) := by decide +kernel
theorem dX0_init_29 : decode cX0_init 29 = .ok (.return_, 1) := by decide +kernel
set_option maxRecDepth 20000 in
theorem ggX0_become_X2_ofG : GoodIn wsX0_become wsX2_ofG := goodIn_r _ [9, 10, 11, 8, 12] (by decide +kernel) (by decide +kernel)
set_option maxRecDepth 20000 in
theorem gX0_become_X2_ofG : GoodIn wsX0_become (va_wsS RX0 27 yX2_ofG wsX2_ofG) := goodIn_app (goodIn_of _ (by decide +kernel)) ggX0_become_X2_ofG
theorem dX0_become_0 : decode cX0_become 0 = .ok (.aload_n 0, 1) := by decide +kernel
theorem dX0_become_1 : decode cX0_become 1 = .ok (.iload_n 1, 1) := by decide +kernel
theorem dX0_become_2 : decode cX0_become 2 = .ok (.putfield 9, 3) := by decide +kernel
theorem dX0_become_5 : decode cX0_become 5 = .ok (.aload_n 0, 1) := by decide +kernel
theorem dX0_become_6 : decode cX0_become 6 = .ok (.iload_n 2, 1) := by decide +kernel
theorem dX0_become_7 : decode cX0_become 7 = .ok (.putfield 15, 3) := by decide +kernel
theorem dX0_become_10 : decode cX0_become 10 = .ok (.aload_n 0, 1) := by decide +kernel
theorem dX0_become_11 : decode cX0_become 11 = .ok (.iload_n 1, 1) := by decide +kernel
theorem dX0_become_12 : decode cX0_become 12 = .ok (.iconst 2, 1) := by decide +kernel
theorem dX0_become_13 : decode cX0_become 13 = .ok (.if_icmp .lt 7, 3) := by decide +kernel
theorem dX0_become_16 : decode cX0_become 16 = .ok (.iload_n 3, 1) := by decide +kernel
theorem dX0_become_17 : decode cX0_become 17 = .ok (.goto 4, 3) := by decide +kernel
theorem dX0_become_20 : decode cX0_become 20 = .ok (.iconst 0, 1) := by decide +kernel
theorem dX0_become_21 : decode cX0_become 21 = .ok (.putfield 18, 3) := by decide +kernel
theorem dX0_become_24 : decode cX0_become 24 = .ok (.aload_n 0, 1) := by decide +kernel
theorem dX0_become_25 : decode cX0_become 25 = .ok (.iload_n 1, 1) := by decide +kernel
theorem dX0_become_26 : decode cX0_become 26 = .ok (.iconst 3, 1) := by decide +kernel
theorem dX0_become_27 : decode cX0_become 27 = .ok (.if_icmp .lt 8, 3) := by decide +kernel
theorem dX0_become_30 : decode cX0_become 30 = .ok (.iload 4, 2) := by decide +kernel
theorem dX0_become_32 : decode cX0_become 32 = .ok (.goto 4, 3) := by decide +kernel
theorem dX0_become_35 : decode cX0_become 35 = .ok (.iconst 0, 1) := by decide +kernel
theorem dX0_become_36 : decode cX0_become 36 = .ok (.putfield 21, 3) := by decide +kernel
theorem dX0_become_39 : decode cX0_become 39 = .ok (.aload_n 0, 1) := by decide +kernel
theorem dX0_become_40 : decode cX0_become 40 = .ok (.iload_n 2, 1) := by decide +kernel
theorem dX0_become_41 : decode cX0_become 41 = .ok (.invokestatic 27, 3) := by decide +kernel
theorem dX0_become_44 : decode cX0_become 44 = .ok (.putfield 24, 3) := by decide +kernel
theorem dX0_become_47 : decode cX0_become 47 = .ok (.return_, 1) := by decide +kernel
theorem dX0_need_0 : decode cX0_need 0 = .ok (.aload_n 0, 1) := by decide +kernel
theorem dX0_need_1 : decode cX0_need 1 = .ok (.getfield 9, 3) := by decide +kernel
theorem dX0_need_4 : decode cX0_need 4 = .ok (.ireturn, 1) := by decide +kernel
theorem dX0_h_0 : decode cX0_h 0 = .ok (.aload_n 0, 1) := by decide +kernel
theorem dX0_h_1 : decode cX0_h 1 = .ok (.getfield 24, 3) := by decide +kernel
theorem dX0_h_4 : decode cX0_h 4 = .ok (.ireturn, 1) := by decide +kernel
theorem dX0_part_0 : decode cX0_part 0 = .ok (.aload_n 0, 1) := by decide +kernel
theorem dX0_part_1 : decode cX0_part 1 = .ok (.getfield 15, 3) := by decide +kernel
theorem dX0_part_4 : decode cX0_part 4 = .ok (.aload_n 0, 1) := by decide +kernel
theorem dX0_part_5 : decode cX0_part 5 = .ok (.getfield 18, 3) := by decide +kernel
theorem dX0_part_8 : decode cX0_part 8 = .ok (.iload_n 1, 1) := by decide +kernel
theorem dX0_part_9 : decode cX0_part 9 = .ok (.imul, 1) := by decide +kernel
theorem dX0_part_10 : decode cX0_part 10 = .ok (.iadd, 1) := by decide +kernel
theorem dX0_part_11 : decode cX0_part 11 = .ok (.aload_n 0, 1) := by decide +kernel
theorem dX0_part_12 : decode cX0_part 12 = .ok (.getfield 21, 3) := by decide +kernel
theorem dX0_part_15 : decode cX0_part 15 = .ok (.iload_n 1, 1) := by decide +kernel
theorem dX0_part_16 : decode cX0_part 16 = .ok (.imul, 1) := by decide +kernel
theorem dX0_part_17 : decode cX0_part 17 = .ok (.iload_n 1, 1) := by decide +kernel
theorem dX0_part_18 : decode cX0_part 18 = .ok (.imul, 1) := by decide +kernel
theorem dX0_part_19 : decode cX0_part 19 = .ok (.iadd, 1) := by decide +kernel
theorem dX0_part_20 : decode cX0_part 20 = .ok (.sipush 5003, 3) := by decide +kernel
theorem dX0_part_23 : decode cX0_part 23 = .ok (.irem, 1) := by decide +kernel
theorem dX0_part_24 : decode cX0_part 24 = .ok (.ireturn, 1) := by decide +kernel
set_option maxRecDepth 20000 in
theorem ggX0_sealedB_X2_of : GoodIn wsX0_sealedB wsX2_of := goodIn_r _ [5, 6, 7, 4, 8] (by decide +kernel) (by decide +kernel)
set_option maxRecDepth 20000 in
theorem gX0_sealedB_X2_of : GoodIn wsX0_sealedB (va_wsS RX0 33 yX2_of wsX2_of) := goodIn_app (goodIn_of _ (by decide +kernel)) ggX0_sealedB_X2_of
set_option maxRecDepth 20000 in
theorem ggX0_sealedB_X2_ofG : GoodIn wsX0_sealedB wsX2_ofG := goodIn_r _ [11, 6, 7, 4, 8] (by decide +kernel) (by decide +kernel)
set_option maxRecDepth 20000 in
theorem gX0_sealedB_X2_ofG : GoodIn wsX0_sealedB (va_wsS RX0 27 yX2_ofG wsX2_ofG) := goodIn_app (goodIn_of _ (by decide +kernel)) ggX0_sealedB_X2_ofG
theorem dX0_sealedB_0 : decode cX0_sealedB 0 = .ok (.aload_n 0, 1) := by decide +kernel
theorem dX0_sealedB_1 : decode cX0_sealedB 1 = .ok (.getfield 24, 3) := by decide +kernel
theorem dX0_sealedB_4 : decode cX0_sealedB 4 = .ok (.iload_n 2, 1) := by decide +kernel
theorem dX0_sealedB_5 : decode cX0_sealedB 5 = .ok (.invokestatic 33, 3) := by decide +kernel
theorem dX0_sealedB_8 : decode cX0_sealedB 8 = .ok (.iload_n 1, 1) := by decide +kernel
theorem dX0_sealedB_9 : decode cX0_sealedB 9 = .ok (.invokestatic 27, 3) := by decide +kernel
theorem dX0_sealedB_12 : decode cX0_sealedB 12 = .ok (.imul, 1) := by decide +kernel
theorem dX0_sealedB_13 : decode cX0_sealedB 13 = .ok (.sipush 10007, 3) := by decide +kernel
theorem dX0_sealedB_16 : decode cX0_sealedB 16 = .ok (.irem, 1) := by decide +kernel
theorem dX0_sealedB_17 : decode cX0_sealedB 17 = .ok (.ireturn, 1) := by decide +kernel
set_option maxRecDepth 20000 in
theorem ggX0_share_X0_part : GoodIn wsX0_share wsX0_part := goodIn_r _ [5, 6, 7, 8, 16, 17, 18, 19, 20] (by decide +kernel) (by decide +kernel)
set_option maxRecDepth 20000 in
theorem gX0_share_X0_part : GoodIn wsX0_share (wsV RX0 37 RX0 yX0_part wsX0_part) := goodIn_app (goodIn_of _ (by decide +kernel)) ggX0_share_X0_part
set_option maxRecDepth 20000 in
theorem ggX0_share_X2_of : GoodIn wsX0_share wsX2_of := goodIn_r _ [12, 13, 14, 11, 15] (by decide +kernel) (by decide +kernel)
set_option maxRecDepth 20000 in
theorem gX0_share_X2_of : GoodIn wsX0_share (va_wsS RX0 33 yX2_of wsX2_of) := goodIn_app (goodIn_of _ (by decide +kernel)) ggX0_share_X2_of
theorem dX0_share_0 : decode cX0_share 0 = .ok (.iload_n 2, 1) := by decide +kernel
theorem dX0_share_1 : decode cX0_share 1 = .ok (.aload_n 0, 1) := by decide +kernel
theorem dX0_share_2 : decode cX0_share 2 = .ok (.iload_n 1, 1) := by decide +kernel
theorem dX0_share_3 : decode cX0_share 3 = .ok (.invokevirtual 37, 3) := by decide +kernel
theorem dX0_share_6 : decode cX0_share 6 = .ok (.invokestatic 33, 3) := by decide +kernel
theorem dX0_share_9 : decode cX0_share 9 = .ok (.ireturn, 1) := by decide +kernel
set_option maxRecDepth 20000 in
theorem ggX0_weightIn_X8_isIn : GoodIn wsX0_weightIn wsX8_isIn := goodIn_r _ [3] (by decide +kernel) (by decide +kernel)
set_option maxRecDepth 20000 in
theorem gX0_weightIn_X8_isIn_n40 : GoodIn wsX0_weightIn (wsX8_isIn) := ggX0_weightIn_X8_isIn
set_option maxRecDepth 20000 in
theorem ggX0_weightIn_X2_inverse : GoodIn wsX0_weightIn wsX2_inverse := goodIn_r _ [7, 8, 9, 6, 10] (by decide +kernel) (by decide +kernel)
set_option maxRecDepth 20000 in
theorem gX0_weightIn_X2_inverse : GoodIn wsX0_weightIn (va_wsS RX0 44 yX2_inverse wsX2_inverse) := goodIn_app (goodIn_of _ (by decide +kernel)) ggX0_weightIn_X2_inverse
theorem dX0_weightIn_0 : decode cX0_weightIn 0 = .ok (.iconst 1, 1) := by decide +kernel
theorem dX0_weightIn_1 : decode cX0_weightIn 1 = .ok (.istore_n 2, 1) := by decide +kernel
theorem dX0_weightIn_2 : decode cX0_weightIn 2 = .ok (.iconst 1, 1) := by decide +kernel
theorem dX0_weightIn_3 : decode cX0_weightIn 3 = .ok (.istore_n 3, 1) := by decide +kernel
theorem dX0_weightIn_4 : decode cX0_weightIn 4 = .ok (.iload_n 3, 1) := by decide +kernel
theorem dX0_weightIn_5 : decode cX0_weightIn 5 = .ok (.iconst 5, 1) := by decide +kernel
theorem dX0_weightIn_6 : decode cX0_weightIn 6 = .ok (.if_icmp .gt 48, 3) := by decide +kernel
theorem dX0_weightIn_9 : decode cX0_weightIn 9 = .ok (.iload_n 3, 1) := by decide +kernel
theorem dX0_weightIn_10 : decode cX0_weightIn 10 = .ok (.iload_n 0, 1) := by decide +kernel
theorem dX0_weightIn_11 : decode cX0_weightIn 11 = .ok (.if_icmp .eq 37, 3) := by decide +kernel
theorem dX0_weightIn_14 : decode cX0_weightIn 14 = .ok (.iload_n 3, 1) := by decide +kernel
theorem dX0_weightIn_15 : decode cX0_weightIn 15 = .ok (.iload_n 1, 1) := by decide +kernel
theorem dX0_weightIn_16 : decode cX0_weightIn 16 = .ok (.invokestatic 40, 3) := by decide +kernel
theorem dX0_weightIn_19 : decode cX0_weightIn 19 = .ok (.ifCond .eq 29, 3) := by decide +kernel
theorem dX0_weightIn_22 : decode cX0_weightIn 22 = .ok (.iload_n 2, 1) := by decide +kernel
theorem dX0_weightIn_23 : decode cX0_weightIn 23 = .ok (.iload_n 3, 1) := by decide +kernel
theorem dX0_weightIn_24 : decode cX0_weightIn 24 = .ok (.imul, 1) := by decide +kernel
theorem dX0_weightIn_25 : decode cX0_weightIn 25 = .ok (.sipush 5003, 3) := by decide +kernel
theorem dX0_weightIn_28 : decode cX0_weightIn 28 = .ok (.irem, 1) := by decide +kernel
theorem dX0_weightIn_29 : decode cX0_weightIn 29 = .ok (.iload_n 3, 1) := by decide +kernel
theorem dX0_weightIn_30 : decode cX0_weightIn 30 = .ok (.iload_n 0, 1) := by decide +kernel
theorem dX0_weightIn_31 : decode cX0_weightIn 31 = .ok (.isub, 1) := by decide +kernel
theorem dX0_weightIn_32 : decode cX0_weightIn 32 = .ok (.sipush 5003, 3) := by decide +kernel
theorem dX0_weightIn_35 : decode cX0_weightIn 35 = .ok (.iadd, 1) := by decide +kernel
theorem dX0_weightIn_36 : decode cX0_weightIn 36 = .ok (.sipush 5003, 3) := by decide +kernel
theorem dX0_weightIn_39 : decode cX0_weightIn 39 = .ok (.invokestatic 44, 3) := by decide +kernel
theorem dX0_weightIn_42 : decode cX0_weightIn 42 = .ok (.imul, 1) := by decide +kernel
theorem dX0_weightIn_43 : decode cX0_weightIn 43 = .ok (.sipush 5003, 3) := by decide +kernel
theorem dX0_weightIn_46 : decode cX0_weightIn 46 = .ok (.irem, 1) := by decide +kernel
theorem dX0_weightIn_47 : decode cX0_weightIn 47 = .ok (.istore_n 2, 1) := by decide +kernel
theorem dX0_weightIn_48 : decode cX0_weightIn 48 = .ok (.iinc 3 1, 3) := by decide +kernel
theorem dX0_weightIn_51 : decode cX0_weightIn 51 = .ok (.goto (-47), 3) := by decide +kernel
theorem dX0_weightIn_54 : decode cX0_weightIn 54 = .ok (.iload_n 2, 1) := by decide +kernel
theorem dX0_weightIn_55 : decode cX0_weightIn 55 = .ok (.ireturn, 1) := by decide +kernel
set_option maxRecDepth 20000 in
theorem ggX0_unsealed_X8_isIn : GoodIn wsX0_unsealed wsX8_isIn := goodIn_r _ [3] (by decide +kernel) (by decide +kernel)
set_option maxRecDepth 20000 in
theorem gX0_unsealed_X8_isIn_n40 : GoodIn wsX0_unsealed (wsX8_isIn) := ggX0_unsealed_X8_isIn
set_option maxRecDepth 20000 in
theorem ggX0_unsealed_X0_share : GoodIn wsX0_unsealed wsX0_share := goodIn_r _ [8, 9, 10, 11, 7, 12, 13, 14, 15, 16, 17, 18, 19, 20, 21, 22, 33, 34, 35, 36, 37] (by decide +kernel) (by decide +kernel)
set_option maxRecDepth 20000 in
theorem gX0_unsealed_X0_share : GoodIn wsX0_unsealed (wsV RX0 47 RX0 yX0_share wsX0_share) := goodIn_app (goodIn_of _ (by decide +kernel)) ggX0_unsealed_X0_share
set_option maxRecDepth 20000 in
theorem ggX0_unsealed_X0_weightIn : GoodIn wsX0_unsealed wsX0_weightIn := goodIn_r _ [25, 1, 2, 3, 26, 27, 18, 28, 20, 21, 22] (by decide +kernel) (by decide +kernel)
set_option maxRecDepth 20000 in
theorem gX0_unsealed_X0_weightIn : GoodIn wsX0_unsealed (va_wsS RX0 50 yX0_weightIn wsX0_weightIn) := goodIn_app (goodIn_of _ (by decide +kernel)) ggX0_unsealed_X0_weightIn
set_option maxRecDepth 20000 in
theorem ggX0_unsealed_X2_of : GoodIn wsX0_unsealed wsX2_of := goodIn_r _ [19, 20, 21, 18, 22] (by decide +kernel) (by decide +kernel)
set_option maxRecDepth 20000 in
theorem gX0_unsealed_X2_of : GoodIn wsX0_unsealed (va_wsS RX0 33 yX2_of wsX2_of) := goodIn_app (goodIn_of _ (by decide +kernel)) ggX0_unsealed_X2_of
set_option maxRecDepth 20000 in
theorem ggX0_unsealed_X2_divided : GoodIn wsX0_unsealed wsX2_divided := goodIn_r _ [31, 32, 27, 18, 28, 20, 21, 22] (by decide +kernel) (by decide +kernel)
set_option maxRecDepth 20000 in
theorem gX0_unsealed_X2_divided : GoodIn wsX0_unsealed (va_wsS RX0 53 yX2_divided wsX2_divided) := goodIn_app (goodIn_of _ (by decide +kernel)) ggX0_unsealed_X2_divided
theorem dX0_unsealed_0 : decode cX0_unsealed 0 = .ok (.iconst 1, 1) := by decide +kernel
theorem dX0_unsealed_1 : decode cX0_unsealed 1 = .ok (.istore 4, 2) := by decide +kernel
theorem dX0_unsealed_3 : decode cX0_unsealed 3 = .ok (.iconst 1, 1) := by decide +kernel
theorem dX0_unsealed_4 : decode cX0_unsealed 4 = .ok (.istore 5, 2) := by decide +kernel
theorem dX0_unsealed_6 : decode cX0_unsealed 6 = .ok (.iload 5, 2) := by decide +kernel
theorem dX0_unsealed_8 : decode cX0_unsealed 8 = .ok (.iconst 5, 1) := by decide +kernel
theorem dX0_unsealed_9 : decode cX0_unsealed 9 = .ok (.if_icmp .gt 43, 3) := by decide +kernel
theorem dX0_unsealed_12 : decode cX0_unsealed 12 = .ok (.iload 5, 2) := by decide +kernel
theorem dX0_unsealed_14 : decode cX0_unsealed 14 = .ok (.iload_n 3, 1) := by decide +kernel
theorem dX0_unsealed_15 : decode cX0_unsealed 15 = .ok (.invokestatic 40, 3) := by decide +kernel
theorem dX0_unsealed_18 : decode cX0_unsealed 18 = .ok (.ifCond .eq 28, 3) := by decide +kernel
theorem dX0_unsealed_21 : decode cX0_unsealed 21 = .ok (.iload 4, 2) := by decide +kernel
theorem dX0_unsealed_23 : decode cX0_unsealed 23 = .ok (.aload_n 0, 1) := by decide +kernel
theorem dX0_unsealed_24 : decode cX0_unsealed 24 = .ok (.iload 5, 2) := by decide +kernel
theorem dX0_unsealed_26 : decode cX0_unsealed 26 = .ok (.iload_n 1, 1) := by decide +kernel
theorem dX0_unsealed_27 : decode cX0_unsealed 27 = .ok (.invokevirtual 47, 3) := by decide +kernel
theorem dX0_unsealed_30 : decode cX0_unsealed 30 = .ok (.iload 5, 2) := by decide +kernel
theorem dX0_unsealed_32 : decode cX0_unsealed 32 = .ok (.iload_n 3, 1) := by decide +kernel
theorem dX0_unsealed_33 : decode cX0_unsealed 33 = .ok (.invokestatic 50, 3) := by decide +kernel
theorem dX0_unsealed_36 : decode cX0_unsealed 36 = .ok (.invokestatic 33, 3) := by decide +kernel
theorem dX0_unsealed_39 : decode cX0_unsealed 39 = .ok (.imul, 1) := by decide +kernel
theorem dX0_unsealed_40 : decode cX0_unsealed 40 = .ok (.sipush 10007, 3) := by decide +kernel
theorem dX0_unsealed_43 : decode cX0_unsealed 43 = .ok (.irem, 1) := by decide +kernel
theorem dX0_unsealed_44 : decode cX0_unsealed 44 = .ok (.istore 4, 2) := by decide +kernel
theorem dX0_unsealed_46 : decode cX0_unsealed 46 = .ok (.iinc 5 1, 3) := by decide +kernel
theorem dX0_unsealed_49 : decode cX0_unsealed 49 = .ok (.goto (-43), 3) := by decide +kernel
theorem dX0_unsealed_52 : decode cX0_unsealed 52 = .ok (.iload_n 2, 1) := by decide +kernel
theorem dX0_unsealed_53 : decode cX0_unsealed 53 = .ok (.iload 4, 2) := by decide +kernel
theorem dX0_unsealed_55 : decode cX0_unsealed 55 = .ok (.invokestatic 53, 3) := by decide +kernel
theorem dX0_unsealed_58 : decode cX0_unsealed 58 = .ok (.ireturn, 1) := by decide +kernel
theorem dX1_choose_0 : decode cX1_choose 0 = .ok (.iload_n 1, 1) := by decide +kernel
theorem dX1_choose_1 : decode cX1_choose 1 = .ok (.ifCond .lt 8, 3) := by decide +kernel
theorem dX1_choose_4 : decode cX1_choose 4 = .ok (.iload_n 1, 1) := by decide +kernel
theorem dX1_choose_5 : decode cX1_choose 5 = .ok (.iload_n 0, 1) := by decide +kernel
theorem dX1_choose_6 : decode cX1_choose 6 = .ok (.if_icmp .le 5, 3) := by decide +kernel
theorem dX1_choose_9 : decode cX1_choose 9 = .ok (.lconst 0, 1) := by decide +kernel
theorem dX1_choose_10 : decode cX1_choose 10 = .ok (.lreturn, 1) := by decide +kernel
theorem dX1_choose_11 : decode cX1_choose 11 = .ok (.lconst 1, 1) := by decide +kernel
theorem dX1_choose_12 : decode cX1_choose 12 = .ok (.lstore_n 2, 1) := by decide +kernel
theorem dX1_choose_13 : decode cX1_choose 13 = .ok (.iconst 1, 1) := by decide +kernel
theorem dX1_choose_14 : decode cX1_choose 14 = .ok (.istore 4, 2) := by decide +kernel
theorem dX1_choose_16 : decode cX1_choose 16 = .ok (.iload 4, 2) := by decide +kernel
theorem dX1_choose_18 : decode cX1_choose 18 = .ok (.iload_n 1, 1) := by decide +kernel
theorem dX1_choose_19 : decode cX1_choose 19 = .ok (.if_icmp .gt 23, 3) := by decide +kernel
theorem dX1_choose_22 : decode cX1_choose 22 = .ok (.lload_n 2, 1) := by decide +kernel
theorem dX1_choose_23 : decode cX1_choose 23 = .ok (.iload_n 0, 1) := by decide +kernel
theorem dX1_choose_24 : decode cX1_choose 24 = .ok (.iload_n 1, 1) := by decide +kernel
theorem dX1_choose_25 : decode cX1_choose 25 = .ok (.isub, 1) := by decide +kernel
theorem dX1_choose_26 : decode cX1_choose 26 = .ok (.iload 4, 2) := by decide +kernel
theorem dX1_choose_28 : decode cX1_choose 28 = .ok (.iadd, 1) := by decide +kernel
theorem dX1_choose_29 : decode cX1_choose 29 = .ok (.i2l, 1) := by decide +kernel
theorem dX1_choose_30 : decode cX1_choose 30 = .ok (.lmul, 1) := by decide +kernel
theorem dX1_choose_31 : decode cX1_choose 31 = .ok (.iload 4, 2) := by decide +kernel
theorem dX1_choose_33 : decode cX1_choose 33 = .ok (.i2l, 1) := by decide +kernel
theorem dX1_choose_34 : decode cX1_choose 34 = .ok (.ldiv, 1) := by decide +kernel
theorem dX1_choose_35 : decode cX1_choose 35 = .ok (.lstore_n 2, 1) := by decide +kernel
theorem dX1_choose_36 : decode cX1_choose 36 = .ok (.iinc 4 1, 3) := by decide +kernel
theorem dX1_choose_39 : decode cX1_choose 39 = .ok (.goto (-23), 3) := by decide +kernel
theorem dX1_choose_42 : decode cX1_choose 42 = .ok (.lload_n 2, 1) := by decide +kernel
theorem dX1_choose_43 : decode cX1_choose 43 = .ok (.lreturn, 1) := by decide +kernel
theorem dX1_forOne_0 : decode cX1_forOne 0 = .ok (.iload_n 0, 1) := by decide +kernel
theorem dX1_forOne_1 : decode cX1_forOne 1 = .ok (.iload_n 0, 1) := by decide +kernel
theorem dX1_forOne_2 : decode cX1_forOne 2 = .ok (.iconst 2, 1) := by decide +kernel
theorem dX1_forOne_3 : decode cX1_forOne 3 = .ok (.idiv, 1) := by decide +kernel
theorem dX1_forOne_4 : decode cX1_forOne 4 = .ok (.isub, 1) := by decide +kernel
theorem dX1_forOne_5 : decode cX1_forOne 5 = .ok (.ireturn, 1) := by decide +kernel
set_option maxRecDepth 20000 in
theorem ggX1_waysForOne_X1_forOne : GoodIn wsX1_waysForOne wsX1_forOne := goodIn_r _ [4] (by decide +kernel) (by decide +kernel)
set_option maxRecDepth 20000 in
theorem gX1_waysForOne_X1_forOne : GoodIn wsX1_waysForOne (va_wsS RX1 9 yX1_forOne wsX1_forOne) := goodIn_app (goodIn_of _ (by decide +kernel)) ggX1_waysForOne_X1_forOne
set_option maxRecDepth 20000 in
theorem ggX1_waysForOne_X1_choose : GoodIn wsX1_waysForOne wsX1_choose := goodIn_r _ [7] (by decide +kernel) (by decide +kernel)
set_option maxRecDepth 20000 in
theorem gX1_waysForOne_X1_choose : GoodIn wsX1_waysForOne (va_wsS RX1 15 yX1_choose wsX1_choose) := goodIn_app (goodIn_of _ (by decide +kernel)) ggX1_waysForOne_X1_choose
theorem dX1_waysForOne_0 : decode cX1_waysForOne 0 = .ok (.lconst 0, 1) := by decide +kernel
theorem dX1_waysForOne_1 : decode cX1_waysForOne 1 = .ok (.lstore_n 3, 1) := by decide +kernel
theorem dX1_waysForOne_2 : decode cX1_waysForOne 2 = .ok (.iload_n 2, 1) := by decide +kernel
theorem dX1_waysForOne_3 : decode cX1_waysForOne 3 = .ok (.istore 5, 2) := by decide +kernel
theorem dX1_waysForOne_5 : decode cX1_waysForOne 5 = .ok (.iload 5, 2) := by decide +kernel
theorem dX1_waysForOne_7 : decode cX1_waysForOne 7 = .ok (.iload_n 1, 1) := by decide +kernel
theorem dX1_waysForOne_8 : decode cX1_waysForOne 8 = .ok (.if_icmp .gt 32, 3) := by decide +kernel
theorem dX1_waysForOne_11 : decode cX1_waysForOne 11 = .ok (.lload_n 3, 1) := by decide +kernel
theorem dX1_waysForOne_12 : decode cX1_waysForOne 12 = .ok (.iload_n 0, 1) := by decide +kernel
theorem dX1_waysForOne_13 : decode cX1_waysForOne 13 = .ok (.invokestatic 9, 3) := by decide +kernel
theorem dX1_waysForOne_16 : decode cX1_waysForOne 16 = .ok (.iload 5, 2) := by decide +kernel
theorem dX1_waysForOne_18 : decode cX1_waysForOne 18 = .ok (.invokestatic 15, 3) := by decide +kernel
theorem dX1_waysForOne_21 : decode cX1_waysForOne 21 = .ok (.iload_n 0, 1) := by decide +kernel
theorem dX1_waysForOne_22 : decode cX1_waysForOne 22 = .ok (.iconst 2, 1) := by decide +kernel
theorem dX1_waysForOne_23 : decode cX1_waysForOne 23 = .ok (.idiv, 1) := by decide +kernel
theorem dX1_waysForOne_24 : decode cX1_waysForOne 24 = .ok (.iload_n 1, 1) := by decide +kernel
theorem dX1_waysForOne_25 : decode cX1_waysForOne 25 = .ok (.iload 5, 2) := by decide +kernel
theorem dX1_waysForOne_27 : decode cX1_waysForOne 27 = .ok (.isub, 1) := by decide +kernel
theorem dX1_waysForOne_28 : decode cX1_waysForOne 28 = .ok (.invokestatic 15, 3) := by decide +kernel
theorem dX1_waysForOne_31 : decode cX1_waysForOne 31 = .ok (.lmul, 1) := by decide +kernel
theorem dX1_waysForOne_32 : decode cX1_waysForOne 32 = .ok (.ladd, 1) := by decide +kernel
theorem dX1_waysForOne_33 : decode cX1_waysForOne 33 = .ok (.lstore_n 3, 1) := by decide +kernel
theorem dX1_waysForOne_34 : decode cX1_waysForOne 34 = .ok (.iinc 5 1, 3) := by decide +kernel
theorem dX1_waysForOne_37 : decode cX1_waysForOne 37 = .ok (.goto (-32), 3) := by decide +kernel
theorem dX1_waysForOne_40 : decode cX1_waysForOne 40 = .ok (.lload_n 3, 1) := by decide +kernel
theorem dX1_waysForOne_41 : decode cX1_waysForOne 41 = .ok (.lreturn, 1) := by decide +kernel
set_option maxRecDepth 20000 in
theorem ggX1_leastDrawn_X1_choose : GoodIn wsX1_leastDrawn wsX1_choose := goodIn_r _ [5] (by decide +kernel) (by decide +kernel)
set_option maxRecDepth 20000 in
theorem gX1_leastDrawn_X1_choose : GoodIn wsX1_leastDrawn (va_wsS RX1 15 yX1_choose wsX1_choose) := goodIn_app (goodIn_of _ (by decide +kernel)) ggX1_leastDrawn_X1_choose
theorem dX1_leastDrawn_0 : decode cX1_leastDrawn 0 = .ok (.iload_n 2, 1) := by decide +kernel
theorem dX1_leastDrawn_1 : decode cX1_leastDrawn 1 = .ok (.istore 4, 2) := by decide +kernel
theorem dX1_leastDrawn_3 : decode cX1_leastDrawn 3 = .ok (.iload 4, 2) := by decide +kernel
theorem dX1_leastDrawn_5 : decode cX1_leastDrawn 5 = .ok (.iload_n 1, 1) := by decide +kernel
theorem dX1_leastDrawn_6 : decode cX1_leastDrawn 6 = .ok (.if_icmp .gt 35, 3) := by decide +kernel
theorem dX1_leastDrawn_9 : decode cX1_leastDrawn 9 = .ok (.iload_n 0, 1) := by decide +kernel
theorem dX1_leastDrawn_10 : decode cX1_leastDrawn 10 = .ok (.iload 4, 2) := by decide +kernel
theorem dX1_leastDrawn_12 : decode cX1_leastDrawn 12 = .ok (.invokestatic 15, 3) := by decide +kernel
theorem dX1_leastDrawn_15 : decode cX1_leastDrawn 15 = .ok (.ldc2_w 19, 3) := by decide +kernel
theorem dX1_leastDrawn_18 : decode cX1_leastDrawn 18 = .ok (.lmul, 1) := by decide +kernel
theorem dX1_leastDrawn_19 : decode cX1_leastDrawn 19 = .ok (.iload_n 1, 1) := by decide +kernel
theorem dX1_leastDrawn_20 : decode cX1_leastDrawn 20 = .ok (.iload 4, 2) := by decide +kernel
theorem dX1_leastDrawn_22 : decode cX1_leastDrawn 22 = .ok (.invokestatic 15, 3) := by decide +kernel
theorem dX1_leastDrawn_25 : decode cX1_leastDrawn 25 = .ok (.iload_n 3, 1) := by decide +kernel
theorem dX1_leastDrawn_26 : decode cX1_leastDrawn 26 = .ok (.i2l, 1) := by decide +kernel
theorem dX1_leastDrawn_27 : decode cX1_leastDrawn 27 = .ok (.lmul, 1) := by decide +kernel
theorem dX1_leastDrawn_28 : decode cX1_leastDrawn 28 = .ok (.lcmp, 1) := by decide +kernel
theorem dX1_leastDrawn_29 : decode cX1_leastDrawn 29 = .ok (.ifCond .gt 6, 3) := by decide +kernel
theorem dX1_leastDrawn_32 : decode cX1_leastDrawn 32 = .ok (.iload 4, 2) := by decide +kernel
theorem dX1_leastDrawn_34 : decode cX1_leastDrawn 34 = .ok (.ireturn, 1) := by decide +kernel
theorem dX1_leastDrawn_35 : decode cX1_leastDrawn 35 = .ok (.iinc 4 1, 3) := by decide +kernel
theorem dX1_leastDrawn_38 : decode cX1_leastDrawn 38 = .ok (.goto (-35), 3) := by decide +kernel
theorem dX1_leastDrawn_41 : decode cX1_leastDrawn 41 = .ok (.bipush (-6), 2) := by decide +kernel
theorem dX1_leastDrawn_43 : decode cX1_leastDrawn 43 = .ok (.ireturn, 1) := by decide +kernel
theorem dX1_slipDrawn_0 : decode cX1_slipDrawn 0 = .ok (.iload_n 1, 1) := by decide +kernel
theorem dX1_slipDrawn_1 : decode cX1_slipDrawn 1 = .ok (.ifCond .gt 6, 3) := by decide +kernel
theorem dX1_slipDrawn_4 : decode cX1_slipDrawn 4 = .ok (.bipush (-6), 2) := by decide +kernel
theorem dX1_slipDrawn_6 : decode cX1_slipDrawn 6 = .ok (.ireturn, 1) := by decide +kernel
theorem dX1_slipDrawn_7 : decode cX1_slipDrawn 7 = .ok (.iload_n 0, 1) := by decide +kernel
theorem dX1_slipDrawn_8 : decode cX1_slipDrawn 8 = .ok (.i2l, 1) := by decide +kernel
theorem dX1_slipDrawn_9 : decode cX1_slipDrawn 9 = .ok (.lstore_n 3, 1) := by decide +kernel
theorem dX1_slipDrawn_10 : decode cX1_slipDrawn 10 = .ok (.iconst 0, 1) := by decide +kernel
theorem dX1_slipDrawn_11 : decode cX1_slipDrawn 11 = .ok (.istore 5, 2) := by decide +kernel
theorem dX1_slipDrawn_13 : decode cX1_slipDrawn 13 = .ok (.iload 5, 2) := by decide +kernel
theorem dX1_slipDrawn_15 : decode cX1_slipDrawn 15 = .ok (.iload_n 2, 1) := by decide +kernel
theorem dX1_slipDrawn_16 : decode cX1_slipDrawn 16 = .ok (.if_icmp .ge 19, 3) := by decide +kernel
theorem dX1_slipDrawn_19 : decode cX1_slipDrawn 19 = .ok (.lload_n 3, 1) := by decide +kernel
theorem dX1_slipDrawn_20 : decode cX1_slipDrawn 20 = .ok (.ldc2_w 21, 3) := by decide +kernel
theorem dX1_slipDrawn_23 : decode cX1_slipDrawn 23 = .ok (.lmul, 1) := by decide +kernel
theorem dX1_slipDrawn_24 : decode cX1_slipDrawn 24 = .ok (.ldc2_w 23, 3) := by decide +kernel
theorem dX1_slipDrawn_27 : decode cX1_slipDrawn 27 = .ok (.lrem, 1) := by decide +kernel
theorem dX1_slipDrawn_28 : decode cX1_slipDrawn 28 = .ok (.lstore_n 3, 1) := by decide +kernel
theorem dX1_slipDrawn_29 : decode cX1_slipDrawn 29 = .ok (.iinc 5 1, 3) := by decide +kernel
theorem dX1_slipDrawn_32 : decode cX1_slipDrawn 32 = .ok (.goto (-19), 3) := by decide +kernel
theorem dX1_slipDrawn_35 : decode cX1_slipDrawn 35 = .ok (.lload_n 3, 1) := by decide +kernel
theorem dX1_slipDrawn_36 : decode cX1_slipDrawn 36 = .ok (.iload_n 1, 1) := by decide +kernel
theorem dX1_slipDrawn_37 : decode cX1_slipDrawn 37 = .ok (.i2l, 1) := by decide +kernel
theorem dX1_slipDrawn_38 : decode cX1_slipDrawn 38 = .ok (.lrem, 1) := by decide +kernel
theorem dX1_slipDrawn_39 : decode cX1_slipDrawn 39 = .ok (.l2i, 1) := by decide +kernel
theorem dX1_slipDrawn_40 : decode cX1_slipDrawn 40 = .ok (.ireturn, 1) := by decide +kernel
set_option maxRecDepth 20000 in
theorem ggX1_inLowestTerms_X1_greatestShared : GoodIn wsX1_inLowestTerms wsX1_greatestShared := goodIn_r _ [4] (by decide +kernel) (by decide +kernel)
set_option maxRecDepth 20000 in
theorem gX1_inLowestTerms_X1_greatestShared : GoodIn wsX1_inLowestTerms (va_wsS RX1 25 yX1_greatestShared wsX1_greatestShared) := goodIn_app (goodIn_of _ (by decide +kernel)) ggX1_inLowestTerms_X1_greatestShared
theorem dX1_inLowestTerms_0 : decode cX1_inLowestTerms 0 = .ok (.lload_n 0, 1) := by decide +kernel
theorem dX1_inLowestTerms_1 : decode cX1_inLowestTerms 1 = .ok (.lconst 0, 1) := by decide +kernel
theorem dX1_inLowestTerms_2 : decode cX1_inLowestTerms 2 = .ok (.lcmp, 1) := by decide +kernel
theorem dX1_inLowestTerms_3 : decode cX1_inLowestTerms 3 = .ok (.ifCond .ne 14, 3) := by decide +kernel
theorem dX1_inLowestTerms_6 : decode cX1_inLowestTerms 6 = .ok (.iload 4, 2) := by decide +kernel
theorem dX1_inLowestTerms_8 : decode cX1_inLowestTerms 8 = .ok (.ifCond .ne 7, 3) := by decide +kernel
theorem dX1_inLowestTerms_11 : decode cX1_inLowestTerms 11 = .ok (.lconst 0, 1) := by decide +kernel
theorem dX1_inLowestTerms_12 : decode cX1_inLowestTerms 12 = .ok (.goto 4, 3) := by decide +kernel
theorem dX1_inLowestTerms_15 : decode cX1_inLowestTerms 15 = .ok (.lconst 1, 1) := by decide +kernel
theorem dX1_inLowestTerms_16 : decode cX1_inLowestTerms 16 = .ok (.lreturn, 1) := by decide +kernel
theorem dX1_inLowestTerms_17 : decode cX1_inLowestTerms 17 = .ok (.lload_n 0, 1) := by decide +kernel
theorem dX1_inLowestTerms_18 : decode cX1_inLowestTerms 18 = .ok (.lload_n 2, 1) := by decide +kernel
theorem dX1_inLowestTerms_19 : decode cX1_inLowestTerms 19 = .ok (.invokestatic 25, 3) := by decide +kernel
theorem dX1_inLowestTerms_22 : decode cX1_inLowestTerms 22 = .ok (.lstore 5, 2) := by decide +kernel
theorem dX1_inLowestTerms_24 : decode cX1_inLowestTerms 24 = .ok (.lload 5, 2) := by decide +kernel
theorem dX1_inLowestTerms_26 : decode cX1_inLowestTerms 26 = .ok (.lconst 0, 1) := by decide +kernel
theorem dX1_inLowestTerms_27 : decode cX1_inLowestTerms 27 = .ok (.lcmp, 1) := by decide +kernel
theorem dX1_inLowestTerms_28 : decode cX1_inLowestTerms 28 = .ok (.ifCond .ne 5, 3) := by decide +kernel
theorem dX1_inLowestTerms_31 : decode cX1_inLowestTerms 31 = .ok (.lconst 0, 1) := by decide +kernel
theorem dX1_inLowestTerms_32 : decode cX1_inLowestTerms 32 = .ok (.lreturn, 1) := by decide +kernel
theorem dX1_inLowestTerms_33 : decode cX1_inLowestTerms 33 = .ok (.iload 4, 2) := by decide +kernel
theorem dX1_inLowestTerms_35 : decode cX1_inLowestTerms 35 = .ok (.ifCond .ne 10, 3) := by decide +kernel
theorem dX1_inLowestTerms_38 : decode cX1_inLowestTerms 38 = .ok (.lload_n 0, 1) := by decide +kernel
theorem dX1_inLowestTerms_39 : decode cX1_inLowestTerms 39 = .ok (.lload 5, 2) := by decide +kernel
theorem dX1_inLowestTerms_41 : decode cX1_inLowestTerms 41 = .ok (.ldiv, 1) := by decide +kernel
theorem dX1_inLowestTerms_42 : decode cX1_inLowestTerms 42 = .ok (.goto 7, 3) := by decide +kernel
theorem dX1_inLowestTerms_45 : decode cX1_inLowestTerms 45 = .ok (.lload_n 2, 1) := by decide +kernel
theorem dX1_inLowestTerms_46 : decode cX1_inLowestTerms 46 = .ok (.lload 5, 2) := by decide +kernel
theorem dX1_inLowestTerms_48 : decode cX1_inLowestTerms 48 = .ok (.ldiv, 1) := by decide +kernel
theorem dX1_inLowestTerms_49 : decode cX1_inLowestTerms 49 = .ok (.lreturn, 1) := by decide +kernel
theorem dX1_greatestShared_0 : decode cX1_greatestShared 0 = .ok (.lload_n 0, 1) := by decide +kernel
theorem dX1_greatestShared_1 : decode cX1_greatestShared 1 = .ok (.lstore 4, 2) := by decide +kernel
theorem dX1_greatestShared_3 : decode cX1_greatestShared 3 = .ok (.lload_n 2, 1) := by decide +kernel
theorem dX1_greatestShared_4 : decode cX1_greatestShared 4 = .ok (.lstore 6, 2) := by decide +kernel
theorem dX1_greatestShared_6 : decode cX1_greatestShared 6 = .ok (.iconst 0, 1) := by decide +kernel
theorem dX1_greatestShared_7 : decode cX1_greatestShared 7 = .ok (.istore 8, 2) := by decide +kernel
theorem dX1_greatestShared_9 : decode cX1_greatestShared 9 = .ok (.iload 8, 2) := by decide +kernel
theorem dX1_greatestShared_11 : decode cX1_greatestShared 11 = .ok (.bipush 100, 2) := by decide +kernel
theorem dX1_greatestShared_13 : decode cX1_greatestShared 13 = .ok (.if_icmp .ge 31, 3) := by decide +kernel
theorem dX1_greatestShared_16 : decode cX1_greatestShared 16 = .ok (.lload 6, 2) := by decide +kernel
theorem dX1_greatestShared_18 : decode cX1_greatestShared 18 = .ok (.lconst 0, 1) := by decide +kernel
theorem dX1_greatestShared_19 : decode cX1_greatestShared 19 = .ok (.lcmp, 1) := by decide +kernel
theorem dX1_greatestShared_20 : decode cX1_greatestShared 20 = .ok (.ifCond .eq 24, 3) := by decide +kernel
theorem dX1_greatestShared_23 : decode cX1_greatestShared 23 = .ok (.lload 4, 2) := by decide +kernel
theorem dX1_greatestShared_25 : decode cX1_greatestShared 25 = .ok (.lload 6, 2) := by decide +kernel
theorem dX1_greatestShared_27 : decode cX1_greatestShared 27 = .ok (.lrem, 1) := by decide +kernel
theorem dX1_greatestShared_28 : decode cX1_greatestShared 28 = .ok (.lstore 9, 2) := by decide +kernel
theorem dX1_greatestShared_30 : decode cX1_greatestShared 30 = .ok (.lload 6, 2) := by decide +kernel
theorem dX1_greatestShared_32 : decode cX1_greatestShared 32 = .ok (.lstore 4, 2) := by decide +kernel
theorem dX1_greatestShared_34 : decode cX1_greatestShared 34 = .ok (.lload 9, 2) := by decide +kernel
theorem dX1_greatestShared_36 : decode cX1_greatestShared 36 = .ok (.lstore 6, 2) := by decide +kernel
theorem dX1_greatestShared_38 : decode cX1_greatestShared 38 = .ok (.iinc 8 1, 3) := by decide +kernel
theorem dX1_greatestShared_41 : decode cX1_greatestShared 41 = .ok (.goto (-32), 3) := by decide +kernel
theorem dX1_greatestShared_44 : decode cX1_greatestShared 44 = .ok (.lload 4, 2) := by decide +kernel
theorem dX1_greatestShared_46 : decode cX1_greatestShared 46 = .ok (.lreturn, 1) := by decide +kernel
theorem dX2_power_0 : decode cX2_power 0 = .ok (.iload_n 2, 1) := by decide +kernel
theorem dX2_power_1 : decode cX2_power 1 = .ok (.ifCond .gt 5, 3) := by decide +kernel
theorem dX2_power_4 : decode cX2_power 4 = .ok (.iconst 0, 1) := by decide +kernel
theorem dX2_power_5 : decode cX2_power 5 = .ok (.ireturn, 1) := by decide +kernel
theorem dX2_power_6 : decode cX2_power 6 = .ok (.iconst 1, 1) := by decide +kernel
theorem dX2_power_7 : decode cX2_power 7 = .ok (.istore_n 3, 1) := by decide +kernel
theorem dX2_power_8 : decode cX2_power 8 = .ok (.iload_n 0, 1) := by decide +kernel
theorem dX2_power_9 : decode cX2_power 9 = .ok (.iload_n 2, 1) := by decide +kernel
theorem dX2_power_10 : decode cX2_power 10 = .ok (.irem, 1) := by decide +kernel
theorem dX2_power_11 : decode cX2_power 11 = .ok (.istore 4, 2) := by decide +kernel
theorem dX2_power_13 : decode cX2_power 13 = .ok (.iconst 0, 1) := by decide +kernel
theorem dX2_power_14 : decode cX2_power 14 = .ok (.istore 5, 2) := by decide +kernel
theorem dX2_power_16 : decode cX2_power 16 = .ok (.iload 5, 2) := by decide +kernel
theorem dX2_power_18 : decode cX2_power 18 = .ok (.bipush 14, 2) := by decide +kernel
theorem dX2_power_20 : decode cX2_power 20 = .ok (.if_icmp .ge 35, 3) := by decide +kernel
theorem dX2_power_23 : decode cX2_power 23 = .ok (.iload_n 1, 1) := by decide +kernel
theorem dX2_power_24 : decode cX2_power 24 = .ok (.iload 5, 2) := by decide +kernel
theorem dX2_power_26 : decode cX2_power 26 = .ok (.ishr, 1) := by decide +kernel
theorem dX2_power_27 : decode cX2_power 27 = .ok (.iconst 1, 1) := by decide +kernel
theorem dX2_power_28 : decode cX2_power 28 = .ok (.iand, 1) := by decide +kernel
theorem dX2_power_29 : decode cX2_power 29 = .ok (.iconst 1, 1) := by decide +kernel
theorem dX2_power_30 : decode cX2_power 30 = .ok (.if_icmp .ne 10, 3) := by decide +kernel
theorem dX2_power_33 : decode cX2_power 33 = .ok (.iload_n 3, 1) := by decide +kernel
theorem dX2_power_34 : decode cX2_power 34 = .ok (.iload 4, 2) := by decide +kernel
theorem dX2_power_36 : decode cX2_power 36 = .ok (.imul, 1) := by decide +kernel
theorem dX2_power_37 : decode cX2_power 37 = .ok (.iload_n 2, 1) := by decide +kernel
theorem dX2_power_38 : decode cX2_power 38 = .ok (.irem, 1) := by decide +kernel
theorem dX2_power_39 : decode cX2_power 39 = .ok (.istore_n 3, 1) := by decide +kernel
theorem dX2_power_40 : decode cX2_power 40 = .ok (.iload 4, 2) := by decide +kernel
theorem dX2_power_42 : decode cX2_power 42 = .ok (.iload 4, 2) := by decide +kernel
theorem dX2_power_44 : decode cX2_power 44 = .ok (.imul, 1) := by decide +kernel
theorem dX2_power_45 : decode cX2_power 45 = .ok (.iload_n 2, 1) := by decide +kernel
theorem dX2_power_46 : decode cX2_power 46 = .ok (.irem, 1) := by decide +kernel
theorem dX2_power_47 : decode cX2_power 47 = .ok (.istore 4, 2) := by decide +kernel
theorem dX2_power_49 : decode cX2_power 49 = .ok (.iinc 5 1, 3) := by decide +kernel
theorem dX2_power_52 : decode cX2_power 52 = .ok (.goto (-36), 3) := by decide +kernel
theorem dX2_power_55 : decode cX2_power 55 = .ok (.iload_n 3, 1) := by decide +kernel
theorem dX2_power_56 : decode cX2_power 56 = .ok (.ireturn, 1) := by decide +kernel
set_option maxRecDepth 20000 in
theorem ggX2_of_X2_power : GoodIn wsX2_of wsX2_power := goodIn_r _ [4] (by decide +kernel) (by decide +kernel)
set_option maxRecDepth 20000 in
theorem gX2_of_X2_power : GoodIn wsX2_of (va_wsS RX2 11 yX2_power wsX2_power) := goodIn_app (goodIn_of _ (by decide +kernel)) ggX2_of_X2_power
theorem dX2_of_0 : decode cX2_of 0 = .ok (.iload_n 0, 1) := by decide +kernel
theorem dX2_of_1 : decode cX2_of 1 = .ok (.iload_n 1, 1) := by decide +kernel
theorem dX2_of_2 : decode cX2_of 2 = .ok (.sipush 10007, 3) := by decide +kernel
theorem dX2_of_5 : decode cX2_of 5 = .ok (.invokestatic 11, 3) := by decide +kernel
theorem dX2_of_8 : decode cX2_of 8 = .ok (.ireturn, 1) := by decide +kernel
set_option maxRecDepth 20000 in
theorem ggX2_ofG_X2_power : GoodIn wsX2_ofG wsX2_power := goodIn_r _ [4] (by decide +kernel) (by decide +kernel)
set_option maxRecDepth 20000 in
theorem gX2_ofG_X2_power : GoodIn wsX2_ofG (va_wsS RX2 11 yX2_power wsX2_power) := goodIn_app (goodIn_of _ (by decide +kernel)) ggX2_ofG_X2_power
theorem dX2_ofG_0 : decode cX2_ofG 0 = .ok (.iconst 4, 1) := by decide +kernel
theorem dX2_ofG_1 : decode cX2_ofG 1 = .ok (.iload_n 0, 1) := by decide +kernel
theorem dX2_ofG_2 : decode cX2_ofG 2 = .ok (.sipush 10007, 3) := by decide +kernel
theorem dX2_ofG_5 : decode cX2_ofG 5 = .ok (.invokestatic 11, 3) := by decide +kernel
theorem dX2_ofG_8 : decode cX2_ofG 8 = .ok (.ireturn, 1) := by decide +kernel
set_option maxRecDepth 20000 in
theorem ggX2_inverse_X2_power : GoodIn wsX2_inverse wsX2_power := goodIn_r _ [4] (by decide +kernel) (by decide +kernel)
set_option maxRecDepth 20000 in
theorem gX2_inverse_X2_power : GoodIn wsX2_inverse (va_wsS RX2 11 yX2_power wsX2_power) := goodIn_app (goodIn_of _ (by decide +kernel)) ggX2_inverse_X2_power
theorem dX2_inverse_0 : decode cX2_inverse 0 = .ok (.iload_n 0, 1) := by decide +kernel
theorem dX2_inverse_1 : decode cX2_inverse 1 = .ok (.iload_n 1, 1) := by decide +kernel
theorem dX2_inverse_2 : decode cX2_inverse 2 = .ok (.iconst 2, 1) := by decide +kernel
theorem dX2_inverse_3 : decode cX2_inverse 3 = .ok (.isub, 1) := by decide +kernel
theorem dX2_inverse_4 : decode cX2_inverse 4 = .ok (.iload_n 1, 1) := by decide +kernel
theorem dX2_inverse_5 : decode cX2_inverse 5 = .ok (.invokestatic 11, 3) := by decide +kernel
theorem dX2_inverse_8 : decode cX2_inverse 8 = .ok (.ireturn, 1) := by decide +kernel
set_option maxRecDepth 20000 in
theorem ggX2_divided_X2_inverse : GoodIn wsX2_divided wsX2_inverse := goodIn_r _ [4, 5, 6, 3, 7] (by decide +kernel) (by decide +kernel)
set_option maxRecDepth 20000 in
theorem gX2_divided_X2_inverse : GoodIn wsX2_divided (va_wsS RX2 15 yX2_inverse wsX2_inverse) := goodIn_app (goodIn_of _ (by decide +kernel)) ggX2_divided_X2_inverse
theorem dX2_divided_0 : decode cX2_divided 0 = .ok (.iload_n 0, 1) := by decide +kernel
theorem dX2_divided_1 : decode cX2_divided 1 = .ok (.iload_n 1, 1) := by decide +kernel
theorem dX2_divided_2 : decode cX2_divided 2 = .ok (.sipush 10007, 3) := by decide +kernel
theorem dX2_divided_5 : decode cX2_divided 5 = .ok (.invokestatic 15, 3) := by decide +kernel
theorem dX2_divided_8 : decode cX2_divided 8 = .ok (.imul, 1) := by decide +kernel
theorem dX2_divided_9 : decode cX2_divided 9 = .ok (.sipush 10007, 3) := by decide +kernel
theorem dX2_divided_12 : decode cX2_divided 12 = .ok (.irem, 1) := by decide +kernel
theorem dX2_divided_13 : decode cX2_divided 13 = .ok (.ireturn, 1) := by decide +kernel
set_option maxRecDepth 20000 in
theorem ggX2_isRight_X8_isResidue : GoodIn wsX2_isRight wsX8_isResidue := goodIn_r _ [3, 4, 5, 2, 6] (by decide +kernel) (by decide +kernel)
set_option maxRecDepth 20000 in
theorem gX2_isRight_X8_isResidue_n19 : GoodIn wsX2_isRight (wsX8_isResidue) := ggX2_isRight_X8_isResidue
set_option maxRecDepth 20000 in
theorem ggX2_isRight_X2_of : GoodIn wsX2_isRight wsX2_of := goodIn_r _ [10, 11, 12, 9, 13] (by decide +kernel) (by decide +kernel)
set_option maxRecDepth 20000 in
theorem gX2_isRight_X2_of : GoodIn wsX2_isRight (va_wsS RX2 23 yX2_of wsX2_of) := goodIn_app (goodIn_of _ (by decide +kernel)) ggX2_isRight_X2_of
theorem dX2_isRight_0 : decode cX2_isRight 0 = .ok (.iload_n 0, 1) := by decide +kernel
theorem dX2_isRight_1 : decode cX2_isRight 1 = .ok (.invokestatic 19, 3) := by decide +kernel
theorem dX2_isRight_4 : decode cX2_isRight 4 = .ok (.ifCond .eq 36, 3) := by decide +kernel
theorem dX2_isRight_7 : decode cX2_isRight 7 = .ok (.iload_n 1, 1) := by decide +kernel
theorem dX2_isRight_8 : decode cX2_isRight 8 = .ok (.invokestatic 19, 3) := by decide +kernel
theorem dX2_isRight_11 : decode cX2_isRight 11 = .ok (.ifCond .eq 29, 3) := by decide +kernel
theorem dX2_isRight_14 : decode cX2_isRight 14 = .ok (.iload_n 0, 1) := by decide +kernel
theorem dX2_isRight_15 : decode cX2_isRight 15 = .ok (.sipush 5003, 3) := by decide +kernel
theorem dX2_isRight_18 : decode cX2_isRight 18 = .ok (.invokestatic 23, 3) := by decide +kernel
theorem dX2_isRight_21 : decode cX2_isRight 21 = .ok (.iconst 1, 1) := by decide +kernel
theorem dX2_isRight_22 : decode cX2_isRight 22 = .ok (.if_icmp .ne 18, 3) := by decide +kernel
theorem dX2_isRight_25 : decode cX2_isRight 25 = .ok (.iload_n 1, 1) := by decide +kernel
theorem dX2_isRight_26 : decode cX2_isRight 26 = .ok (.sipush 5003, 3) := by decide +kernel
theorem dX2_isRight_29 : decode cX2_isRight 29 = .ok (.invokestatic 23, 3) := by decide +kernel
theorem dX2_isRight_32 : decode cX2_isRight 32 = .ok (.iconst 1, 1) := by decide +kernel
theorem dX2_isRight_33 : decode cX2_isRight 33 = .ok (.if_icmp .ne 7, 3) := by decide +kernel
theorem dX2_isRight_36 : decode cX2_isRight 36 = .ok (.iconst 1, 1) := by decide +kernel
theorem dX2_isRight_37 : decode cX2_isRight 37 = .ok (.goto 4, 3) := by decide +kernel
theorem dX2_isRight_40 : decode cX2_isRight 40 = .ok (.iconst 0, 1) := by decide +kernel
theorem dX2_isRight_41 : decode cX2_isRight 41 = .ok (.ireturn, 1) := by decide +kernel
theorem dX2_exponentOf_0 : decode cX2_exponentOf 0 = .ok (.iconst 1, 1) := by decide +kernel
theorem dX2_exponentOf_1 : decode cX2_exponentOf 1 = .ok (.istore_n 1, 1) := by decide +kernel
theorem dX2_exponentOf_2 : decode cX2_exponentOf 2 = .ok (.iconst 0, 1) := by decide +kernel
theorem dX2_exponentOf_3 : decode cX2_exponentOf 3 = .ok (.istore_n 2, 1) := by decide +kernel
theorem dX2_exponentOf_4 : decode cX2_exponentOf 4 = .ok (.iload_n 2, 1) := by decide +kernel
theorem dX2_exponentOf_5 : decode cX2_exponentOf 5 = .ok (.sipush 200, 3) := by decide +kernel
theorem dX2_exponentOf_8 : decode cX2_exponentOf 8 = .ok (.if_icmp .gt 24, 3) := by decide +kernel
theorem dX2_exponentOf_11 : decode cX2_exponentOf 11 = .ok (.iload_n 1, 1) := by decide +kernel
theorem dX2_exponentOf_12 : decode cX2_exponentOf 12 = .ok (.iload_n 0, 1) := by decide +kernel
theorem dX2_exponentOf_13 : decode cX2_exponentOf 13 = .ok (.if_icmp .ne 5, 3) := by decide +kernel
theorem dX2_exponentOf_16 : decode cX2_exponentOf 16 = .ok (.iload_n 2, 1) := by decide +kernel
theorem dX2_exponentOf_17 : decode cX2_exponentOf 17 = .ok (.ireturn, 1) := by decide +kernel
theorem dX2_exponentOf_18 : decode cX2_exponentOf 18 = .ok (.iload_n 1, 1) := by decide +kernel
theorem dX2_exponentOf_19 : decode cX2_exponentOf 19 = .ok (.iconst 4, 1) := by decide +kernel
theorem dX2_exponentOf_20 : decode cX2_exponentOf 20 = .ok (.imul, 1) := by decide +kernel
theorem dX2_exponentOf_21 : decode cX2_exponentOf 21 = .ok (.sipush 10007, 3) := by decide +kernel
theorem dX2_exponentOf_24 : decode cX2_exponentOf 24 = .ok (.irem, 1) := by decide +kernel
theorem dX2_exponentOf_25 : decode cX2_exponentOf 25 = .ok (.istore_n 1, 1) := by decide +kernel
theorem dX2_exponentOf_26 : decode cX2_exponentOf 26 = .ok (.iinc 2 1, 3) := by decide +kernel
theorem dX2_exponentOf_29 : decode cX2_exponentOf 29 = .ok (.goto (-25), 3) := by decide +kernel
theorem dX2_exponentOf_32 : decode cX2_exponentOf 32 = .ok (.bipush (-6), 2) := by decide +kernel
theorem dX2_exponentOf_34 : decode cX2_exponentOf 34 = .ok (.ireturn, 1) := by decide +kernel
theorem dX3_init_0 : decode cX3_init 0 = .ok (.aload_n 0, 1) := by decide +kernel
theorem dX3_init_1 : decode cX3_init 1 = .ok (.invokespecial 3, 3) := by decide +kernel
theorem dX3_init_4 : decode cX3_init 4 = .ok (.return_, 1) := by decide +kernel
theorem dX3_become_0 : decode cX3_become 0 = .ok (.aload_n 0, 1) := by decide +kernel
theorem dX3_become_1 : decode cX3_become 1 = .ok (.iload_n 1, 1) := by decide +kernel
theorem dX3_become_2 : decode cX3_become 2 = .ok (.putfield 9, 3) := by decide +kernel
theorem dX3_become_5 : decode cX3_become 5 = .ok (.aload_n 0, 1) := by decide +kernel
theorem dX3_become_6 : decode cX3_become 6 = .ok (.iload_n 2, 1) := by decide +kernel
theorem dX3_become_7 : decode cX3_become 7 = .ok (.putfield 15, 3) := by decide +kernel
theorem dX3_become_10 : decode cX3_become 10 = .ok (.aload_n 0, 1) := by decide +kernel
theorem dX3_become_11 : decode cX3_become 11 = .ok (.iload_n 3, 1) := by decide +kernel
theorem dX3_become_12 : decode cX3_become 12 = .ok (.putfield 18, 3) := by decide +kernel
theorem dX3_become_15 : decode cX3_become 15 = .ok (.aload_n 0, 1) := by decide +kernel
theorem dX3_become_16 : decode cX3_become 16 = .ok (.iload 4, 2) := by decide +kernel
theorem dX3_become_18 : decode cX3_become 18 = .ok (.putfield 21, 3) := by decide +kernel
theorem dX3_become_21 : decode cX3_become 21 = .ok (.return_, 1) := by decide +kernel
theorem dX3_number_0 : decode cX3_number 0 = .ok (.iload_n 1, 1) := by decide +kernel
theorem dX3_number_1 : decode cX3_number 1 = .ok (.tableswitch 42 0 2 #[27, 32, 37], 27) := by decide +kernel
theorem dX3_number_28 : decode cX3_number 28 = .ok (.aload_n 0, 1) := by decide +kernel
theorem dX3_number_29 : decode cX3_number 29 = .ok (.getfield 9, 3) := by decide +kernel
theorem dX3_number_32 : decode cX3_number 32 = .ok (.ireturn, 1) := by decide +kernel
theorem dX3_number_33 : decode cX3_number 33 = .ok (.aload_n 0, 1) := by decide +kernel
theorem dX3_number_34 : decode cX3_number 34 = .ok (.getfield 15, 3) := by decide +kernel
theorem dX3_number_37 : decode cX3_number 37 = .ok (.ireturn, 1) := by decide +kernel
theorem dX3_number_38 : decode cX3_number 38 = .ok (.aload_n 0, 1) := by decide +kernel
theorem dX3_number_39 : decode cX3_number 39 = .ok (.getfield 18, 3) := by decide +kernel
theorem dX3_number_42 : decode cX3_number 42 = .ok (.ireturn, 1) := by decide +kernel
theorem dX3_number_43 : decode cX3_number 43 = .ok (.aload_n 0, 1) := by decide +kernel
theorem dX3_number_44 : decode cX3_number 44 = .ok (.getfield 21, 3) := by decide +kernel
theorem dX3_number_47 : decode cX3_number 47 = .ok (.ireturn, 1) := by decide +kernel
set_option maxRecDepth 20000 in
theorem ggX3_holds_X2_isRight : GoodIn wsX3_holds wsX2_isRight := goodIn_r _ [8, 9, 10, 11, 12, 13, 14, 15, 16, 7, 17, 18, 19, 20] (by decide +kernel) (by decide +kernel)
set_option maxRecDepth 20000 in
theorem gX3_holds_X2_isRight : GoodIn wsX3_holds (va_wsS RX3 24 yX2_isRight wsX2_isRight) := goodIn_app (goodIn_of _ (by decide +kernel)) ggX3_holds_X2_isRight
set_option maxRecDepth 20000 in
theorem ggX3_holds_X8_areLots : GoodIn wsX3_holds wsX8_areLots := goodIn_r _ [22, 23, 24, 10, 25, 12, 13, 14] (by decide +kernel) (by decide +kernel)
set_option maxRecDepth 20000 in
theorem gX3_holds_X8_areLots_n30 : GoodIn wsX3_holds (wsX8_areLots) := ggX3_holds_X8_areLots
set_option maxRecDepth 20000 in
theorem ggX3_holds_X3_mixedWith : GoodIn wsX3_holds wsX3_mixedWith := goodIn_r _ [29] (by decide +kernel) (by decide +kernel)
set_option maxRecDepth 20000 in
theorem gX3_holds_X3_mixedWith : GoodIn wsX3_holds (va_wsS RX3 34 yX3_mixedWith wsX3_mixedWith) := goodIn_app (goodIn_of _ (by decide +kernel)) ggX3_holds_X3_mixedWith
set_option maxRecDepth 20000 in
theorem ggX3_holds_X3_sOf : GoodIn wsX3_holds wsX3_sOf := goodIn_r _ [32, 33, 34, 7, 35, 18, 19, 20, 36, 16, 17, 37, 38, 39, 40, 41, 42] (by decide +kernel) (by decide +kernel)
set_option maxRecDepth 20000 in
theorem gX3_holds_X3_sOf : GoodIn wsX3_holds (va_wsS RX3 38 yX3_sOf wsX3_sOf) := goodIn_app (goodIn_of _ (by decide +kernel)) ggX3_holds_X3_sOf
set_option maxRecDepth 20000 in
theorem ggX3_holds_X3_tOf : GoodIn wsX3_holds wsX3_tOf := goodIn_r _ [45, 33, 34, 7, 35, 18, 19, 20, 37, 38, 39, 40, 41, 42, 46, 47, 48, 49, 50, 51, 36, 16, 17, 56, 57, 58, 59, 60] (by decide +kernel) (by decide +kernel)
set_option maxRecDepth 20000 in
theorem gX3_holds_X3_tOf : GoodIn wsX3_holds (va_wsS RX3 42 yX3_tOf wsX3_tOf) := goodIn_app (goodIn_of _ (by decide +kernel)) ggX3_holds_X3_tOf
theorem dX3_holds_0 : decode cX3_holds 0 = .ok (.iload_n 2, 1) := by decide +kernel
theorem dX3_holds_1 : decode cX3_holds 1 = .ok (.iload_n 3, 1) := by decide +kernel
theorem dX3_holds_2 : decode cX3_holds 2 = .ok (.invokestatic 24, 3) := by decide +kernel
theorem dX3_holds_5 : decode cX3_holds 5 = .ok (.ifCond .eq 25, 3) := by decide +kernel
theorem dX3_holds_8 : decode cX3_holds 8 = .ok (.aload_n 0, 1) := by decide +kernel
theorem dX3_holds_9 : decode cX3_holds 9 = .ok (.getfield 9, 3) := by decide +kernel
theorem dX3_holds_12 : decode cX3_holds 12 = .ok (.aload_n 0, 1) := by decide +kernel
theorem dX3_holds_13 : decode cX3_holds 13 = .ok (.getfield 15, 3) := by decide +kernel
theorem dX3_holds_16 : decode cX3_holds 16 = .ok (.aload_n 0, 1) := by decide +kernel
theorem dX3_holds_17 : decode cX3_holds 17 = .ok (.getfield 18, 3) := by decide +kernel
theorem dX3_holds_20 : decode cX3_holds 20 = .ok (.aload_n 0, 1) := by decide +kernel
theorem dX3_holds_21 : decode cX3_holds 21 = .ok (.getfield 21, 3) := by decide +kernel
theorem dX3_holds_24 : decode cX3_holds 24 = .ok (.invokestatic 30, 3) := by decide +kernel
theorem dX3_holds_27 : decode cX3_holds 27 = .ok (.ifCond .ne 5, 3) := by decide +kernel
theorem dX3_holds_30 : decode cX3_holds 30 = .ok (.iconst 0, 1) := by decide +kernel
theorem dX3_holds_31 : decode cX3_holds 31 = .ok (.ireturn, 1) := by decide +kernel
theorem dX3_holds_32 : decode cX3_holds 32 = .ok (.iconst 1, 1) := by decide +kernel
theorem dX3_holds_33 : decode cX3_holds 33 = .ok (.iload_n 2, 1) := by decide +kernel
theorem dX3_holds_34 : decode cX3_holds 34 = .ok (.invokestatic 34, 3) := by decide +kernel
theorem dX3_holds_37 : decode cX3_holds 37 = .ok (.iload_n 3, 1) := by decide +kernel
theorem dX3_holds_38 : decode cX3_holds 38 = .ok (.invokestatic 34, 3) := by decide +kernel
theorem dX3_holds_41 : decode cX3_holds 41 = .ok (.istore 4, 2) := by decide +kernel
theorem dX3_holds_43 : decode cX3_holds 43 = .ok (.iload 4, 2) := by decide +kernel
theorem dX3_holds_45 : decode cX3_holds 45 = .ok (.iload_n 2, 1) := by decide +kernel
theorem dX3_holds_46 : decode cX3_holds 46 = .ok (.aload_n 0, 1) := by decide +kernel
theorem dX3_holds_47 : decode cX3_holds 47 = .ok (.getfield 9, 3) := by decide +kernel
theorem dX3_holds_50 : decode cX3_holds 50 = .ok (.aload_n 0, 1) := by decide +kernel
theorem dX3_holds_51 : decode cX3_holds 51 = .ok (.getfield 15, 3) := by decide +kernel
theorem dX3_holds_54 : decode cX3_holds 54 = .ok (.invokestatic 38, 3) := by decide +kernel
theorem dX3_holds_57 : decode cX3_holds 57 = .ok (.invokestatic 34, 3) := by decide +kernel
theorem dX3_holds_60 : decode cX3_holds 60 = .ok (.aload_n 1, 1) := by decide +kernel
theorem dX3_holds_61 : decode cX3_holds 61 = .ok (.iload_n 3, 1) := by decide +kernel
theorem dX3_holds_62 : decode cX3_holds 62 = .ok (.iconst 0, 1) := by decide +kernel
theorem dX3_holds_63 : decode cX3_holds 63 = .ok (.aload_n 0, 1) := by decide +kernel
theorem dX3_holds_64 : decode cX3_holds 64 = .ok (.getfield 9, 3) := by decide +kernel
theorem dX3_holds_67 : decode cX3_holds 67 = .ok (.aload_n 0, 1) := by decide +kernel
theorem dX3_holds_68 : decode cX3_holds 68 = .ok (.getfield 15, 3) := by decide +kernel
theorem dX3_holds_71 : decode cX3_holds 71 = .ok (.invokestatic 42, 3) := by decide +kernel
theorem dX3_holds_74 : decode cX3_holds 74 = .ok (.invokestatic 34, 3) := by decide +kernel
theorem dX3_holds_77 : decode cX3_holds 77 = .ok (.istore 4, 2) := by decide +kernel
theorem dX3_holds_79 : decode cX3_holds 79 = .ok (.iload 4, 2) := by decide +kernel
theorem dX3_holds_81 : decode cX3_holds 81 = .ok (.iload_n 2, 1) := by decide +kernel
theorem dX3_holds_82 : decode cX3_holds 82 = .ok (.aload_n 0, 1) := by decide +kernel
theorem dX3_holds_83 : decode cX3_holds 83 = .ok (.getfield 18, 3) := by decide +kernel
theorem dX3_holds_86 : decode cX3_holds 86 = .ok (.aload_n 0, 1) := by decide +kernel
theorem dX3_holds_87 : decode cX3_holds 87 = .ok (.getfield 21, 3) := by decide +kernel
theorem dX3_holds_90 : decode cX3_holds 90 = .ok (.invokestatic 38, 3) := by decide +kernel
theorem dX3_holds_93 : decode cX3_holds 93 = .ok (.invokestatic 34, 3) := by decide +kernel
theorem dX3_holds_96 : decode cX3_holds 96 = .ok (.aload_n 1, 1) := by decide +kernel
theorem dX3_holds_97 : decode cX3_holds 97 = .ok (.iload_n 3, 1) := by decide +kernel
theorem dX3_holds_98 : decode cX3_holds 98 = .ok (.iconst 1, 1) := by decide +kernel
theorem dX3_holds_99 : decode cX3_holds 99 = .ok (.aload_n 0, 1) := by decide +kernel
theorem dX3_holds_100 : decode cX3_holds 100 = .ok (.getfield 18, 3) := by decide +kernel
theorem dX3_holds_103 : decode cX3_holds 103 = .ok (.aload_n 0, 1) := by decide +kernel
theorem dX3_holds_104 : decode cX3_holds 104 = .ok (.getfield 21, 3) := by decide +kernel
theorem dX3_holds_107 : decode cX3_holds 107 = .ok (.invokestatic 42, 3) := by decide +kernel
theorem dX3_holds_110 : decode cX3_holds 110 = .ok (.invokestatic 34, 3) := by decide +kernel
theorem dX3_holds_113 : decode cX3_holds 113 = .ok (.istore 4, 2) := by decide +kernel
theorem dX3_holds_115 : decode cX3_holds 115 = .ok (.aload_n 0, 1) := by decide +kernel
theorem dX3_holds_116 : decode cX3_holds 116 = .ok (.getfield 9, 3) := by decide +kernel
theorem dX3_holds_119 : decode cX3_holds 119 = .ok (.aload_n 0, 1) := by decide +kernel
theorem dX3_holds_120 : decode cX3_holds 120 = .ok (.getfield 18, 3) := by decide +kernel
theorem dX3_holds_123 : decode cX3_holds 123 = .ok (.iadd, 1) := by decide +kernel
theorem dX3_holds_124 : decode cX3_holds 124 = .ok (.sipush 5003, 3) := by decide +kernel
theorem dX3_holds_127 : decode cX3_holds 127 = .ok (.irem, 1) := by decide +kernel
theorem dX3_holds_128 : decode cX3_holds 128 = .ok (.iload 4, 2) := by decide +kernel
theorem dX3_holds_130 : decode cX3_holds 130 = .ok (.if_icmp .ne 7, 3) := by decide +kernel
theorem dX3_holds_133 : decode cX3_holds 133 = .ok (.iconst 1, 1) := by decide +kernel
theorem dX3_holds_134 : decode cX3_holds 134 = .ok (.goto 4, 3) := by decide +kernel
theorem dX3_holds_137 : decode cX3_holds 137 = .ok (.iconst 0, 1) := by decide +kernel
theorem dX3_holds_138 : decode cX3_holds 138 = .ok (.ireturn, 1) := by decide +kernel
set_option maxRecDepth 20000 in
theorem ggX3_make_X2_ofG : GoodIn wsX3_make wsX2_ofG := goodIn_r _ [4, 5, 6, 3, 7] (by decide +kernel) (by decide +kernel)
set_option maxRecDepth 20000 in
theorem gX3_make_X2_ofG : GoodIn wsX3_make (va_wsS RX3 46 yX2_ofG wsX2_ofG) := goodIn_app (goodIn_of _ (by decide +kernel)) ggX3_make_X2_ofG
set_option maxRecDepth 20000 in
theorem ggX3_make_X0_sealedB : GoodIn wsX3_make wsX0_sealedB := goodIn_r _ [12, 13, 14, 15, 3, 16, 5, 6, 7, 17, 2, 4, 47, 48, 49, 50, 51] (by decide +kernel) (by decide +kernel)
set_option maxRecDepth 20000 in
theorem gX3_make_X0_sealedB : GoodIn wsX3_make (wsV RX3 50 RX0 yX0_sealedB wsX0_sealedB) := goodIn_app (goodIn_of _ (by decide +kernel)) ggX3_make_X0_sealedB
set_option maxRecDepth 20000 in
theorem ggX3_make_X0_h : GoodIn wsX3_make wsX0_h := goodIn_r _ [21, 13, 47, 48, 49, 50, 51] (by decide +kernel) (by decide +kernel)
set_option maxRecDepth 20000 in
theorem gX3_make_X0_h : GoodIn wsX3_make (wsV RX3 55 RX0 yX0_h wsX0_h) := goodIn_app (goodIn_of _ (by decide +kernel)) ggX3_make_X0_h
set_option maxRecDepth 20000 in
theorem ggX3_make_X2_of : GoodIn wsX3_make wsX2_of := goodIn_r _ [16, 5, 6, 3, 7] (by decide +kernel) (by decide +kernel)
set_option maxRecDepth 20000 in
theorem gX3_make_X2_of : GoodIn wsX3_make (va_wsS RX3 59 yX2_of wsX2_of) := goodIn_app (goodIn_of _ (by decide +kernel)) ggX3_make_X2_of
set_option maxRecDepth 20000 in
theorem ggX3_make_X3_sOf : GoodIn wsX3_make wsX3_sOf := goodIn_r _ [26, 1, 2, 3, 4, 5, 6, 7, 22, 15, 16, 27, 28, 29, 30, 31, 32] (by decide +kernel) (by decide +kernel)
set_option maxRecDepth 20000 in
theorem gX3_make_X3_sOf : GoodIn wsX3_make (va_wsS RX3 38 yX3_sOf wsX3_sOf) := goodIn_app (goodIn_of _ (by decide +kernel)) ggX3_make_X3_sOf
set_option maxRecDepth 20000 in
theorem ggX3_make_X3_tOf : GoodIn wsX3_make wsX3_tOf := goodIn_r _ [35, 1, 2, 3, 4, 5, 6, 7, 27, 28, 29, 30, 31, 32, 18, 19, 20, 11, 21, 13, 22, 15, 16, 47, 48, 49, 50, 51] (by decide +kernel) (by decide +kernel)
set_option maxRecDepth 20000 in
theorem gX3_make_X3_tOf : GoodIn wsX3_make (va_wsS RX3 42 yX3_tOf wsX3_tOf) := goodIn_app (goodIn_of _ (by decide +kernel)) ggX3_make_X3_tOf
set_option maxRecDepth 20000 in
theorem ggX3_make_X3_mixedWith : GoodIn wsX3_make wsX3_mixedWith := goodIn_r _ [38] (by decide +kernel) (by decide +kernel)
set_option maxRecDepth 20000 in
theorem gX3_make_X3_mixedWith : GoodIn wsX3_make (va_wsS RX3 34 yX3_mixedWith wsX3_mixedWith) := goodIn_app (goodIn_of _ (by decide +kernel)) ggX3_make_X3_mixedWith
set_option maxRecDepth 20000 in
theorem ggX3_make_X3_become : GoodIn wsX3_make wsX3_become := goodIn_r _ [42, 43, 44, 45, 46, 52, 53, 54, 55] (by decide +kernel) (by decide +kernel)
set_option maxRecDepth 20000 in
theorem gX3_make_X3_become : GoodIn wsX3_make (wsV RX3 62 RX3 yX3_become wsX3_become) := goodIn_app (goodIn_of _ (by decide +kernel)) ggX3_make_X3_become
theorem dX3_make_0 : decode cX3_make 0 = .ok (.iload_n 3, 1) := by decide +kernel
theorem dX3_make_1 : decode cX3_make 1 = .ok (.invokestatic 46, 3) := by decide +kernel
theorem dX3_make_4 : decode cX3_make 4 = .ok (.istore 7, 2) := by decide +kernel
theorem dX3_make_6 : decode cX3_make 6 = .ok (.aload_n 1, 1) := by decide +kernel
theorem dX3_make_7 : decode cX3_make 7 = .ok (.iload_n 2, 1) := by decide +kernel
theorem dX3_make_8 : decode cX3_make 8 = .ok (.iload_n 3, 1) := by decide +kernel
theorem dX3_make_9 : decode cX3_make 9 = .ok (.invokevirtual 50, 3) := by decide +kernel
theorem dX3_make_12 : decode cX3_make 12 = .ok (.istore 8, 2) := by decide +kernel
theorem dX3_make_14 : decode cX3_make 14 = .ok (.iload 4, 2) := by decide +kernel
theorem dX3_make_16 : decode cX3_make 16 = .ok (.invokestatic 46, 3) := by decide +kernel
theorem dX3_make_19 : decode cX3_make 19 = .ok (.istore 9, 2) := by decide +kernel
theorem dX3_make_21 : decode cX3_make 21 = .ok (.aload_n 1, 1) := by decide +kernel
theorem dX3_make_22 : decode cX3_make 22 = .ok (.invokevirtual 55, 3) := by decide +kernel
theorem dX3_make_25 : decode cX3_make 25 = .ok (.iload 4, 2) := by decide +kernel
theorem dX3_make_27 : decode cX3_make 27 = .ok (.invokestatic 59, 3) := by decide +kernel
theorem dX3_make_30 : decode cX3_make 30 = .ok (.istore 10, 2) := by decide +kernel
theorem dX3_make_32 : decode cX3_make 32 = .ok (.iload 7, 2) := by decide +kernel
theorem dX3_make_34 : decode cX3_make 34 = .ok (.iload 5, 2) := by decide +kernel
theorem dX3_make_36 : decode cX3_make 36 = .ok (.iload 6, 2) := by decide +kernel
theorem dX3_make_38 : decode cX3_make 38 = .ok (.invokestatic 38, 3) := by decide +kernel
theorem dX3_make_41 : decode cX3_make 41 = .ok (.istore 11, 2) := by decide +kernel
theorem dX3_make_43 : decode cX3_make 43 = .ok (.aload_n 1, 1) := by decide +kernel
theorem dX3_make_44 : decode cX3_make 44 = .ok (.iload 8, 2) := by decide +kernel
theorem dX3_make_46 : decode cX3_make 46 = .ok (.iconst 1, 1) := by decide +kernel
theorem dX3_make_47 : decode cX3_make 47 = .ok (.iload_n 2, 1) := by decide +kernel
theorem dX3_make_48 : decode cX3_make 48 = .ok (.isub, 1) := by decide +kernel
theorem dX3_make_49 : decode cX3_make 49 = .ok (.iload 5, 2) := by decide +kernel
theorem dX3_make_51 : decode cX3_make 51 = .ok (.iload 6, 2) := by decide +kernel
theorem dX3_make_53 : decode cX3_make 53 = .ok (.invokestatic 42, 3) := by decide +kernel
theorem dX3_make_56 : decode cX3_make 56 = .ok (.istore 12, 2) := by decide +kernel
theorem dX3_make_58 : decode cX3_make 58 = .ok (.iconst 1, 1) := by decide +kernel
theorem dX3_make_59 : decode cX3_make 59 = .ok (.iload 7, 2) := by decide +kernel
theorem dX3_make_61 : decode cX3_make 61 = .ok (.invokestatic 34, 3) := by decide +kernel
theorem dX3_make_64 : decode cX3_make 64 = .ok (.iload 8, 2) := by decide +kernel
theorem dX3_make_66 : decode cX3_make 66 = .ok (.invokestatic 34, 3) := by decide +kernel
theorem dX3_make_69 : decode cX3_make 69 = .ok (.istore 13, 2) := by decide +kernel
theorem dX3_make_71 : decode cX3_make 71 = .ok (.iload 13, 2) := by decide +kernel
theorem dX3_make_73 : decode cX3_make 73 = .ok (.iload_n 2, 1) := by decide +kernel
theorem dX3_make_74 : decode cX3_make 74 = .ok (.ifCond .ne 8, 3) := by decide +kernel
theorem dX3_make_77 : decode cX3_make 77 = .ok (.iload 9, 2) := by decide +kernel
theorem dX3_make_79 : decode cX3_make 79 = .ok (.goto 5, 3) := by decide +kernel
theorem dX3_make_82 : decode cX3_make 82 = .ok (.iload 11, 2) := by decide +kernel
theorem dX3_make_84 : decode cX3_make 84 = .ok (.invokestatic 34, 3) := by decide +kernel
theorem dX3_make_87 : decode cX3_make 87 = .ok (.iload_n 2, 1) := by decide +kernel
theorem dX3_make_88 : decode cX3_make 88 = .ok (.ifCond .ne 8, 3) := by decide +kernel
theorem dX3_make_91 : decode cX3_make 91 = .ok (.iload 10, 2) := by decide +kernel
theorem dX3_make_93 : decode cX3_make 93 = .ok (.goto 5, 3) := by decide +kernel
theorem dX3_make_96 : decode cX3_make 96 = .ok (.iload 12, 2) := by decide +kernel
theorem dX3_make_98 : decode cX3_make 98 = .ok (.invokestatic 34, 3) := by decide +kernel
theorem dX3_make_101 : decode cX3_make 101 = .ok (.istore 13, 2) := by decide +kernel
theorem dX3_make_103 : decode cX3_make 103 = .ok (.iload 13, 2) := by decide +kernel
theorem dX3_make_105 : decode cX3_make 105 = .ok (.iload_n 2, 1) := by decide +kernel
theorem dX3_make_106 : decode cX3_make 106 = .ok (.ifCond .ne 8, 3) := by decide +kernel
theorem dX3_make_109 : decode cX3_make 109 = .ok (.iload 11, 2) := by decide +kernel
theorem dX3_make_111 : decode cX3_make 111 = .ok (.goto 5, 3) := by decide +kernel
theorem dX3_make_114 : decode cX3_make 114 = .ok (.iload 9, 2) := by decide +kernel
theorem dX3_make_116 : decode cX3_make 116 = .ok (.invokestatic 34, 3) := by decide +kernel
theorem dX3_make_119 : decode cX3_make 119 = .ok (.iload_n 2, 1) := by decide +kernel
theorem dX3_make_120 : decode cX3_make 120 = .ok (.ifCond .ne 8, 3) := by decide +kernel
theorem dX3_make_123 : decode cX3_make 123 = .ok (.iload 12, 2) := by decide +kernel
theorem dX3_make_125 : decode cX3_make 125 = .ok (.goto 5, 3) := by decide +kernel
theorem dX3_make_128 : decode cX3_make 128 = .ok (.iload 10, 2) := by decide +kernel
theorem dX3_make_130 : decode cX3_make 130 = .ok (.invokestatic 34, 3) := by decide +kernel
theorem dX3_make_133 : decode cX3_make 133 = .ok (.istore 13, 2) := by decide +kernel
theorem dX3_make_135 : decode cX3_make 135 = .ok (.iload 13, 2) := by decide +kernel
theorem dX3_make_137 : decode cX3_make 137 = .ok (.iload 5, 2) := by decide +kernel
theorem dX3_make_139 : decode cX3_make 139 = .ok (.isub, 1) := by decide +kernel
theorem dX3_make_140 : decode cX3_make 140 = .ok (.sipush 5003, 3) := by decide +kernel
theorem dX3_make_143 : decode cX3_make 143 = .ok (.iadd, 1) := by decide +kernel
theorem dX3_make_144 : decode cX3_make 144 = .ok (.sipush 5003, 3) := by decide +kernel
theorem dX3_make_147 : decode cX3_make 147 = .ok (.irem, 1) := by decide +kernel
theorem dX3_make_148 : decode cX3_make 148 = .ok (.istore 14, 2) := by decide +kernel
theorem dX3_make_150 : decode cX3_make 150 = .ok (.iload 4, 2) := by decide +kernel
theorem dX3_make_152 : decode cX3_make 152 = .ok (.iload 14, 2) := by decide +kernel
theorem dX3_make_154 : decode cX3_make 154 = .ok (.iload_n 3, 1) := by decide +kernel
theorem dX3_make_155 : decode cX3_make 155 = .ok (.imul, 1) := by decide +kernel
theorem dX3_make_156 : decode cX3_make 156 = .ok (.iadd, 1) := by decide +kernel
theorem dX3_make_157 : decode cX3_make 157 = .ok (.sipush 5003, 3) := by decide +kernel
theorem dX3_make_160 : decode cX3_make 160 = .ok (.irem, 1) := by decide +kernel
theorem dX3_make_161 : decode cX3_make 161 = .ok (.istore 15, 2) := by decide +kernel
theorem dX3_make_163 : decode cX3_make 163 = .ok (.iload_n 2, 1) := by decide +kernel
theorem dX3_make_164 : decode cX3_make 164 = .ok (.ifCond .ne 18, 3) := by decide +kernel
theorem dX3_make_167 : decode cX3_make 167 = .ok (.aload_n 0, 1) := by decide +kernel
theorem dX3_make_168 : decode cX3_make 168 = .ok (.iload 14, 2) := by decide +kernel
theorem dX3_make_170 : decode cX3_make 170 = .ok (.iload 15, 2) := by decide +kernel
theorem dX3_make_172 : decode cX3_make 172 = .ok (.iload 5, 2) := by decide +kernel
theorem dX3_make_174 : decode cX3_make 174 = .ok (.iload 6, 2) := by decide +kernel
theorem dX3_make_176 : decode cX3_make 176 = .ok (.invokevirtual 62, 3) := by decide +kernel
theorem dX3_make_179 : decode cX3_make 179 = .ok (.goto 15, 3) := by decide +kernel
theorem dX3_make_182 : decode cX3_make 182 = .ok (.aload_n 0, 1) := by decide +kernel
theorem dX3_make_183 : decode cX3_make 183 = .ok (.iload 5, 2) := by decide +kernel
theorem dX3_make_185 : decode cX3_make 185 = .ok (.iload 6, 2) := by decide +kernel
theorem dX3_make_187 : decode cX3_make 187 = .ok (.iload 14, 2) := by decide +kernel
theorem dX3_make_189 : decode cX3_make 189 = .ok (.iload 15, 2) := by decide +kernel
theorem dX3_make_191 : decode cX3_make 191 = .ok (.invokevirtual 62, 3) := by decide +kernel
theorem dX3_make_194 : decode cX3_make 194 = .ok (.return_, 1) := by decide +kernel
set_option maxRecDepth 20000 in
theorem ggX3_sOf_X2_ofG : GoodIn wsX3_sOf wsX2_ofG := goodIn_r _ [4, 5, 6, 3, 7] (by decide +kernel) (by decide +kernel)
set_option maxRecDepth 20000 in
theorem gX3_sOf_X2_ofG : GoodIn wsX3_sOf (va_wsS RX3 46 yX2_ofG wsX2_ofG) := goodIn_app (goodIn_of _ (by decide +kernel)) ggX3_sOf_X2_ofG
set_option maxRecDepth 20000 in
theorem ggX3_sOf_X2_of : GoodIn wsX3_sOf wsX2_of := goodIn_r _ [10, 5, 6, 3, 7] (by decide +kernel) (by decide +kernel)
set_option maxRecDepth 20000 in
theorem gX3_sOf_X2_of : GoodIn wsX3_sOf (va_wsS RX3 59 yX2_of wsX2_of) := goodIn_app (goodIn_of _ (by decide +kernel)) ggX3_sOf_X2_of
set_option maxRecDepth 20000 in
theorem ggX3_sOf_X2_divided : GoodIn wsX3_sOf wsX2_divided := goodIn_r _ [13, 14, 15, 3, 16, 5, 6, 7] (by decide +kernel) (by decide +kernel)
set_option maxRecDepth 20000 in
theorem gX3_sOf_X2_divided : GoodIn wsX3_sOf (va_wsS RX3 66 yX2_divided wsX2_divided) := goodIn_app (goodIn_of _ (by decide +kernel)) ggX3_sOf_X2_divided
theorem dX3_sOf_0 : decode cX3_sOf 0 = .ok (.iload_n 2, 1) := by decide +kernel
theorem dX3_sOf_1 : decode cX3_sOf 1 = .ok (.invokestatic 46, 3) := by decide +kernel
theorem dX3_sOf_4 : decode cX3_sOf 4 = .ok (.iload_n 0, 1) := by decide +kernel
theorem dX3_sOf_5 : decode cX3_sOf 5 = .ok (.iload_n 1, 1) := by decide +kernel
theorem dX3_sOf_6 : decode cX3_sOf 6 = .ok (.invokestatic 59, 3) := by decide +kernel
theorem dX3_sOf_9 : decode cX3_sOf 9 = .ok (.invokestatic 66, 3) := by decide +kernel
theorem dX3_sOf_12 : decode cX3_sOf 12 = .ok (.ireturn, 1) := by decide +kernel
set_option maxRecDepth 20000 in
theorem ggX3_tOf_X2_ofG : GoodIn wsX3_tOf wsX2_ofG := goodIn_r _ [4, 5, 6, 3, 7] (by decide +kernel) (by decide +kernel)
set_option maxRecDepth 20000 in
theorem gX3_tOf_X2_ofG : GoodIn wsX3_tOf (va_wsS RX3 46 yX2_ofG wsX2_ofG) := goodIn_app (goodIn_of _ (by decide +kernel)) ggX3_tOf_X2_ofG
set_option maxRecDepth 20000 in
theorem ggX3_tOf_X2_divided : GoodIn wsX3_tOf wsX2_divided := goodIn_r _ [10, 11, 12, 3, 13, 5, 6, 7] (by decide +kernel) (by decide +kernel)
set_option maxRecDepth 20000 in
theorem gX3_tOf_X2_divided : GoodIn wsX3_tOf (va_wsS RX3 66 yX2_divided wsX2_divided) := goodIn_app (goodIn_of _ (by decide +kernel)) ggX3_tOf_X2_divided
set_option maxRecDepth 20000 in
theorem ggX3_tOf_X0_h : GoodIn wsX3_tOf wsX0_h := goodIn_r _ [18, 19, 23, 24, 25, 26, 27] (by decide +kernel) (by decide +kernel)
set_option maxRecDepth 20000 in
theorem gX3_tOf_X0_h : GoodIn wsX3_tOf (wsV RX3 55 RX0 yX0_h wsX0_h) := goodIn_app (goodIn_of _ (by decide +kernel)) ggX3_tOf_X0_h
set_option maxRecDepth 20000 in
theorem ggX3_tOf_X2_of : GoodIn wsX3_tOf wsX2_of := goodIn_r _ [22, 5, 6, 3, 7] (by decide +kernel) (by decide +kernel)
set_option maxRecDepth 20000 in
theorem gX3_tOf_X2_of : GoodIn wsX3_tOf (va_wsS RX3 59 yX2_of wsX2_of) := goodIn_app (goodIn_of _ (by decide +kernel)) ggX3_tOf_X2_of
theorem dX3_tOf_0 : decode cX3_tOf 0 = .ok (.iload_n 1, 1) := by decide +kernel
theorem dX3_tOf_1 : decode cX3_tOf 1 = .ok (.iload_n 2, 1) := by decide +kernel
theorem dX3_tOf_2 : decode cX3_tOf 2 = .ok (.invokestatic 46, 3) := by decide +kernel
theorem dX3_tOf_5 : decode cX3_tOf 5 = .ok (.invokestatic 66, 3) := by decide +kernel
theorem dX3_tOf_8 : decode cX3_tOf 8 = .ok (.istore 5, 2) := by decide +kernel
theorem dX3_tOf_10 : decode cX3_tOf 10 = .ok (.aload_n 0, 1) := by decide +kernel
theorem dX3_tOf_11 : decode cX3_tOf 11 = .ok (.invokevirtual 55, 3) := by decide +kernel
theorem dX3_tOf_14 : decode cX3_tOf 14 = .ok (.iload 4, 2) := by decide +kernel
theorem dX3_tOf_16 : decode cX3_tOf 16 = .ok (.invokestatic 59, 3) := by decide +kernel
theorem dX3_tOf_19 : decode cX3_tOf 19 = .ok (.iload 5, 2) := by decide +kernel
theorem dX3_tOf_21 : decode cX3_tOf 21 = .ok (.iload_n 3, 1) := by decide +kernel
theorem dX3_tOf_22 : decode cX3_tOf 22 = .ok (.invokestatic 59, 3) := by decide +kernel
theorem dX3_tOf_25 : decode cX3_tOf 25 = .ok (.invokestatic 66, 3) := by decide +kernel
theorem dX3_tOf_28 : decode cX3_tOf 28 = .ok (.ireturn, 1) := by decide +kernel
theorem dX3_mixedWith_0 : decode cX3_mixedWith 0 = .ok (.iload_n 0, 1) := by decide +kernel
theorem dX3_mixedWith_1 : decode cX3_mixedWith 1 = .ok (.bipush 31, 2) := by decide +kernel
theorem dX3_mixedWith_3 : decode cX3_mixedWith 3 = .ok (.imul, 1) := by decide +kernel
theorem dX3_mixedWith_4 : decode cX3_mixedWith 4 = .ok (.iload_n 1, 1) := by decide +kernel
theorem dX3_mixedWith_5 : decode cX3_mixedWith 5 = .ok (.iadd, 1) := by decide +kernel
theorem dX3_mixedWith_6 : decode cX3_mixedWith 6 = .ok (.sipush 5003, 3) := by decide +kernel
theorem dX3_mixedWith_9 : decode cX3_mixedWith 9 = .ok (.irem, 1) := by decide +kernel
theorem dX3_mixedWith_10 : decode cX3_mixedWith 10 = .ok (.ireturn, 1) := by decide +kernel
set_option maxRecDepth 20000 in
theorem ggX4_init_X6_init : GoodIn wsX4_init wsX6_init := goodIn_r _ [13, 14, 2, 3, 4, 15, 16, 20, 21] (by decide +kernel) (by decide +kernel)
set_option maxRecDepth 20000 in
theorem gX4_init_X6_init : GoodIn wsX4_init (wsX6_init) := ggX4_init_X6_init
theorem dX4_init_0 : decode cX4_init 0 = .ok (.aload_n 0, 1) := by decide +kernel
theorem dX4_init_1 : decode cX4_init 1 = .ok (.invokespecial 3, 3) := by decide +kernel
theorem dX4_init_4 : decode cX4_init 4 = .ok (.aload_n 0, 1) := by decide +kernel
theorem dX4_init_5 : decode cX4_init 5 = .ok (.bipush 36, 2) := by decide +kernel
theorem dX4_init_7 : decode cX4_init 7 = .ok (.newarray .int, 2) := by decide +kernel
theorem dX4_init_9 : decode cX4_init 9 = .ok (.putfield 9, 3) := by decide +kernel
theorem dX4_init_12 : decode cX4_init 12 = .ok (.iconst 0, 1) := by decide +kernel
theorem dX4_init_13 : decode cX4_init 13 = .ok (.istore_n 1, 1) := by decide +kernel
theorem dX4_init_14 : decode cX4_init 14 = .ok (.iload_n 1, 1) := by decide +kernel
theorem dX4_init_15 : decode cX4_init 15 = .ok (.iconst 1, 1) := by decide +kernel
theorem dX4_init_16 : decode cX4_init 16 = .ok (.iadd, 1) := by decide +kernel
theorem dX4_init_17 : decode cX4_init 17 = .ok (.aload_n 0, 1) := by decide +kernel
theorem dX4_init_18 : decode cX4_init 18 = .ok (.getfield 9, 3) := by decide +kernel
theorem dX4_init_21 : decode cX4_init 21 = .ok (.arraylength, 1) := by decide +kernel
theorem dX4_init_22 : decode cX4_init 22 = .ok (.if_icmp .ge 27, 3) := by decide +kernel
theorem dX4_init_25 : decode cX4_init 25 = .ok (.aload_n 0, 1) := by decide +kernel
theorem dX4_init_26 : decode cX4_init 26 = .ok (.getfield 9, 3) := by decide +kernel
theorem dX4_init_29 : decode cX4_init 29 = .ok (.iload_n 1, 1) := by decide +kernel
theorem dX4_init_30 : decode cX4_init 30 = .ok (.bipush 30, 2) := by decide +kernel
theorem dX4_init_32 : decode cX4_init 32 = .ok (.iastore, 1) := by decide +kernel
theorem dX4_init_33 : decode cX4_init 33 = .ok (.aload_n 0, 1) := by decide +kernel
theorem dX4_init_34 : decode cX4_init 34 = .ok (.getfield 9, 3) := by decide +kernel
theorem dX4_init_37 : decode cX4_init 37 = .ok (.iload_n 1, 1) := by decide +kernel
theorem dX4_init_38 : decode cX4_init 38 = .ok (.iconst 1, 1) := by decide +kernel
theorem dX4_init_39 : decode cX4_init 39 = .ok (.iadd, 1) := by decide +kernel
theorem dX4_init_40 : decode cX4_init 40 = .ok (.bipush 10, 2) := by decide +kernel
theorem dX4_init_42 : decode cX4_init 42 = .ok (.iastore, 1) := by decide +kernel
theorem dX4_init_43 : decode cX4_init 43 = .ok (.iinc 1 3, 3) := by decide +kernel
theorem dX4_init_46 : decode cX4_init 46 = .ok (.goto (-32), 3) := by decide +kernel
theorem dX4_init_49 : decode cX4_init 49 = .ok (.aload_n 0, 1) := by decide +kernel
theorem dX4_init_50 : decode cX4_init 50 = .ok (.new 15, 3) := by decide +kernel
theorem dX4_init_53 : decode cX4_init 53 = .ok (.dup, 1) := by decide +kernel
theorem dX4_init_54 : decode cX4_init 54 = .ok (.invokespecial 17, 3) := by decide +kernel
theorem dX4_init_57 : decode cX4_init 57 = .ok (.putfield 18, 3) := by decide +kernel
theorem dX4_init_60 : decode cX4_init 60 = .ok (.aload_n 0, 1) := by decide +kernel
theorem dX4_init_61 : decode cX4_init 61 = .ok (.new 15, 3) := by decide +kernel
theorem dX4_init_64 : decode cX4_init 64 = .ok (.dup, 1) := by decide +kernel
theorem dX4_init_65 : decode cX4_init 65 = .ok (.invokespecial 17, 3) := by decide +kernel
theorem dX4_init_68 : decode cX4_init 68 = .ok (.putfield 22, 3) := by decide +kernel
theorem dX4_init_71 : decode cX4_init 71 = .ok (.return_, 1) := by decide +kernel
theorem dX4_draft_0 : decode cX4_draft 0 = .ok (.aload_n 0, 1) := by decide +kernel
theorem dX4_draft_1 : decode cX4_draft 1 = .ok (.getfield 22, 3) := by decide +kernel
theorem dX4_draft_4 : decode cX4_draft 4 = .ok (.areturn, 1) := by decide +kernel
set_option maxRecDepth 20000 in
theorem ggX4_adoptDraft_X6_clear : GoodIn wsX4_adoptDraft wsX6_clear := goodIn_r _ [7, 8, 12, 13] (by decide +kernel) (by decide +kernel)
set_option maxRecDepth 20000 in
theorem gX4_adoptDraft_X6_clear : GoodIn wsX4_adoptDraft (wsV RX4 25 RX6 yX6_clear wsX6_clear) := goodIn_app (goodIn_of _ (by decide +kernel)) ggX4_adoptDraft_X6_clear
theorem dX4_adoptDraft_0 : decode cX4_adoptDraft 0 = .ok (.aload_n 0, 1) := by decide +kernel
theorem dX4_adoptDraft_1 : decode cX4_adoptDraft 1 = .ok (.getfield 18, 3) := by decide +kernel
theorem dX4_adoptDraft_4 : decode cX4_adoptDraft 4 = .ok (.astore_n 1, 1) := by decide +kernel
theorem dX4_adoptDraft_5 : decode cX4_adoptDraft 5 = .ok (.aload_n 0, 1) := by decide +kernel
theorem dX4_adoptDraft_6 : decode cX4_adoptDraft 6 = .ok (.aload_n 0, 1) := by decide +kernel
theorem dX4_adoptDraft_7 : decode cX4_adoptDraft 7 = .ok (.getfield 22, 3) := by decide +kernel
theorem dX4_adoptDraft_10 : decode cX4_adoptDraft 10 = .ok (.putfield 18, 3) := by decide +kernel
theorem dX4_adoptDraft_13 : decode cX4_adoptDraft 13 = .ok (.aload_n 0, 1) := by decide +kernel
theorem dX4_adoptDraft_14 : decode cX4_adoptDraft 14 = .ok (.aload_n 1, 1) := by decide +kernel
theorem dX4_adoptDraft_15 : decode cX4_adoptDraft 15 = .ok (.putfield 22, 3) := by decide +kernel
theorem dX4_adoptDraft_18 : decode cX4_adoptDraft 18 = .ok (.aload_n 0, 1) := by decide +kernel
theorem dX4_adoptDraft_19 : decode cX4_adoptDraft 19 = .ok (.getfield 22, 3) := by decide +kernel
theorem dX4_adoptDraft_22 : decode cX4_adoptDraft 22 = .ok (.invokevirtual 25, 3) := by decide +kernel
theorem dX4_adoptDraft_25 : decode cX4_adoptDraft 25 = .ok (.return_, 1) := by decide +kernel
set_option maxRecDepth 20000 in
theorem ggX4_change_X4_trait : GoodIn wsX4_change wsX4_trait := goodIn_r _ [6, 1, 7, 8, 9] (by decide +kernel) (by decide +kernel)
set_option maxRecDepth 20000 in
theorem gX4_change_X4_trait : GoodIn wsX4_change (wsV RX4 28 RX4 yX4_trait wsX4_trait) := goodIn_app (goodIn_of _ (by decide +kernel)) ggX4_change_X4_trait
theorem dX4_change_0 : decode cX4_change 0 = .ok (.aload_n 0, 1) := by decide +kernel
theorem dX4_change_1 : decode cX4_change 1 = .ok (.iload_n 1, 1) := by decide +kernel
theorem dX4_change_2 : decode cX4_change 2 = .ok (.iload_n 2, 1) := by decide +kernel
theorem dX4_change_3 : decode cX4_change 3 = .ok (.invokevirtual 28, 3) := by decide +kernel
theorem dX4_change_6 : decode cX4_change 6 = .ok (.istore 4, 2) := by decide +kernel
theorem dX4_change_8 : decode cX4_change 8 = .ok (.iload_n 1, 1) := by decide +kernel
theorem dX4_change_9 : decode cX4_change 9 = .ok (.iconst 3, 1) := by decide +kernel
theorem dX4_change_10 : decode cX4_change 10 = .ok (.imul, 1) := by decide +kernel
theorem dX4_change_11 : decode cX4_change 11 = .ok (.iload_n 2, 1) := by decide +kernel
theorem dX4_change_12 : decode cX4_change 12 = .ok (.iadd, 1) := by decide +kernel
theorem dX4_change_13 : decode cX4_change 13 = .ok (.istore 5, 2) := by decide +kernel
theorem dX4_change_15 : decode cX4_change 15 = .ok (.iload 5, 2) := by decide +kernel
theorem dX4_change_17 : decode cX4_change 17 = .ok (.ifCond .lt 21, 3) := by decide +kernel
theorem dX4_change_20 : decode cX4_change 20 = .ok (.iload 5, 2) := by decide +kernel
theorem dX4_change_22 : decode cX4_change 22 = .ok (.aload_n 0, 1) := by decide +kernel
theorem dX4_change_23 : decode cX4_change 23 = .ok (.getfield 9, 3) := by decide +kernel
theorem dX4_change_26 : decode cX4_change 26 = .ok (.arraylength, 1) := by decide +kernel
theorem dX4_change_27 : decode cX4_change 27 = .ok (.if_icmp .ge 11, 3) := by decide +kernel
theorem dX4_change_30 : decode cX4_change 30 = .ok (.aload_n 0, 1) := by decide +kernel
theorem dX4_change_31 : decode cX4_change 31 = .ok (.getfield 9, 3) := by decide +kernel
theorem dX4_change_34 : decode cX4_change 34 = .ok (.iload 5, 2) := by decide +kernel
theorem dX4_change_36 : decode cX4_change 36 = .ok (.iload_n 3, 1) := by decide +kernel
theorem dX4_change_37 : decode cX4_change 37 = .ok (.iastore, 1) := by decide +kernel
theorem dX4_change_38 : decode cX4_change 38 = .ok (.iload 4, 2) := by decide +kernel
theorem dX4_change_40 : decode cX4_change 40 = .ok (.ireturn, 1) := by decide +kernel
set_option maxRecDepth 20000 in
theorem ggX4_allows_X4_trait : GoodIn wsX4_allows wsX4_trait := goodIn_r _ [6, 7, 27, 28, 29] (by decide +kernel) (by decide +kernel)
set_option maxRecDepth 20000 in
theorem gX4_allows_X4_trait : GoodIn wsX4_allows (wsV RX4 28 RX4 yX4_trait wsX4_trait) := goodIn_app (goodIn_of _ (by decide +kernel)) ggX4_allows_X4_trait
set_option maxRecDepth 20000 in
theorem ggX4_allows_X6_allows : GoodIn wsX4_allows wsX6_allows := goodIn_r _ [12, 13, 14, 15, 16, 11, 17, 18, 19, 20, 21, 22, 23, 24, 25, 26, 30, 31] (by decide +kernel) (by decide +kernel)
set_option maxRecDepth 20000 in
theorem gX4_allows_X6_allows : GoodIn wsX4_allows (wsV RX4 32 RX6 yX6_allows wsX6_allows) := goodIn_app (goodIn_of _ (by decide +kernel)) ggX4_allows_X6_allows
theorem dX4_allows_0 : decode cX4_allows 0 = .ok (.aload_n 0, 1) := by decide +kernel
theorem dX4_allows_1 : decode cX4_allows 1 = .ok (.getfield 18, 3) := by decide +kernel
theorem dX4_allows_4 : decode cX4_allows 4 = .ok (.aload_n 0, 1) := by decide +kernel
theorem dX4_allows_5 : decode cX4_allows 5 = .ok (.iload_n 1, 1) := by decide +kernel
theorem dX4_allows_6 : decode cX4_allows 6 = .ok (.iconst 0, 1) := by decide +kernel
theorem dX4_allows_7 : decode cX4_allows 7 = .ok (.invokevirtual 28, 3) := by decide +kernel
theorem dX4_allows_10 : decode cX4_allows 10 = .ok (.aload_n 0, 1) := by decide +kernel
theorem dX4_allows_11 : decode cX4_allows 11 = .ok (.iload_n 1, 1) := by decide +kernel
theorem dX4_allows_12 : decode cX4_allows 12 = .ok (.iconst 1, 1) := by decide +kernel
theorem dX4_allows_13 : decode cX4_allows 13 = .ok (.invokevirtual 28, 3) := by decide +kernel
theorem dX4_allows_16 : decode cX4_allows 16 = .ok (.aload_n 0, 1) := by decide +kernel
theorem dX4_allows_17 : decode cX4_allows 17 = .ok (.iload_n 1, 1) := by decide +kernel
theorem dX4_allows_18 : decode cX4_allows 18 = .ok (.iconst 2, 1) := by decide +kernel
theorem dX4_allows_19 : decode cX4_allows 19 = .ok (.invokevirtual 28, 3) := by decide +kernel
theorem dX4_allows_22 : decode cX4_allows 22 = .ok (.invokevirtual 32, 3) := by decide +kernel
theorem dX4_allows_25 : decode cX4_allows 25 = .ok (.ireturn, 1) := by decide +kernel
theorem dX4_trait_0 : decode cX4_trait 0 = .ok (.iload_n 1, 1) := by decide +kernel
theorem dX4_trait_1 : decode cX4_trait 1 = .ok (.iconst 3, 1) := by decide +kernel
theorem dX4_trait_2 : decode cX4_trait 2 = .ok (.imul, 1) := by decide +kernel
theorem dX4_trait_3 : decode cX4_trait 3 = .ok (.iload_n 2, 1) := by decide +kernel
theorem dX4_trait_4 : decode cX4_trait 4 = .ok (.iadd, 1) := by decide +kernel
theorem dX4_trait_5 : decode cX4_trait 5 = .ok (.istore_n 3, 1) := by decide +kernel
theorem dX4_trait_6 : decode cX4_trait 6 = .ok (.iload_n 3, 1) := by decide +kernel
theorem dX4_trait_7 : decode cX4_trait 7 = .ok (.ifCond .lt 21, 3) := by decide +kernel
theorem dX4_trait_10 : decode cX4_trait 10 = .ok (.iload_n 3, 1) := by decide +kernel
theorem dX4_trait_11 : decode cX4_trait 11 = .ok (.aload_n 0, 1) := by decide +kernel
theorem dX4_trait_12 : decode cX4_trait 12 = .ok (.getfield 9, 3) := by decide +kernel
theorem dX4_trait_15 : decode cX4_trait 15 = .ok (.arraylength, 1) := by decide +kernel
theorem dX4_trait_16 : decode cX4_trait 16 = .ok (.if_icmp .ge 12, 3) := by decide +kernel
theorem dX4_trait_19 : decode cX4_trait 19 = .ok (.aload_n 0, 1) := by decide +kernel
theorem dX4_trait_20 : decode cX4_trait 20 = .ok (.getfield 9, 3) := by decide +kernel
theorem dX4_trait_23 : decode cX4_trait 23 = .ok (.iload_n 3, 1) := by decide +kernel
theorem dX4_trait_24 : decode cX4_trait 24 = .ok (.iaload, 1) := by decide +kernel
theorem dX4_trait_25 : decode cX4_trait 25 = .ok (.goto 4, 3) := by decide +kernel
theorem dX4_trait_28 : decode cX4_trait 28 = .ok (.iconst 0, 1) := by decide +kernel
theorem dX4_trait_29 : decode cX4_trait 29 = .ok (.ireturn, 1) := by decide +kernel
theorem dX5_init_0 : decode cX5_init 0 = .ok (.aload_n 0, 1) := by decide +kernel
theorem dX5_init_1 : decode cX5_init 1 = .ok (.invokespecial 3, 3) := by decide +kernel
theorem dX5_init_4 : decode cX5_init 4 = .ok (.aload_n 0, 1) := by decide +kernel
theorem dX5_init_5 : decode cX5_init 5 = .ok (.iload_n 1, 1) := by decide +kernel
theorem dX5_init_6 : decode cX5_init 6 = .ok (.putfield 9, 3) := by decide +kernel
theorem dX5_init_9 : decode cX5_init 9 = .ok (.aload_n 0, 1) := by decide +kernel
theorem dX5_init_10 : decode cX5_init 10 = .ok (.iload_n 2, 1) := by decide +kernel
theorem dX5_init_11 : decode cX5_init 11 = .ok (.putfield 15, 3) := by decide +kernel
theorem dX5_init_14 : decode cX5_init 14 = .ok (.aload_n 0, 1) := by decide +kernel
theorem dX5_init_15 : decode cX5_init 15 = .ok (.iload_n 3, 1) := by decide +kernel
theorem dX5_init_16 : decode cX5_init 16 = .ok (.putfield 18, 3) := by decide +kernel
theorem dX5_init_19 : decode cX5_init 19 = .ok (.aload_n 0, 1) := by decide +kernel
theorem dX5_init_20 : decode cX5_init 20 = .ok (.iload 4, 2) := by decide +kernel
theorem dX5_init_22 : decode cX5_init 22 = .ok (.putfield 21, 3) := by decide +kernel
theorem dX5_init_25 : decode cX5_init 25 = .ok (.aload_n 0, 1) := by decide +kernel
theorem dX5_init_26 : decode cX5_init 26 = .ok (.iload 5, 2) := by decide +kernel
theorem dX5_init_28 : decode cX5_init 28 = .ok (.putfield 24, 3) := by decide +kernel
theorem dX5_init_31 : decode cX5_init 31 = .ok (.aload_n 0, 1) := by decide +kernel
theorem dX5_init_32 : decode cX5_init 32 = .ok (.iload 6, 2) := by decide +kernel
theorem dX5_init_34 : decode cX5_init 34 = .ok (.putfield 28, 3) := by decide +kernel
theorem dX5_init_37 : decode cX5_init 37 = .ok (.return_, 1) := by decide +kernel
set_option maxRecDepth 20000 in
theorem ggX5_word_X5_wordWith : GoodIn wsX5_word wsX5_wordWith := goodIn_r _ [8] (by decide +kernel) (by decide +kernel)
set_option maxRecDepth 20000 in
theorem gX5_word_X5_wordWith : GoodIn wsX5_word (va_wsS RX5 31 yX5_wordWith wsX5_wordWith) := goodIn_app (goodIn_of _ (by decide +kernel)) ggX5_word_X5_wordWith
theorem dX5_word_0 : decode cX5_word 0 = .ok (.bipush 7, 2) := by decide +kernel
theorem dX5_word_2 : decode cX5_word 2 = .ok (.aload_n 0, 1) := by decide +kernel
theorem dX5_word_3 : decode cX5_word 3 = .ok (.getfield 9, 3) := by decide +kernel
theorem dX5_word_6 : decode cX5_word 6 = .ok (.invokestatic 31, 3) := by decide +kernel
theorem dX5_word_9 : decode cX5_word 9 = .ok (.istore_n 1, 1) := by decide +kernel
theorem dX5_word_10 : decode cX5_word 10 = .ok (.iload_n 1, 1) := by decide +kernel
theorem dX5_word_11 : decode cX5_word 11 = .ok (.aload_n 0, 1) := by decide +kernel
theorem dX5_word_12 : decode cX5_word 12 = .ok (.getfield 15, 3) := by decide +kernel
theorem dX5_word_15 : decode cX5_word 15 = .ok (.invokestatic 31, 3) := by decide +kernel
theorem dX5_word_18 : decode cX5_word 18 = .ok (.istore_n 1, 1) := by decide +kernel
theorem dX5_word_19 : decode cX5_word 19 = .ok (.iload_n 1, 1) := by decide +kernel
theorem dX5_word_20 : decode cX5_word 20 = .ok (.aload_n 0, 1) := by decide +kernel
theorem dX5_word_21 : decode cX5_word 21 = .ok (.getfield 18, 3) := by decide +kernel
theorem dX5_word_24 : decode cX5_word 24 = .ok (.invokestatic 31, 3) := by decide +kernel
theorem dX5_word_27 : decode cX5_word 27 = .ok (.istore_n 1, 1) := by decide +kernel
theorem dX5_word_28 : decode cX5_word 28 = .ok (.iload_n 1, 1) := by decide +kernel
theorem dX5_word_29 : decode cX5_word 29 = .ok (.aload_n 0, 1) := by decide +kernel
theorem dX5_word_30 : decode cX5_word 30 = .ok (.getfield 21, 3) := by decide +kernel
theorem dX5_word_33 : decode cX5_word 33 = .ok (.invokestatic 31, 3) := by decide +kernel
theorem dX5_word_36 : decode cX5_word 36 = .ok (.ireturn, 1) := by decide +kernel
theorem dX5_wordWith_0 : decode cX5_wordWith 0 = .ok (.iload_n 0, 1) := by decide +kernel
theorem dX5_wordWith_1 : decode cX5_wordWith 1 = .ok (.sipush 131, 3) := by decide +kernel
theorem dX5_wordWith_4 : decode cX5_wordWith 4 = .ok (.imul, 1) := by decide +kernel
theorem dX5_wordWith_5 : decode cX5_wordWith 5 = .ok (.iload_n 1, 1) := by decide +kernel
theorem dX5_wordWith_6 : decode cX5_wordWith 6 = .ok (.iadd, 1) := by decide +kernel
theorem dX5_wordWith_7 : decode cX5_wordWith 7 = .ok (.sipush 9973, 3) := by decide +kernel
theorem dX5_wordWith_10 : decode cX5_wordWith 10 = .ok (.irem, 1) := by decide +kernel
theorem dX5_wordWith_11 : decode cX5_wordWith 11 = .ok (.ireturn, 1) := by decide +kernel
theorem dX6_init_0 : decode cX6_init 0 = .ok (.aload_n 0, 1) := by decide +kernel
theorem dX6_init_1 : decode cX6_init 1 = .ok (.invokespecial 3, 3) := by decide +kernel
theorem dX6_init_4 : decode cX6_init 4 = .ok (.aload_n 0, 1) := by decide +kernel
theorem dX6_init_5 : decode cX6_init 5 = .ok (.bipush 40, 2) := by decide +kernel
theorem dX6_init_7 : decode cX6_init 7 = .ok (.newarray .int, 2) := by decide +kernel
theorem dX6_init_9 : decode cX6_init 9 = .ok (.putfield 9, 3) := by decide +kernel
theorem dX6_init_12 : decode cX6_init 12 = .ok (.aload_n 0, 1) := by decide +kernel
theorem dX6_init_13 : decode cX6_init 13 = .ok (.iconst 0, 1) := by decide +kernel
theorem dX6_init_14 : decode cX6_init 14 = .ok (.putfield 15, 3) := by decide +kernel
theorem dX6_init_17 : decode cX6_init 17 = .ok (.return_, 1) := by decide +kernel
theorem dX6_size_0 : decode cX6_size 0 = .ok (.aload_n 0, 1) := by decide +kernel
theorem dX6_size_1 : decode cX6_size 1 = .ok (.getfield 15, 3) := by decide +kernel
theorem dX6_size_4 : decode cX6_size 4 = .ok (.ireturn, 1) := by decide +kernel
theorem dX6_clear_0 : decode cX6_clear 0 = .ok (.aload_n 0, 1) := by decide +kernel
theorem dX6_clear_1 : decode cX6_clear 1 = .ok (.iconst 0, 1) := by decide +kernel
theorem dX6_clear_2 : decode cX6_clear 2 = .ok (.putfield 15, 3) := by decide +kernel
theorem dX6_clear_5 : decode cX6_clear 5 = .ok (.return_, 1) := by decide +kernel
theorem dX6_add_0 : decode cX6_add 0 = .ok (.aload_n 0, 1) := by decide +kernel
theorem dX6_add_1 : decode cX6_add 1 = .ok (.getfield 15, 3) := by decide +kernel
theorem dX6_add_4 : decode cX6_add 4 = .ok (.ifCond .lt 15, 3) := by decide +kernel
theorem dX6_add_7 : decode cX6_add 7 = .ok (.aload_n 0, 1) := by decide +kernel
theorem dX6_add_8 : decode cX6_add 8 = .ok (.getfield 15, 3) := by decide +kernel
theorem dX6_add_11 : decode cX6_add 11 = .ok (.aload_n 0, 1) := by decide +kernel
theorem dX6_add_12 : decode cX6_add 12 = .ok (.getfield 9, 3) := by decide +kernel
theorem dX6_add_15 : decode cX6_add 15 = .ok (.arraylength, 1) := by decide +kernel
theorem dX6_add_16 : decode cX6_add 16 = .ok (.if_icmp .lt 5, 3) := by decide +kernel
theorem dX6_add_19 : decode cX6_add 19 = .ok (.iconst 0, 1) := by decide +kernel
theorem dX6_add_20 : decode cX6_add 20 = .ok (.ireturn, 1) := by decide +kernel
theorem dX6_add_21 : decode cX6_add 21 = .ok (.aload_n 0, 1) := by decide +kernel
theorem dX6_add_22 : decode cX6_add 22 = .ok (.getfield 9, 3) := by decide +kernel
theorem dX6_add_25 : decode cX6_add 25 = .ok (.aload_n 0, 1) := by decide +kernel
theorem dX6_add_26 : decode cX6_add 26 = .ok (.getfield 15, 3) := by decide +kernel
theorem dX6_add_29 : decode cX6_add 29 = .ok (.iload_n 1, 1) := by decide +kernel
theorem dX6_add_30 : decode cX6_add 30 = .ok (.iastore, 1) := by decide +kernel
theorem dX6_add_31 : decode cX6_add 31 = .ok (.aload_n 0, 1) := by decide +kernel
theorem dX6_add_32 : decode cX6_add 32 = .ok (.dup, 1) := by decide +kernel
theorem dX6_add_33 : decode cX6_add 33 = .ok (.getfield 15, 3) := by decide +kernel
theorem dX6_add_36 : decode cX6_add 36 = .ok (.iconst 1, 1) := by decide +kernel
theorem dX6_add_37 : decode cX6_add 37 = .ok (.iadd, 1) := by decide +kernel
theorem dX6_add_38 : decode cX6_add 38 = .ok (.putfield 15, 3) := by decide +kernel
theorem dX6_add_41 : decode cX6_add 41 = .ok (.iconst 1, 1) := by decide +kernel
theorem dX6_add_42 : decode cX6_add 42 = .ok (.ireturn, 1) := by decide +kernel
set_option maxRecDepth 20000 in
theorem ggX6_faultPlace_X6_stateBehind : GoodIn wsX6_faultPlace wsX6_stateBehind := goodIn_r _ [6, 7, 8, 5, 9, 10, 11, 12, 13, 14, 15, 16, 17, 18] (by decide +kernel) (by decide +kernel)
set_option maxRecDepth 20000 in
theorem gX6_faultPlace_X6_stateBehind : GoodIn wsX6_faultPlace (va_wsS RX6 19 yX6_stateBehind wsX6_stateBehind) := goodIn_app (goodIn_of _ (by decide +kernel)) ggX6_faultPlace_X6_stateBehind
theorem dX6_faultPlace_0 : decode cX6_faultPlace 0 = .ok (.iconst 0, 1) := by decide +kernel
theorem dX6_faultPlace_1 : decode cX6_faultPlace 1 = .ok (.istore_n 1, 1) := by decide +kernel
theorem dX6_faultPlace_2 : decode cX6_faultPlace 2 = .ok (.iconst 0, 1) := by decide +kernel
theorem dX6_faultPlace_3 : decode cX6_faultPlace 3 = .ok (.istore_n 2, 1) := by decide +kernel
theorem dX6_faultPlace_4 : decode cX6_faultPlace 4 = .ok (.iload_n 2, 1) := by decide +kernel
theorem dX6_faultPlace_5 : decode cX6_faultPlace 5 = .ok (.aload_n 0, 1) := by decide +kernel
theorem dX6_faultPlace_6 : decode cX6_faultPlace 6 = .ok (.getfield 15, 3) := by decide +kernel
theorem dX6_faultPlace_9 : decode cX6_faultPlace 9 = .ok (.if_icmp .ge 36, 3) := by decide +kernel
theorem dX6_faultPlace_12 : decode cX6_faultPlace 12 = .ok (.iload_n 2, 1) := by decide +kernel
theorem dX6_faultPlace_13 : decode cX6_faultPlace 13 = .ok (.aload_n 0, 1) := by decide +kernel
theorem dX6_faultPlace_14 : decode cX6_faultPlace 14 = .ok (.getfield 9, 3) := by decide +kernel
theorem dX6_faultPlace_17 : decode cX6_faultPlace 17 = .ok (.arraylength, 1) := by decide +kernel
theorem dX6_faultPlace_18 : decode cX6_faultPlace 18 = .ok (.if_icmp .ge 27, 3) := by decide +kernel
theorem dX6_faultPlace_21 : decode cX6_faultPlace 21 = .ok (.iload_n 1, 1) := by decide +kernel
theorem dX6_faultPlace_22 : decode cX6_faultPlace 22 = .ok (.aload_n 0, 1) := by decide +kernel
theorem dX6_faultPlace_23 : decode cX6_faultPlace 23 = .ok (.getfield 9, 3) := by decide +kernel
theorem dX6_faultPlace_26 : decode cX6_faultPlace 26 = .ok (.iload_n 2, 1) := by decide +kernel
theorem dX6_faultPlace_27 : decode cX6_faultPlace 27 = .ok (.iaload, 1) := by decide +kernel
theorem dX6_faultPlace_28 : decode cX6_faultPlace 28 = .ok (.invokestatic 19, 3) := by decide +kernel
theorem dX6_faultPlace_31 : decode cX6_faultPlace 31 = .ok (.istore_n 1, 1) := by decide +kernel
theorem dX6_faultPlace_32 : decode cX6_faultPlace 32 = .ok (.iload_n 1, 1) := by decide +kernel
theorem dX6_faultPlace_33 : decode cX6_faultPlace 33 = .ok (.iconst (-1), 1) := by decide +kernel
theorem dX6_faultPlace_34 : decode cX6_faultPlace 34 = .ok (.if_icmp .ne 5, 3) := by decide +kernel
theorem dX6_faultPlace_37 : decode cX6_faultPlace 37 = .ok (.iload_n 2, 1) := by decide +kernel
theorem dX6_faultPlace_38 : decode cX6_faultPlace 38 = .ok (.ireturn, 1) := by decide +kernel
theorem dX6_faultPlace_39 : decode cX6_faultPlace 39 = .ok (.iinc 2 1, 3) := by decide +kernel
theorem dX6_faultPlace_42 : decode cX6_faultPlace 42 = .ok (.goto (-38), 3) := by decide +kernel
theorem dX6_faultPlace_45 : decode cX6_faultPlace 45 = .ok (.iload_n 1, 1) := by decide +kernel
theorem dX6_faultPlace_46 : decode cX6_faultPlace 46 = .ok (.iconst 3, 1) := by decide +kernel
theorem dX6_faultPlace_47 : decode cX6_faultPlace 47 = .ok (.if_icmp .lt 8, 3) := by decide +kernel
theorem dX6_faultPlace_50 : decode cX6_faultPlace 50 = .ok (.bipush (-6), 2) := by decide +kernel
theorem dX6_faultPlace_52 : decode cX6_faultPlace 52 = .ok (.goto 7, 3) := by decide +kernel
theorem dX6_faultPlace_55 : decode cX6_faultPlace 55 = .ok (.aload_n 0, 1) := by decide +kernel
theorem dX6_faultPlace_56 : decode cX6_faultPlace 56 = .ok (.getfield 15, 3) := by decide +kernel
theorem dX6_faultPlace_59 : decode cX6_faultPlace 59 = .ok (.ireturn, 1) := by decide +kernel
set_option maxRecDepth 20000 in
theorem ggX6_stateBehind_X6_isName : GoodIn wsX6_stateBehind wsX6_isName := goodIn_r _ [4] (by decide +kernel) (by decide +kernel)
set_option maxRecDepth 20000 in
theorem gX6_stateBehind_X6_isName : GoodIn wsX6_stateBehind (va_wsS RX6 23 yX6_isName wsX6_isName) := goodIn_app (goodIn_of _ (by decide +kernel)) ggX6_stateBehind_X6_isName
set_option maxRecDepth 20000 in
theorem ggX6_stateBehind_X6_isCompare : GoodIn wsX6_stateBehind wsX6_isCompare := goodIn_r _ [7] (by decide +kernel) (by decide +kernel)
set_option maxRecDepth 20000 in
theorem gX6_stateBehind_X6_isCompare : GoodIn wsX6_stateBehind (va_wsS RX6 27 yX6_isCompare wsX6_isCompare) := goodIn_app (goodIn_of _ (by decide +kernel)) ggX6_stateBehind_X6_isCompare
set_option maxRecDepth 20000 in
theorem ggX6_stateBehind_X6_isDigit : GoodIn wsX6_stateBehind wsX6_isDigit := goodIn_r _ [10] (by decide +kernel) (by decide +kernel)
set_option maxRecDepth 20000 in
theorem gX6_stateBehind_X6_isDigit : GoodIn wsX6_stateBehind (va_wsS RX6 30 yX6_isDigit wsX6_isDigit) := goodIn_app (goodIn_of _ (by decide +kernel)) ggX6_stateBehind_X6_isDigit
set_option maxRecDepth 20000 in
theorem ggX6_stateBehind_X6_isJoin : GoodIn wsX6_stateBehind wsX6_isJoin := goodIn_r _ [13] (by decide +kernel) (by decide +kernel)
set_option maxRecDepth 20000 in
theorem gX6_stateBehind_X6_isJoin : GoodIn wsX6_stateBehind (va_wsS RX6 33 yX6_isJoin wsX6_isJoin) := goodIn_app (goodIn_of _ (by decide +kernel)) ggX6_stateBehind_X6_isJoin
theorem dX6_stateBehind_0 : decode cX6_stateBehind 0 = .ok (.iload_n 0, 1) := by decide +kernel
theorem dX6_stateBehind_1 : decode cX6_stateBehind 1 = .ok (.ifCond .ne 16, 3) := by decide +kernel
theorem dX6_stateBehind_4 : decode cX6_stateBehind 4 = .ok (.iload_n 1, 1) := by decide +kernel
theorem dX6_stateBehind_5 : decode cX6_stateBehind 5 = .ok (.invokestatic 23, 3) := by decide +kernel
theorem dX6_stateBehind_8 : decode cX6_stateBehind 8 = .ok (.ifCond .eq 7, 3) := by decide +kernel
theorem dX6_stateBehind_11 : decode cX6_stateBehind 11 = .ok (.iconst 1, 1) := by decide +kernel
theorem dX6_stateBehind_12 : decode cX6_stateBehind 12 = .ok (.goto 4, 3) := by decide +kernel
theorem dX6_stateBehind_15 : decode cX6_stateBehind 15 = .ok (.iconst (-1), 1) := by decide +kernel
theorem dX6_stateBehind_16 : decode cX6_stateBehind 16 = .ok (.ireturn, 1) := by decide +kernel
theorem dX6_stateBehind_17 : decode cX6_stateBehind 17 = .ok (.iload_n 0, 1) := by decide +kernel
theorem dX6_stateBehind_18 : decode cX6_stateBehind 18 = .ok (.iconst 1, 1) := by decide +kernel
theorem dX6_stateBehind_19 : decode cX6_stateBehind 19 = .ok (.if_icmp .ne 16, 3) := by decide +kernel
theorem dX6_stateBehind_22 : decode cX6_stateBehind 22 = .ok (.iload_n 1, 1) := by decide +kernel
theorem dX6_stateBehind_23 : decode cX6_stateBehind 23 = .ok (.invokestatic 27, 3) := by decide +kernel
theorem dX6_stateBehind_26 : decode cX6_stateBehind 26 = .ok (.ifCond .eq 7, 3) := by decide +kernel
theorem dX6_stateBehind_29 : decode cX6_stateBehind 29 = .ok (.iconst 2, 1) := by decide +kernel
theorem dX6_stateBehind_30 : decode cX6_stateBehind 30 = .ok (.goto 4, 3) := by decide +kernel
theorem dX6_stateBehind_33 : decode cX6_stateBehind 33 = .ok (.iconst (-1), 1) := by decide +kernel
theorem dX6_stateBehind_34 : decode cX6_stateBehind 34 = .ok (.ireturn, 1) := by decide +kernel
theorem dX6_stateBehind_35 : decode cX6_stateBehind 35 = .ok (.iload_n 1, 1) := by decide +kernel
theorem dX6_stateBehind_36 : decode cX6_stateBehind 36 = .ok (.invokestatic 30, 3) := by decide +kernel
theorem dX6_stateBehind_39 : decode cX6_stateBehind 39 = .ok (.ifCond .eq 16, 3) := by decide +kernel
theorem dX6_stateBehind_42 : decode cX6_stateBehind 42 = .ok (.iload_n 0, 1) := by decide +kernel
theorem dX6_stateBehind_43 : decode cX6_stateBehind 43 = .ok (.iconst 5, 1) := by decide +kernel
theorem dX6_stateBehind_44 : decode cX6_stateBehind 44 = .ok (.if_icmp .ge 9, 3) := by decide +kernel
theorem dX6_stateBehind_47 : decode cX6_stateBehind 47 = .ok (.iload_n 0, 1) := by decide +kernel
theorem dX6_stateBehind_48 : decode cX6_stateBehind 48 = .ok (.iconst 1, 1) := by decide +kernel
theorem dX6_stateBehind_49 : decode cX6_stateBehind 49 = .ok (.iadd, 1) := by decide +kernel
theorem dX6_stateBehind_50 : decode cX6_stateBehind 50 = .ok (.goto 4, 3) := by decide +kernel
theorem dX6_stateBehind_53 : decode cX6_stateBehind 53 = .ok (.iconst (-1), 1) := by decide +kernel
theorem dX6_stateBehind_54 : decode cX6_stateBehind 54 = .ok (.ireturn, 1) := by decide +kernel
theorem dX6_stateBehind_55 : decode cX6_stateBehind 55 = .ok (.iload_n 0, 1) := by decide +kernel
theorem dX6_stateBehind_56 : decode cX6_stateBehind 56 = .ok (.iconst 3, 1) := by decide +kernel
theorem dX6_stateBehind_57 : decode cX6_stateBehind 57 = .ok (.if_icmp .lt 14, 3) := by decide +kernel
theorem dX6_stateBehind_60 : decode cX6_stateBehind 60 = .ok (.iload_n 1, 1) := by decide +kernel
theorem dX6_stateBehind_61 : decode cX6_stateBehind 61 = .ok (.invokestatic 33, 3) := by decide +kernel
theorem dX6_stateBehind_64 : decode cX6_stateBehind 64 = .ok (.ifCond .eq 7, 3) := by decide +kernel
theorem dX6_stateBehind_67 : decode cX6_stateBehind 67 = .ok (.iconst 0, 1) := by decide +kernel
theorem dX6_stateBehind_68 : decode cX6_stateBehind 68 = .ok (.goto 4, 3) := by decide +kernel
theorem dX6_stateBehind_71 : decode cX6_stateBehind 71 = .ok (.iconst (-1), 1) := by decide +kernel
theorem dX6_stateBehind_72 : decode cX6_stateBehind 72 = .ok (.ireturn, 1) := by decide +kernel
set_option maxRecDepth 20000 in
theorem ggX6_allows_X6_isName : GoodIn wsX6_allows wsX6_isName := goodIn_r _ [6] (by decide +kernel) (by decide +kernel)
set_option maxRecDepth 20000 in
theorem gX6_allows_X6_isName : GoodIn wsX6_allows (va_wsS RX6 23 yX6_isName wsX6_isName) := goodIn_app (goodIn_of _ (by decide +kernel)) ggX6_allows_X6_isName
set_option maxRecDepth 20000 in
theorem ggX6_allows_X6_isCompare : GoodIn wsX6_allows wsX6_isCompare := goodIn_r _ [9] (by decide +kernel) (by decide +kernel)
set_option maxRecDepth 20000 in
theorem gX6_allows_X6_isCompare : GoodIn wsX6_allows (va_wsS RX6 27 yX6_isCompare wsX6_isCompare) := goodIn_app (goodIn_of _ (by decide +kernel)) ggX6_allows_X6_isCompare
set_option maxRecDepth 20000 in
theorem ggX6_allows_X6_isDigit : GoodIn wsX6_allows wsX6_isDigit := goodIn_r _ [12] (by decide +kernel) (by decide +kernel)
set_option maxRecDepth 20000 in
theorem gX6_allows_X6_isDigit : GoodIn wsX6_allows (va_wsS RX6 30 yX6_isDigit wsX6_isDigit) := goodIn_app (goodIn_of _ (by decide +kernel)) ggX6_allows_X6_isDigit
set_option maxRecDepth 20000 in
theorem ggX6_allows_X6_passes : GoodIn wsX6_allows wsX6_passes := goodIn_r _ [15] (by decide +kernel) (by decide +kernel)
set_option maxRecDepth 20000 in
theorem gX6_allows_X6_passes : GoodIn wsX6_allows (va_wsS RX6 36 yX6_passes wsX6_passes) := goodIn_app (goodIn_of _ (by decide +kernel)) ggX6_allows_X6_passes
theorem dX6_allows_0 : decode cX6_allows 0 = .ok (.aload_n 0, 1) := by decide +kernel
theorem dX6_allows_1 : decode cX6_allows 1 = .ok (.getfield 15, 3) := by decide +kernel
theorem dX6_allows_4 : decode cX6_allows 4 = .ok (.ifCond .ne 5, 3) := by decide +kernel
theorem dX6_allows_7 : decode cX6_allows 7 = .ok (.iconst 1, 1) := by decide +kernel
theorem dX6_allows_8 : decode cX6_allows 8 = .ok (.ireturn, 1) := by decide +kernel
theorem dX6_allows_9 : decode cX6_allows 9 = .ok (.iconst 0, 1) := by decide +kernel
theorem dX6_allows_10 : decode cX6_allows 10 = .ok (.istore 4, 2) := by decide +kernel
theorem dX6_allows_12 : decode cX6_allows 12 = .ok (.iconst 1, 1) := by decide +kernel
theorem dX6_allows_13 : decode cX6_allows 13 = .ok (.istore 5, 2) := by decide +kernel
theorem dX6_allows_15 : decode cX6_allows 15 = .ok (.iconst 0, 1) := by decide +kernel
theorem dX6_allows_16 : decode cX6_allows 16 = .ok (.istore 6, 2) := by decide +kernel
theorem dX6_allows_18 : decode cX6_allows 18 = .ok (.iconst 0, 1) := by decide +kernel
theorem dX6_allows_19 : decode cX6_allows 19 = .ok (.istore 7, 2) := by decide +kernel
theorem dX6_allows_21 : decode cX6_allows 21 = .ok (.iconst 0, 1) := by decide +kernel
theorem dX6_allows_22 : decode cX6_allows 22 = .ok (.istore 8, 2) := by decide +kernel
theorem dX6_allows_24 : decode cX6_allows 24 = .ok (.iconst 0, 1) := by decide +kernel
theorem dX6_allows_25 : decode cX6_allows 25 = .ok (.istore 9, 2) := by decide +kernel
theorem dX6_allows_27 : decode cX6_allows 27 = .ok (.iload 9, 2) := by decide +kernel
theorem dX6_allows_29 : decode cX6_allows 29 = .ok (.aload_n 0, 1) := by decide +kernel
theorem dX6_allows_30 : decode cX6_allows 30 = .ok (.getfield 15, 3) := by decide +kernel
theorem dX6_allows_33 : decode cX6_allows 33 = .ok (.if_icmp .ge 157, 3) := by decide +kernel
theorem dX6_allows_36 : decode cX6_allows 36 = .ok (.iload 9, 2) := by decide +kernel
theorem dX6_allows_38 : decode cX6_allows 38 = .ok (.aload_n 0, 1) := by decide +kernel
theorem dX6_allows_39 : decode cX6_allows 39 = .ok (.getfield 9, 3) := by decide +kernel
theorem dX6_allows_42 : decode cX6_allows 42 = .ok (.arraylength, 1) := by decide +kernel
theorem dX6_allows_43 : decode cX6_allows 43 = .ok (.if_icmp .ge 147, 3) := by decide +kernel
theorem dX6_allows_46 : decode cX6_allows 46 = .ok (.aload_n 0, 1) := by decide +kernel
theorem dX6_allows_47 : decode cX6_allows 47 = .ok (.getfield 9, 3) := by decide +kernel
theorem dX6_allows_50 : decode cX6_allows 50 = .ok (.iload 9, 2) := by decide +kernel
theorem dX6_allows_52 : decode cX6_allows 52 = .ok (.iaload, 1) := by decide +kernel
theorem dX6_allows_53 : decode cX6_allows 53 = .ok (.istore 10, 2) := by decide +kernel
theorem dX6_allows_55 : decode cX6_allows 55 = .ok (.iload 10, 2) := by decide +kernel
theorem dX6_allows_57 : decode cX6_allows 57 = .ok (.invokestatic 23, 3) := by decide +kernel
theorem dX6_allows_60 : decode cX6_allows 60 = .ok (.ifCond .eq 34, 3) := by decide +kernel
theorem dX6_allows_63 : decode cX6_allows 63 = .ok (.iload 10, 2) := by decide +kernel
theorem dX6_allows_65 : decode cX6_allows 65 = .ok (.bipush 97, 2) := by decide +kernel
theorem dX6_allows_67 : decode cX6_allows 67 = .ok (.if_icmp .ne 7, 3) := by decide +kernel
theorem dX6_allows_70 : decode cX6_allows 70 = .ok (.iload_n 1, 1) := by decide +kernel
theorem dX6_allows_71 : decode cX6_allows 71 = .ok (.goto 15, 3) := by decide +kernel
theorem dX6_allows_74 : decode cX6_allows 74 = .ok (.iload 10, 2) := by decide +kernel
theorem dX6_allows_76 : decode cX6_allows 76 = .ok (.bipush 121, 2) := by decide +kernel
theorem dX6_allows_78 : decode cX6_allows 78 = .ok (.if_icmp .ne 7, 3) := by decide +kernel
theorem dX6_allows_81 : decode cX6_allows 81 = .ok (.iload_n 2, 1) := by decide +kernel
theorem dX6_allows_82 : decode cX6_allows 82 = .ok (.goto 4, 3) := by decide +kernel
theorem dX6_allows_85 : decode cX6_allows 85 = .ok (.iload_n 3, 1) := by decide +kernel
theorem dX6_allows_86 : decode cX6_allows 86 = .ok (.istore 6, 2) := by decide +kernel
theorem dX6_allows_88 : decode cX6_allows 88 = .ok (.iconst 0, 1) := by decide +kernel
theorem dX6_allows_89 : decode cX6_allows 89 = .ok (.istore 8, 2) := by decide +kernel
theorem dX6_allows_91 : decode cX6_allows 91 = .ok (.goto 93, 3) := by decide +kernel
theorem dX6_allows_94 : decode cX6_allows 94 = .ok (.iload 10, 2) := by decide +kernel
theorem dX6_allows_96 : decode cX6_allows 96 = .ok (.invokestatic 27, 3) := by decide +kernel
theorem dX6_allows_99 : decode cX6_allows 99 = .ok (.ifCond .eq 10, 3) := by decide +kernel
theorem dX6_allows_102 : decode cX6_allows 102 = .ok (.iload 10, 2) := by decide +kernel
theorem dX6_allows_104 : decode cX6_allows 104 = .ok (.istore 7, 2) := by decide +kernel
theorem dX6_allows_106 : decode cX6_allows 106 = .ok (.goto 78, 3) := by decide +kernel
theorem dX6_allows_109 : decode cX6_allows 109 = .ok (.iload 10, 2) := by decide +kernel
theorem dX6_allows_111 : decode cX6_allows 111 = .ok (.invokestatic 30, 3) := by decide +kernel
theorem dX6_allows_114 : decode cX6_allows 114 = .ok (.ifCond .eq 19, 3) := by decide +kernel
theorem dX6_allows_117 : decode cX6_allows 117 = .ok (.iload 8, 2) := by decide +kernel
theorem dX6_allows_119 : decode cX6_allows 119 = .ok (.bipush 10, 2) := by decide +kernel
theorem dX6_allows_121 : decode cX6_allows 121 = .ok (.imul, 1) := by decide +kernel
theorem dX6_allows_122 : decode cX6_allows 122 = .ok (.iload 10, 2) := by decide +kernel
theorem dX6_allows_124 : decode cX6_allows 124 = .ok (.iadd, 1) := by decide +kernel
theorem dX6_allows_125 : decode cX6_allows 125 = .ok (.bipush 48, 2) := by decide +kernel
theorem dX6_allows_127 : decode cX6_allows 127 = .ok (.isub, 1) := by decide +kernel
theorem dX6_allows_128 : decode cX6_allows 128 = .ok (.istore 8, 2) := by decide +kernel
theorem dX6_allows_130 : decode cX6_allows 130 = .ok (.goto 54, 3) := by decide +kernel
theorem dX6_allows_133 : decode cX6_allows 133 = .ok (.iload 5, 2) := by decide +kernel
theorem dX6_allows_135 : decode cX6_allows 135 = .ok (.ifCond .eq 19, 3) := by decide +kernel
theorem dX6_allows_138 : decode cX6_allows 138 = .ok (.iload 6, 2) := by decide +kernel
theorem dX6_allows_140 : decode cX6_allows 140 = .ok (.iload 7, 2) := by decide +kernel
theorem dX6_allows_142 : decode cX6_allows 142 = .ok (.iload 8, 2) := by decide +kernel
theorem dX6_allows_144 : decode cX6_allows 144 = .ok (.invokestatic 36, 3) := by decide +kernel
theorem dX6_allows_147 : decode cX6_allows 147 = .ok (.ifCond .eq 7, 3) := by decide +kernel
theorem dX6_allows_150 : decode cX6_allows 150 = .ok (.iconst 1, 1) := by decide +kernel
theorem dX6_allows_151 : decode cX6_allows 151 = .ok (.goto 4, 3) := by decide +kernel
theorem dX6_allows_154 : decode cX6_allows 154 = .ok (.iconst 0, 1) := by decide +kernel
theorem dX6_allows_155 : decode cX6_allows 155 = .ok (.istore 5, 2) := by decide +kernel
theorem dX6_allows_157 : decode cX6_allows 157 = .ok (.iload 10, 2) := by decide +kernel
theorem dX6_allows_159 : decode cX6_allows 159 = .ok (.bipush 124, 2) := by decide +kernel
theorem dX6_allows_161 : decode cX6_allows 161 = .ok (.if_icmp .ne 23, 3) := by decide +kernel
theorem dX6_allows_164 : decode cX6_allows 164 = .ok (.iload 4, 2) := by decide +kernel
theorem dX6_allows_166 : decode cX6_allows 166 = .ok (.ifCond .ne 8, 3) := by decide +kernel
theorem dX6_allows_169 : decode cX6_allows 169 = .ok (.iload 5, 2) := by decide +kernel
theorem dX6_allows_171 : decode cX6_allows 171 = .ok (.ifCond .eq 7, 3) := by decide +kernel
theorem dX6_allows_174 : decode cX6_allows 174 = .ok (.iconst 1, 1) := by decide +kernel
theorem dX6_allows_175 : decode cX6_allows 175 = .ok (.goto 4, 3) := by decide +kernel
theorem dX6_allows_178 : decode cX6_allows 178 = .ok (.iconst 0, 1) := by decide +kernel
theorem dX6_allows_179 : decode cX6_allows 179 = .ok (.istore 4, 2) := by decide +kernel
theorem dX6_allows_181 : decode cX6_allows 181 = .ok (.iconst 1, 1) := by decide +kernel
theorem dX6_allows_182 : decode cX6_allows 182 = .ok (.istore 5, 2) := by decide +kernel
theorem dX6_allows_184 : decode cX6_allows 184 = .ok (.iinc 9 1, 3) := by decide +kernel
theorem dX6_allows_187 : decode cX6_allows 187 = .ok (.goto (-160), 3) := by decide +kernel
theorem dX6_allows_190 : decode cX6_allows 190 = .ok (.iload 4, 2) := by decide +kernel
theorem dX6_allows_192 : decode cX6_allows 192 = .ok (.ifCond .ne 20, 3) := by decide +kernel
theorem dX6_allows_195 : decode cX6_allows 195 = .ok (.iload 5, 2) := by decide +kernel
theorem dX6_allows_197 : decode cX6_allows 197 = .ok (.ifCond .eq 19, 3) := by decide +kernel
theorem dX6_allows_200 : decode cX6_allows 200 = .ok (.iload 6, 2) := by decide +kernel
theorem dX6_allows_202 : decode cX6_allows 202 = .ok (.iload 7, 2) := by decide +kernel
theorem dX6_allows_204 : decode cX6_allows 204 = .ok (.iload 8, 2) := by decide +kernel
theorem dX6_allows_206 : decode cX6_allows 206 = .ok (.invokestatic 36, 3) := by decide +kernel
theorem dX6_allows_209 : decode cX6_allows 209 = .ok (.ifCond .eq 7, 3) := by decide +kernel
theorem dX6_allows_212 : decode cX6_allows 212 = .ok (.iconst 1, 1) := by decide +kernel
theorem dX6_allows_213 : decode cX6_allows 213 = .ok (.goto 4, 3) := by decide +kernel
theorem dX6_allows_216 : decode cX6_allows 216 = .ok (.iconst 0, 1) := by decide +kernel
theorem dX6_allows_217 : decode cX6_allows 217 = .ok (.ireturn, 1) := by decide +kernel
theorem dX6_passes_0 : decode cX6_passes 0 = .ok (.iload_n 1, 1) := by decide +kernel
theorem dX6_passes_1 : decode cX6_passes 1 = .ok (.bipush 60, 2) := by decide +kernel
theorem dX6_passes_3 : decode cX6_passes 3 = .ok (.if_icmp .ne 14, 3) := by decide +kernel
theorem dX6_passes_6 : decode cX6_passes 6 = .ok (.iload_n 0, 1) := by decide +kernel
theorem dX6_passes_7 : decode cX6_passes 7 = .ok (.iload_n 2, 1) := by decide +kernel
theorem dX6_passes_8 : decode cX6_passes 8 = .ok (.if_icmp .ge 7, 3) := by decide +kernel
theorem dX6_passes_11 : decode cX6_passes 11 = .ok (.iconst 1, 1) := by decide +kernel
theorem dX6_passes_12 : decode cX6_passes 12 = .ok (.goto 4, 3) := by decide +kernel
theorem dX6_passes_15 : decode cX6_passes 15 = .ok (.iconst 0, 1) := by decide +kernel
theorem dX6_passes_16 : decode cX6_passes 16 = .ok (.ireturn, 1) := by decide +kernel
theorem dX6_passes_17 : decode cX6_passes 17 = .ok (.iload_n 1, 1) := by decide +kernel
theorem dX6_passes_18 : decode cX6_passes 18 = .ok (.bipush 62, 2) := by decide +kernel
theorem dX6_passes_20 : decode cX6_passes 20 = .ok (.if_icmp .ne 16, 3) := by decide +kernel
theorem dX6_passes_23 : decode cX6_passes 23 = .ok (.iload_n 0, 1) := by decide +kernel
theorem dX6_passes_24 : decode cX6_passes 24 = .ok (.iload_n 2, 1) := by decide +kernel
theorem dX6_passes_25 : decode cX6_passes 25 = .ok (.if_icmp .le 7, 3) := by decide +kernel
theorem dX6_passes_28 : decode cX6_passes 28 = .ok (.iconst 1, 1) := by decide +kernel
theorem dX6_passes_29 : decode cX6_passes 29 = .ok (.goto 17, 3) := by decide +kernel
theorem dX6_passes_32 : decode cX6_passes 32 = .ok (.iconst 0, 1) := by decide +kernel
theorem dX6_passes_33 : decode cX6_passes 33 = .ok (.goto 13, 3) := by decide +kernel
theorem dX6_passes_36 : decode cX6_passes 36 = .ok (.iload_n 0, 1) := by decide +kernel
theorem dX6_passes_37 : decode cX6_passes 37 = .ok (.iload_n 2, 1) := by decide +kernel
theorem dX6_passes_38 : decode cX6_passes 38 = .ok (.if_icmp .ne 7, 3) := by decide +kernel
theorem dX6_passes_41 : decode cX6_passes 41 = .ok (.iconst 1, 1) := by decide +kernel
theorem dX6_passes_42 : decode cX6_passes 42 = .ok (.goto 4, 3) := by decide +kernel
theorem dX6_passes_45 : decode cX6_passes 45 = .ok (.iconst 0, 1) := by decide +kernel
theorem dX6_passes_46 : decode cX6_passes 46 = .ok (.ireturn, 1) := by decide +kernel
theorem dX6_isName_0 : decode cX6_isName 0 = .ok (.iload_n 0, 1) := by decide +kernel
theorem dX6_isName_1 : decode cX6_isName 1 = .ok (.bipush 97, 2) := by decide +kernel
theorem dX6_isName_3 : decode cX6_isName 3 = .ok (.if_icmp .eq 15, 3) := by decide +kernel
theorem dX6_isName_6 : decode cX6_isName 6 = .ok (.iload_n 0, 1) := by decide +kernel
theorem dX6_isName_7 : decode cX6_isName 7 = .ok (.bipush 121, 2) := by decide +kernel
theorem dX6_isName_9 : decode cX6_isName 9 = .ok (.if_icmp .eq 9, 3) := by decide +kernel
theorem dX6_isName_12 : decode cX6_isName 12 = .ok (.iload_n 0, 1) := by decide +kernel
theorem dX6_isName_13 : decode cX6_isName 13 = .ok (.bipush 98, 2) := by decide +kernel
theorem dX6_isName_15 : decode cX6_isName 15 = .ok (.if_icmp .ne 7, 3) := by decide +kernel
theorem dX6_isName_18 : decode cX6_isName 18 = .ok (.iconst 1, 1) := by decide +kernel
theorem dX6_isName_19 : decode cX6_isName 19 = .ok (.goto 4, 3) := by decide +kernel
theorem dX6_isName_22 : decode cX6_isName 22 = .ok (.iconst 0, 1) := by decide +kernel
theorem dX6_isName_23 : decode cX6_isName 23 = .ok (.ireturn, 1) := by decide +kernel
theorem dX6_isCompare_0 : decode cX6_isCompare 0 = .ok (.iload_n 0, 1) := by decide +kernel
theorem dX6_isCompare_1 : decode cX6_isCompare 1 = .ok (.bipush 60, 2) := by decide +kernel
theorem dX6_isCompare_3 : decode cX6_isCompare 3 = .ok (.if_icmp .eq 15, 3) := by decide +kernel
theorem dX6_isCompare_6 : decode cX6_isCompare 6 = .ok (.iload_n 0, 1) := by decide +kernel
theorem dX6_isCompare_7 : decode cX6_isCompare 7 = .ok (.bipush 62, 2) := by decide +kernel
theorem dX6_isCompare_9 : decode cX6_isCompare 9 = .ok (.if_icmp .eq 9, 3) := by decide +kernel
theorem dX6_isCompare_12 : decode cX6_isCompare 12 = .ok (.iload_n 0, 1) := by decide +kernel
theorem dX6_isCompare_13 : decode cX6_isCompare 13 = .ok (.bipush 61, 2) := by decide +kernel
theorem dX6_isCompare_15 : decode cX6_isCompare 15 = .ok (.if_icmp .ne 7, 3) := by decide +kernel
theorem dX6_isCompare_18 : decode cX6_isCompare 18 = .ok (.iconst 1, 1) := by decide +kernel
theorem dX6_isCompare_19 : decode cX6_isCompare 19 = .ok (.goto 4, 3) := by decide +kernel
theorem dX6_isCompare_22 : decode cX6_isCompare 22 = .ok (.iconst 0, 1) := by decide +kernel
theorem dX6_isCompare_23 : decode cX6_isCompare 23 = .ok (.ireturn, 1) := by decide +kernel
theorem dX6_isDigit_0 : decode cX6_isDigit 0 = .ok (.iload_n 0, 1) := by decide +kernel
theorem dX6_isDigit_1 : decode cX6_isDigit 1 = .ok (.bipush 48, 2) := by decide +kernel
theorem dX6_isDigit_3 : decode cX6_isDigit 3 = .ok (.if_icmp .lt 13, 3) := by decide +kernel
theorem dX6_isDigit_6 : decode cX6_isDigit 6 = .ok (.iload_n 0, 1) := by decide +kernel
theorem dX6_isDigit_7 : decode cX6_isDigit 7 = .ok (.bipush 57, 2) := by decide +kernel
theorem dX6_isDigit_9 : decode cX6_isDigit 9 = .ok (.if_icmp .gt 7, 3) := by decide +kernel
theorem dX6_isDigit_12 : decode cX6_isDigit 12 = .ok (.iconst 1, 1) := by decide +kernel
theorem dX6_isDigit_13 : decode cX6_isDigit 13 = .ok (.goto 4, 3) := by decide +kernel
theorem dX6_isDigit_16 : decode cX6_isDigit 16 = .ok (.iconst 0, 1) := by decide +kernel
theorem dX6_isDigit_17 : decode cX6_isDigit 17 = .ok (.ireturn, 1) := by decide +kernel
theorem dX6_isJoin_0 : decode cX6_isJoin 0 = .ok (.iload_n 0, 1) := by decide +kernel
theorem dX6_isJoin_1 : decode cX6_isJoin 1 = .ok (.bipush 38, 2) := by decide +kernel
theorem dX6_isJoin_3 : decode cX6_isJoin 3 = .ok (.if_icmp .eq 9, 3) := by decide +kernel
theorem dX6_isJoin_6 : decode cX6_isJoin 6 = .ok (.iload_n 0, 1) := by decide +kernel
theorem dX6_isJoin_7 : decode cX6_isJoin 7 = .ok (.bipush 124, 2) := by decide +kernel
theorem dX6_isJoin_9 : decode cX6_isJoin 9 = .ok (.if_icmp .ne 7, 3) := by decide +kernel
theorem dX6_isJoin_12 : decode cX6_isJoin 12 = .ok (.iconst 1, 1) := by decide +kernel
theorem dX6_isJoin_13 : decode cX6_isJoin 13 = .ok (.goto 4, 3) := by decide +kernel
theorem dX6_isJoin_16 : decode cX6_isJoin 16 = .ok (.iconst 0, 1) := by decide +kernel
theorem dX6_isJoin_17 : decode cX6_isJoin 17 = .ok (.ireturn, 1) := by decide +kernel
theorem dX7_init_0 : decode cX7_init 0 = .ok (.aload_n 0, 1) := by decide +kernel
theorem dX7_init_1 : decode cX7_init 1 = .ok (.invokespecial 3, 3) := by decide +kernel
theorem dX7_init_4 : decode cX7_init 4 = .ok (.aload_n 0, 1) := by decide +kernel
theorem dX7_init_5 : decode cX7_init 5 = .ok (.aload_n 1, 1) := by decide +kernel
theorem dX7_init_6 : decode cX7_init 6 = .ok (.putfield 9, 3) := by decide +kernel
theorem dX7_init_9 : decode cX7_init 9 = .ok (.aload_n 0, 1) := by decide +kernel
theorem dX7_init_10 : decode cX7_init 10 = .ok (.bipush 30, 2) := by decide +kernel
theorem dX7_init_12 : decode cX7_init 12 = .ok (.anewarray 15, 3) := by decide +kernel
theorem dX7_init_15 : decode cX7_init 15 = .ok (.putfield 17, 3) := by decide +kernel
theorem dX7_init_18 : decode cX7_init 18 = .ok (.aload_n 0, 1) := by decide +kernel
theorem dX7_init_19 : decode cX7_init 19 = .ok (.bipush 30, 2) := by decide +kernel
theorem dX7_init_21 : decode cX7_init 21 = .ok (.newarray .int, 2) := by decide +kernel
theorem dX7_init_23 : decode cX7_init 23 = .ok (.putfield 21, 3) := by decide +kernel
theorem dX7_init_26 : decode cX7_init 26 = .ok (.aload_n 0, 1) := by decide +kernel
theorem dX7_init_27 : decode cX7_init 27 = .ok (.iconst 0, 1) := by decide +kernel
theorem dX7_init_28 : decode cX7_init 28 = .ok (.putfield 25, 3) := by decide +kernel
theorem dX7_init_31 : decode cX7_init 31 = .ok (.aload_n 0, 1) := by decide +kernel
theorem dX7_init_32 : decode cX7_init 32 = .ok (.iconst 0, 1) := by decide +kernel
theorem dX7_init_33 : decode cX7_init 33 = .ok (.putfield 29, 3) := by decide +kernel
theorem dX7_init_36 : decode cX7_init 36 = .ok (.aload_n 0, 1) := by decide +kernel
theorem dX7_init_37 : decode cX7_init 37 = .ok (.bipush 100, 2) := by decide +kernel
theorem dX7_init_39 : decode cX7_init 39 = .ok (.putfield 32, 3) := by decide +kernel
theorem dX7_init_42 : decode cX7_init 42 = .ok (.return_, 1) := by decide +kernel
theorem dX7_size_0 : decode cX7_size 0 = .ok (.aload_n 0, 1) := by decide +kernel
theorem dX7_size_1 : decode cX7_size 1 = .ok (.getfield 25, 3) := by decide +kernel
theorem dX7_size_4 : decode cX7_size 4 = .ok (.ireturn, 1) := by decide +kernel
theorem dX7_copiedSize_0 : decode cX7_copiedSize 0 = .ok (.aload_n 0, 1) := by decide +kernel
theorem dX7_copiedSize_1 : decode cX7_copiedSize 1 = .ok (.getfield 29, 3) := by decide +kernel
theorem dX7_copiedSize_4 : decode cX7_copiedSize 4 = .ok (.ireturn, 1) := by decide +kernel
theorem dX7_closeHour_0 : decode cX7_closeHour 0 = .ok (.aload_n 0, 1) := by decide +kernel
theorem dX7_closeHour_1 : decode cX7_closeHour 1 = .ok (.getfield 32, 3) := by decide +kernel
theorem dX7_closeHour_4 : decode cX7_closeHour 4 = .ok (.ireturn, 1) := by decide +kernel
theorem dX7_changeClose_0 : decode cX7_changeClose 0 = .ok (.aload_n 0, 1) := by decide +kernel
theorem dX7_changeClose_1 : decode cX7_changeClose 1 = .ok (.getfield 32, 3) := by decide +kernel
theorem dX7_changeClose_4 : decode cX7_changeClose 4 = .ok (.istore_n 2, 1) := by decide +kernel
theorem dX7_changeClose_5 : decode cX7_changeClose 5 = .ok (.aload_n 0, 1) := by decide +kernel
theorem dX7_changeClose_6 : decode cX7_changeClose 6 = .ok (.iload_n 1, 1) := by decide +kernel
theorem dX7_changeClose_7 : decode cX7_changeClose 7 = .ok (.putfield 32, 3) := by decide +kernel
theorem dX7_changeClose_10 : decode cX7_changeClose 10 = .ok (.iload_n 2, 1) := by decide +kernel
theorem dX7_changeClose_11 : decode cX7_changeClose 11 = .ok (.ireturn, 1) := by decide +kernel
theorem dX7_isFull_0 : decode cX7_isFull 0 = .ok (.aload_n 0, 1) := by decide +kernel
theorem dX7_isFull_1 : decode cX7_isFull 1 = .ok (.getfield 25, 3) := by decide +kernel
theorem dX7_isFull_4 : decode cX7_isFull 4 = .ok (.aload_n 0, 1) := by decide +kernel
theorem dX7_isFull_5 : decode cX7_isFull 5 = .ok (.getfield 17, 3) := by decide +kernel
theorem dX7_isFull_8 : decode cX7_isFull 8 = .ok (.arraylength, 1) := by decide +kernel
theorem dX7_isFull_9 : decode cX7_isFull 9 = .ok (.if_icmp .lt 7, 3) := by decide +kernel
theorem dX7_isFull_12 : decode cX7_isFull 12 = .ok (.iconst 1, 1) := by decide +kernel
theorem dX7_isFull_13 : decode cX7_isFull 13 = .ok (.goto 4, 3) := by decide +kernel
theorem dX7_isFull_16 : decode cX7_isFull 16 = .ok (.iconst 0, 1) := by decide +kernel
theorem dX7_isFull_17 : decode cX7_isFull 17 = .ok (.ireturn, 1) := by decide +kernel
theorem dX7_add_0 : decode cX7_add 0 = .ok (.aload_n 0, 1) := by decide +kernel
theorem dX7_add_1 : decode cX7_add 1 = .ok (.getfield 25, 3) := by decide +kernel
theorem dX7_add_4 : decode cX7_add 4 = .ok (.ifCond .lt 15, 3) := by decide +kernel
theorem dX7_add_7 : decode cX7_add 7 = .ok (.aload_n 0, 1) := by decide +kernel
theorem dX7_add_8 : decode cX7_add 8 = .ok (.getfield 25, 3) := by decide +kernel
theorem dX7_add_11 : decode cX7_add 11 = .ok (.aload_n 0, 1) := by decide +kernel
theorem dX7_add_12 : decode cX7_add 12 = .ok (.getfield 17, 3) := by decide +kernel
theorem dX7_add_15 : decode cX7_add 15 = .ok (.arraylength, 1) := by decide +kernel
theorem dX7_add_16 : decode cX7_add 16 = .ok (.if_icmp .lt 6, 3) := by decide +kernel
theorem dX7_add_19 : decode cX7_add 19 = .ok (.bipush (-4), 2) := by decide +kernel
theorem dX7_add_21 : decode cX7_add 21 = .ok (.ireturn, 1) := by decide +kernel
theorem dX7_add_22 : decode cX7_add 22 = .ok (.aload_n 0, 1) := by decide +kernel
theorem dX7_add_23 : decode cX7_add 23 = .ok (.getfield 17, 3) := by decide +kernel
theorem dX7_add_26 : decode cX7_add 26 = .ok (.aload_n 0, 1) := by decide +kernel
theorem dX7_add_27 : decode cX7_add 27 = .ok (.getfield 25, 3) := by decide +kernel
theorem dX7_add_30 : decode cX7_add 30 = .ok (.aload_n 1, 1) := by decide +kernel
theorem dX7_add_31 : decode cX7_add 31 = .ok (.aastore, 1) := by decide +kernel
theorem dX7_add_32 : decode cX7_add 32 = .ok (.aload_n 0, 1) := by decide +kernel
theorem dX7_add_33 : decode cX7_add 33 = .ok (.dup, 1) := by decide +kernel
theorem dX7_add_34 : decode cX7_add 34 = .ok (.getfield 25, 3) := by decide +kernel
theorem dX7_add_37 : decode cX7_add 37 = .ok (.iconst 1, 1) := by decide +kernel
theorem dX7_add_38 : decode cX7_add 38 = .ok (.iadd, 1) := by decide +kernel
theorem dX7_add_39 : decode cX7_add 39 = .ok (.putfield 25, 3) := by decide +kernel
theorem dX7_add_42 : decode cX7_add 42 = .ok (.aload_n 0, 1) := by decide +kernel
theorem dX7_add_43 : decode cX7_add 43 = .ok (.getfield 25, 3) := by decide +kernel
theorem dX7_add_46 : decode cX7_add 46 = .ok (.iconst 1, 1) := by decide +kernel
theorem dX7_add_47 : decode cX7_add 47 = .ok (.isub, 1) := by decide +kernel
theorem dX7_add_48 : decode cX7_add 48 = .ok (.ireturn, 1) := by decide +kernel
theorem dX7_at_0 : decode cX7_at 0 = .ok (.iload_n 1, 1) := by decide +kernel
theorem dX7_at_1 : decode cX7_at 1 = .ok (.ifCond .lt 29, 3) := by decide +kernel
theorem dX7_at_4 : decode cX7_at 4 = .ok (.iload_n 1, 1) := by decide +kernel
theorem dX7_at_5 : decode cX7_at 5 = .ok (.aload_n 0, 1) := by decide +kernel
theorem dX7_at_6 : decode cX7_at 6 = .ok (.getfield 25, 3) := by decide +kernel
theorem dX7_at_9 : decode cX7_at 9 = .ok (.if_icmp .ge 21, 3) := by decide +kernel
theorem dX7_at_12 : decode cX7_at 12 = .ok (.iload_n 1, 1) := by decide +kernel
theorem dX7_at_13 : decode cX7_at 13 = .ok (.aload_n 0, 1) := by decide +kernel
theorem dX7_at_14 : decode cX7_at 14 = .ok (.getfield 17, 3) := by decide +kernel
theorem dX7_at_17 : decode cX7_at 17 = .ok (.arraylength, 1) := by decide +kernel
theorem dX7_at_18 : decode cX7_at 18 = .ok (.if_icmp .ge 12, 3) := by decide +kernel
theorem dX7_at_21 : decode cX7_at 21 = .ok (.aload_n 0, 1) := by decide +kernel
theorem dX7_at_22 : decode cX7_at 22 = .ok (.getfield 17, 3) := by decide +kernel
theorem dX7_at_25 : decode cX7_at 25 = .ok (.iload_n 1, 1) := by decide +kernel
theorem dX7_at_26 : decode cX7_at 26 = .ok (.aaload, 1) := by decide +kernel
theorem dX7_at_27 : decode cX7_at 27 = .ok (.goto 4, 3) := by decide +kernel
theorem dX7_at_30 : decode cX7_at 30 = .ok (.aconst_null, 1) := by decide +kernel
theorem dX7_at_31 : decode cX7_at 31 = .ok (.areturn, 1) := by decide +kernel
set_option maxRecDepth 20000 in
theorem ggX7_kindOf_X7_at : GoodIn wsX7_kindOf wsX7_at := goodIn_r _ [10, 11, 12, 53, 54, 55, 56, 57, 58] (by decide +kernel) (by decide +kernel)
set_option maxRecDepth 20000 in
theorem gX7_kindOf_X7_at : GoodIn wsX7_kindOf (wsV RX7 35 RX7 yX7_at wsX7_at) := goodIn_app (goodIn_of _ (by decide +kernel)) ggX7_kindOf_X7_at
set_option maxRecDepth 20000 in
theorem ggX7_kindOf_X4_allows : GoodIn wsX7_kindOf wsX4_allows := goodIn_r _ [17, 18, 19, 20, 21, 16, 22, 23, 24, 25, 26, 27, 28, 29, 30, 31, 32, 33, 34, 35, 36, 37, 38, 39, 40, 41, 42, 59, 60, 61, 62, 63] (by decide +kernel) (by decide +kernel)
set_option maxRecDepth 20000 in
theorem gX7_kindOf_X4_allows : GoodIn wsX7_kindOf (wsV RX7 49 RX4 yX4_allows wsX4_allows) := goodIn_app (goodIn_of _ (by decide +kernel)) ggX7_kindOf_X4_allows
set_option maxRecDepth 20000 in
theorem ggX7_kindOf_X7_hasLaterOne : GoodIn wsX7_kindOf wsX7_hasLaterOne := goodIn_r _ [46, 11, 5, 1, 2, 3, 6, 7, 8, 9, 10, 12, 53, 54, 55, 56, 57, 58, 47, 48, 49, 50, 51, 52] (by decide +kernel) (by decide +kernel)
set_option maxRecDepth 20000 in
theorem gX7_kindOf_X7_hasLaterOne : GoodIn wsX7_kindOf (wsV RX7 55 RX7 yX7_hasLaterOne wsX7_hasLaterOne) := goodIn_app (goodIn_of _ (by decide +kernel)) ggX7_kindOf_X7_hasLaterOne
theorem dX7_kindOf_0 : decode cX7_kindOf 0 = .ok (.aload_n 0, 1) := by decide +kernel
theorem dX7_kindOf_1 : decode cX7_kindOf 1 = .ok (.iload_n 1, 1) := by decide +kernel
theorem dX7_kindOf_2 : decode cX7_kindOf 2 = .ok (.invokevirtual 35, 3) := by decide +kernel
theorem dX7_kindOf_5 : decode cX7_kindOf 5 = .ok (.astore_n 2, 1) := by decide +kernel
theorem dX7_kindOf_6 : decode cX7_kindOf 6 = .ok (.aload_n 2, 1) := by decide +kernel
theorem dX7_kindOf_7 : decode cX7_kindOf 7 = .ok (.ifnonnull 5, 3) := by decide +kernel
theorem dX7_kindOf_10 : decode cX7_kindOf 10 = .ok (.iconst (-1), 1) := by decide +kernel
theorem dX7_kindOf_11 : decode cX7_kindOf 11 = .ok (.ireturn, 1) := by decide +kernel
theorem dX7_kindOf_12 : decode cX7_kindOf 12 = .ok (.aload_n 2, 1) := by decide +kernel
theorem dX7_kindOf_13 : decode cX7_kindOf 13 = .ok (.getfield 39, 3) := by decide +kernel
theorem dX7_kindOf_16 : decode cX7_kindOf 16 = .ok (.aload_n 0, 1) := by decide +kernel
theorem dX7_kindOf_17 : decode cX7_kindOf 17 = .ok (.getfield 32, 3) := by decide +kernel
theorem dX7_kindOf_20 : decode cX7_kindOf 20 = .ok (.if_icmp .le 5, 3) := by decide +kernel
theorem dX7_kindOf_23 : decode cX7_kindOf 23 = .ok (.iconst 1, 1) := by decide +kernel
theorem dX7_kindOf_24 : decode cX7_kindOf 24 = .ok (.ireturn, 1) := by decide +kernel
theorem dX7_kindOf_25 : decode cX7_kindOf 25 = .ok (.aload_n 2, 1) := by decide +kernel
theorem dX7_kindOf_26 : decode cX7_kindOf 26 = .ok (.getfield 42, 3) := by decide +kernel
theorem dX7_kindOf_29 : decode cX7_kindOf 29 = .ok (.ifCond .ne 5, 3) := by decide +kernel
theorem dX7_kindOf_32 : decode cX7_kindOf 32 = .ok (.iconst 2, 1) := by decide +kernel
theorem dX7_kindOf_33 : decode cX7_kindOf 33 = .ok (.ireturn, 1) := by decide +kernel
theorem dX7_kindOf_34 : decode cX7_kindOf 34 = .ok (.aload_n 0, 1) := by decide +kernel
theorem dX7_kindOf_35 : decode cX7_kindOf 35 = .ok (.getfield 9, 3) := by decide +kernel
theorem dX7_kindOf_38 : decode cX7_kindOf 38 = .ok (.aload_n 2, 1) := by decide +kernel
theorem dX7_kindOf_39 : decode cX7_kindOf 39 = .ok (.getfield 46, 3) := by decide +kernel
theorem dX7_kindOf_42 : decode cX7_kindOf 42 = .ok (.invokevirtual 49, 3) := by decide +kernel
theorem dX7_kindOf_45 : decode cX7_kindOf 45 = .ok (.ifCond .ne 5, 3) := by decide +kernel
theorem dX7_kindOf_48 : decode cX7_kindOf 48 = .ok (.iconst 3, 1) := by decide +kernel
theorem dX7_kindOf_49 : decode cX7_kindOf 49 = .ok (.ireturn, 1) := by decide +kernel
theorem dX7_kindOf_50 : decode cX7_kindOf 50 = .ok (.aload_n 0, 1) := by decide +kernel
theorem dX7_kindOf_51 : decode cX7_kindOf 51 = .ok (.aload_n 2, 1) := by decide +kernel
theorem dX7_kindOf_52 : decode cX7_kindOf 52 = .ok (.getfield 46, 3) := by decide +kernel
theorem dX7_kindOf_55 : decode cX7_kindOf 55 = .ok (.iload_n 1, 1) := by decide +kernel
theorem dX7_kindOf_56 : decode cX7_kindOf 56 = .ok (.invokevirtual 55, 3) := by decide +kernel
theorem dX7_kindOf_59 : decode cX7_kindOf 59 = .ok (.ifCond .eq 7, 3) := by decide +kernel
theorem dX7_kindOf_62 : decode cX7_kindOf 62 = .ok (.iconst 4, 1) := by decide +kernel
theorem dX7_kindOf_63 : decode cX7_kindOf 63 = .ok (.goto 4, 3) := by decide +kernel
theorem dX7_kindOf_66 : decode cX7_kindOf 66 = .ok (.iconst 0, 1) := by decide +kernel
theorem dX7_kindOf_67 : decode cX7_kindOf 67 = .ok (.ireturn, 1) := by decide +kernel
set_option maxRecDepth 20000 in
theorem ggX7_hasLaterOne_X7_at : GoodIn wsX7_hasLaterOne wsX7_at := goodIn_r _ [10, 1, 11, 12, 13, 14, 15, 16, 17] (by decide +kernel) (by decide +kernel)
set_option maxRecDepth 20000 in
theorem gX7_hasLaterOne_X7_at : GoodIn wsX7_hasLaterOne (wsV RX7 35 RX7 yX7_at wsX7_at) := goodIn_app (goodIn_of _ (by decide +kernel)) ggX7_hasLaterOne_X7_at
theorem dX7_hasLaterOne_0 : decode cX7_hasLaterOne 0 = .ok (.iload_n 2, 1) := by decide +kernel
theorem dX7_hasLaterOne_1 : decode cX7_hasLaterOne 1 = .ok (.iconst 1, 1) := by decide +kernel
theorem dX7_hasLaterOne_2 : decode cX7_hasLaterOne 2 = .ok (.iadd, 1) := by decide +kernel
theorem dX7_hasLaterOne_3 : decode cX7_hasLaterOne 3 = .ok (.istore_n 3, 1) := by decide +kernel
theorem dX7_hasLaterOne_4 : decode cX7_hasLaterOne 4 = .ok (.iload_n 3, 1) := by decide +kernel
theorem dX7_hasLaterOne_5 : decode cX7_hasLaterOne 5 = .ok (.aload_n 0, 1) := by decide +kernel
theorem dX7_hasLaterOne_6 : decode cX7_hasLaterOne 6 = .ok (.getfield 25, 3) := by decide +kernel
theorem dX7_hasLaterOne_9 : decode cX7_hasLaterOne 9 = .ok (.if_icmp .ge 52, 3) := by decide +kernel
theorem dX7_hasLaterOne_12 : decode cX7_hasLaterOne 12 = .ok (.aload_n 0, 1) := by decide +kernel
theorem dX7_hasLaterOne_13 : decode cX7_hasLaterOne 13 = .ok (.iload_n 3, 1) := by decide +kernel
theorem dX7_hasLaterOne_14 : decode cX7_hasLaterOne 14 = .ok (.invokevirtual 35, 3) := by decide +kernel
theorem dX7_hasLaterOne_17 : decode cX7_hasLaterOne 17 = .ok (.astore 4, 2) := by decide +kernel
theorem dX7_hasLaterOne_19 : decode cX7_hasLaterOne 19 = .ok (.aload 4, 2) := by decide +kernel
theorem dX7_hasLaterOne_21 : decode cX7_hasLaterOne 21 = .ok (.ifnull 34, 3) := by decide +kernel
theorem dX7_hasLaterOne_24 : decode cX7_hasLaterOne 24 = .ok (.aload 4, 2) := by decide +kernel
theorem dX7_hasLaterOne_26 : decode cX7_hasLaterOne 26 = .ok (.getfield 46, 3) := by decide +kernel
theorem dX7_hasLaterOne_29 : decode cX7_hasLaterOne 29 = .ok (.iload_n 1, 1) := by decide +kernel
theorem dX7_hasLaterOne_30 : decode cX7_hasLaterOne 30 = .ok (.if_icmp .ne 25, 3) := by decide +kernel
theorem dX7_hasLaterOne_33 : decode cX7_hasLaterOne 33 = .ok (.aload 4, 2) := by decide +kernel
theorem dX7_hasLaterOne_35 : decode cX7_hasLaterOne 35 = .ok (.getfield 39, 3) := by decide +kernel
theorem dX7_hasLaterOne_38 : decode cX7_hasLaterOne 38 = .ok (.aload_n 0, 1) := by decide +kernel
theorem dX7_hasLaterOne_39 : decode cX7_hasLaterOne 39 = .ok (.getfield 32, 3) := by decide +kernel
theorem dX7_hasLaterOne_42 : decode cX7_hasLaterOne 42 = .ok (.if_icmp .gt 13, 3) := by decide +kernel
theorem dX7_hasLaterOne_45 : decode cX7_hasLaterOne 45 = .ok (.aload 4, 2) := by decide +kernel
theorem dX7_hasLaterOne_47 : decode cX7_hasLaterOne 47 = .ok (.getfield 42, 3) := by decide +kernel
theorem dX7_hasLaterOne_50 : decode cX7_hasLaterOne 50 = .ok (.ifCond .eq 5, 3) := by decide +kernel
theorem dX7_hasLaterOne_53 : decode cX7_hasLaterOne 53 = .ok (.iconst 1, 1) := by decide +kernel
theorem dX7_hasLaterOne_54 : decode cX7_hasLaterOne 54 = .ok (.ireturn, 1) := by decide +kernel
theorem dX7_hasLaterOne_55 : decode cX7_hasLaterOne 55 = .ok (.iinc 3 1, 3) := by decide +kernel
theorem dX7_hasLaterOne_58 : decode cX7_hasLaterOne 58 = .ok (.goto (-54), 3) := by decide +kernel
theorem dX7_hasLaterOne_61 : decode cX7_hasLaterOne 61 = .ok (.iconst 0, 1) := by decide +kernel
theorem dX7_hasLaterOne_62 : decode cX7_hasLaterOne 62 = .ok (.ireturn, 1) := by decide +kernel
set_option maxRecDepth 20000 in
theorem ggX7_howManyAre_X7_kindOf : GoodIn wsX7_howManyAre wsX7_kindOf := goodIn_r _ [6, 7, 8, 9, 10, 11, 12, 13, 14, 5, 15, 1, 16, 17, 18, 19, 20, 21, 22, 23, 24, 25, 26, 27, 28, 29, 30, 31, 32, 33, 34, 35, 36, 37, 38, 39, 40, 41, 42, 43, 44, 45, 46, 47, 48, 49, 50, 57, 58, 59, 60, 61, 62, 51, 52, 53, 54, 55, 56, 63, 64, 65, 66, 67] (by decide +kernel) (by decide +kernel)
set_option maxRecDepth 20000 in
theorem gX7_howManyAre_X7_kindOf : GoodIn wsX7_howManyAre (wsV RX7 59 RX7 yX7_kindOf wsX7_kindOf) := goodIn_app (goodIn_of _ (by decide +kernel)) ggX7_howManyAre_X7_kindOf
theorem dX7_howManyAre_0 : decode cX7_howManyAre 0 = .ok (.iconst 0, 1) := by decide +kernel
theorem dX7_howManyAre_1 : decode cX7_howManyAre 1 = .ok (.istore_n 2, 1) := by decide +kernel
theorem dX7_howManyAre_2 : decode cX7_howManyAre 2 = .ok (.iconst 0, 1) := by decide +kernel
theorem dX7_howManyAre_3 : decode cX7_howManyAre 3 = .ok (.istore_n 3, 1) := by decide +kernel
theorem dX7_howManyAre_4 : decode cX7_howManyAre 4 = .ok (.iload_n 3, 1) := by decide +kernel
theorem dX7_howManyAre_5 : decode cX7_howManyAre 5 = .ok (.aload_n 0, 1) := by decide +kernel
theorem dX7_howManyAre_6 : decode cX7_howManyAre 6 = .ok (.getfield 25, 3) := by decide +kernel
theorem dX7_howManyAre_9 : decode cX7_howManyAre 9 = .ok (.if_icmp .ge 21, 3) := by decide +kernel
theorem dX7_howManyAre_12 : decode cX7_howManyAre 12 = .ok (.aload_n 0, 1) := by decide +kernel
theorem dX7_howManyAre_13 : decode cX7_howManyAre 13 = .ok (.iload_n 3, 1) := by decide +kernel
theorem dX7_howManyAre_14 : decode cX7_howManyAre 14 = .ok (.invokevirtual 59, 3) := by decide +kernel
theorem dX7_howManyAre_17 : decode cX7_howManyAre 17 = .ok (.iload_n 1, 1) := by decide +kernel
theorem dX7_howManyAre_18 : decode cX7_howManyAre 18 = .ok (.if_icmp .ne 6, 3) := by decide +kernel
theorem dX7_howManyAre_21 : decode cX7_howManyAre 21 = .ok (.iinc 2 1, 3) := by decide +kernel
theorem dX7_howManyAre_24 : decode cX7_howManyAre 24 = .ok (.iinc 3 1, 3) := by decide +kernel
theorem dX7_howManyAre_27 : decode cX7_howManyAre 27 = .ok (.goto (-23), 3) := by decide +kernel
theorem dX7_howManyAre_30 : decode cX7_howManyAre 30 = .ok (.iload_n 2, 1) := by decide +kernel
theorem dX7_howManyAre_31 : decode cX7_howManyAre 31 = .ok (.ireturn, 1) := by decide +kernel
set_option maxRecDepth 20000 in
theorem ggX7_product_X7_at : GoodIn wsX7_product wsX7_at := goodIn_r _ [8, 1, 9, 53, 54, 55, 56, 57, 58] (by decide +kernel) (by decide +kernel)
set_option maxRecDepth 20000 in
theorem gX7_product_X7_at : GoodIn wsX7_product (wsV RX7 35 RX7 yX7_at wsX7_at) := goodIn_app (goodIn_of _ (by decide +kernel)) ggX7_product_X7_at
set_option maxRecDepth 20000 in
theorem ggX7_product_X7_kindOf : GoodIn wsX7_product wsX7_kindOf := goodIn_r _ [13, 14, 15, 16, 17, 18, 4, 5, 6, 7, 8, 1, 9, 19, 20, 21, 22, 23, 24, 25, 26, 27, 28, 29, 30, 31, 32, 33, 34, 35, 36, 37, 38, 39, 40, 41, 42, 43, 44, 45, 46, 47, 48, 49, 50, 51, 52, 59, 60, 61, 62, 63, 64, 53, 54, 55, 56, 57, 58, 65, 66, 67, 68, 69] (by decide +kernel) (by decide +kernel)
set_option maxRecDepth 20000 in
theorem gX7_product_X7_kindOf : GoodIn wsX7_product (wsV RX7 59 RX7 yX7_kindOf wsX7_kindOf) := goodIn_app (goodIn_of _ (by decide +kernel)) ggX7_product_X7_kindOf
theorem dX7_product_0 : decode cX7_product 0 = .ok (.iconst 1, 1) := by decide +kernel
theorem dX7_product_1 : decode cX7_product 1 = .ok (.istore_n 2, 1) := by decide +kernel
theorem dX7_product_2 : decode cX7_product 2 = .ok (.iconst 0, 1) := by decide +kernel
theorem dX7_product_3 : decode cX7_product 3 = .ok (.istore_n 3, 1) := by decide +kernel
theorem dX7_product_4 : decode cX7_product 4 = .ok (.iload_n 3, 1) := by decide +kernel
theorem dX7_product_5 : decode cX7_product 5 = .ok (.aload_n 0, 1) := by decide +kernel
theorem dX7_product_6 : decode cX7_product 6 = .ok (.getfield 25, 3) := by decide +kernel
theorem dX7_product_9 : decode cX7_product 9 = .ok (.if_icmp .ge 53, 3) := by decide +kernel
theorem dX7_product_12 : decode cX7_product 12 = .ok (.aload_n 0, 1) := by decide +kernel
theorem dX7_product_13 : decode cX7_product 13 = .ok (.iload_n 3, 1) := by decide +kernel
theorem dX7_product_14 : decode cX7_product 14 = .ok (.invokevirtual 35, 3) := by decide +kernel
theorem dX7_product_17 : decode cX7_product 17 = .ok (.astore 4, 2) := by decide +kernel
theorem dX7_product_19 : decode cX7_product 19 = .ok (.aload 4, 2) := by decide +kernel
theorem dX7_product_21 : decode cX7_product 21 = .ok (.ifnull 35, 3) := by decide +kernel
theorem dX7_product_24 : decode cX7_product 24 = .ok (.aload_n 0, 1) := by decide +kernel
theorem dX7_product_25 : decode cX7_product 25 = .ok (.iload_n 3, 1) := by decide +kernel
theorem dX7_product_26 : decode cX7_product 26 = .ok (.invokevirtual 59, 3) := by decide +kernel
theorem dX7_product_29 : decode cX7_product 29 = .ok (.ifCond .ne 27, 3) := by decide +kernel
theorem dX7_product_32 : decode cX7_product 32 = .ok (.iload_n 2, 1) := by decide +kernel
theorem dX7_product_33 : decode cX7_product 33 = .ok (.iload_n 1, 1) := by decide +kernel
theorem dX7_product_34 : decode cX7_product 34 = .ok (.ifCond .ne 11, 3) := by decide +kernel
theorem dX7_product_37 : decode cX7_product 37 = .ok (.aload 4, 2) := by decide +kernel
theorem dX7_product_39 : decode cX7_product 39 = .ok (.getfield 63, 3) := by decide +kernel
theorem dX7_product_42 : decode cX7_product 42 = .ok (.goto 8, 3) := by decide +kernel
theorem dX7_product_45 : decode cX7_product 45 = .ok (.aload 4, 2) := by decide +kernel
theorem dX7_product_47 : decode cX7_product 47 = .ok (.getfield 66, 3) := by decide +kernel
theorem dX7_product_50 : decode cX7_product 50 = .ok (.imul, 1) := by decide +kernel
theorem dX7_product_51 : decode cX7_product 51 = .ok (.sipush 10007, 3) := by decide +kernel
theorem dX7_product_54 : decode cX7_product 54 = .ok (.irem, 1) := by decide +kernel
theorem dX7_product_55 : decode cX7_product 55 = .ok (.istore_n 2, 1) := by decide +kernel
theorem dX7_product_56 : decode cX7_product 56 = .ok (.iinc 3 1, 3) := by decide +kernel
theorem dX7_product_59 : decode cX7_product 59 = .ok (.goto (-55), 3) := by decide +kernel
theorem dX7_product_62 : decode cX7_product 62 = .ok (.iload_n 2, 1) := by decide +kernel
theorem dX7_product_63 : decode cX7_product 63 = .ok (.ireturn, 1) := by decide +kernel
set_option maxRecDepth 20000 in
theorem ggX7_headBehind_X7_wordOf : GoodIn wsX7_headBehind wsX7_wordOf := goodIn_r _ [8, 9, 10, 11, 7, 12, 1, 13, 14, 15, 16, 17, 18, 19, 20, 21, 22, 23, 24, 25, 26, 27, 28, 29, 30, 31, 32, 33, 34, 35, 36, 37] (by decide +kernel) (by decide +kernel)
set_option maxRecDepth 20000 in
theorem gX7_headBehind_X7_wordOf : GoodIn wsX7_headBehind (wsV RX7 71 RX7 yX7_wordOf wsX7_wordOf) := goodIn_app (goodIn_of _ (by decide +kernel)) ggX7_headBehind_X7_wordOf
theorem dX7_headBehind_0 : decode cX7_headBehind 0 = .ok (.lconst 1, 1) := by decide +kernel
theorem dX7_headBehind_1 : decode cX7_headBehind 1 = .ok (.lstore_n 2, 1) := by decide +kernel
theorem dX7_headBehind_2 : decode cX7_headBehind 2 = .ok (.iconst 0, 1) := by decide +kernel
theorem dX7_headBehind_3 : decode cX7_headBehind 3 = .ok (.istore 4, 2) := by decide +kernel
theorem dX7_headBehind_5 : decode cX7_headBehind 5 = .ok (.iload 4, 2) := by decide +kernel
theorem dX7_headBehind_7 : decode cX7_headBehind 7 = .ok (.iload_n 1, 1) := by decide +kernel
theorem dX7_headBehind_8 : decode cX7_headBehind 8 = .ok (.if_icmp .gt 36, 3) := by decide +kernel
theorem dX7_headBehind_11 : decode cX7_headBehind 11 = .ok (.iload 4, 2) := by decide +kernel
theorem dX7_headBehind_13 : decode cX7_headBehind 13 = .ok (.aload_n 0, 1) := by decide +kernel
theorem dX7_headBehind_14 : decode cX7_headBehind 14 = .ok (.getfield 25, 3) := by decide +kernel
theorem dX7_headBehind_17 : decode cX7_headBehind 17 = .ok (.if_icmp .ge 27, 3) := by decide +kernel
theorem dX7_headBehind_20 : decode cX7_headBehind 20 = .ok (.lload_n 2, 1) := by decide +kernel
theorem dX7_headBehind_21 : decode cX7_headBehind 21 = .ok (.ldc2_w 69, 3) := by decide +kernel
theorem dX7_headBehind_24 : decode cX7_headBehind 24 = .ok (.lmul, 1) := by decide +kernel
theorem dX7_headBehind_25 : decode cX7_headBehind 25 = .ok (.aload_n 0, 1) := by decide +kernel
theorem dX7_headBehind_26 : decode cX7_headBehind 26 = .ok (.iload 4, 2) := by decide +kernel
theorem dX7_headBehind_28 : decode cX7_headBehind 28 = .ok (.invokevirtual 71, 3) := by decide +kernel
theorem dX7_headBehind_31 : decode cX7_headBehind 31 = .ok (.i2l, 1) := by decide +kernel
theorem dX7_headBehind_32 : decode cX7_headBehind 32 = .ok (.ladd, 1) := by decide +kernel
theorem dX7_headBehind_33 : decode cX7_headBehind 33 = .ok (.ldc2_w 74, 3) := by decide +kernel
theorem dX7_headBehind_36 : decode cX7_headBehind 36 = .ok (.lrem, 1) := by decide +kernel
theorem dX7_headBehind_37 : decode cX7_headBehind 37 = .ok (.lstore_n 2, 1) := by decide +kernel
theorem dX7_headBehind_38 : decode cX7_headBehind 38 = .ok (.iinc 4 1, 3) := by decide +kernel
theorem dX7_headBehind_41 : decode cX7_headBehind 41 = .ok (.goto (-36), 3) := by decide +kernel
theorem dX7_headBehind_44 : decode cX7_headBehind 44 = .ok (.lload_n 2, 1) := by decide +kernel
theorem dX7_headBehind_45 : decode cX7_headBehind 45 = .ok (.l2i, 1) := by decide +kernel
theorem dX7_headBehind_46 : decode cX7_headBehind 46 = .ok (.ireturn, 1) := by decide +kernel
set_option maxRecDepth 20000 in
theorem ggX7_firstWithWord_X7_wordOf : GoodIn wsX7_firstWithWord wsX7_wordOf := goodIn_r _ [6, 7, 8, 9, 5, 10, 1, 11, 12, 13, 14, 15, 16, 17, 18, 19, 20, 21, 22, 23, 24, 25, 26, 27, 28, 29, 30, 31, 32, 33, 34, 35] (by decide +kernel) (by decide +kernel)
set_option maxRecDepth 20000 in
theorem gX7_firstWithWord_X7_wordOf : GoodIn wsX7_firstWithWord (wsV RX7 71 RX7 yX7_wordOf wsX7_wordOf) := goodIn_app (goodIn_of _ (by decide +kernel)) ggX7_firstWithWord_X7_wordOf
theorem dX7_firstWithWord_0 : decode cX7_firstWithWord 0 = .ok (.iload_n 2, 1) := by decide +kernel
theorem dX7_firstWithWord_1 : decode cX7_firstWithWord 1 = .ok (.istore_n 3, 1) := by decide +kernel
theorem dX7_firstWithWord_2 : decode cX7_firstWithWord 2 = .ok (.iload_n 3, 1) := by decide +kernel
theorem dX7_firstWithWord_3 : decode cX7_firstWithWord 3 = .ok (.aload_n 0, 1) := by decide +kernel
theorem dX7_firstWithWord_4 : decode cX7_firstWithWord 4 = .ok (.getfield 25, 3) := by decide +kernel
theorem dX7_firstWithWord_7 : decode cX7_firstWithWord 7 = .ok (.if_icmp .ge 20, 3) := by decide +kernel
theorem dX7_firstWithWord_10 : decode cX7_firstWithWord 10 = .ok (.aload_n 0, 1) := by decide +kernel
theorem dX7_firstWithWord_11 : decode cX7_firstWithWord 11 = .ok (.iload_n 3, 1) := by decide +kernel
theorem dX7_firstWithWord_12 : decode cX7_firstWithWord 12 = .ok (.invokevirtual 71, 3) := by decide +kernel
theorem dX7_firstWithWord_15 : decode cX7_firstWithWord 15 = .ok (.iload_n 1, 1) := by decide +kernel
theorem dX7_firstWithWord_16 : decode cX7_firstWithWord 16 = .ok (.if_icmp .ne 5, 3) := by decide +kernel
theorem dX7_firstWithWord_19 : decode cX7_firstWithWord 19 = .ok (.iload_n 3, 1) := by decide +kernel
theorem dX7_firstWithWord_20 : decode cX7_firstWithWord 20 = .ok (.ireturn, 1) := by decide +kernel
theorem dX7_firstWithWord_21 : decode cX7_firstWithWord 21 = .ok (.iinc 3 1, 3) := by decide +kernel
theorem dX7_firstWithWord_24 : decode cX7_firstWithWord 24 = .ok (.goto (-22), 3) := by decide +kernel
theorem dX7_firstWithWord_27 : decode cX7_firstWithWord 27 = .ok (.bipush (-6), 2) := by decide +kernel
theorem dX7_firstWithWord_29 : decode cX7_firstWithWord 29 = .ok (.ireturn, 1) := by decide +kernel
set_option maxRecDepth 20000 in
theorem ggX7_wordOf_X7_at : GoodIn wsX7_wordOf wsX7_at := goodIn_r _ [5, 6, 7, 20, 21, 22, 23, 24, 25] (by decide +kernel) (by decide +kernel)
set_option maxRecDepth 20000 in
theorem gX7_wordOf_X7_at : GoodIn wsX7_wordOf (wsV RX7 35 RX7 yX7_at wsX7_at) := goodIn_app (goodIn_of _ (by decide +kernel)) ggX7_wordOf_X7_at
set_option maxRecDepth 20000 in
theorem ggX7_wordOf_X5_word : GoodIn wsX7_wordOf wsX5_word := goodIn_r _ [12, 13, 14, 15, 16, 17, 18, 11, 19, 26, 27, 28, 29, 30, 31] (by decide +kernel) (by decide +kernel)
set_option maxRecDepth 20000 in
theorem gX7_wordOf_X5_word : GoodIn wsX7_wordOf (wsV RX7 76 RX5 yX5_word wsX5_word) := goodIn_app (goodIn_of _ (by decide +kernel)) ggX7_wordOf_X5_word
theorem dX7_wordOf_0 : decode cX7_wordOf 0 = .ok (.aload_n 0, 1) := by decide +kernel
theorem dX7_wordOf_1 : decode cX7_wordOf 1 = .ok (.iload_n 1, 1) := by decide +kernel
theorem dX7_wordOf_2 : decode cX7_wordOf 2 = .ok (.invokevirtual 35, 3) := by decide +kernel
theorem dX7_wordOf_5 : decode cX7_wordOf 5 = .ok (.astore_n 2, 1) := by decide +kernel
theorem dX7_wordOf_6 : decode cX7_wordOf 6 = .ok (.aload_n 2, 1) := by decide +kernel
theorem dX7_wordOf_7 : decode cX7_wordOf 7 = .ok (.ifnonnull 8, 3) := by decide +kernel
theorem dX7_wordOf_10 : decode cX7_wordOf 10 = .ok (.bipush (-6), 2) := by decide +kernel
theorem dX7_wordOf_12 : decode cX7_wordOf 12 = .ok (.goto 7, 3) := by decide +kernel
theorem dX7_wordOf_15 : decode cX7_wordOf 15 = .ok (.aload_n 2, 1) := by decide +kernel
theorem dX7_wordOf_16 : decode cX7_wordOf 16 = .ok (.invokevirtual 76, 3) := by decide +kernel
theorem dX7_wordOf_19 : decode cX7_wordOf 19 = .ok (.ireturn, 1) := by decide +kernel
theorem dX7_addCopied_0 : decode cX7_addCopied 0 = .ok (.aload_n 0, 1) := by decide +kernel
theorem dX7_addCopied_1 : decode cX7_addCopied 1 = .ok (.getfield 29, 3) := by decide +kernel
theorem dX7_addCopied_4 : decode cX7_addCopied 4 = .ok (.ifCond .lt 15, 3) := by decide +kernel
theorem dX7_addCopied_7 : decode cX7_addCopied 7 = .ok (.aload_n 0, 1) := by decide +kernel
theorem dX7_addCopied_8 : decode cX7_addCopied 8 = .ok (.getfield 29, 3) := by decide +kernel
theorem dX7_addCopied_11 : decode cX7_addCopied 11 = .ok (.aload_n 0, 1) := by decide +kernel
theorem dX7_addCopied_12 : decode cX7_addCopied 12 = .ok (.getfield 21, 3) := by decide +kernel
theorem dX7_addCopied_15 : decode cX7_addCopied 15 = .ok (.arraylength, 1) := by decide +kernel
theorem dX7_addCopied_16 : decode cX7_addCopied 16 = .ok (.if_icmp .lt 5, 3) := by decide +kernel
theorem dX7_addCopied_19 : decode cX7_addCopied 19 = .ok (.iconst 0, 1) := by decide +kernel
theorem dX7_addCopied_20 : decode cX7_addCopied 20 = .ok (.ireturn, 1) := by decide +kernel
theorem dX7_addCopied_21 : decode cX7_addCopied 21 = .ok (.aload_n 0, 1) := by decide +kernel
theorem dX7_addCopied_22 : decode cX7_addCopied 22 = .ok (.getfield 21, 3) := by decide +kernel
theorem dX7_addCopied_25 : decode cX7_addCopied 25 = .ok (.aload_n 0, 1) := by decide +kernel
theorem dX7_addCopied_26 : decode cX7_addCopied 26 = .ok (.getfield 29, 3) := by decide +kernel
theorem dX7_addCopied_29 : decode cX7_addCopied 29 = .ok (.iload_n 1, 1) := by decide +kernel
theorem dX7_addCopied_30 : decode cX7_addCopied 30 = .ok (.iastore, 1) := by decide +kernel
theorem dX7_addCopied_31 : decode cX7_addCopied 31 = .ok (.aload_n 0, 1) := by decide +kernel
theorem dX7_addCopied_32 : decode cX7_addCopied 32 = .ok (.dup, 1) := by decide +kernel
theorem dX7_addCopied_33 : decode cX7_addCopied 33 = .ok (.getfield 29, 3) := by decide +kernel
theorem dX7_addCopied_36 : decode cX7_addCopied 36 = .ok (.iconst 1, 1) := by decide +kernel
theorem dX7_addCopied_37 : decode cX7_addCopied 37 = .ok (.iadd, 1) := by decide +kernel
theorem dX7_addCopied_38 : decode cX7_addCopied 38 = .ok (.putfield 29, 3) := by decide +kernel
theorem dX7_addCopied_41 : decode cX7_addCopied 41 = .ok (.iconst 1, 1) := by decide +kernel
theorem dX7_addCopied_42 : decode cX7_addCopied 42 = .ok (.ireturn, 1) := by decide +kernel
set_option maxRecDepth 20000 in
theorem ggX7_firstUnlike_X7_wordOf : GoodIn wsX7_firstUnlike wsX7_wordOf := goodIn_r _ [8, 9, 10, 11, 7, 12, 1, 13, 14, 15, 16, 17, 18, 19, 20, 21, 22, 23, 24, 25, 26, 27, 28, 29, 30, 31, 32, 33, 34, 35, 36, 37] (by decide +kernel) (by decide +kernel)
set_option maxRecDepth 20000 in
theorem gX7_firstUnlike_X7_wordOf : GoodIn wsX7_firstUnlike (wsV RX7 71 RX7 yX7_wordOf wsX7_wordOf) := goodIn_app (goodIn_of _ (by decide +kernel)) ggX7_firstUnlike_X7_wordOf
theorem dX7_firstUnlike_0 : decode cX7_firstUnlike 0 = .ok (.iconst 0, 1) := by decide +kernel
theorem dX7_firstUnlike_1 : decode cX7_firstUnlike 1 = .ok (.istore_n 1, 1) := by decide +kernel
theorem dX7_firstUnlike_2 : decode cX7_firstUnlike 2 = .ok (.iload_n 1, 1) := by decide +kernel
theorem dX7_firstUnlike_3 : decode cX7_firstUnlike 3 = .ok (.aload_n 0, 1) := by decide +kernel
theorem dX7_firstUnlike_4 : decode cX7_firstUnlike 4 = .ok (.getfield 25, 3) := by decide +kernel
theorem dX7_firstUnlike_7 : decode cX7_firstUnlike 7 = .ok (.if_icmp .ge 42, 3) := by decide +kernel
theorem dX7_firstUnlike_10 : decode cX7_firstUnlike 10 = .ok (.iload_n 1, 1) := by decide +kernel
theorem dX7_firstUnlike_11 : decode cX7_firstUnlike 11 = .ok (.aload_n 0, 1) := by decide +kernel
theorem dX7_firstUnlike_12 : decode cX7_firstUnlike 12 = .ok (.getfield 29, 3) := by decide +kernel
theorem dX7_firstUnlike_15 : decode cX7_firstUnlike 15 = .ok (.if_icmp .ge 34, 3) := by decide +kernel
theorem dX7_firstUnlike_18 : decode cX7_firstUnlike 18 = .ok (.iload_n 1, 1) := by decide +kernel
theorem dX7_firstUnlike_19 : decode cX7_firstUnlike 19 = .ok (.aload_n 0, 1) := by decide +kernel
theorem dX7_firstUnlike_20 : decode cX7_firstUnlike 20 = .ok (.getfield 21, 3) := by decide +kernel
theorem dX7_firstUnlike_23 : decode cX7_firstUnlike 23 = .ok (.arraylength, 1) := by decide +kernel
theorem dX7_firstUnlike_24 : decode cX7_firstUnlike 24 = .ok (.if_icmp .ge 25, 3) := by decide +kernel
theorem dX7_firstUnlike_27 : decode cX7_firstUnlike 27 = .ok (.aload_n 0, 1) := by decide +kernel
theorem dX7_firstUnlike_28 : decode cX7_firstUnlike 28 = .ok (.iload_n 1, 1) := by decide +kernel
theorem dX7_firstUnlike_29 : decode cX7_firstUnlike 29 = .ok (.invokevirtual 71, 3) := by decide +kernel
theorem dX7_firstUnlike_32 : decode cX7_firstUnlike 32 = .ok (.aload_n 0, 1) := by decide +kernel
theorem dX7_firstUnlike_33 : decode cX7_firstUnlike 33 = .ok (.getfield 21, 3) := by decide +kernel
theorem dX7_firstUnlike_36 : decode cX7_firstUnlike 36 = .ok (.iload_n 1, 1) := by decide +kernel
theorem dX7_firstUnlike_37 : decode cX7_firstUnlike 37 = .ok (.iaload, 1) := by decide +kernel
theorem dX7_firstUnlike_38 : decode cX7_firstUnlike 38 = .ok (.if_icmp .eq 5, 3) := by decide +kernel
theorem dX7_firstUnlike_41 : decode cX7_firstUnlike 41 = .ok (.iload_n 1, 1) := by decide +kernel
theorem dX7_firstUnlike_42 : decode cX7_firstUnlike 42 = .ok (.ireturn, 1) := by decide +kernel
theorem dX7_firstUnlike_43 : decode cX7_firstUnlike 43 = .ok (.iinc 1 1, 3) := by decide +kernel
theorem dX7_firstUnlike_46 : decode cX7_firstUnlike 46 = .ok (.goto (-44), 3) := by decide +kernel
theorem dX7_firstUnlike_49 : decode cX7_firstUnlike 49 = .ok (.bipush (-6), 2) := by decide +kernel
theorem dX7_firstUnlike_51 : decode cX7_firstUnlike 51 = .ok (.ireturn, 1) := by decide +kernel
end
section
set_option maxRecDepth 20000 in
theorem ggX8_init_X0_init : GoodIn wsX8_init wsX0_init := goodIn_r _ [22, 23, 2, 3, 24, 25, 26, 27, 28, 60, 61, 62, 63, 64] (by decide +kernel) (by decide +kernel)
set_option maxRecDepth 20000 in
theorem gX8_init_X0_init : GoodIn wsX8_init (wsX0_init) := ggX8_init_X0_init
set_option maxRecDepth 20000 in
theorem ggX8_init_X3_init : GoodIn wsX8_init wsX3_init := goodIn_r _ [30, 31, 2, 3] (by decide +kernel) (by decide +kernel)
set_option maxRecDepth 20000 in
theorem gX8_init_X3_init_n18 : GoodIn wsX8_init (wsX3_init) := ggX8_init_X3_init
set_option maxRecDepth 20000 in
theorem ggX8_init_X4_init : GoodIn wsX8_init wsX4_init := goodIn_r _ [34, 35, 2, 3, 36, 37, 38, 39, 40, 41, 42, 43, 44, 45, 46, 47, 48, 73, 74, 75, 82, 83] (by decide +kernel) (by decide +kernel)
set_option maxRecDepth 20000 in
theorem gX8_init_X4_init : GoodIn wsX8_init (wsX4_init) := ggX8_init_X4_init
set_option maxRecDepth 20000 in
theorem ggX8_init_X7_init : GoodIn wsX8_init wsX7_init := goodIn_r _ [51, 52, 2, 3, 53, 54, 55, 36, 56, 57, 58, 59, 76, 77, 78, 79, 80, 81] (by decide +kernel) (by decide +kernel)
set_option maxRecDepth 20000 in
theorem gX8_init_X7_init : GoodIn wsX8_init (wsX7_init) := ggX8_init_X7_init
theorem dX8_init_0 : decode cX8_init 0 = .ok (.aload_n 0, 1) := by decide +kernel
theorem dX8_init_1 : decode cX8_init 1 = .ok (.invokespecial 1, 3) := by decide +kernel
theorem dX8_init_4 : decode cX8_init 4 = .ok (.aload_n 0, 1) := by decide +kernel
theorem dX8_init_5 : decode cX8_init 5 = .ok (.new 7, 3) := by decide +kernel
theorem dX8_init_8 : decode cX8_init 8 = .ok (.dup, 1) := by decide +kernel
theorem dX8_init_9 : decode cX8_init 9 = .ok (.invokespecial 9, 3) := by decide +kernel
theorem dX8_init_12 : decode cX8_init 12 = .ok (.putfield 10, 3) := by decide +kernel
theorem dX8_init_15 : decode cX8_init 15 = .ok (.aload_n 0, 1) := by decide +kernel
theorem dX8_init_16 : decode cX8_init 16 = .ok (.new 16, 3) := by decide +kernel
theorem dX8_init_19 : decode cX8_init 19 = .ok (.dup, 1) := by decide +kernel
theorem dX8_init_20 : decode cX8_init 20 = .ok (.invokespecial 18, 3) := by decide +kernel
theorem dX8_init_23 : decode cX8_init 23 = .ok (.putfield 19, 3) := by decide +kernel
theorem dX8_init_26 : decode cX8_init 26 = .ok (.aload_n 0, 1) := by decide +kernel
theorem dX8_init_27 : decode cX8_init 27 = .ok (.new 23, 3) := by decide +kernel
theorem dX8_init_30 : decode cX8_init 30 = .ok (.dup, 1) := by decide +kernel
theorem dX8_init_31 : decode cX8_init 31 = .ok (.invokespecial 25, 3) := by decide +kernel
theorem dX8_init_34 : decode cX8_init 34 = .ok (.putfield 26, 3) := by decide +kernel
theorem dX8_init_37 : decode cX8_init 37 = .ok (.aload_n 0, 1) := by decide +kernel
theorem dX8_init_38 : decode cX8_init 38 = .ok (.new 30, 3) := by decide +kernel
theorem dX8_init_41 : decode cX8_init 41 = .ok (.dup, 1) := by decide +kernel
theorem dX8_init_42 : decode cX8_init 42 = .ok (.aload_n 0, 1) := by decide +kernel
theorem dX8_init_43 : decode cX8_init 43 = .ok (.getfield 26, 3) := by decide +kernel
theorem dX8_init_46 : decode cX8_init 46 = .ok (.invokespecial 32, 3) := by decide +kernel
theorem dX8_init_49 : decode cX8_init 49 = .ok (.putfield 35, 3) := by decide +kernel
theorem dX8_init_52 : decode cX8_init 52 = .ok (.return_, 1) := by decide +kernel
set_option maxRecDepth 20000 in
theorem ggX8_key_X8_within : GoodIn wsX8_key wsX8_within := goodIn_r _ [6] (by decide +kernel) (by decide +kernel)
set_option maxRecDepth 20000 in
theorem gX8_key_X8_within : GoodIn wsX8_key (va_wsS RX8 39 yX8_within wsX8_within) := goodIn_app (goodIn_of _ (by decide +kernel)) ggX8_key_X8_within
set_option maxRecDepth 20000 in
theorem ggX8_key_X8_isExponent : GoodIn wsX8_key wsX8_isExponent := goodIn_r _ [9, 3, 4, 5, 6] (by decide +kernel) (by decide +kernel)
set_option maxRecDepth 20000 in
theorem gX8_key_X8_isExponent : GoodIn wsX8_key (va_wsS RX8 43 yX8_isExponent wsX8_isExponent) := goodIn_app (goodIn_of _ (by decide +kernel)) ggX8_key_X8_isExponent
set_option maxRecDepth 20000 in
theorem ggX8_key_X7_size : GoodIn wsX8_key wsX7_size := goodIn_r _ [14, 15, 41, 42, 43, 44, 45, 46] (by decide +kernel) (by decide +kernel)
set_option maxRecDepth 20000 in
theorem gX8_key_X7_size : GoodIn wsX8_key (wsV RX8 47 RX7 yX7_size wsX7_size) := goodIn_app (goodIn_of _ (by decide +kernel)) ggX8_key_X7_size
set_option maxRecDepth 20000 in
theorem ggX8_key_X0_become : GoodIn wsX8_key wsX0_become := goodIn_r _ [20, 21, 22, 23, 24, 25, 26, 27, 28, 29, 30, 31, 32, 47, 48, 49, 50, 51] (by decide +kernel) (by decide +kernel)
set_option maxRecDepth 20000 in
theorem gX8_key_X0_become : GoodIn wsX8_key (wsV RX8 51 RX0 yX0_become wsX0_become) := goodIn_app (goodIn_of _ (by decide +kernel)) ggX8_key_X0_become
set_option maxRecDepth 20000 in
theorem ggX8_key_X0_h : GoodIn wsX8_key wsX0_h := goodIn_r _ [36, 25, 47, 48, 49, 50, 51] (by decide +kernel) (by decide +kernel)
set_option maxRecDepth 20000 in
theorem gX8_key_X0_h : GoodIn wsX8_key (wsV RX8 55 RX0 yX0_h wsX0_h) := goodIn_app (goodIn_of _ (by decide +kernel)) ggX8_key_X0_h
theorem dX8_key_0 : decode cX8_key 0 = .ok (.iload_n 1, 1) := by decide +kernel
theorem dX8_key_1 : decode cX8_key 1 = .ok (.iconst 1, 1) := by decide +kernel
theorem dX8_key_2 : decode cX8_key 2 = .ok (.iconst 3, 1) := by decide +kernel
theorem dX8_key_3 : decode cX8_key 3 = .ok (.invokestatic 39, 3) := by decide +kernel
theorem dX8_key_6 : decode cX8_key 6 = .ok (.ifCond .eq 25, 3) := by decide +kernel
theorem dX8_key_9 : decode cX8_key 9 = .ok (.iload_n 2, 1) := by decide +kernel
theorem dX8_key_10 : decode cX8_key 10 = .ok (.invokestatic 43, 3) := by decide +kernel
theorem dX8_key_13 : decode cX8_key 13 = .ok (.ifCond .eq 18, 3) := by decide +kernel
theorem dX8_key_16 : decode cX8_key 16 = .ok (.iload_n 3, 1) := by decide +kernel
theorem dX8_key_17 : decode cX8_key 17 = .ok (.invokestatic 43, 3) := by decide +kernel
theorem dX8_key_20 : decode cX8_key 20 = .ok (.ifCond .eq 11, 3) := by decide +kernel
theorem dX8_key_23 : decode cX8_key 23 = .ok (.iload 4, 2) := by decide +kernel
theorem dX8_key_25 : decode cX8_key 25 = .ok (.invokestatic 43, 3) := by decide +kernel
theorem dX8_key_28 : decode cX8_key 28 = .ok (.ifCond .ne 6, 3) := by decide +kernel
theorem dX8_key_31 : decode cX8_key 31 = .ok (.bipush (-2), 2) := by decide +kernel
theorem dX8_key_33 : decode cX8_key 33 = .ok (.ireturn, 1) := by decide +kernel
theorem dX8_key_34 : decode cX8_key 34 = .ok (.aload_n 0, 1) := by decide +kernel
theorem dX8_key_35 : decode cX8_key 35 = .ok (.getfield 35, 3) := by decide +kernel
theorem dX8_key_38 : decode cX8_key 38 = .ok (.invokevirtual 47, 3) := by decide +kernel
theorem dX8_key_41 : decode cX8_key 41 = .ok (.ifCond .le 6, 3) := by decide +kernel
theorem dX8_key_44 : decode cX8_key 44 = .ok (.bipush (-3), 2) := by decide +kernel
theorem dX8_key_46 : decode cX8_key 46 = .ok (.ireturn, 1) := by decide +kernel
theorem dX8_key_47 : decode cX8_key 47 = .ok (.aload_n 0, 1) := by decide +kernel
theorem dX8_key_48 : decode cX8_key 48 = .ok (.getfield 10, 3) := by decide +kernel
theorem dX8_key_51 : decode cX8_key 51 = .ok (.iload_n 1, 1) := by decide +kernel
theorem dX8_key_52 : decode cX8_key 52 = .ok (.iload_n 2, 1) := by decide +kernel
theorem dX8_key_53 : decode cX8_key 53 = .ok (.iload_n 3, 1) := by decide +kernel
theorem dX8_key_54 : decode cX8_key 54 = .ok (.iload 4, 2) := by decide +kernel
theorem dX8_key_56 : decode cX8_key 56 = .ok (.invokevirtual 51, 3) := by decide +kernel
theorem dX8_key_59 : decode cX8_key 59 = .ok (.aload_n 0, 1) := by decide +kernel
theorem dX8_key_60 : decode cX8_key 60 = .ok (.getfield 10, 3) := by decide +kernel
theorem dX8_key_63 : decode cX8_key 63 = .ok (.invokevirtual 55, 3) := by decide +kernel
theorem dX8_key_66 : decode cX8_key 66 = .ok (.ireturn, 1) := by decide +kernel
set_option maxRecDepth 20000 in
theorem ggX8_holder_X8_isHolder : GoodIn wsX8_holder wsX8_isHolder := goodIn_r _ [5, 6, 7, 4, 8] (by decide +kernel) (by decide +kernel)
set_option maxRecDepth 20000 in
theorem gX8_holder_X8_isHolder : GoodIn wsX8_holder (va_wsS RX8 58 yX8_isHolder wsX8_isHolder) := goodIn_app (goodIn_of _ (by decide +kernel)) ggX8_holder_X8_isHolder
set_option maxRecDepth 20000 in
theorem ggX8_holder_X8_within : GoodIn wsX8_holder wsX8_within := goodIn_r _ [8] (by decide +kernel) (by decide +kernel)
set_option maxRecDepth 20000 in
theorem gX8_holder_X8_within : GoodIn wsX8_holder (va_wsS RX8 39 yX8_within wsX8_within) := goodIn_app (goodIn_of _ (by decide +kernel)) ggX8_holder_X8_within
set_option maxRecDepth 20000 in
theorem ggX8_holder_X0_part : GoodIn wsX8_holder wsX0_part := goodIn_r _ [13, 14, 15, 16, 28, 29, 30, 31, 32] (by decide +kernel) (by decide +kernel)
set_option maxRecDepth 20000 in
theorem gX8_holder_X0_part : GoodIn wsX8_holder (wsV RX8 61 RX0 yX0_part wsX0_part) := goodIn_app (goodIn_of _ (by decide +kernel)) ggX8_holder_X0_part
set_option maxRecDepth 20000 in
theorem ggX8_holder_X2_ofG : GoodIn wsX8_holder wsX2_ofG := goodIn_r _ [20, 21, 22, 19, 23] (by decide +kernel) (by decide +kernel)
set_option maxRecDepth 20000 in
theorem gX8_holder_X2_ofG : GoodIn wsX8_holder (va_wsS RX8 65 yX2_ofG wsX2_ofG) := goodIn_app (goodIn_of _ (by decide +kernel)) ggX8_holder_X2_ofG
theorem dX8_holder_0 : decode cX8_holder 0 = .ok (.iload_n 1, 1) := by decide +kernel
theorem dX8_holder_1 : decode cX8_holder 1 = .ok (.invokestatic 58, 3) := by decide +kernel
theorem dX8_holder_4 : decode cX8_holder 4 = .ok (.ifCond .ne 5, 3) := by decide +kernel
theorem dX8_holder_7 : decode cX8_holder 7 = .ok (.iconst (-1), 1) := by decide +kernel
theorem dX8_holder_8 : decode cX8_holder 8 = .ok (.ireturn, 1) := by decide +kernel
theorem dX8_holder_9 : decode cX8_holder 9 = .ok (.iload_n 2, 1) := by decide +kernel
theorem dX8_holder_10 : decode cX8_holder 10 = .ok (.iconst 0, 1) := by decide +kernel
theorem dX8_holder_11 : decode cX8_holder 11 = .ok (.iconst 1, 1) := by decide +kernel
theorem dX8_holder_12 : decode cX8_holder 12 = .ok (.invokestatic 39, 3) := by decide +kernel
theorem dX8_holder_15 : decode cX8_holder 15 = .ok (.ifCond .ne 6, 3) := by decide +kernel
theorem dX8_holder_18 : decode cX8_holder 18 = .ok (.bipush (-2), 2) := by decide +kernel
theorem dX8_holder_20 : decode cX8_holder 20 = .ok (.ireturn, 1) := by decide +kernel
theorem dX8_holder_21 : decode cX8_holder 21 = .ok (.iload_n 2, 1) := by decide +kernel
theorem dX8_holder_22 : decode cX8_holder 22 = .ok (.ifCond .ne 14, 3) := by decide +kernel
theorem dX8_holder_25 : decode cX8_holder 25 = .ok (.aload_n 0, 1) := by decide +kernel
theorem dX8_holder_26 : decode cX8_holder 26 = .ok (.getfield 10, 3) := by decide +kernel
theorem dX8_holder_29 : decode cX8_holder 29 = .ok (.iload_n 1, 1) := by decide +kernel
theorem dX8_holder_30 : decode cX8_holder 30 = .ok (.invokevirtual 61, 3) := by decide +kernel
theorem dX8_holder_33 : decode cX8_holder 33 = .ok (.goto 14, 3) := by decide +kernel
theorem dX8_holder_36 : decode cX8_holder 36 = .ok (.aload_n 0, 1) := by decide +kernel
theorem dX8_holder_37 : decode cX8_holder 37 = .ok (.getfield 10, 3) := by decide +kernel
theorem dX8_holder_40 : decode cX8_holder 40 = .ok (.iload_n 1, 1) := by decide +kernel
theorem dX8_holder_41 : decode cX8_holder 41 = .ok (.invokevirtual 61, 3) := by decide +kernel
theorem dX8_holder_44 : decode cX8_holder 44 = .ok (.invokestatic 65, 3) := by decide +kernel
theorem dX8_holder_47 : decode cX8_holder 47 = .ok (.ireturn, 1) := by decide +kernel
set_option maxRecDepth 20000 in
theorem ggX8_seal_X8_isExponent : GoodIn wsX8_seal wsX8_isExponent := goodIn_r _ [5, 6, 7, 4, 8] (by decide +kernel) (by decide +kernel)
set_option maxRecDepth 20000 in
theorem gX8_seal_X8_isExponent : GoodIn wsX8_seal (va_wsS RX8 43 yX8_isExponent wsX8_isExponent) := goodIn_app (goodIn_of _ (by decide +kernel)) ggX8_seal_X8_isExponent
set_option maxRecDepth 20000 in
theorem ggX8_seal_X8_within : GoodIn wsX8_seal wsX8_within := goodIn_r _ [8] (by decide +kernel) (by decide +kernel)
set_option maxRecDepth 20000 in
theorem gX8_seal_X8_within : GoodIn wsX8_seal (va_wsS RX8 39 yX8_within wsX8_within) := goodIn_app (goodIn_of _ (by decide +kernel)) ggX8_seal_X8_within
set_option maxRecDepth 20000 in
theorem ggX8_seal_X2_ofG : GoodIn wsX8_seal wsX2_ofG := goodIn_r _ [12, 13, 14, 11, 15] (by decide +kernel) (by decide +kernel)
set_option maxRecDepth 20000 in
theorem gX8_seal_X2_ofG : GoodIn wsX8_seal (va_wsS RX8 65 yX2_ofG wsX2_ofG) := goodIn_app (goodIn_of _ (by decide +kernel)) ggX8_seal_X2_ofG
set_option maxRecDepth 20000 in
theorem ggX8_seal_X0_sealedB : GoodIn wsX8_seal wsX0_sealedB := goodIn_r _ [20, 21, 22, 23, 11, 24, 13, 14, 15, 25, 10, 12, 30, 31, 32, 33, 34] (by decide +kernel) (by decide +kernel)
set_option maxRecDepth 20000 in
theorem gX8_seal_X0_sealedB : GoodIn wsX8_seal (wsV RX8 70 RX0 yX0_sealedB wsX0_sealedB) := goodIn_app (goodIn_of _ (by decide +kernel)) ggX8_seal_X0_sealedB
theorem dX8_seal_0 : decode cX8_seal 0 = .ok (.iload_n 1, 1) := by decide +kernel
theorem dX8_seal_1 : decode cX8_seal 1 = .ok (.invokestatic 43, 3) := by decide +kernel
theorem dX8_seal_4 : decode cX8_seal 4 = .ok (.ifCond .eq 19, 3) := by decide +kernel
theorem dX8_seal_7 : decode cX8_seal 7 = .ok (.iload_n 2, 1) := by decide +kernel
theorem dX8_seal_8 : decode cX8_seal 8 = .ok (.invokestatic 43, 3) := by decide +kernel
theorem dX8_seal_11 : decode cX8_seal 11 = .ok (.ifCond .eq 12, 3) := by decide +kernel
theorem dX8_seal_14 : decode cX8_seal 14 = .ok (.iload_n 3, 1) := by decide +kernel
theorem dX8_seal_15 : decode cX8_seal 15 = .ok (.iconst 0, 1) := by decide +kernel
theorem dX8_seal_16 : decode cX8_seal 16 = .ok (.iconst 1, 1) := by decide +kernel
theorem dX8_seal_17 : decode cX8_seal 17 = .ok (.invokestatic 39, 3) := by decide +kernel
theorem dX8_seal_20 : decode cX8_seal 20 = .ok (.ifCond .ne 6, 3) := by decide +kernel
theorem dX8_seal_23 : decode cX8_seal 23 = .ok (.bipush (-2), 2) := by decide +kernel
theorem dX8_seal_25 : decode cX8_seal 25 = .ok (.ireturn, 1) := by decide +kernel
theorem dX8_seal_26 : decode cX8_seal 26 = .ok (.iload_n 3, 1) := by decide +kernel
theorem dX8_seal_27 : decode cX8_seal 27 = .ok (.ifCond .ne 10, 3) := by decide +kernel
theorem dX8_seal_30 : decode cX8_seal 30 = .ok (.iload_n 2, 1) := by decide +kernel
theorem dX8_seal_31 : decode cX8_seal 31 = .ok (.invokestatic 65, 3) := by decide +kernel
theorem dX8_seal_34 : decode cX8_seal 34 = .ok (.goto 12, 3) := by decide +kernel
theorem dX8_seal_37 : decode cX8_seal 37 = .ok (.aload_n 0, 1) := by decide +kernel
theorem dX8_seal_38 : decode cX8_seal 38 = .ok (.getfield 10, 3) := by decide +kernel
theorem dX8_seal_41 : decode cX8_seal 41 = .ok (.iload_n 1, 1) := by decide +kernel
theorem dX8_seal_42 : decode cX8_seal 42 = .ok (.iload_n 2, 1) := by decide +kernel
theorem dX8_seal_43 : decode cX8_seal 43 = .ok (.invokevirtual 70, 3) := by decide +kernel
theorem dX8_seal_46 : decode cX8_seal 46 = .ok (.ireturn, 1) := by decide +kernel
set_option maxRecDepth 20000 in
theorem ggX8_right_X2_isRight : GoodIn wsX8_right wsX2_isRight := goodIn_r _ [4, 5, 6, 7, 8, 9, 10, 11, 12, 3, 13, 14, 15, 16] (by decide +kernel) (by decide +kernel)
set_option maxRecDepth 20000 in
theorem gX8_right_X2_isRight : GoodIn wsX8_right (va_wsS RX8 74 yX2_isRight wsX2_isRight) := goodIn_app (goodIn_of _ (by decide +kernel)) ggX8_right_X2_isRight
theorem dX8_right_0 : decode cX8_right 0 = .ok (.iload_n 1, 1) := by decide +kernel
theorem dX8_right_1 : decode cX8_right 1 = .ok (.iload_n 2, 1) := by decide +kernel
theorem dX8_right_2 : decode cX8_right 2 = .ok (.invokestatic 74, 3) := by decide +kernel
theorem dX8_right_5 : decode cX8_right 5 = .ok (.ifCond .eq 7, 3) := by decide +kernel
theorem dX8_right_8 : decode cX8_right 8 = .ok (.iconst 1, 1) := by decide +kernel
theorem dX8_right_9 : decode cX8_right 9 = .ok (.goto 4, 3) := by decide +kernel
theorem dX8_right_12 : decode cX8_right 12 = .ok (.iconst 0, 1) := by decide +kernel
theorem dX8_right_13 : decode cX8_right 13 = .ok (.ireturn, 1) := by decide +kernel
set_option maxRecDepth 20000 in
theorem ggX8_open_X8_isHolder : GoodIn wsX8_open wsX8_isHolder := goodIn_r _ [5, 6, 7, 4, 8] (by decide +kernel) (by decide +kernel)
set_option maxRecDepth 20000 in
theorem gX8_open_X8_isHolder : GoodIn wsX8_open (va_wsS RX8 58 yX8_isHolder wsX8_isHolder) := goodIn_app (goodIn_of _ (by decide +kernel)) ggX8_open_X8_isHolder
set_option maxRecDepth 20000 in
theorem ggX8_open_X8_isResidue : GoodIn wsX8_open wsX8_isResidue := goodIn_r _ [11, 6, 7, 4, 8] (by decide +kernel) (by decide +kernel)
set_option maxRecDepth 20000 in
theorem gX8_open_X8_isResidue : GoodIn wsX8_open (va_wsS RX8 78 yX8_isResidue wsX8_isResidue) := goodIn_app (goodIn_of _ (by decide +kernel)) ggX8_open_X8_isResidue
set_option maxRecDepth 20000 in
theorem ggX8_open_X0_share : GoodIn wsX8_open wsX0_share := goodIn_r _ [16, 17, 18, 19, 15, 20, 21, 22, 23, 24, 25, 26, 27, 28, 29, 30, 35, 36, 37, 38, 39] (by decide +kernel) (by decide +kernel)
set_option maxRecDepth 20000 in
theorem gX8_open_X0_share : GoodIn wsX8_open (wsV RX8 81 RX0 yX0_share wsX0_share) := goodIn_app (goodIn_of _ (by decide +kernel)) ggX8_open_X0_share
theorem dX8_open_0 : decode cX8_open 0 = .ok (.iload_n 1, 1) := by decide +kernel
theorem dX8_open_1 : decode cX8_open 1 = .ok (.invokestatic 58, 3) := by decide +kernel
theorem dX8_open_4 : decode cX8_open 4 = .ok (.ifCond .ne 5, 3) := by decide +kernel
theorem dX8_open_7 : decode cX8_open 7 = .ok (.iconst (-1), 1) := by decide +kernel
theorem dX8_open_8 : decode cX8_open 8 = .ok (.ireturn, 1) := by decide +kernel
theorem dX8_open_9 : decode cX8_open 9 = .ok (.iload_n 2, 1) := by decide +kernel
theorem dX8_open_10 : decode cX8_open 10 = .ok (.invokestatic 78, 3) := by decide +kernel
theorem dX8_open_13 : decode cX8_open 13 = .ok (.ifCond .ne 6, 3) := by decide +kernel
theorem dX8_open_16 : decode cX8_open 16 = .ok (.bipush (-2), 2) := by decide +kernel
theorem dX8_open_18 : decode cX8_open 18 = .ok (.ireturn, 1) := by decide +kernel
theorem dX8_open_19 : decode cX8_open 19 = .ok (.aload_n 0, 1) := by decide +kernel
theorem dX8_open_20 : decode cX8_open 20 = .ok (.getfield 10, 3) := by decide +kernel
theorem dX8_open_23 : decode cX8_open 23 = .ok (.iload_n 1, 1) := by decide +kernel
theorem dX8_open_24 : decode cX8_open 24 = .ok (.iload_n 2, 1) := by decide +kernel
theorem dX8_open_25 : decode cX8_open 25 = .ok (.invokevirtual 81, 3) := by decide +kernel
theorem dX8_open_28 : decode cX8_open 28 = .ok (.ireturn, 1) := by decide +kernel
set_option maxRecDepth 20000 in
theorem ggX8_weight_X8_isHolder : GoodIn wsX8_weight wsX8_isHolder := goodIn_r _ [4, 5, 6, 3, 7] (by decide +kernel) (by decide +kernel)
set_option maxRecDepth 20000 in
theorem gX8_weight_X8_isHolder : GoodIn wsX8_weight (va_wsS RX8 58 yX8_isHolder wsX8_isHolder) := goodIn_app (goodIn_of _ (by decide +kernel)) ggX8_weight_X8_isHolder
set_option maxRecDepth 20000 in
theorem ggX8_weight_X8_isIn : GoodIn wsX8_weight wsX8_isIn := goodIn_r _ [10] (by decide +kernel) (by decide +kernel)
set_option maxRecDepth 20000 in
theorem gX8_weight_X8_isIn : GoodIn wsX8_weight (va_wsS RX8 84 yX8_isIn wsX8_isIn) := goodIn_app (goodIn_of _ (by decide +kernel)) ggX8_weight_X8_isIn
set_option maxRecDepth 20000 in
theorem ggX8_weight_X8_isSet : GoodIn wsX8_weight wsX8_isSet := goodIn_r _ [13, 5, 6, 3, 7] (by decide +kernel) (by decide +kernel)
set_option maxRecDepth 20000 in
theorem gX8_weight_X8_isSet : GoodIn wsX8_weight (va_wsS RX8 87 yX8_isSet wsX8_isSet) := goodIn_app (goodIn_of _ (by decide +kernel)) ggX8_weight_X8_isSet
set_option maxRecDepth 20000 in
theorem ggX8_weight_X0_weightIn : GoodIn wsX8_weight wsX0_weightIn := goodIn_r _ [17, 9, 3, 10, 18, 19, 20, 21, 22, 23, 24] (by decide +kernel) (by decide +kernel)
set_option maxRecDepth 20000 in
theorem gX8_weight_X0_weightIn : GoodIn wsX8_weight (va_wsS RX8 90 yX0_weightIn wsX0_weightIn) := goodIn_app (goodIn_of _ (by decide +kernel)) ggX8_weight_X0_weightIn
theorem dX8_weight_0 : decode cX8_weight 0 = .ok (.iload_n 1, 1) := by decide +kernel
theorem dX8_weight_1 : decode cX8_weight 1 = .ok (.invokestatic 58, 3) := by decide +kernel
theorem dX8_weight_4 : decode cX8_weight 4 = .ok (.ifCond .eq 11, 3) := by decide +kernel
theorem dX8_weight_7 : decode cX8_weight 7 = .ok (.iload_n 1, 1) := by decide +kernel
theorem dX8_weight_8 : decode cX8_weight 8 = .ok (.iload_n 2, 1) := by decide +kernel
theorem dX8_weight_9 : decode cX8_weight 9 = .ok (.invokestatic 84, 3) := by decide +kernel
theorem dX8_weight_12 : decode cX8_weight 12 = .ok (.ifCond .ne 5, 3) := by decide +kernel
theorem dX8_weight_15 : decode cX8_weight 15 = .ok (.iconst (-1), 1) := by decide +kernel
theorem dX8_weight_16 : decode cX8_weight 16 = .ok (.ireturn, 1) := by decide +kernel
theorem dX8_weight_17 : decode cX8_weight 17 = .ok (.iload_n 2, 1) := by decide +kernel
theorem dX8_weight_18 : decode cX8_weight 18 = .ok (.invokestatic 87, 3) := by decide +kernel
theorem dX8_weight_21 : decode cX8_weight 21 = .ok (.ifCond .ne 6, 3) := by decide +kernel
theorem dX8_weight_24 : decode cX8_weight 24 = .ok (.bipush (-2), 2) := by decide +kernel
theorem dX8_weight_26 : decode cX8_weight 26 = .ok (.ireturn, 1) := by decide +kernel
theorem dX8_weight_27 : decode cX8_weight 27 = .ok (.iload_n 1, 1) := by decide +kernel
theorem dX8_weight_28 : decode cX8_weight 28 = .ok (.iload_n 2, 1) := by decide +kernel
theorem dX8_weight_29 : decode cX8_weight 29 = .ok (.invokestatic 90, 3) := by decide +kernel
theorem dX8_weight_32 : decode cX8_weight 32 = .ok (.ireturn, 1) := by decide +kernel
set_option maxRecDepth 20000 in
theorem ggX8_opened_X8_isResidue : GoodIn wsX8_opened wsX8_isResidue := goodIn_r _ [5, 6, 7, 4, 8] (by decide +kernel) (by decide +kernel)
set_option maxRecDepth 20000 in
theorem gX8_opened_X8_isResidue : GoodIn wsX8_opened (va_wsS RX8 78 yX8_isResidue wsX8_isResidue) := goodIn_app (goodIn_of _ (by decide +kernel)) ggX8_opened_X8_isResidue
set_option maxRecDepth 20000 in
theorem ggX8_opened_X8_isSet : GoodIn wsX8_opened wsX8_isSet := goodIn_r _ [11, 6, 7, 4, 8] (by decide +kernel) (by decide +kernel)
set_option maxRecDepth 20000 in
theorem gX8_opened_X8_isSet : GoodIn wsX8_opened (va_wsS RX8 87 yX8_isSet wsX8_isSet) := goodIn_app (goodIn_of _ (by decide +kernel)) ggX8_opened_X8_isSet
set_option maxRecDepth 20000 in
theorem ggX8_opened_X8_within : GoodIn wsX8_opened wsX8_within := goodIn_r _ [8] (by decide +kernel) (by decide +kernel)
set_option maxRecDepth 20000 in
theorem gX8_opened_X8_within : GoodIn wsX8_opened (va_wsS RX8 39 yX8_within wsX8_within) := goodIn_app (goodIn_of _ (by decide +kernel)) ggX8_opened_X8_within
set_option maxRecDepth 20000 in
theorem ggX8_opened_J6_bitCount_0f7a4 : GoodIn wsX8_opened wsJ6_bitCount_0f7a4 := goodIn_r _ [15, 16, 17, 18] (by decide +kernel) (by decide +kernel)
set_option maxRecDepth 20000 in
theorem gX8_opened_J6_bitCount_0f7a4 : GoodIn wsX8_opened (va_wsS RX8 93 yJ6_bitCount_0f7a4 wsJ6_bitCount_0f7a4) := goodIn_app (goodIn_of _ (by decide +kernel)) ggX8_opened_J6_bitCount_0f7a4
set_option maxRecDepth 20000 in
theorem ggX8_opened_X0_need : GoodIn wsX8_opened wsX0_need := goodIn_r _ [23, 24, 66, 67, 68, 69, 70] (by decide +kernel) (by decide +kernel)
set_option maxRecDepth 20000 in
theorem gX8_opened_X0_need : GoodIn wsX8_opened (wsV RX8 98 RX0 yX0_need wsX0_need) := goodIn_app (goodIn_of _ (by decide +kernel)) ggX8_opened_X0_need
set_option maxRecDepth 20000 in
theorem ggX8_opened_X0_unsealed : GoodIn wsX8_opened wsX0_unsealed := goodIn_r _ [28, 29, 4, 30, 31, 32, 33, 22, 34, 35, 36, 37, 38, 39, 40, 41, 42, 43, 44, 45, 46, 47, 48, 49, 50, 51, 52, 53, 54, 55, 56, 57, 58, 66, 67, 68, 69, 70] (by decide +kernel) (by decide +kernel)
set_option maxRecDepth 20000 in
theorem gX8_opened_X0_unsealed : GoodIn wsX8_opened (wsV RX8 101 RX0 yX0_unsealed wsX0_unsealed) := goodIn_app (goodIn_of _ (by decide +kernel)) ggX8_opened_X0_unsealed
set_option maxRecDepth 20000 in
theorem ggX8_opened_X2_exponentOf : GoodIn wsX8_opened wsX2_exponentOf := goodIn_r _ [61] (by decide +kernel) (by decide +kernel)
set_option maxRecDepth 20000 in
theorem gX8_opened_X2_exponentOf : GoodIn wsX8_opened (va_wsS RX8 105 yX2_exponentOf wsX2_exponentOf) := goodIn_app (goodIn_of _ (by decide +kernel)) ggX8_opened_X2_exponentOf
theorem dX8_opened_0 : decode cX8_opened 0 = .ok (.iload_n 1, 1) := by decide +kernel
theorem dX8_opened_1 : decode cX8_opened 1 = .ok (.invokestatic 78, 3) := by decide +kernel
theorem dX8_opened_4 : decode cX8_opened 4 = .ok (.ifCond .eq 27, 3) := by decide +kernel
theorem dX8_opened_7 : decode cX8_opened 7 = .ok (.iload_n 2, 1) := by decide +kernel
theorem dX8_opened_8 : decode cX8_opened 8 = .ok (.invokestatic 78, 3) := by decide +kernel
theorem dX8_opened_11 : decode cX8_opened 11 = .ok (.ifCond .eq 20, 3) := by decide +kernel
theorem dX8_opened_14 : decode cX8_opened 14 = .ok (.iload_n 3, 1) := by decide +kernel
theorem dX8_opened_15 : decode cX8_opened 15 = .ok (.invokestatic 87, 3) := by decide +kernel
theorem dX8_opened_18 : decode cX8_opened 18 = .ok (.ifCond .eq 13, 3) := by decide +kernel
theorem dX8_opened_21 : decode cX8_opened 21 = .ok (.iload 4, 2) := by decide +kernel
theorem dX8_opened_23 : decode cX8_opened 23 = .ok (.iconst 0, 1) := by decide +kernel
theorem dX8_opened_24 : decode cX8_opened 24 = .ok (.iconst 1, 1) := by decide +kernel
theorem dX8_opened_25 : decode cX8_opened 25 = .ok (.invokestatic 39, 3) := by decide +kernel
theorem dX8_opened_28 : decode cX8_opened 28 = .ok (.ifCond .ne 6, 3) := by decide +kernel
theorem dX8_opened_31 : decode cX8_opened 31 = .ok (.bipush (-2), 2) := by decide +kernel
theorem dX8_opened_33 : decode cX8_opened 33 = .ok (.ireturn, 1) := by decide +kernel
theorem dX8_opened_34 : decode cX8_opened 34 = .ok (.iload_n 3, 1) := by decide +kernel
theorem dX8_opened_35 : decode cX8_opened 35 = .ok (.invokestatic 93, 3) := by decide +kernel
theorem dX8_opened_38 : decode cX8_opened 38 = .ok (.aload_n 0, 1) := by decide +kernel
theorem dX8_opened_39 : decode cX8_opened 39 = .ok (.getfield 10, 3) := by decide +kernel
theorem dX8_opened_42 : decode cX8_opened 42 = .ok (.invokevirtual 98, 3) := by decide +kernel
theorem dX8_opened_45 : decode cX8_opened 45 = .ok (.if_icmp .ge 6, 3) := by decide +kernel
theorem dX8_opened_48 : decode cX8_opened 48 = .ok (.bipush (-5), 2) := by decide +kernel
theorem dX8_opened_50 : decode cX8_opened 50 = .ok (.ireturn, 1) := by decide +kernel
theorem dX8_opened_51 : decode cX8_opened 51 = .ok (.aload_n 0, 1) := by decide +kernel
theorem dX8_opened_52 : decode cX8_opened 52 = .ok (.getfield 10, 3) := by decide +kernel
theorem dX8_opened_55 : decode cX8_opened 55 = .ok (.iload_n 1, 1) := by decide +kernel
theorem dX8_opened_56 : decode cX8_opened 56 = .ok (.iload_n 2, 1) := by decide +kernel
theorem dX8_opened_57 : decode cX8_opened 57 = .ok (.iload_n 3, 1) := by decide +kernel
theorem dX8_opened_58 : decode cX8_opened 58 = .ok (.invokevirtual 101, 3) := by decide +kernel
theorem dX8_opened_61 : decode cX8_opened 61 = .ok (.istore 5, 2) := by decide +kernel
theorem dX8_opened_63 : decode cX8_opened 63 = .ok (.iload 4, 2) := by decide +kernel
theorem dX8_opened_65 : decode cX8_opened 65 = .ok (.ifCond .ne 8, 3) := by decide +kernel
theorem dX8_opened_68 : decode cX8_opened 68 = .ok (.iload 5, 2) := by decide +kernel
theorem dX8_opened_70 : decode cX8_opened 70 = .ok (.goto 8, 3) := by decide +kernel
theorem dX8_opened_73 : decode cX8_opened 73 = .ok (.iload 5, 2) := by decide +kernel
theorem dX8_opened_75 : decode cX8_opened 75 = .ok (.invokestatic 105, 3) := by decide +kernel
theorem dX8_opened_78 : decode cX8_opened 78 = .ok (.ireturn, 1) := by decide +kernel
set_option maxRecDepth 20000 in
theorem ggX8_prove_X8_within : GoodIn wsX8_prove wsX8_within := goodIn_r _ [6] (by decide +kernel) (by decide +kernel)
set_option maxRecDepth 20000 in
theorem gX8_prove_X8_within : GoodIn wsX8_prove (va_wsS RX8 39 yX8_within wsX8_within) := goodIn_app (goodIn_of _ (by decide +kernel)) ggX8_prove_X8_within
set_option maxRecDepth 20000 in
theorem ggX8_prove_X8_areLots : GoodIn wsX8_prove wsX8_areLots := goodIn_r _ [9, 10, 11, 5, 12, 3, 4, 6] (by decide +kernel) (by decide +kernel)
set_option maxRecDepth 20000 in
theorem gX8_prove_X8_areLots : GoodIn wsX8_prove (va_wsS RX8 108 yX8_areLots wsX8_areLots) := goodIn_app (goodIn_of _ (by decide +kernel)) ggX8_prove_X8_areLots
set_option maxRecDepth 20000 in
theorem ggX8_prove_X3_make : GoodIn wsX8_prove wsX3_make := goodIn_r _ [17, 18, 19, 20, 21, 22, 23, 24, 25, 26, 27, 28, 29, 30, 31, 32, 33, 34, 35, 36, 37, 38, 39, 40, 41, 16, 42, 43, 44, 45, 46, 47, 48, 49, 50, 51, 52, 53, 54, 55, 56, 57, 58, 59, 60, 61, 62, 71, 72, 73, 74, 75, 76, 77, 78, 79] (by decide +kernel) (by decide +kernel)
set_option maxRecDepth 20000 in
theorem gX8_prove_X3_make : GoodIn wsX8_prove (wsV RX8 112 RX3 yX3_make wsX3_make) := goodIn_app (goodIn_of _ (by decide +kernel)) ggX8_prove_X3_make
set_option maxRecDepth 20000 in
theorem ggX8_prove_X3_number : GoodIn wsX8_prove wsX3_number := goodIn_r _ [66, 59, 60, 61, 62, 76, 77, 78, 79] (by decide +kernel) (by decide +kernel)
set_option maxRecDepth 20000 in
theorem gX8_prove_X3_number : GoodIn wsX8_prove (wsV RX8 116 RX3 yX3_number wsX3_number) := goodIn_app (goodIn_of _ (by decide +kernel)) ggX8_prove_X3_number
theorem dX8_prove_0 : decode cX8_prove 0 = .ok (.iload_n 1, 1) := by decide +kernel
theorem dX8_prove_1 : decode cX8_prove 1 = .ok (.iconst 0, 1) := by decide +kernel
theorem dX8_prove_2 : decode cX8_prove 2 = .ok (.iconst 1, 1) := by decide +kernel
theorem dX8_prove_3 : decode cX8_prove 3 = .ok (.invokestatic 39, 3) := by decide +kernel
theorem dX8_prove_6 : decode cX8_prove 6 = .ok (.ifCond .eq 25, 3) := by decide +kernel
theorem dX8_prove_9 : decode cX8_prove 9 = .ok (.iload_n 2, 1) := by decide +kernel
theorem dX8_prove_10 : decode cX8_prove 10 = .ok (.iload_n 3, 1) := by decide +kernel
theorem dX8_prove_11 : decode cX8_prove 11 = .ok (.iload 4, 2) := by decide +kernel
theorem dX8_prove_13 : decode cX8_prove 13 = .ok (.iload 5, 2) := by decide +kernel
theorem dX8_prove_15 : decode cX8_prove 15 = .ok (.invokestatic 108, 3) := by decide +kernel
theorem dX8_prove_18 : decode cX8_prove 18 = .ok (.ifCond .eq 13, 3) := by decide +kernel
theorem dX8_prove_21 : decode cX8_prove 21 = .ok (.iload 6, 2) := by decide +kernel
theorem dX8_prove_23 : decode cX8_prove 23 = .ok (.iconst 0, 1) := by decide +kernel
theorem dX8_prove_24 : decode cX8_prove 24 = .ok (.iconst 3, 1) := by decide +kernel
theorem dX8_prove_25 : decode cX8_prove 25 = .ok (.invokestatic 39, 3) := by decide +kernel
theorem dX8_prove_28 : decode cX8_prove 28 = .ok (.ifCond .ne 6, 3) := by decide +kernel
theorem dX8_prove_31 : decode cX8_prove 31 = .ok (.bipush (-2), 2) := by decide +kernel
theorem dX8_prove_33 : decode cX8_prove 33 = .ok (.ireturn, 1) := by decide +kernel
theorem dX8_prove_34 : decode cX8_prove 34 = .ok (.aload_n 0, 1) := by decide +kernel
theorem dX8_prove_35 : decode cX8_prove 35 = .ok (.getfield 19, 3) := by decide +kernel
theorem dX8_prove_38 : decode cX8_prove 38 = .ok (.aload_n 0, 1) := by decide +kernel
theorem dX8_prove_39 : decode cX8_prove 39 = .ok (.getfield 10, 3) := by decide +kernel
theorem dX8_prove_42 : decode cX8_prove 42 = .ok (.iload_n 1, 1) := by decide +kernel
theorem dX8_prove_43 : decode cX8_prove 43 = .ok (.iload_n 2, 1) := by decide +kernel
theorem dX8_prove_44 : decode cX8_prove 44 = .ok (.iload_n 3, 1) := by decide +kernel
theorem dX8_prove_45 : decode cX8_prove 45 = .ok (.iload 4, 2) := by decide +kernel
theorem dX8_prove_47 : decode cX8_prove 47 = .ok (.iload 5, 2) := by decide +kernel
theorem dX8_prove_49 : decode cX8_prove 49 = .ok (.invokevirtual 112, 3) := by decide +kernel
theorem dX8_prove_52 : decode cX8_prove 52 = .ok (.aload_n 0, 1) := by decide +kernel
theorem dX8_prove_53 : decode cX8_prove 53 = .ok (.getfield 19, 3) := by decide +kernel
theorem dX8_prove_56 : decode cX8_prove 56 = .ok (.iload 6, 2) := by decide +kernel
theorem dX8_prove_58 : decode cX8_prove 58 = .ok (.invokevirtual 116, 3) := by decide +kernel
theorem dX8_prove_61 : decode cX8_prove 61 = .ok (.ireturn, 1) := by decide +kernel
set_option maxRecDepth 20000 in
theorem ggX8_check_X3_become : GoodIn wsX8_check wsX3_become := goodIn_r _ [7, 8, 9, 10, 11, 66, 67, 68, 69] (by decide +kernel) (by decide +kernel)
set_option maxRecDepth 20000 in
theorem gX8_check_X3_become : GoodIn wsX8_check (wsV RX8 119 RX3 yX3_become wsX3_become) := goodIn_app (goodIn_of _ (by decide +kernel)) ggX8_check_X3_become
set_option maxRecDepth 20000 in
theorem ggX8_check_X3_holds : GoodIn wsX8_check wsX3_holds := goodIn_r _ [15, 8, 9, 10, 11, 16, 17, 18, 19, 20, 21, 22, 23, 24, 25, 26, 27, 28, 29, 30, 31, 32, 33, 34, 35, 36, 37, 38, 6, 39, 40, 41, 42, 43, 44, 45, 46, 47, 48, 49, 50, 51, 52, 53, 54, 55, 56, 57, 58, 59, 60, 61, 66, 67, 68, 69, 70, 71, 72, 73, 74] (by decide +kernel) (by decide +kernel)
set_option maxRecDepth 20000 in
theorem gX8_check_X3_holds : GoodIn wsX8_check (wsV RX8 120 RX3 yX3_holds wsX3_holds) := goodIn_app (goodIn_of _ (by decide +kernel)) ggX8_check_X3_holds
theorem dX8_check_0 : decode cX8_check 0 = .ok (.aload_n 0, 1) := by decide +kernel
theorem dX8_check_1 : decode cX8_check 1 = .ok (.getfield 19, 3) := by decide +kernel
theorem dX8_check_4 : decode cX8_check 4 = .ok (.iload_n 3, 1) := by decide +kernel
theorem dX8_check_5 : decode cX8_check 5 = .ok (.iload 4, 2) := by decide +kernel
theorem dX8_check_7 : decode cX8_check 7 = .ok (.iload 5, 2) := by decide +kernel
theorem dX8_check_9 : decode cX8_check 9 = .ok (.iload 6, 2) := by decide +kernel
theorem dX8_check_11 : decode cX8_check 11 = .ok (.invokevirtual 119, 3) := by decide +kernel
theorem dX8_check_14 : decode cX8_check 14 = .ok (.aload_n 0, 1) := by decide +kernel
theorem dX8_check_15 : decode cX8_check 15 = .ok (.getfield 19, 3) := by decide +kernel
theorem dX8_check_18 : decode cX8_check 18 = .ok (.aload_n 0, 1) := by decide +kernel
theorem dX8_check_19 : decode cX8_check 19 = .ok (.getfield 10, 3) := by decide +kernel
theorem dX8_check_22 : decode cX8_check 22 = .ok (.iload_n 1, 1) := by decide +kernel
theorem dX8_check_23 : decode cX8_check 23 = .ok (.iload_n 2, 1) := by decide +kernel
theorem dX8_check_24 : decode cX8_check 24 = .ok (.invokevirtual 120, 3) := by decide +kernel
theorem dX8_check_27 : decode cX8_check 27 = .ok (.ifCond .eq 7, 3) := by decide +kernel
theorem dX8_check_30 : decode cX8_check 30 = .ok (.iconst 1, 1) := by decide +kernel
theorem dX8_check_31 : decode cX8_check 31 = .ok (.goto 4, 3) := by decide +kernel
theorem dX8_check_34 : decode cX8_check 34 = .ok (.iconst 0, 1) := by decide +kernel
theorem dX8_check_35 : decode cX8_check 35 = .ok (.ireturn, 1) := by decide +kernel
set_option maxRecDepth 20000 in
theorem ggX8_voter_X8_isVoter : GoodIn wsX8_voter wsX8_isVoter := goodIn_r _ [5, 6, 7, 4, 8] (by decide +kernel) (by decide +kernel)
set_option maxRecDepth 20000 in
theorem gX8_voter_X8_isVoter : GoodIn wsX8_voter (va_wsS RX8 124 yX8_isVoter wsX8_isVoter) := goodIn_app (goodIn_of _ (by decide +kernel)) ggX8_voter_X8_isVoter
set_option maxRecDepth 20000 in
theorem ggX8_voter_X8_within : GoodIn wsX8_voter wsX8_within := goodIn_r _ [8] (by decide +kernel) (by decide +kernel)
set_option maxRecDepth 20000 in
theorem gX8_voter_X8_within : GoodIn wsX8_voter (va_wsS RX8 39 yX8_within wsX8_within) := goodIn_app (goodIn_of _ (by decide +kernel)) ggX8_voter_X8_within
set_option maxRecDepth 20000 in
theorem ggX8_voter_X4_change : GoodIn wsX8_voter wsX4_change := goodIn_r _ [13, 14, 15, 16, 17, 12, 18, 23, 24, 25] (by decide +kernel) (by decide +kernel)
set_option maxRecDepth 20000 in
theorem gX8_voter_X4_change : GoodIn wsX8_voter (wsV RX8 127 RX4 yX4_change wsX4_change) := goodIn_app (goodIn_of _ (by decide +kernel)) ggX8_voter_X4_change
theorem dX8_voter_0 : decode cX8_voter 0 = .ok (.iload_n 1, 1) := by decide +kernel
theorem dX8_voter_1 : decode cX8_voter 1 = .ok (.invokestatic 124, 3) := by decide +kernel
theorem dX8_voter_4 : decode cX8_voter 4 = .ok (.ifCond .ne 5, 3) := by decide +kernel
theorem dX8_voter_7 : decode cX8_voter 7 = .ok (.iconst (-1), 1) := by decide +kernel
theorem dX8_voter_8 : decode cX8_voter 8 = .ok (.ireturn, 1) := by decide +kernel
theorem dX8_voter_9 : decode cX8_voter 9 = .ok (.iload_n 2, 1) := by decide +kernel
theorem dX8_voter_10 : decode cX8_voter 10 = .ok (.iconst 0, 1) := by decide +kernel
theorem dX8_voter_11 : decode cX8_voter 11 = .ok (.iconst 2, 1) := by decide +kernel
theorem dX8_voter_12 : decode cX8_voter 12 = .ok (.invokestatic 39, 3) := by decide +kernel
theorem dX8_voter_15 : decode cX8_voter 15 = .ok (.ifCond .eq 22, 3) := by decide +kernel
theorem dX8_voter_18 : decode cX8_voter 18 = .ok (.iload_n 3, 1) := by decide +kernel
theorem dX8_voter_19 : decode cX8_voter 19 = .ok (.iconst 0, 1) := by decide +kernel
theorem dX8_voter_20 : decode cX8_voter 20 = .ok (.iload_n 2, 1) := by decide +kernel
theorem dX8_voter_21 : decode cX8_voter 21 = .ok (.iconst 2, 1) := by decide +kernel
theorem dX8_voter_22 : decode cX8_voter 22 = .ok (.if_icmp .ne 7, 3) := by decide +kernel
theorem dX8_voter_25 : decode cX8_voter 25 = .ok (.iconst 1, 1) := by decide +kernel
theorem dX8_voter_26 : decode cX8_voter 26 = .ok (.goto 5, 3) := by decide +kernel
theorem dX8_voter_29 : decode cX8_voter 29 = .ok (.bipush 120, 2) := by decide +kernel
theorem dX8_voter_31 : decode cX8_voter 31 = .ok (.invokestatic 39, 3) := by decide +kernel
theorem dX8_voter_34 : decode cX8_voter 34 = .ok (.ifCond .ne 6, 3) := by decide +kernel
theorem dX8_voter_37 : decode cX8_voter 37 = .ok (.bipush (-2), 2) := by decide +kernel
theorem dX8_voter_39 : decode cX8_voter 39 = .ok (.ireturn, 1) := by decide +kernel
theorem dX8_voter_40 : decode cX8_voter 40 = .ok (.aload_n 0, 1) := by decide +kernel
theorem dX8_voter_41 : decode cX8_voter 41 = .ok (.getfield 26, 3) := by decide +kernel
theorem dX8_voter_44 : decode cX8_voter 44 = .ok (.iload_n 1, 1) := by decide +kernel
theorem dX8_voter_45 : decode cX8_voter 45 = .ok (.iload_n 2, 1) := by decide +kernel
theorem dX8_voter_46 : decode cX8_voter 46 = .ok (.iload_n 3, 1) := by decide +kernel
theorem dX8_voter_47 : decode cX8_voter 47 = .ok (.invokevirtual 127, 3) := by decide +kernel
theorem dX8_voter_50 : decode cX8_voter 50 = .ok (.ireturn, 1) := by decide +kernel
set_option maxRecDepth 20000 in
theorem ggX8_say_X8_within : GoodIn wsX8_say wsX8_within := goodIn_r _ [5] (by decide +kernel) (by decide +kernel)
set_option maxRecDepth 20000 in
theorem gX8_say_X8_within : GoodIn wsX8_say (va_wsS RX8 39 yX8_within wsX8_within) := goodIn_app (goodIn_of _ (by decide +kernel)) ggX8_say_X8_within
set_option maxRecDepth 20000 in
theorem ggX8_say_X4_draft : GoodIn wsX8_say wsX4_draft := goodIn_r _ [10, 11, 27, 28, 29] (by decide +kernel) (by decide +kernel)
set_option maxRecDepth 20000 in
theorem gX8_say_X4_draft : GoodIn wsX8_say (wsV RX8 130 RX4 yX4_draft wsX4_draft) := goodIn_app (goodIn_of _ (by decide +kernel)) ggX8_say_X4_draft
set_option maxRecDepth 20000 in
theorem ggX8_say_X6_add : GoodIn wsX8_say wsX6_add := goodIn_r _ [16, 17, 18, 30, 31] (by decide +kernel) (by decide +kernel)
set_option maxRecDepth 20000 in
theorem gX8_say_X6_add : GoodIn wsX8_say (wsV RX8 134 RX6 yX6_add wsX6_add) := goodIn_app (goodIn_of _ (by decide +kernel)) ggX8_say_X6_add
set_option maxRecDepth 20000 in
theorem ggX8_say_X6_size : GoodIn wsX8_say wsX6_size := goodIn_r _ [22, 17, 30, 31] (by decide +kernel) (by decide +kernel)
set_option maxRecDepth 20000 in
theorem gX8_say_X6_size : GoodIn wsX8_say (wsV RX8 139 RX6 yX6_size wsX6_size) := goodIn_app (goodIn_of _ (by decide +kernel)) ggX8_say_X6_size
theorem dX8_say_0 : decode cX8_say 0 = .ok (.iload_n 1, 1) := by decide +kernel
theorem dX8_say_1 : decode cX8_say 1 = .ok (.bipush 33, 2) := by decide +kernel
theorem dX8_say_3 : decode cX8_say 3 = .ok (.bipush 126, 2) := by decide +kernel
theorem dX8_say_5 : decode cX8_say 5 = .ok (.invokestatic 39, 3) := by decide +kernel
theorem dX8_say_8 : decode cX8_say 8 = .ok (.ifCond .ne 6, 3) := by decide +kernel
theorem dX8_say_11 : decode cX8_say 11 = .ok (.bipush (-2), 2) := by decide +kernel
theorem dX8_say_13 : decode cX8_say 13 = .ok (.ireturn, 1) := by decide +kernel
theorem dX8_say_14 : decode cX8_say 14 = .ok (.aload_n 0, 1) := by decide +kernel
theorem dX8_say_15 : decode cX8_say 15 = .ok (.getfield 26, 3) := by decide +kernel
theorem dX8_say_18 : decode cX8_say 18 = .ok (.invokevirtual 130, 3) := by decide +kernel
theorem dX8_say_21 : decode cX8_say 21 = .ok (.iload_n 1, 1) := by decide +kernel
theorem dX8_say_22 : decode cX8_say 22 = .ok (.invokevirtual 134, 3) := by decide +kernel
theorem dX8_say_25 : decode cX8_say 25 = .ok (.ifCond .eq 16, 3) := by decide +kernel
theorem dX8_say_28 : decode cX8_say 28 = .ok (.aload_n 0, 1) := by decide +kernel
theorem dX8_say_29 : decode cX8_say 29 = .ok (.getfield 26, 3) := by decide +kernel
theorem dX8_say_32 : decode cX8_say 32 = .ok (.invokevirtual 130, 3) := by decide +kernel
theorem dX8_say_35 : decode cX8_say 35 = .ok (.invokevirtual 139, 3) := by decide +kernel
theorem dX8_say_38 : decode cX8_say 38 = .ok (.goto 5, 3) := by decide +kernel
theorem dX8_say_41 : decode cX8_say 41 = .ok (.bipush (-4), 2) := by decide +kernel
theorem dX8_say_43 : decode cX8_say 43 = .ok (.ireturn, 1) := by decide +kernel
set_option maxRecDepth 20000 in
theorem ggX8_wipe_X4_draft : GoodIn wsX8_wipe wsX4_draft := goodIn_r _ [6, 7, 22, 23, 24] (by decide +kernel) (by decide +kernel)
set_option maxRecDepth 20000 in
theorem gX8_wipe_X4_draft : GoodIn wsX8_wipe (wsV RX8 130 RX4 yX4_draft wsX4_draft) := goodIn_app (goodIn_of _ (by decide +kernel)) ggX8_wipe_X4_draft
set_option maxRecDepth 20000 in
theorem ggX8_wipe_X6_size : GoodIn wsX8_wipe wsX6_size := goodIn_r _ [12, 13, 25, 26] (by decide +kernel) (by decide +kernel)
set_option maxRecDepth 20000 in
theorem gX8_wipe_X6_size : GoodIn wsX8_wipe (wsV RX8 139 RX6 yX6_size wsX6_size) := goodIn_app (goodIn_of _ (by decide +kernel)) ggX8_wipe_X6_size
set_option maxRecDepth 20000 in
theorem ggX8_wipe_X6_clear : GoodIn wsX8_wipe wsX6_clear := goodIn_r _ [17, 13, 25, 26] (by decide +kernel) (by decide +kernel)
set_option maxRecDepth 20000 in
theorem gX8_wipe_X6_clear : GoodIn wsX8_wipe (wsV RX8 140 RX6 yX6_clear wsX6_clear) := goodIn_app (goodIn_of _ (by decide +kernel)) ggX8_wipe_X6_clear
theorem dX8_wipe_0 : decode cX8_wipe 0 = .ok (.aload_n 0, 1) := by decide +kernel
theorem dX8_wipe_1 : decode cX8_wipe 1 = .ok (.getfield 26, 3) := by decide +kernel
theorem dX8_wipe_4 : decode cX8_wipe 4 = .ok (.invokevirtual 130, 3) := by decide +kernel
theorem dX8_wipe_7 : decode cX8_wipe 7 = .ok (.invokevirtual 139, 3) := by decide +kernel
theorem dX8_wipe_10 : decode cX8_wipe 10 = .ok (.istore_n 1, 1) := by decide +kernel
theorem dX8_wipe_11 : decode cX8_wipe 11 = .ok (.aload_n 0, 1) := by decide +kernel
theorem dX8_wipe_12 : decode cX8_wipe 12 = .ok (.getfield 26, 3) := by decide +kernel
theorem dX8_wipe_15 : decode cX8_wipe 15 = .ok (.invokevirtual 130, 3) := by decide +kernel
theorem dX8_wipe_18 : decode cX8_wipe 18 = .ok (.invokevirtual 140, 3) := by decide +kernel
theorem dX8_wipe_21 : decode cX8_wipe 21 = .ok (.iload_n 1, 1) := by decide +kernel
theorem dX8_wipe_22 : decode cX8_wipe 22 = .ok (.ireturn, 1) := by decide +kernel
set_option maxRecDepth 20000 in
theorem ggX8_fault_X4_draft : GoodIn wsX8_fault wsX4_draft := goodIn_r _ [6, 7, 34, 35, 36] (by decide +kernel) (by decide +kernel)
set_option maxRecDepth 20000 in
theorem gX8_fault_X4_draft : GoodIn wsX8_fault (wsV RX8 130 RX4 yX4_draft wsX4_draft) := goodIn_app (goodIn_of _ (by decide +kernel)) ggX8_fault_X4_draft
set_option maxRecDepth 20000 in
theorem ggX8_fault_X6_faultPlace : GoodIn wsX8_fault wsX6_faultPlace := goodIn_r _ [12, 13, 14, 15, 16, 11, 17, 18, 19, 20, 21, 22, 23, 24, 25, 26, 27, 28, 29, 37, 38] (by decide +kernel) (by decide +kernel)
set_option maxRecDepth 20000 in
theorem gX8_fault_X6_faultPlace : GoodIn wsX8_fault (wsV RX8 143 RX6 yX6_faultPlace wsX6_faultPlace) := goodIn_app (goodIn_of _ (by decide +kernel)) ggX8_fault_X6_faultPlace
theorem dX8_fault_0 : decode cX8_fault 0 = .ok (.aload_n 0, 1) := by decide +kernel
theorem dX8_fault_1 : decode cX8_fault 1 = .ok (.getfield 26, 3) := by decide +kernel
theorem dX8_fault_4 : decode cX8_fault 4 = .ok (.invokevirtual 130, 3) := by decide +kernel
theorem dX8_fault_7 : decode cX8_fault 7 = .ok (.invokevirtual 143, 3) := by decide +kernel
theorem dX8_fault_10 : decode cX8_fault 10 = .ok (.ireturn, 1) := by decide +kernel
set_option maxRecDepth 20000 in
theorem ggX8_rule_X4_draft : GoodIn wsX8_rule wsX4_draft := goodIn_r _ [6, 7, 43, 44, 45] (by decide +kernel) (by decide +kernel)
set_option maxRecDepth 20000 in
theorem gX8_rule_X4_draft : GoodIn wsX8_rule (wsV RX8 130 RX4 yX4_draft wsX4_draft) := goodIn_app (goodIn_of _ (by decide +kernel)) ggX8_rule_X4_draft
set_option maxRecDepth 20000 in
theorem ggX8_rule_X6_faultPlace : GoodIn wsX8_rule wsX6_faultPlace := goodIn_r _ [12, 13, 14, 15, 16, 11, 17, 18, 19, 20, 21, 22, 23, 24, 25, 26, 27, 28, 29, 46, 47] (by decide +kernel) (by decide +kernel)
set_option maxRecDepth 20000 in
theorem gX8_rule_X6_faultPlace : GoodIn wsX8_rule (wsV RX8 143 RX6 yX6_faultPlace wsX6_faultPlace) := goodIn_app (goodIn_of _ (by decide +kernel)) ggX8_rule_X6_faultPlace
set_option maxRecDepth 20000 in
theorem ggX8_rule_X4_adoptDraft : GoodIn wsX8_rule wsX4_adoptDraft := goodIn_r _ [33, 34, 7, 35, 36, 37, 11, 38, 13, 43, 44, 45, 46, 47] (by decide +kernel) (by decide +kernel)
set_option maxRecDepth 20000 in
theorem gX8_rule_X4_adoptDraft : GoodIn wsX8_rule (wsV RX8 146 RX4 yX4_adoptDraft wsX4_adoptDraft) := goodIn_app (goodIn_of _ (by decide +kernel)) ggX8_rule_X4_adoptDraft
theorem dX8_rule_0 : decode cX8_rule 0 = .ok (.aload_n 0, 1) := by decide +kernel
theorem dX8_rule_1 : decode cX8_rule 1 = .ok (.getfield 26, 3) := by decide +kernel
theorem dX8_rule_4 : decode cX8_rule 4 = .ok (.invokevirtual 130, 3) := by decide +kernel
theorem dX8_rule_7 : decode cX8_rule 7 = .ok (.invokevirtual 143, 3) := by decide +kernel
theorem dX8_rule_10 : decode cX8_rule 10 = .ok (.bipush (-6), 2) := by decide +kernel
theorem dX8_rule_12 : decode cX8_rule 12 = .ok (.if_icmp .eq 6, 3) := by decide +kernel
theorem dX8_rule_15 : decode cX8_rule 15 = .ok (.bipush (-5), 2) := by decide +kernel
theorem dX8_rule_17 : decode cX8_rule 17 = .ok (.ireturn, 1) := by decide +kernel
theorem dX8_rule_18 : decode cX8_rule 18 = .ok (.aload_n 0, 1) := by decide +kernel
theorem dX8_rule_19 : decode cX8_rule 19 = .ok (.getfield 26, 3) := by decide +kernel
theorem dX8_rule_22 : decode cX8_rule 22 = .ok (.invokevirtual 146, 3) := by decide +kernel
theorem dX8_rule_25 : decode cX8_rule 25 = .ok (.iconst 1, 1) := by decide +kernel
theorem dX8_rule_26 : decode cX8_rule 26 = .ok (.ireturn, 1) := by decide +kernel
set_option maxRecDepth 20000 in
theorem ggX8_may_X8_isVoter : GoodIn wsX8_may wsX8_isVoter := goodIn_r _ [5, 6, 7, 4, 8] (by decide +kernel) (by decide +kernel)
set_option maxRecDepth 20000 in
theorem gX8_may_X8_isVoter : GoodIn wsX8_may (va_wsS RX8 124 yX8_isVoter wsX8_isVoter) := goodIn_app (goodIn_of _ (by decide +kernel)) ggX8_may_X8_isVoter
set_option maxRecDepth 20000 in
theorem ggX8_may_X4_allows : GoodIn wsX8_may wsX4_allows := goodIn_r _ [13, 14, 15, 16, 17, 12, 18, 19, 20, 21, 22, 23, 24, 25, 26, 27, 28, 29, 30, 31, 32, 33, 34, 35, 36, 37, 38, 43, 44, 45, 46, 47] (by decide +kernel) (by decide +kernel)
set_option maxRecDepth 20000 in
theorem gX8_may_X4_allows : GoodIn wsX8_may (wsV RX8 149 RX4 yX4_allows wsX4_allows) := goodIn_app (goodIn_of _ (by decide +kernel)) ggX8_may_X4_allows
theorem dX8_may_0 : decode cX8_may 0 = .ok (.iload_n 1, 1) := by decide +kernel
theorem dX8_may_1 : decode cX8_may 1 = .ok (.invokestatic 124, 3) := by decide +kernel
theorem dX8_may_4 : decode cX8_may 4 = .ok (.ifCond .ne 5, 3) := by decide +kernel
theorem dX8_may_7 : decode cX8_may 7 = .ok (.iconst (-1), 1) := by decide +kernel
theorem dX8_may_8 : decode cX8_may 8 = .ok (.ireturn, 1) := by decide +kernel
theorem dX8_may_9 : decode cX8_may 9 = .ok (.aload_n 0, 1) := by decide +kernel
theorem dX8_may_10 : decode cX8_may 10 = .ok (.getfield 26, 3) := by decide +kernel
theorem dX8_may_13 : decode cX8_may 13 = .ok (.iload_n 1, 1) := by decide +kernel
theorem dX8_may_14 : decode cX8_may 14 = .ok (.invokevirtual 149, 3) := by decide +kernel
theorem dX8_may_17 : decode cX8_may 17 = .ok (.ifCond .eq 7, 3) := by decide +kernel
theorem dX8_may_20 : decode cX8_may 20 = .ok (.iconst 1, 1) := by decide +kernel
theorem dX8_may_21 : decode cX8_may 21 = .ok (.goto 4, 3) := by decide +kernel
theorem dX8_may_24 : decode cX8_may 24 = .ok (.iconst 0, 1) := by decide +kernel
theorem dX8_may_25 : decode cX8_may 25 = .ok (.ireturn, 1) := by decide +kernel
set_option maxRecDepth 20000 in
theorem ggX8_close_X8_within : GoodIn wsX8_close wsX8_within := goodIn_r _ [5] (by decide +kernel) (by decide +kernel)
set_option maxRecDepth 20000 in
theorem gX8_close_X8_within : GoodIn wsX8_close (va_wsS RX8 39 yX8_within wsX8_within) := goodIn_app (goodIn_of _ (by decide +kernel)) ggX8_close_X8_within
set_option maxRecDepth 20000 in
theorem ggX8_close_X7_changeClose : GoodIn wsX8_close wsX7_changeClose := goodIn_r _ [10, 11, 16, 17, 18, 19, 20, 21] (by decide +kernel) (by decide +kernel)
set_option maxRecDepth 20000 in
theorem gX8_close_X7_changeClose : GoodIn wsX8_close (wsV RX8 152 RX7 yX7_changeClose wsX7_changeClose) := goodIn_app (goodIn_of _ (by decide +kernel)) ggX8_close_X7_changeClose
theorem dX8_close_0 : decode cX8_close 0 = .ok (.iload_n 1, 1) := by decide +kernel
theorem dX8_close_1 : decode cX8_close 1 = .ok (.iconst 0, 1) := by decide +kernel
theorem dX8_close_2 : decode cX8_close 2 = .ok (.sipush 999, 3) := by decide +kernel
theorem dX8_close_5 : decode cX8_close 5 = .ok (.invokestatic 39, 3) := by decide +kernel
theorem dX8_close_8 : decode cX8_close 8 = .ok (.ifCond .ne 6, 3) := by decide +kernel
theorem dX8_close_11 : decode cX8_close 11 = .ok (.bipush (-2), 2) := by decide +kernel
theorem dX8_close_13 : decode cX8_close 13 = .ok (.ireturn, 1) := by decide +kernel
theorem dX8_close_14 : decode cX8_close 14 = .ok (.aload_n 0, 1) := by decide +kernel
theorem dX8_close_15 : decode cX8_close 15 = .ok (.getfield 35, 3) := by decide +kernel
theorem dX8_close_18 : decode cX8_close 18 = .ok (.iload_n 1, 1) := by decide +kernel
theorem dX8_close_19 : decode cX8_close 19 = .ok (.invokevirtual 152, 3) := by decide +kernel
theorem dX8_close_22 : decode cX8_close 22 = .ok (.ireturn, 1) := by decide +kernel
set_option maxRecDepth 20000 in
theorem ggX8_row_X8_isVoter : GoodIn wsX8_row wsX8_isVoter := goodIn_r _ [10, 11, 12, 9, 13] (by decide +kernel) (by decide +kernel)
set_option maxRecDepth 20000 in
theorem gX8_row_X8_isVoter : GoodIn wsX8_row (va_wsS RX8 124 yX8_isVoter wsX8_isVoter) := goodIn_app (goodIn_of _ (by decide +kernel)) ggX8_row_X8_isVoter
set_option maxRecDepth 20000 in
theorem ggX8_row_X8_isRowNumber : GoodIn wsX8_row wsX8_isRowNumber := goodIn_r _ [16, 17, 11, 12, 9, 13] (by decide +kernel) (by decide +kernel)
set_option maxRecDepth 20000 in
theorem gX8_row_X8_isRowNumber : GoodIn wsX8_row (va_wsS RX8 155 yX8_isRowNumber wsX8_isRowNumber) := goodIn_app (goodIn_of _ (by decide +kernel)) ggX8_row_X8_isRowNumber
set_option maxRecDepth 20000 in
theorem ggX8_row_X8_within : GoodIn wsX8_row wsX8_within := goodIn_r _ [13] (by decide +kernel) (by decide +kernel)
set_option maxRecDepth 20000 in
theorem gX8_row_X8_within : GoodIn wsX8_row (va_wsS RX8 39 yX8_within wsX8_within) := goodIn_app (goodIn_of _ (by decide +kernel)) ggX8_row_X8_within
set_option maxRecDepth 20000 in
theorem ggX8_row_X7_isFull : GoodIn wsX8_row wsX7_isFull := goodIn_r _ [22, 23, 24, 106, 107, 108, 109, 110, 111] (by decide +kernel) (by decide +kernel)
set_option maxRecDepth 20000 in
theorem gX8_row_X7_isFull : GoodIn wsX8_row (wsV RX8 158 RX7 yX7_isFull wsX7_isFull) := goodIn_app (goodIn_of _ (by decide +kernel)) ggX8_row_X7_isFull
set_option maxRecDepth 20000 in
theorem ggX8_row_X3_become : GoodIn wsX8_row wsX3_become := goodIn_r _ [29, 30, 31, 32, 33, 112, 113, 114, 115] (by decide +kernel) (by decide +kernel)
set_option maxRecDepth 20000 in
theorem gX8_row_X3_become : GoodIn wsX8_row (wsV RX8 119 RX3 yX3_become wsX3_become) := goodIn_app (goodIn_of _ (by decide +kernel)) ggX8_row_X3_become
set_option maxRecDepth 20000 in
theorem ggX8_row_X3_holds : GoodIn wsX8_row wsX3_holds := goodIn_r _ [37, 30, 31, 32, 33, 38, 39, 40, 41, 42, 9, 43, 11, 12, 13, 44, 45, 46, 47, 48, 49, 50, 51, 52, 53, 54, 55, 56, 28, 57, 58, 59, 60, 61, 62, 63, 64, 65, 66, 67, 68, 69, 70, 71, 72, 73, 74, 75, 76, 77, 78, 79, 112, 113, 114, 115, 116, 117, 118, 119, 120] (by decide +kernel) (by decide +kernel)
set_option maxRecDepth 20000 in
theorem gX8_row_X3_holds : GoodIn wsX8_row (wsV RX8 120 RX3 yX3_holds wsX3_holds) := goodIn_app (goodIn_of _ (by decide +kernel)) ggX8_row_X3_holds
set_option maxRecDepth 20000 in
theorem ggX8_row_X5_init : GoodIn wsX8_row wsX5_init := goodIn_r _ [82, 83, 84, 85, 86, 87, 88, 89, 90, 91, 100, 101, 102, 103, 104, 105] (by decide +kernel) (by decide +kernel)
set_option maxRecDepth 20000 in
theorem gX8_row_X5_init : GoodIn wsX8_row (wsX5_init) := ggX8_row_X5_init
set_option maxRecDepth 20000 in
theorem ggX8_row_X7_add : GoodIn wsX8_row wsX7_add := goodIn_r _ [95, 23, 24, 106, 107, 108, 109, 110, 111] (by decide +kernel) (by decide +kernel)
set_option maxRecDepth 20000 in
theorem gX8_row_X7_add : GoodIn wsX8_row (wsV RX8 167 RX7 yX7_add wsX7_add) := goodIn_app (goodIn_of _ (by decide +kernel)) ggX8_row_X7_add
theorem dX8_row_0 : decode cX8_row 0 = .ok (.iload_n 1, 1) := by decide +kernel
theorem dX8_row_1 : decode cX8_row 1 = .ok (.invokestatic 124, 3) := by decide +kernel
theorem dX8_row_4 : decode cX8_row 4 = .ok (.ifCond .ne 5, 3) := by decide +kernel
theorem dX8_row_7 : decode cX8_row 7 = .ok (.iconst (-1), 1) := by decide +kernel
theorem dX8_row_8 : decode cX8_row 8 = .ok (.ireturn, 1) := by decide +kernel
theorem dX8_row_9 : decode cX8_row 9 = .ok (.iload_n 2, 1) := by decide +kernel
theorem dX8_row_10 : decode cX8_row 10 = .ok (.invokestatic 155, 3) := by decide +kernel
theorem dX8_row_13 : decode cX8_row 13 = .ok (.ifCond .eq 22, 3) := by decide +kernel
theorem dX8_row_16 : decode cX8_row 16 = .ok (.iload_n 3, 1) := by decide +kernel
theorem dX8_row_17 : decode cX8_row 17 = .ok (.invokestatic 155, 3) := by decide +kernel
theorem dX8_row_20 : decode cX8_row 20 = .ok (.ifCond .eq 15, 3) := by decide +kernel
theorem dX8_row_23 : decode cX8_row 23 = .ok (.iload 4, 2) := by decide +kernel
theorem dX8_row_25 : decode cX8_row 25 = .ok (.iconst 0, 1) := by decide +kernel
theorem dX8_row_26 : decode cX8_row 26 = .ok (.sipush 999, 3) := by decide +kernel
theorem dX8_row_29 : decode cX8_row 29 = .ok (.invokestatic 39, 3) := by decide +kernel
theorem dX8_row_32 : decode cX8_row 32 = .ok (.ifCond .ne 6, 3) := by decide +kernel
theorem dX8_row_35 : decode cX8_row 35 = .ok (.bipush (-2), 2) := by decide +kernel
theorem dX8_row_37 : decode cX8_row 37 = .ok (.ireturn, 1) := by decide +kernel
theorem dX8_row_38 : decode cX8_row 38 = .ok (.aload_n 0, 1) := by decide +kernel
theorem dX8_row_39 : decode cX8_row 39 = .ok (.getfield 35, 3) := by decide +kernel
theorem dX8_row_42 : decode cX8_row 42 = .ok (.invokevirtual 158, 3) := by decide +kernel
theorem dX8_row_45 : decode cX8_row 45 = .ok (.ifCond .eq 6, 3) := by decide +kernel
theorem dX8_row_48 : decode cX8_row 48 = .ok (.bipush (-4), 2) := by decide +kernel
theorem dX8_row_50 : decode cX8_row 50 = .ok (.ireturn, 1) := by decide +kernel
theorem dX8_row_51 : decode cX8_row 51 = .ok (.aload_n 0, 1) := by decide +kernel
theorem dX8_row_52 : decode cX8_row 52 = .ok (.getfield 19, 3) := by decide +kernel
theorem dX8_row_55 : decode cX8_row 55 = .ok (.iconst 0, 1) := by decide +kernel
theorem dX8_row_56 : decode cX8_row 56 = .ok (.iconst 0, 1) := by decide +kernel
theorem dX8_row_57 : decode cX8_row 57 = .ok (.iconst 0, 1) := by decide +kernel
theorem dX8_row_58 : decode cX8_row 58 = .ok (.iconst 0, 1) := by decide +kernel
theorem dX8_row_59 : decode cX8_row 59 = .ok (.invokevirtual 119, 3) := by decide +kernel
theorem dX8_row_62 : decode cX8_row 62 = .ok (.aload_n 0, 1) := by decide +kernel
theorem dX8_row_63 : decode cX8_row 63 = .ok (.getfield 35, 3) := by decide +kernel
theorem dX8_row_66 : decode cX8_row 66 = .ok (.new 162, 3) := by decide +kernel
theorem dX8_row_69 : decode cX8_row 69 = .ok (.dup, 1) := by decide +kernel
theorem dX8_row_70 : decode cX8_row 70 = .ok (.iload_n 1, 1) := by decide +kernel
theorem dX8_row_71 : decode cX8_row 71 = .ok (.iload_n 2, 1) := by decide +kernel
theorem dX8_row_72 : decode cX8_row 72 = .ok (.iload_n 3, 1) := by decide +kernel
theorem dX8_row_73 : decode cX8_row 73 = .ok (.iload 4, 2) := by decide +kernel
theorem dX8_row_75 : decode cX8_row 75 = .ok (.aload_n 0, 1) := by decide +kernel
theorem dX8_row_76 : decode cX8_row 76 = .ok (.getfield 19, 3) := by decide +kernel
theorem dX8_row_79 : decode cX8_row 79 = .ok (.aload_n 0, 1) := by decide +kernel
theorem dX8_row_80 : decode cX8_row 80 = .ok (.getfield 10, 3) := by decide +kernel
theorem dX8_row_83 : decode cX8_row 83 = .ok (.iload_n 2, 1) := by decide +kernel
theorem dX8_row_84 : decode cX8_row 84 = .ok (.iload_n 3, 1) := by decide +kernel
theorem dX8_row_85 : decode cX8_row 85 = .ok (.invokevirtual 120, 3) := by decide +kernel
theorem dX8_row_88 : decode cX8_row 88 = .ok (.iconst 0, 1) := by decide +kernel
theorem dX8_row_89 : decode cX8_row 89 = .ok (.invokespecial 164, 3) := by decide +kernel
theorem dX8_row_92 : decode cX8_row 92 = .ok (.invokevirtual 167, 3) := by decide +kernel
theorem dX8_row_95 : decode cX8_row 95 = .ok (.ireturn, 1) := by decide +kernel
set_option maxRecDepth 20000 in
theorem ggX8_attach_X7_at : GoodIn wsX8_attach wsX7_at := goodIn_r _ [12, 13, 14, 88, 89, 90, 91, 92, 93] (by decide +kernel) (by decide +kernel)
set_option maxRecDepth 20000 in
theorem gX8_attach_X7_at : GoodIn wsX8_attach (wsV RX8 170 RX7 yX7_at wsX7_at) := goodIn_app (goodIn_of _ (by decide +kernel)) ggX8_attach_X7_at
set_option maxRecDepth 20000 in
theorem ggX8_attach_X8_isRowNumber : GoodIn wsX8_attach wsX8_isRowNumber := goodIn_r _ [18, 19, 20, 21, 17, 22] (by decide +kernel) (by decide +kernel)
set_option maxRecDepth 20000 in
theorem gX8_attach_X8_isRowNumber : GoodIn wsX8_attach (va_wsS RX8 155 yX8_isRowNumber wsX8_isRowNumber) := goodIn_app (goodIn_of _ (by decide +kernel)) ggX8_attach_X8_isRowNumber
set_option maxRecDepth 20000 in
theorem ggX8_attach_X3_become : GoodIn wsX8_attach wsX3_become := goodIn_r _ [27, 28, 29, 30, 31, 94, 95, 96, 97] (by decide +kernel) (by decide +kernel)
set_option maxRecDepth 20000 in
theorem gX8_attach_X3_become : GoodIn wsX8_attach (wsV RX8 119 RX3 yX3_become wsX3_become) := goodIn_app (goodIn_of _ (by decide +kernel)) ggX8_attach_X3_become
set_option maxRecDepth 20000 in
theorem ggX8_attach_X3_holds : GoodIn wsX8_attach wsX3_holds := goodIn_r _ [35, 28, 29, 30, 31, 36, 37, 38, 39, 40, 17, 41, 20, 21, 22, 42, 43, 44, 45, 46, 47, 48, 49, 50, 51, 52, 53, 54, 26, 55, 56, 57, 58, 59, 60, 61, 62, 63, 64, 65, 66, 67, 68, 69, 70, 71, 72, 73, 74, 75, 76, 77, 94, 95, 96, 97, 98, 99, 100, 101, 102] (by decide +kernel) (by decide +kernel)
set_option maxRecDepth 20000 in
theorem gX8_attach_X3_holds : GoodIn wsX8_attach (wsV RX8 120 RX3 yX3_holds wsX3_holds) := goodIn_app (goodIn_of _ (by decide +kernel)) ggX8_attach_X3_holds
theorem dX8_attach_0 : decode cX8_attach 0 = .ok (.aload_n 0, 1) := by decide +kernel
theorem dX8_attach_1 : decode cX8_attach 1 = .ok (.getfield 35, 3) := by decide +kernel
theorem dX8_attach_4 : decode cX8_attach 4 = .ok (.iload_n 1, 1) := by decide +kernel
theorem dX8_attach_5 : decode cX8_attach 5 = .ok (.invokevirtual 170, 3) := by decide +kernel
theorem dX8_attach_8 : decode cX8_attach 8 = .ok (.astore 6, 2) := by decide +kernel
theorem dX8_attach_10 : decode cX8_attach 10 = .ok (.aload 6, 2) := by decide +kernel
theorem dX8_attach_12 : decode cX8_attach 12 = .ok (.ifnonnull 5, 3) := by decide +kernel
theorem dX8_attach_15 : decode cX8_attach 15 = .ok (.iconst (-1), 1) := by decide +kernel
theorem dX8_attach_16 : decode cX8_attach 16 = .ok (.ireturn, 1) := by decide +kernel
theorem dX8_attach_17 : decode cX8_attach 17 = .ok (.iload_n 2, 1) := by decide +kernel
theorem dX8_attach_18 : decode cX8_attach 18 = .ok (.invokestatic 155, 3) := by decide +kernel
theorem dX8_attach_21 : decode cX8_attach 21 = .ok (.ifCond .eq 26, 3) := by decide +kernel
theorem dX8_attach_24 : decode cX8_attach 24 = .ok (.iload_n 3, 1) := by decide +kernel
theorem dX8_attach_25 : decode cX8_attach 25 = .ok (.invokestatic 155, 3) := by decide +kernel
theorem dX8_attach_28 : decode cX8_attach 28 = .ok (.ifCond .eq 19, 3) := by decide +kernel
theorem dX8_attach_31 : decode cX8_attach 31 = .ok (.iload 4, 2) := by decide +kernel
theorem dX8_attach_33 : decode cX8_attach 33 = .ok (.invokestatic 155, 3) := by decide +kernel
theorem dX8_attach_36 : decode cX8_attach 36 = .ok (.ifCond .eq 11, 3) := by decide +kernel
theorem dX8_attach_39 : decode cX8_attach 39 = .ok (.iload 5, 2) := by decide +kernel
theorem dX8_attach_41 : decode cX8_attach 41 = .ok (.invokestatic 155, 3) := by decide +kernel
theorem dX8_attach_44 : decode cX8_attach 44 = .ok (.ifCond .ne 6, 3) := by decide +kernel
theorem dX8_attach_47 : decode cX8_attach 47 = .ok (.bipush (-2), 2) := by decide +kernel
theorem dX8_attach_49 : decode cX8_attach 49 = .ok (.ireturn, 1) := by decide +kernel
theorem dX8_attach_50 : decode cX8_attach 50 = .ok (.aload 6, 2) := by decide +kernel
theorem dX8_attach_52 : decode cX8_attach 52 = .ok (.getfield 174, 3) := by decide +kernel
theorem dX8_attach_55 : decode cX8_attach 55 = .ok (.ifCond .eq 6, 3) := by decide +kernel
theorem dX8_attach_58 : decode cX8_attach 58 = .ok (.bipush (-3), 2) := by decide +kernel
theorem dX8_attach_60 : decode cX8_attach 60 = .ok (.ireturn, 1) := by decide +kernel
theorem dX8_attach_61 : decode cX8_attach 61 = .ok (.aload_n 0, 1) := by decide +kernel
theorem dX8_attach_62 : decode cX8_attach 62 = .ok (.getfield 19, 3) := by decide +kernel
theorem dX8_attach_65 : decode cX8_attach 65 = .ok (.iload_n 2, 1) := by decide +kernel
theorem dX8_attach_66 : decode cX8_attach 66 = .ok (.iload_n 3, 1) := by decide +kernel
theorem dX8_attach_67 : decode cX8_attach 67 = .ok (.iload 4, 2) := by decide +kernel
theorem dX8_attach_69 : decode cX8_attach 69 = .ok (.iload 5, 2) := by decide +kernel
theorem dX8_attach_71 : decode cX8_attach 71 = .ok (.invokevirtual 119, 3) := by decide +kernel
theorem dX8_attach_74 : decode cX8_attach 74 = .ok (.aload 6, 2) := by decide +kernel
theorem dX8_attach_76 : decode cX8_attach 76 = .ok (.aload_n 0, 1) := by decide +kernel
theorem dX8_attach_77 : decode cX8_attach 77 = .ok (.getfield 19, 3) := by decide +kernel
theorem dX8_attach_80 : decode cX8_attach 80 = .ok (.aload_n 0, 1) := by decide +kernel
theorem dX8_attach_81 : decode cX8_attach 81 = .ok (.getfield 10, 3) := by decide +kernel
theorem dX8_attach_84 : decode cX8_attach 84 = .ok (.aload 6, 2) := by decide +kernel
theorem dX8_attach_86 : decode cX8_attach 86 = .ok (.getfield 178, 3) := by decide +kernel
theorem dX8_attach_89 : decode cX8_attach 89 = .ok (.aload 6, 2) := by decide +kernel
theorem dX8_attach_91 : decode cX8_attach 91 = .ok (.getfield 182, 3) := by decide +kernel
theorem dX8_attach_94 : decode cX8_attach 94 = .ok (.invokevirtual 120, 3) := by decide +kernel
theorem dX8_attach_97 : decode cX8_attach 97 = .ok (.putfield 185, 3) := by decide +kernel
theorem dX8_attach_100 : decode cX8_attach 100 = .ok (.aload 6, 2) := by decide +kernel
theorem dX8_attach_102 : decode cX8_attach 102 = .ok (.iconst 1, 1) := by decide +kernel
theorem dX8_attach_103 : decode cX8_attach 103 = .ok (.putfield 174, 3) := by decide +kernel
theorem dX8_attach_106 : decode cX8_attach 106 = .ok (.iconst 1, 1) := by decide +kernel
theorem dX8_attach_107 : decode cX8_attach 107 = .ok (.ireturn, 1) := by decide +kernel
set_option maxRecDepth 20000 in
theorem ggX8_cast_X8_isVoter : GoodIn wsX8_cast wsX8_isVoter := goodIn_r _ [10, 11, 12, 9, 13] (by decide +kernel) (by decide +kernel)
set_option maxRecDepth 20000 in
theorem gX8_cast_X8_isVoter : GoodIn wsX8_cast (va_wsS RX8 124 yX8_isVoter wsX8_isVoter) := goodIn_app (goodIn_of _ (by decide +kernel)) ggX8_cast_X8_isVoter
set_option maxRecDepth 20000 in
theorem ggX8_cast_X8_within : GoodIn wsX8_cast wsX8_within := goodIn_r _ [13] (by decide +kernel) (by decide +kernel)
set_option maxRecDepth 20000 in
theorem gX8_cast_X8_within : GoodIn wsX8_cast (va_wsS RX8 39 yX8_within wsX8_within) := goodIn_app (goodIn_of _ (by decide +kernel)) ggX8_cast_X8_within
set_option maxRecDepth 20000 in
theorem ggX8_cast_X8_areLots : GoodIn wsX8_cast wsX8_areLots := goodIn_r _ [16, 17, 18, 9, 19, 11, 12, 13] (by decide +kernel) (by decide +kernel)
set_option maxRecDepth 20000 in
theorem gX8_cast_X8_areLots : GoodIn wsX8_cast (va_wsS RX8 108 yX8_areLots wsX8_areLots) := goodIn_app (goodIn_of _ (by decide +kernel)) ggX8_cast_X8_areLots
set_option maxRecDepth 20000 in
theorem ggX8_cast_X7_isFull : GoodIn wsX8_cast wsX7_isFull := goodIn_r _ [24, 25, 26, 115, 116, 117, 118, 119, 120] (by decide +kernel) (by decide +kernel)
set_option maxRecDepth 20000 in
theorem gX8_cast_X7_isFull : GoodIn wsX8_cast (wsV RX8 158 RX7 yX7_isFull wsX7_isFull) := goodIn_app (goodIn_of _ (by decide +kernel)) ggX8_cast_X7_isFull
set_option maxRecDepth 20000 in
theorem ggX8_cast_X2_ofG : GoodIn wsX8_cast wsX2_ofG := goodIn_r _ [30, 31, 32, 29, 33] (by decide +kernel) (by decide +kernel)
set_option maxRecDepth 20000 in
theorem gX8_cast_X2_ofG : GoodIn wsX8_cast (va_wsS RX8 65 yX2_ofG wsX2_ofG) := goodIn_app (goodIn_of _ (by decide +kernel)) ggX8_cast_X2_ofG
set_option maxRecDepth 20000 in
theorem ggX8_cast_X0_sealedB : GoodIn wsX8_cast wsX0_sealedB := goodIn_r _ [38, 39, 40, 41, 29, 42, 31, 32, 33, 43, 28, 30, 121, 122, 123, 124, 125] (by decide +kernel) (by decide +kernel)
set_option maxRecDepth 20000 in
theorem gX8_cast_X0_sealedB : GoodIn wsX8_cast (wsV RX8 70 RX0 yX0_sealedB wsX0_sealedB) := goodIn_app (goodIn_of _ (by decide +kernel)) ggX8_cast_X0_sealedB
set_option maxRecDepth 20000 in
theorem ggX8_cast_X3_make : GoodIn wsX8_cast wsX3_make := goodIn_r _ [48, 49, 28, 29, 30, 31, 32, 33, 50, 35, 36, 37, 38, 39, 40, 41, 42, 43, 51, 52, 53, 54, 55, 56, 57, 47, 58, 59, 60, 61, 62, 63, 64, 65, 66, 67, 68, 69, 70, 71, 72, 73, 74, 75, 76, 77, 78, 121, 122, 123, 124, 125, 126, 127, 128, 129] (by decide +kernel) (by decide +kernel)
set_option maxRecDepth 20000 in
theorem gX8_cast_X3_make : GoodIn wsX8_cast (wsV RX8 112 RX3 yX3_make wsX3_make) := goodIn_app (goodIn_of _ (by decide +kernel)) ggX8_cast_X3_make
set_option maxRecDepth 20000 in
theorem ggX8_cast_X3_holds : GoodIn wsX8_cast wsX3_holds := goodIn_r _ [82, 75, 76, 77, 78, 83, 84, 29, 85, 86, 9, 87, 11, 12, 13, 88, 41, 42, 31, 32, 33, 15, 16, 17, 18, 19, 68, 69, 47, 70, 56, 57, 58, 49, 28, 30, 55, 59, 60, 61, 62, 63, 64, 65, 66, 67, 51, 52, 53, 37, 54, 39, 126, 127, 128, 129, 121, 122, 123, 124, 125] (by decide +kernel) (by decide +kernel)
set_option maxRecDepth 20000 in
theorem gX8_cast_X3_holds : GoodIn wsX8_cast (wsV RX8 120 RX3 yX3_holds wsX3_holds) := goodIn_app (goodIn_of _ (by decide +kernel)) ggX8_cast_X3_holds
set_option maxRecDepth 20000 in
theorem ggX8_cast_X5_init : GoodIn wsX8_cast wsX5_init := goodIn_r _ [91, 92, 93, 94, 95, 96, 97, 98, 99, 100, 109, 110, 111, 112, 113, 114] (by decide +kernel) (by decide +kernel)
set_option maxRecDepth 20000 in
theorem gX8_cast_X5_init : GoodIn wsX8_cast (wsX5_init) := ggX8_cast_X5_init
set_option maxRecDepth 20000 in
theorem ggX8_cast_X7_add : GoodIn wsX8_cast wsX7_add := goodIn_r _ [104, 25, 26, 115, 116, 117, 118, 119, 120] (by decide +kernel) (by decide +kernel)
set_option maxRecDepth 20000 in
theorem gX8_cast_X7_add : GoodIn wsX8_cast (wsV RX8 167 RX7 yX7_add wsX7_add) := goodIn_app (goodIn_of _ (by decide +kernel)) ggX8_cast_X7_add
theorem dX8_cast_0 : decode cX8_cast 0 = .ok (.iload_n 1, 1) := by decide +kernel
theorem dX8_cast_1 : decode cX8_cast 1 = .ok (.invokestatic 124, 3) := by decide +kernel
theorem dX8_cast_4 : decode cX8_cast 4 = .ok (.ifCond .ne 5, 3) := by decide +kernel
theorem dX8_cast_7 : decode cX8_cast 7 = .ok (.iconst (-1), 1) := by decide +kernel
theorem dX8_cast_8 : decode cX8_cast 8 = .ok (.ireturn, 1) := by decide +kernel
theorem dX8_cast_9 : decode cX8_cast 9 = .ok (.iload_n 2, 1) := by decide +kernel
theorem dX8_cast_10 : decode cX8_cast 10 = .ok (.iconst 0, 1) := by decide +kernel
theorem dX8_cast_11 : decode cX8_cast 11 = .ok (.iconst 1, 1) := by decide +kernel
theorem dX8_cast_12 : decode cX8_cast 12 = .ok (.invokestatic 39, 3) := by decide +kernel
theorem dX8_cast_15 : decode cX8_cast 15 = .ok (.ifCond .eq 28, 3) := by decide +kernel
theorem dX8_cast_18 : decode cX8_cast 18 = .ok (.iload_n 3, 1) := by decide +kernel
theorem dX8_cast_19 : decode cX8_cast 19 = .ok (.iconst 0, 1) := by decide +kernel
theorem dX8_cast_20 : decode cX8_cast 20 = .ok (.sipush 999, 3) := by decide +kernel
theorem dX8_cast_23 : decode cX8_cast 23 = .ok (.invokestatic 39, 3) := by decide +kernel
theorem dX8_cast_26 : decode cX8_cast 26 = .ok (.ifCond .eq 17, 3) := by decide +kernel
theorem dX8_cast_29 : decode cX8_cast 29 = .ok (.iload 4, 2) := by decide +kernel
theorem dX8_cast_31 : decode cX8_cast 31 = .ok (.iload 5, 2) := by decide +kernel
theorem dX8_cast_33 : decode cX8_cast 33 = .ok (.iload 6, 2) := by decide +kernel
theorem dX8_cast_35 : decode cX8_cast 35 = .ok (.iload 7, 2) := by decide +kernel
theorem dX8_cast_37 : decode cX8_cast 37 = .ok (.invokestatic 108, 3) := by decide +kernel
theorem dX8_cast_40 : decode cX8_cast 40 = .ok (.ifCond .ne 6, 3) := by decide +kernel
theorem dX8_cast_43 : decode cX8_cast 43 = .ok (.bipush (-2), 2) := by decide +kernel
theorem dX8_cast_45 : decode cX8_cast 45 = .ok (.ireturn, 1) := by decide +kernel
theorem dX8_cast_46 : decode cX8_cast 46 = .ok (.aload_n 0, 1) := by decide +kernel
theorem dX8_cast_47 : decode cX8_cast 47 = .ok (.getfield 35, 3) := by decide +kernel
theorem dX8_cast_50 : decode cX8_cast 50 = .ok (.invokevirtual 158, 3) := by decide +kernel
theorem dX8_cast_53 : decode cX8_cast 53 = .ok (.ifCond .eq 6, 3) := by decide +kernel
theorem dX8_cast_56 : decode cX8_cast 56 = .ok (.bipush (-4), 2) := by decide +kernel
theorem dX8_cast_58 : decode cX8_cast 58 = .ok (.ireturn, 1) := by decide +kernel
theorem dX8_cast_59 : decode cX8_cast 59 = .ok (.iload 4, 2) := by decide +kernel
theorem dX8_cast_61 : decode cX8_cast 61 = .ok (.invokestatic 65, 3) := by decide +kernel
theorem dX8_cast_64 : decode cX8_cast 64 = .ok (.istore 8, 2) := by decide +kernel
theorem dX8_cast_66 : decode cX8_cast 66 = .ok (.aload_n 0, 1) := by decide +kernel
theorem dX8_cast_67 : decode cX8_cast 67 = .ok (.getfield 10, 3) := by decide +kernel
theorem dX8_cast_70 : decode cX8_cast 70 = .ok (.iload_n 2, 1) := by decide +kernel
theorem dX8_cast_71 : decode cX8_cast 71 = .ok (.iload 4, 2) := by decide +kernel
theorem dX8_cast_73 : decode cX8_cast 73 = .ok (.invokevirtual 70, 3) := by decide +kernel
theorem dX8_cast_76 : decode cX8_cast 76 = .ok (.istore 9, 2) := by decide +kernel
theorem dX8_cast_78 : decode cX8_cast 78 = .ok (.aload_n 0, 1) := by decide +kernel
theorem dX8_cast_79 : decode cX8_cast 79 = .ok (.getfield 19, 3) := by decide +kernel
theorem dX8_cast_82 : decode cX8_cast 82 = .ok (.aload_n 0, 1) := by decide +kernel
theorem dX8_cast_83 : decode cX8_cast 83 = .ok (.getfield 10, 3) := by decide +kernel
theorem dX8_cast_86 : decode cX8_cast 86 = .ok (.iload_n 2, 1) := by decide +kernel
theorem dX8_cast_87 : decode cX8_cast 87 = .ok (.iload 4, 2) := by decide +kernel
theorem dX8_cast_89 : decode cX8_cast 89 = .ok (.iload 5, 2) := by decide +kernel
theorem dX8_cast_91 : decode cX8_cast 91 = .ok (.iload 6, 2) := by decide +kernel
theorem dX8_cast_93 : decode cX8_cast 93 = .ok (.iload 7, 2) := by decide +kernel
theorem dX8_cast_95 : decode cX8_cast 95 = .ok (.invokevirtual 112, 3) := by decide +kernel
theorem dX8_cast_98 : decode cX8_cast 98 = .ok (.aload_n 0, 1) := by decide +kernel
theorem dX8_cast_99 : decode cX8_cast 99 = .ok (.getfield 35, 3) := by decide +kernel
theorem dX8_cast_102 : decode cX8_cast 102 = .ok (.new 162, 3) := by decide +kernel
theorem dX8_cast_105 : decode cX8_cast 105 = .ok (.dup, 1) := by decide +kernel
theorem dX8_cast_106 : decode cX8_cast 106 = .ok (.iload_n 1, 1) := by decide +kernel
theorem dX8_cast_107 : decode cX8_cast 107 = .ok (.iload 8, 2) := by decide +kernel
theorem dX8_cast_109 : decode cX8_cast 109 = .ok (.iload 9, 2) := by decide +kernel
theorem dX8_cast_111 : decode cX8_cast 111 = .ok (.iload_n 3, 1) := by decide +kernel
theorem dX8_cast_112 : decode cX8_cast 112 = .ok (.aload_n 0, 1) := by decide +kernel
theorem dX8_cast_113 : decode cX8_cast 113 = .ok (.getfield 19, 3) := by decide +kernel
theorem dX8_cast_116 : decode cX8_cast 116 = .ok (.aload_n 0, 1) := by decide +kernel
theorem dX8_cast_117 : decode cX8_cast 117 = .ok (.getfield 10, 3) := by decide +kernel
theorem dX8_cast_120 : decode cX8_cast 120 = .ok (.iload 8, 2) := by decide +kernel
theorem dX8_cast_122 : decode cX8_cast 122 = .ok (.iload 9, 2) := by decide +kernel
theorem dX8_cast_124 : decode cX8_cast 124 = .ok (.invokevirtual 120, 3) := by decide +kernel
theorem dX8_cast_127 : decode cX8_cast 127 = .ok (.iconst 1, 1) := by decide +kernel
theorem dX8_cast_128 : decode cX8_cast 128 = .ok (.invokespecial 164, 3) := by decide +kernel
theorem dX8_cast_131 : decode cX8_cast 131 = .ok (.invokevirtual 167, 3) := by decide +kernel
theorem dX8_cast_134 : decode cX8_cast 134 = .ok (.ireturn, 1) := by decide +kernel
set_option maxRecDepth 20000 in
theorem ggX8_ofRow_X7_at : GoodIn wsX8_ofRow wsX7_at := goodIn_r _ [10, 11, 12, 90, 91, 92, 93, 94, 95] (by decide +kernel) (by decide +kernel)
set_option maxRecDepth 20000 in
theorem gX8_ofRow_X7_at : GoodIn wsX8_ofRow (wsV RX8 170 RX7 yX7_at wsX7_at) := goodIn_app (goodIn_of _ (by decide +kernel)) ggX8_ofRow_X7_at
set_option maxRecDepth 20000 in
theorem ggX8_ofRow_X7_kindOf : GoodIn wsX8_ofRow wsX7_kindOf := goodIn_r _ [16, 17, 18, 19, 20, 21, 22, 7, 8, 9, 10, 11, 12, 23, 24, 25, 26, 27, 28, 29, 30, 31, 32, 33, 34, 35, 36, 37, 38, 39, 40, 41, 42, 43, 44, 45, 46, 47, 48, 49, 50, 51, 52, 53, 54, 55, 56, 84, 85, 86, 87, 88, 89, 90, 91, 92, 93, 94, 95, 96, 97, 98, 99, 100] (by decide +kernel) (by decide +kernel)
set_option maxRecDepth 20000 in
theorem gX8_ofRow_X7_kindOf : GoodIn wsX8_ofRow (wsV RX8 194 RX7 yX7_kindOf wsX7_kindOf) := goodIn_app (goodIn_of _ (by decide +kernel)) ggX8_ofRow_X7_kindOf
set_option maxRecDepth 20000 in
theorem ggX8_ofRow_X5_word : GoodIn wsX8_ofRow wsX5_word := goodIn_r _ [61, 62, 63, 64, 65, 66, 67, 60, 68, 84, 85, 86, 87, 88, 89] (by decide +kernel) (by decide +kernel)
set_option maxRecDepth 20000 in
theorem gX8_ofRow_X5_word : GoodIn wsX8_ofRow (wsV RX8 197 RX5 yX5_word wsX5_word) := goodIn_app (goodIn_of _ (by decide +kernel)) ggX8_ofRow_X5_word
set_option maxRecDepth 20000 in
theorem ggX8_ofRow_X7_headBehind : GoodIn wsX8_ofRow wsX7_headBehind := goodIn_r _ [72, 11, 73, 74, 75, 76, 77, 9, 78, 22, 7, 8, 10, 12, 79, 58, 59, 60, 61, 62, 63, 64, 65, 66, 67, 68, 90, 91, 92, 93, 94, 95, 84, 85, 86, 87, 88, 89] (by decide +kernel) (by decide +kernel)
set_option maxRecDepth 20000 in
theorem gX8_ofRow_X7_headBehind : GoodIn wsX8_ofRow (wsV RX8 200 RX7 yX7_headBehind wsX7_headBehind) := goodIn_app (goodIn_of _ (by decide +kernel)) ggX8_ofRow_X7_headBehind
theorem dX8_ofRow_0 : decode cX8_ofRow 0 = .ok (.aload_n 0, 1) := by decide +kernel
theorem dX8_ofRow_1 : decode cX8_ofRow 1 = .ok (.getfield 35, 3) := by decide +kernel
theorem dX8_ofRow_4 : decode cX8_ofRow 4 = .ok (.iload_n 1, 1) := by decide +kernel
theorem dX8_ofRow_5 : decode cX8_ofRow 5 = .ok (.invokevirtual 170, 3) := by decide +kernel
theorem dX8_ofRow_8 : decode cX8_ofRow 8 = .ok (.astore_n 3, 1) := by decide +kernel
theorem dX8_ofRow_9 : decode cX8_ofRow 9 = .ok (.aload_n 3, 1) := by decide +kernel
theorem dX8_ofRow_10 : decode cX8_ofRow 10 = .ok (.ifnonnull 5, 3) := by decide +kernel
theorem dX8_ofRow_13 : decode cX8_ofRow 13 = .ok (.iconst (-1), 1) := by decide +kernel
theorem dX8_ofRow_14 : decode cX8_ofRow 14 = .ok (.ireturn, 1) := by decide +kernel
theorem dX8_ofRow_15 : decode cX8_ofRow 15 = .ok (.iload_n 2, 1) := by decide +kernel
theorem dX8_ofRow_16 : decode cX8_ofRow 16 = .ok (.tableswitch 87 0 6 #[44, 49, 54, 59, 64, 73, 78], 44) := by decide +kernel
theorem dX8_ofRow_60 : decode cX8_ofRow 60 = .ok (.aload_n 3, 1) := by decide +kernel
theorem dX8_ofRow_61 : decode cX8_ofRow 61 = .ok (.getfield 188, 3) := by decide +kernel
theorem dX8_ofRow_64 : decode cX8_ofRow 64 = .ok (.ireturn, 1) := by decide +kernel
theorem dX8_ofRow_65 : decode cX8_ofRow 65 = .ok (.aload_n 3, 1) := by decide +kernel
theorem dX8_ofRow_66 : decode cX8_ofRow 66 = .ok (.getfield 178, 3) := by decide +kernel
theorem dX8_ofRow_69 : decode cX8_ofRow 69 = .ok (.ireturn, 1) := by decide +kernel
theorem dX8_ofRow_70 : decode cX8_ofRow 70 = .ok (.aload_n 3, 1) := by decide +kernel
theorem dX8_ofRow_71 : decode cX8_ofRow 71 = .ok (.getfield 182, 3) := by decide +kernel
theorem dX8_ofRow_74 : decode cX8_ofRow 74 = .ok (.ireturn, 1) := by decide +kernel
theorem dX8_ofRow_75 : decode cX8_ofRow 75 = .ok (.aload_n 3, 1) := by decide +kernel
theorem dX8_ofRow_76 : decode cX8_ofRow 76 = .ok (.getfield 191, 3) := by decide +kernel
theorem dX8_ofRow_79 : decode cX8_ofRow 79 = .ok (.ireturn, 1) := by decide +kernel
theorem dX8_ofRow_80 : decode cX8_ofRow 80 = .ok (.aload_n 0, 1) := by decide +kernel
theorem dX8_ofRow_81 : decode cX8_ofRow 81 = .ok (.getfield 35, 3) := by decide +kernel
theorem dX8_ofRow_84 : decode cX8_ofRow 84 = .ok (.iload_n 1, 1) := by decide +kernel
theorem dX8_ofRow_85 : decode cX8_ofRow 85 = .ok (.invokevirtual 194, 3) := by decide +kernel
theorem dX8_ofRow_88 : decode cX8_ofRow 88 = .ok (.ireturn, 1) := by decide +kernel
theorem dX8_ofRow_89 : decode cX8_ofRow 89 = .ok (.aload_n 3, 1) := by decide +kernel
theorem dX8_ofRow_90 : decode cX8_ofRow 90 = .ok (.invokevirtual 197, 3) := by decide +kernel
theorem dX8_ofRow_93 : decode cX8_ofRow 93 = .ok (.ireturn, 1) := by decide +kernel
theorem dX8_ofRow_94 : decode cX8_ofRow 94 = .ok (.aload_n 0, 1) := by decide +kernel
theorem dX8_ofRow_95 : decode cX8_ofRow 95 = .ok (.getfield 35, 3) := by decide +kernel
theorem dX8_ofRow_98 : decode cX8_ofRow 98 = .ok (.iload_n 1, 1) := by decide +kernel
theorem dX8_ofRow_99 : decode cX8_ofRow 99 = .ok (.invokevirtual 200, 3) := by decide +kernel
theorem dX8_ofRow_102 : decode cX8_ofRow 102 = .ok (.ireturn, 1) := by decide +kernel
theorem dX8_ofRow_103 : decode cX8_ofRow 103 = .ok (.bipush (-2), 2) := by decide +kernel
theorem dX8_ofRow_105 : decode cX8_ofRow 105 = .ok (.ireturn, 1) := by decide +kernel
set_option maxRecDepth 20000 in
theorem ggX8_find_X8_within : GoodIn wsX8_find wsX8_within := goodIn_r _ [5] (by decide +kernel) (by decide +kernel)
set_option maxRecDepth 20000 in
theorem gX8_find_X8_within : GoodIn wsX8_find (va_wsS RX8 39 yX8_within wsX8_within) := goodIn_app (goodIn_of _ (by decide +kernel)) ggX8_find_X8_within
set_option maxRecDepth 20000 in
theorem ggX8_find_X7_firstWithWord : GoodIn wsX8_find wsX7_firstWithWord := goodIn_r _ [10, 11, 12, 13, 14, 9, 15, 16, 17, 18, 19, 20, 21, 22, 23, 24, 25, 26, 27, 28, 29, 30, 31, 32, 37, 38, 39, 40, 41, 42, 43, 44, 45, 46, 47, 48] (by decide +kernel) (by decide +kernel)
set_option maxRecDepth 20000 in
theorem gX8_find_X7_firstWithWord : GoodIn wsX8_find (wsV RX8 203 RX7 yX7_firstWithWord wsX7_firstWithWord) := goodIn_app (goodIn_of _ (by decide +kernel)) ggX8_find_X7_firstWithWord
theorem dX8_find_0 : decode cX8_find 0 = .ok (.iload_n 2, 1) := by decide +kernel
theorem dX8_find_1 : decode cX8_find 1 = .ok (.iconst 0, 1) := by decide +kernel
theorem dX8_find_2 : decode cX8_find 2 = .ok (.bipush 30, 2) := by decide +kernel
theorem dX8_find_4 : decode cX8_find 4 = .ok (.invokestatic 39, 3) := by decide +kernel
theorem dX8_find_7 : decode cX8_find 7 = .ok (.ifCond .ne 6, 3) := by decide +kernel
theorem dX8_find_10 : decode cX8_find 10 = .ok (.bipush (-2), 2) := by decide +kernel
theorem dX8_find_12 : decode cX8_find 12 = .ok (.ireturn, 1) := by decide +kernel
theorem dX8_find_13 : decode cX8_find 13 = .ok (.aload_n 0, 1) := by decide +kernel
theorem dX8_find_14 : decode cX8_find 14 = .ok (.getfield 35, 3) := by decide +kernel
theorem dX8_find_17 : decode cX8_find 17 = .ok (.iload_n 1, 1) := by decide +kernel
theorem dX8_find_18 : decode cX8_find 18 = .ok (.iload_n 2, 1) := by decide +kernel
theorem dX8_find_19 : decode cX8_find 19 = .ok (.invokevirtual 203, 3) := by decide +kernel
theorem dX8_find_22 : decode cX8_find 22 = .ok (.ireturn, 1) := by decide +kernel
set_option maxRecDepth 20000 in
theorem ggX8_tally_X7_product : GoodIn wsX8_tally wsX7_product := goodIn_r _ [6, 7, 8, 9, 10, 11, 12, 5, 13, 14, 15, 16, 17, 18, 19, 20, 21, 22, 23, 24, 25, 26, 27, 28, 29, 30, 31, 32, 33, 34, 35, 36, 37, 38, 39, 40, 41, 42, 43, 44, 45, 46, 47, 48, 49, 50, 51, 52, 53, 54, 55, 56, 57, 66, 67, 68, 69, 70, 71, 72, 73, 74, 75, 76, 77, 78, 79, 80, 81, 82] (by decide +kernel) (by decide +kernel)
set_option maxRecDepth 20000 in
theorem gX8_tally_X7_product : GoodIn wsX8_tally (wsV RX8 206 RX7 yX7_product wsX7_product) := goodIn_app (goodIn_of _ (by decide +kernel)) ggX8_tally_X7_product
set_option maxRecDepth 20000 in
theorem ggX8_tally_X7_howManyAre : GoodIn wsX8_tally wsX7_howManyAre := goodIn_r _ [61, 7, 15, 16, 17, 5, 18, 19, 20, 21, 22, 23, 10, 11, 12, 13, 14, 24, 25, 26, 27, 28, 29, 30, 31, 32, 33, 34, 35, 36, 37, 38, 39, 40, 41, 42, 43, 44, 45, 46, 47, 48, 49, 50, 51, 52, 53, 54, 55, 56, 57, 66, 67, 68, 69, 70, 71, 72, 73, 74, 75, 76, 77, 78, 79, 80, 81, 82] (by decide +kernel) (by decide +kernel)
set_option maxRecDepth 20000 in
theorem gX8_tally_X7_howManyAre : GoodIn wsX8_tally (wsV RX8 209 RX7 yX7_howManyAre wsX7_howManyAre) := goodIn_app (goodIn_of _ (by decide +kernel)) ggX8_tally_X7_howManyAre
theorem dX8_tally_0 : decode cX8_tally 0 = .ok (.iload_n 1, 1) := by decide +kernel
theorem dX8_tally_1 : decode cX8_tally 1 = .ok (.tableswitch 54 0 2 #[27, 36, 45], 27) := by decide +kernel
theorem dX8_tally_28 : decode cX8_tally 28 = .ok (.aload_n 0, 1) := by decide +kernel
theorem dX8_tally_29 : decode cX8_tally 29 = .ok (.getfield 35, 3) := by decide +kernel
theorem dX8_tally_32 : decode cX8_tally 32 = .ok (.iconst 0, 1) := by decide +kernel
theorem dX8_tally_33 : decode cX8_tally 33 = .ok (.invokevirtual 206, 3) := by decide +kernel
theorem dX8_tally_36 : decode cX8_tally 36 = .ok (.ireturn, 1) := by decide +kernel
theorem dX8_tally_37 : decode cX8_tally 37 = .ok (.aload_n 0, 1) := by decide +kernel
theorem dX8_tally_38 : decode cX8_tally 38 = .ok (.getfield 35, 3) := by decide +kernel
theorem dX8_tally_41 : decode cX8_tally 41 = .ok (.iconst 1, 1) := by decide +kernel
theorem dX8_tally_42 : decode cX8_tally 42 = .ok (.invokevirtual 206, 3) := by decide +kernel
theorem dX8_tally_45 : decode cX8_tally 45 = .ok (.ireturn, 1) := by decide +kernel
theorem dX8_tally_46 : decode cX8_tally 46 = .ok (.aload_n 0, 1) := by decide +kernel
theorem dX8_tally_47 : decode cX8_tally 47 = .ok (.getfield 35, 3) := by decide +kernel
theorem dX8_tally_50 : decode cX8_tally 50 = .ok (.iconst 0, 1) := by decide +kernel
theorem dX8_tally_51 : decode cX8_tally 51 = .ok (.invokevirtual 209, 3) := by decide +kernel
theorem dX8_tally_54 : decode cX8_tally 54 = .ok (.ireturn, 1) := by decide +kernel
theorem dX8_tally_55 : decode cX8_tally 55 = .ok (.bipush (-2), 2) := by decide +kernel
theorem dX8_tally_57 : decode cX8_tally 57 = .ok (.ireturn, 1) := by decide +kernel
set_option maxRecDepth 20000 in
theorem ggX8_copy_X8_within : GoodIn wsX8_copy wsX8_within := goodIn_r _ [5] (by decide +kernel) (by decide +kernel)
set_option maxRecDepth 20000 in
theorem gX8_copy_X8_within : GoodIn wsX8_copy (va_wsS RX8 39 yX8_within wsX8_within) := goodIn_app (goodIn_of _ (by decide +kernel)) ggX8_copy_X8_within
set_option maxRecDepth 20000 in
theorem ggX8_copy_X7_addCopied : GoodIn wsX8_copy wsX7_addCopied := goodIn_r _ [10, 11, 12, 21, 22, 23, 24, 25, 26] (by decide +kernel) (by decide +kernel)
set_option maxRecDepth 20000 in
theorem gX8_copy_X7_addCopied : GoodIn wsX8_copy (wsV RX8 212 RX7 yX7_addCopied wsX7_addCopied) := goodIn_app (goodIn_of _ (by decide +kernel)) ggX8_copy_X7_addCopied
set_option maxRecDepth 20000 in
theorem ggX8_copy_X7_copiedSize : GoodIn wsX8_copy wsX7_copiedSize := goodIn_r _ [16, 11, 21, 22, 23, 24, 25, 26] (by decide +kernel) (by decide +kernel)
set_option maxRecDepth 20000 in
theorem gX8_copy_X7_copiedSize : GoodIn wsX8_copy (wsV RX8 215 RX7 yX7_copiedSize wsX7_copiedSize) := goodIn_app (goodIn_of _ (by decide +kernel)) ggX8_copy_X7_copiedSize
theorem dX8_copy_0 : decode cX8_copy 0 = .ok (.iload_n 1, 1) := by decide +kernel
theorem dX8_copy_1 : decode cX8_copy 1 = .ok (.iconst 0, 1) := by decide +kernel
theorem dX8_copy_2 : decode cX8_copy 2 = .ok (.sipush 9972, 3) := by decide +kernel
theorem dX8_copy_5 : decode cX8_copy 5 = .ok (.invokestatic 39, 3) := by decide +kernel
theorem dX8_copy_8 : decode cX8_copy 8 = .ok (.ifCond .ne 6, 3) := by decide +kernel
theorem dX8_copy_11 : decode cX8_copy 11 = .ok (.bipush (-2), 2) := by decide +kernel
theorem dX8_copy_13 : decode cX8_copy 13 = .ok (.ireturn, 1) := by decide +kernel
theorem dX8_copy_14 : decode cX8_copy 14 = .ok (.aload_n 0, 1) := by decide +kernel
theorem dX8_copy_15 : decode cX8_copy 15 = .ok (.getfield 35, 3) := by decide +kernel
theorem dX8_copy_18 : decode cX8_copy 18 = .ok (.iload_n 1, 1) := by decide +kernel
theorem dX8_copy_19 : decode cX8_copy 19 = .ok (.invokevirtual 212, 3) := by decide +kernel
theorem dX8_copy_22 : decode cX8_copy 22 = .ok (.ifCond .eq 13, 3) := by decide +kernel
theorem dX8_copy_25 : decode cX8_copy 25 = .ok (.aload_n 0, 1) := by decide +kernel
theorem dX8_copy_26 : decode cX8_copy 26 = .ok (.getfield 35, 3) := by decide +kernel
theorem dX8_copy_29 : decode cX8_copy 29 = .ok (.invokevirtual 215, 3) := by decide +kernel
theorem dX8_copy_32 : decode cX8_copy 32 = .ok (.goto 5, 3) := by decide +kernel
theorem dX8_copy_35 : decode cX8_copy 35 = .ok (.bipush (-4), 2) := by decide +kernel
theorem dX8_copy_37 : decode cX8_copy 37 = .ok (.ireturn, 1) := by decide +kernel
set_option maxRecDepth 20000 in
theorem ggX8_parted_X7_firstUnlike : GoodIn wsX8_parted wsX7_firstUnlike := goodIn_r _ [6, 7, 8, 9, 10, 11, 12, 5, 13, 14, 15, 16, 17, 18, 19, 20, 21, 22, 23, 24, 25, 26, 27, 28, 29, 30, 35, 36, 37, 38, 39, 40, 41, 42, 43, 44, 45, 46] (by decide +kernel) (by decide +kernel)
set_option maxRecDepth 20000 in
theorem gX8_parted_X7_firstUnlike : GoodIn wsX8_parted (wsV RX8 218 RX7 yX7_firstUnlike wsX7_firstUnlike) := goodIn_app (goodIn_of _ (by decide +kernel)) ggX8_parted_X7_firstUnlike
theorem dX8_parted_0 : decode cX8_parted 0 = .ok (.aload_n 0, 1) := by decide +kernel
theorem dX8_parted_1 : decode cX8_parted 1 = .ok (.getfield 35, 3) := by decide +kernel
theorem dX8_parted_4 : decode cX8_parted 4 = .ok (.invokevirtual 218, 3) := by decide +kernel
theorem dX8_parted_7 : decode cX8_parted 7 = .ok (.ireturn, 1) := by decide +kernel
set_option maxRecDepth 20000 in
theorem ggX8_lies_X8_areBooth : GoodIn wsX8_lies wsX8_areBooth := goodIn_r _ [5, 6, 7, 4, 8] (by decide +kernel) (by decide +kernel)
set_option maxRecDepth 20000 in
theorem gX8_lies_X8_areBooth : GoodIn wsX8_lies (va_wsS RX8 221 yX8_areBooth wsX8_areBooth) := goodIn_app (goodIn_of _ (by decide +kernel)) ggX8_lies_X8_areBooth
set_option maxRecDepth 20000 in
theorem ggX8_lies_X8_within : GoodIn wsX8_lies wsX8_within := goodIn_r _ [8] (by decide +kernel) (by decide +kernel)
set_option maxRecDepth 20000 in
theorem gX8_lies_X8_within : GoodIn wsX8_lies (va_wsS RX8 39 yX8_within wsX8_within) := goodIn_app (goodIn_of _ (by decide +kernel)) ggX8_lies_X8_within
set_option maxRecDepth 20000 in
theorem ggX8_lies_X1_choose : GoodIn wsX8_lies wsX1_choose := goodIn_r _ [12] (by decide +kernel) (by decide +kernel)
set_option maxRecDepth 20000 in
theorem gX8_lies_X1_choose : GoodIn wsX8_lies (va_wsS RX8 226 yX1_choose wsX1_choose) := goodIn_app (goodIn_of _ (by decide +kernel)) ggX8_lies_X1_choose
set_option maxRecDepth 20000 in
theorem ggX8_lies_X1_inLowestTerms : GoodIn wsX8_lies wsX1_inLowestTerms := goodIn_r _ [15, 16, 17, 11, 18] (by decide +kernel) (by decide +kernel)
set_option maxRecDepth 20000 in
theorem gX8_lies_X1_inLowestTerms : GoodIn wsX8_lies (va_wsS RX8 232 yX1_inLowestTerms wsX1_inLowestTerms) := goodIn_app (goodIn_of _ (by decide +kernel)) ggX8_lies_X1_inLowestTerms
theorem dX8_lies_0 : decode cX8_lies 0 = .ok (.iload_n 1, 1) := by decide +kernel
theorem dX8_lies_1 : decode cX8_lies 1 = .ok (.iload_n 2, 1) := by decide +kernel
theorem dX8_lies_2 : decode cX8_lies 2 = .ok (.invokestatic 221, 3) := by decide +kernel
theorem dX8_lies_5 : decode cX8_lies 5 = .ok (.ifCond .eq 22, 3) := by decide +kernel
theorem dX8_lies_8 : decode cX8_lies 8 = .ok (.iload_n 3, 1) := by decide +kernel
theorem dX8_lies_9 : decode cX8_lies 9 = .ok (.iconst 0, 1) := by decide +kernel
theorem dX8_lies_10 : decode cX8_lies 10 = .ok (.iload_n 1, 1) := by decide +kernel
theorem dX8_lies_11 : decode cX8_lies 11 = .ok (.invokestatic 39, 3) := by decide +kernel
theorem dX8_lies_14 : decode cX8_lies 14 = .ok (.ifCond .eq 13, 3) := by decide +kernel
theorem dX8_lies_17 : decode cX8_lies 17 = .ok (.iload 4, 2) := by decide +kernel
theorem dX8_lies_19 : decode cX8_lies 19 = .ok (.iconst 0, 1) := by decide +kernel
theorem dX8_lies_20 : decode cX8_lies 20 = .ok (.iconst 1, 1) := by decide +kernel
theorem dX8_lies_21 : decode cX8_lies 21 = .ok (.invokestatic 39, 3) := by decide +kernel
theorem dX8_lies_24 : decode cX8_lies 24 = .ok (.ifCond .ne 7, 3) := by decide +kernel
theorem dX8_lies_27 : decode cX8_lies 27 = .ok (.ldc2_w 224, 3) := by decide +kernel
theorem dX8_lies_30 : decode cX8_lies 30 = .ok (.lreturn, 1) := by decide +kernel
theorem dX8_lies_31 : decode cX8_lies 31 = .ok (.iload_n 1, 1) := by decide +kernel
theorem dX8_lies_32 : decode cX8_lies 32 = .ok (.iload_n 2, 1) := by decide +kernel
theorem dX8_lies_33 : decode cX8_lies 33 = .ok (.isub, 1) := by decide +kernel
theorem dX8_lies_34 : decode cX8_lies 34 = .ok (.iload_n 3, 1) := by decide +kernel
theorem dX8_lies_35 : decode cX8_lies 35 = .ok (.invokestatic 226, 3) := by decide +kernel
theorem dX8_lies_38 : decode cX8_lies 38 = .ok (.iload_n 1, 1) := by decide +kernel
theorem dX8_lies_39 : decode cX8_lies 39 = .ok (.iload_n 3, 1) := by decide +kernel
theorem dX8_lies_40 : decode cX8_lies 40 = .ok (.invokestatic 226, 3) := by decide +kernel
theorem dX8_lies_43 : decode cX8_lies 43 = .ok (.iload 4, 2) := by decide +kernel
theorem dX8_lies_45 : decode cX8_lies 45 = .ok (.invokestatic 232, 3) := by decide +kernel
theorem dX8_lies_48 : decode cX8_lies 48 = .ok (.lreturn, 1) := by decide +kernel
set_option maxRecDepth 20000 in
theorem ggX8_ask_X8_areBooth : GoodIn wsX8_ask wsX8_areBooth := goodIn_r _ [4, 5, 6, 3, 7] (by decide +kernel) (by decide +kernel)
set_option maxRecDepth 20000 in
theorem gX8_ask_X8_areBooth : GoodIn wsX8_ask (va_wsS RX8 221 yX8_areBooth wsX8_areBooth) := goodIn_app (goodIn_of _ (by decide +kernel)) ggX8_ask_X8_areBooth
set_option maxRecDepth 20000 in
theorem ggX8_ask_X8_within : GoodIn wsX8_ask wsX8_within := goodIn_r _ [7] (by decide +kernel) (by decide +kernel)
set_option maxRecDepth 20000 in
theorem gX8_ask_X8_within : GoodIn wsX8_ask (va_wsS RX8 39 yX8_within wsX8_within) := goodIn_app (goodIn_of _ (by decide +kernel)) ggX8_ask_X8_within
set_option maxRecDepth 20000 in
theorem ggX8_ask_X1_leastDrawn : GoodIn wsX8_ask wsX1_leastDrawn := goodIn_r _ [11, 12, 13, 14, 10, 15] (by decide +kernel) (by decide +kernel)
set_option maxRecDepth 20000 in
theorem gX8_ask_X1_leastDrawn : GoodIn wsX8_ask (va_wsS RX8 236 yX1_leastDrawn wsX1_leastDrawn) := goodIn_app (goodIn_of _ (by decide +kernel)) ggX8_ask_X1_leastDrawn
theorem dX8_ask_0 : decode cX8_ask 0 = .ok (.iload_n 1, 1) := by decide +kernel
theorem dX8_ask_1 : decode cX8_ask 1 = .ok (.iload_n 2, 1) := by decide +kernel
theorem dX8_ask_2 : decode cX8_ask 2 = .ok (.invokestatic 221, 3) := by decide +kernel
theorem dX8_ask_5 : decode cX8_ask 5 = .ok (.ifCond .eq 13, 3) := by decide +kernel
theorem dX8_ask_8 : decode cX8_ask 8 = .ok (.iload_n 3, 1) := by decide +kernel
theorem dX8_ask_9 : decode cX8_ask 9 = .ok (.iconst 0, 1) := by decide +kernel
theorem dX8_ask_10 : decode cX8_ask 10 = .ok (.bipush 100, 2) := by decide +kernel
theorem dX8_ask_12 : decode cX8_ask 12 = .ok (.invokestatic 39, 3) := by decide +kernel
theorem dX8_ask_15 : decode cX8_ask 15 = .ok (.ifCond .ne 6, 3) := by decide +kernel
theorem dX8_ask_18 : decode cX8_ask 18 = .ok (.bipush (-2), 2) := by decide +kernel
theorem dX8_ask_20 : decode cX8_ask 20 = .ok (.ireturn, 1) := by decide +kernel
theorem dX8_ask_21 : decode cX8_ask 21 = .ok (.iload_n 1, 1) := by decide +kernel
theorem dX8_ask_22 : decode cX8_ask 22 = .ok (.iload_n 2, 1) := by decide +kernel
theorem dX8_ask_23 : decode cX8_ask 23 = .ok (.isub, 1) := by decide +kernel
theorem dX8_ask_24 : decode cX8_ask 24 = .ok (.iload_n 1, 1) := by decide +kernel
theorem dX8_ask_25 : decode cX8_ask 25 = .ok (.iconst 0, 1) := by decide +kernel
theorem dX8_ask_26 : decode cX8_ask 26 = .ok (.iload_n 3, 1) := by decide +kernel
theorem dX8_ask_27 : decode cX8_ask 27 = .ok (.invokestatic 236, 3) := by decide +kernel
theorem dX8_ask_30 : decode cX8_ask 30 = .ok (.ireturn, 1) := by decide +kernel
set_option maxRecDepth 20000 in
theorem ggX8_slips_X8_within : GoodIn wsX8_slips wsX8_within := goodIn_r _ [5] (by decide +kernel) (by decide +kernel)
set_option maxRecDepth 20000 in
theorem gX8_slips_X8_within : GoodIn wsX8_slips (va_wsS RX8 39 yX8_within wsX8_within) := goodIn_app (goodIn_of _ (by decide +kernel)) ggX8_slips_X8_within
set_option maxRecDepth 20000 in
theorem ggX8_slips_X1_waysForOne : GoodIn wsX8_slips wsX1_waysForOne := goodIn_r _ [9, 10, 11, 8, 12, 13, 14, 15] (by decide +kernel) (by decide +kernel)
set_option maxRecDepth 20000 in
theorem gX8_slips_X1_waysForOne : GoodIn wsX8_slips (va_wsS RX8 240 yX1_waysForOne wsX1_waysForOne) := goodIn_app (goodIn_of _ (by decide +kernel)) ggX8_slips_X1_waysForOne
set_option maxRecDepth 20000 in
theorem ggX8_slips_X1_choose : GoodIn wsX8_slips wsX1_choose := goodIn_r _ [15] (by decide +kernel) (by decide +kernel)
set_option maxRecDepth 20000 in
theorem gX8_slips_X1_choose : GoodIn wsX8_slips (va_wsS RX8 226 yX1_choose wsX1_choose) := goodIn_app (goodIn_of _ (by decide +kernel)) ggX8_slips_X1_choose
set_option maxRecDepth 20000 in
theorem ggX8_slips_X1_inLowestTerms : GoodIn wsX8_slips wsX1_inLowestTerms := goodIn_r _ [19, 20, 21, 8, 22] (by decide +kernel) (by decide +kernel)
set_option maxRecDepth 20000 in
theorem gX8_slips_X1_inLowestTerms : GoodIn wsX8_slips (va_wsS RX8 232 yX1_inLowestTerms wsX1_inLowestTerms) := goodIn_app (goodIn_of _ (by decide +kernel)) ggX8_slips_X1_inLowestTerms
theorem dX8_slips_0 : decode cX8_slips 0 = .ok (.iload_n 1, 1) := by decide +kernel
theorem dX8_slips_1 : decode cX8_slips 1 = .ok (.iconst 2, 1) := by decide +kernel
theorem dX8_slips_2 : decode cX8_slips 2 = .ok (.bipush 40, 2) := by decide +kernel
theorem dX8_slips_4 : decode cX8_slips 4 = .ok (.invokestatic 39, 3) := by decide +kernel
theorem dX8_slips_7 : decode cX8_slips 7 = .ok (.ifCond .eq 31, 3) := by decide +kernel
theorem dX8_slips_10 : decode cX8_slips 10 = .ok (.iload_n 2, 1) := by decide +kernel
theorem dX8_slips_11 : decode cX8_slips 11 = .ok (.iconst 0, 1) := by decide +kernel
theorem dX8_slips_12 : decode cX8_slips 12 = .ok (.iload_n 1, 1) := by decide +kernel
theorem dX8_slips_13 : decode cX8_slips 13 = .ok (.invokestatic 39, 3) := by decide +kernel
theorem dX8_slips_16 : decode cX8_slips 16 = .ok (.ifCond .eq 22, 3) := by decide +kernel
theorem dX8_slips_19 : decode cX8_slips 19 = .ok (.iload_n 3, 1) := by decide +kernel
theorem dX8_slips_20 : decode cX8_slips 20 = .ok (.iconst 0, 1) := by decide +kernel
theorem dX8_slips_21 : decode cX8_slips 21 = .ok (.iload_n 2, 1) := by decide +kernel
theorem dX8_slips_22 : decode cX8_slips 22 = .ok (.invokestatic 39, 3) := by decide +kernel
theorem dX8_slips_25 : decode cX8_slips 25 = .ok (.ifCond .eq 13, 3) := by decide +kernel
theorem dX8_slips_28 : decode cX8_slips 28 = .ok (.iload 4, 2) := by decide +kernel
theorem dX8_slips_30 : decode cX8_slips 30 = .ok (.iconst 0, 1) := by decide +kernel
theorem dX8_slips_31 : decode cX8_slips 31 = .ok (.iconst 1, 1) := by decide +kernel
theorem dX8_slips_32 : decode cX8_slips 32 = .ok (.invokestatic 39, 3) := by decide +kernel
theorem dX8_slips_35 : decode cX8_slips 35 = .ok (.ifCond .ne 7, 3) := by decide +kernel
theorem dX8_slips_38 : decode cX8_slips 38 = .ok (.ldc2_w 224, 3) := by decide +kernel
theorem dX8_slips_41 : decode cX8_slips 41 = .ok (.lreturn, 1) := by decide +kernel
theorem dX8_slips_42 : decode cX8_slips 42 = .ok (.iload_n 1, 1) := by decide +kernel
theorem dX8_slips_43 : decode cX8_slips 43 = .ok (.iload_n 2, 1) := by decide +kernel
theorem dX8_slips_44 : decode cX8_slips 44 = .ok (.iload_n 3, 1) := by decide +kernel
theorem dX8_slips_45 : decode cX8_slips 45 = .ok (.invokestatic 240, 3) := by decide +kernel
theorem dX8_slips_48 : decode cX8_slips 48 = .ok (.iload_n 1, 1) := by decide +kernel
theorem dX8_slips_49 : decode cX8_slips 49 = .ok (.iload_n 2, 1) := by decide +kernel
theorem dX8_slips_50 : decode cX8_slips 50 = .ok (.invokestatic 226, 3) := by decide +kernel
theorem dX8_slips_53 : decode cX8_slips 53 = .ok (.iload 4, 2) := by decide +kernel
theorem dX8_slips_55 : decode cX8_slips 55 = .ok (.invokestatic 232, 3) := by decide +kernel
theorem dX8_slips_58 : decode cX8_slips 58 = .ok (.lreturn, 1) := by decide +kernel
set_option maxRecDepth 20000 in
theorem ggX8_drawn_X8_within : GoodIn wsX8_drawn wsX8_within := goodIn_r _ [5] (by decide +kernel) (by decide +kernel)
set_option maxRecDepth 20000 in
theorem gX8_drawn_X8_within : GoodIn wsX8_drawn (va_wsS RX8 39 yX8_within wsX8_within) := goodIn_app (goodIn_of _ (by decide +kernel)) ggX8_drawn_X8_within
set_option maxRecDepth 20000 in
theorem ggX8_drawn_X1_slipDrawn : GoodIn wsX8_drawn wsX1_slipDrawn := goodIn_r _ [9, 10, 11] (by decide +kernel) (by decide +kernel)
set_option maxRecDepth 20000 in
theorem gX8_drawn_X1_slipDrawn : GoodIn wsX8_drawn (va_wsS RX8 245 yX1_slipDrawn wsX1_slipDrawn) := goodIn_app (goodIn_of _ (by decide +kernel)) ggX8_drawn_X1_slipDrawn
theorem dX8_drawn_0 : decode cX8_drawn 0 = .ok (.iload_n 1, 1) := by decide +kernel
theorem dX8_drawn_1 : decode cX8_drawn 1 = .ok (.iconst 1, 1) := by decide +kernel
theorem dX8_drawn_2 : decode cX8_drawn 2 = .ok (.ldc 244, 2) := by decide +kernel
theorem dX8_drawn_4 : decode cX8_drawn 4 = .ok (.invokestatic 39, 3) := by decide +kernel
theorem dX8_drawn_7 : decode cX8_drawn 7 = .ok (.ifCond .eq 23, 3) := by decide +kernel
theorem dX8_drawn_10 : decode cX8_drawn 10 = .ok (.iload_n 2, 1) := by decide +kernel
theorem dX8_drawn_11 : decode cX8_drawn 11 = .ok (.iconst 2, 1) := by decide +kernel
theorem dX8_drawn_12 : decode cX8_drawn 12 = .ok (.bipush 40, 2) := by decide +kernel
theorem dX8_drawn_14 : decode cX8_drawn 14 = .ok (.invokestatic 39, 3) := by decide +kernel
theorem dX8_drawn_17 : decode cX8_drawn 17 = .ok (.ifCond .eq 13, 3) := by decide +kernel
theorem dX8_drawn_20 : decode cX8_drawn 20 = .ok (.iload_n 3, 1) := by decide +kernel
theorem dX8_drawn_21 : decode cX8_drawn 21 = .ok (.iconst 1, 1) := by decide +kernel
theorem dX8_drawn_22 : decode cX8_drawn 22 = .ok (.bipush 40, 2) := by decide +kernel
theorem dX8_drawn_24 : decode cX8_drawn 24 = .ok (.invokestatic 39, 3) := by decide +kernel
theorem dX8_drawn_27 : decode cX8_drawn 27 = .ok (.ifCond .ne 6, 3) := by decide +kernel
theorem dX8_drawn_30 : decode cX8_drawn 30 = .ok (.bipush (-2), 2) := by decide +kernel
theorem dX8_drawn_32 : decode cX8_drawn 32 = .ok (.ireturn, 1) := by decide +kernel
theorem dX8_drawn_33 : decode cX8_drawn 33 = .ok (.iload_n 1, 1) := by decide +kernel
theorem dX8_drawn_34 : decode cX8_drawn 34 = .ok (.iload_n 2, 1) := by decide +kernel
theorem dX8_drawn_35 : decode cX8_drawn 35 = .ok (.iload_n 3, 1) := by decide +kernel
theorem dX8_drawn_36 : decode cX8_drawn 36 = .ok (.invokestatic 245, 3) := by decide +kernel
theorem dX8_drawn_39 : decode cX8_drawn 39 = .ok (.ireturn, 1) := by decide +kernel
set_option maxRecDepth 20000 in
theorem ggX8_sure_X8_within : GoodIn wsX8_sure wsX8_within := goodIn_r _ [4] (by decide +kernel) (by decide +kernel)
set_option maxRecDepth 20000 in
theorem gX8_sure_X8_within : GoodIn wsX8_sure (va_wsS RX8 39 yX8_within wsX8_within) := goodIn_app (goodIn_of _ (by decide +kernel)) ggX8_sure_X8_within
set_option maxRecDepth 20000 in
theorem ggX8_sure_X1_forOne : GoodIn wsX8_sure wsX1_forOne := goodIn_r _ [8] (by decide +kernel) (by decide +kernel)
set_option maxRecDepth 20000 in
theorem gX8_sure_X1_forOne : GoodIn wsX8_sure (va_wsS RX8 248 yX1_forOne wsX1_forOne) := goodIn_app (goodIn_of _ (by decide +kernel)) ggX8_sure_X1_forOne
set_option maxRecDepth 20000 in
theorem ggX8_sure_X1_leastDrawn : GoodIn wsX8_sure wsX1_leastDrawn := goodIn_r _ [11, 12, 13, 14, 7, 15] (by decide +kernel) (by decide +kernel)
set_option maxRecDepth 20000 in
theorem gX8_sure_X1_leastDrawn : GoodIn wsX8_sure (va_wsS RX8 236 yX1_leastDrawn wsX1_leastDrawn) := goodIn_app (goodIn_of _ (by decide +kernel)) ggX8_sure_X1_leastDrawn
theorem dX8_sure_0 : decode cX8_sure 0 = .ok (.iload_n 1, 1) := by decide +kernel
theorem dX8_sure_1 : decode cX8_sure 1 = .ok (.iconst 2, 1) := by decide +kernel
theorem dX8_sure_2 : decode cX8_sure 2 = .ok (.bipush 40, 2) := by decide +kernel
theorem dX8_sure_4 : decode cX8_sure 4 = .ok (.invokestatic 39, 3) := by decide +kernel
theorem dX8_sure_7 : decode cX8_sure 7 = .ok (.ifCond .eq 13, 3) := by decide +kernel
theorem dX8_sure_10 : decode cX8_sure 10 = .ok (.iload_n 2, 1) := by decide +kernel
theorem dX8_sure_11 : decode cX8_sure 11 = .ok (.iconst 0, 1) := by decide +kernel
theorem dX8_sure_12 : decode cX8_sure 12 = .ok (.bipush 100, 2) := by decide +kernel
theorem dX8_sure_14 : decode cX8_sure 14 = .ok (.invokestatic 39, 3) := by decide +kernel
theorem dX8_sure_17 : decode cX8_sure 17 = .ok (.ifCond .ne 6, 3) := by decide +kernel
theorem dX8_sure_20 : decode cX8_sure 20 = .ok (.bipush (-2), 2) := by decide +kernel
theorem dX8_sure_22 : decode cX8_sure 22 = .ok (.ireturn, 1) := by decide +kernel
theorem dX8_sure_23 : decode cX8_sure 23 = .ok (.iload_n 1, 1) := by decide +kernel
theorem dX8_sure_24 : decode cX8_sure 24 = .ok (.invokestatic 248, 3) := by decide +kernel
theorem dX8_sure_27 : decode cX8_sure 27 = .ok (.iload_n 1, 1) := by decide +kernel
theorem dX8_sure_28 : decode cX8_sure 28 = .ok (.iconst 1, 1) := by decide +kernel
theorem dX8_sure_29 : decode cX8_sure 29 = .ok (.iload_n 2, 1) := by decide +kernel
theorem dX8_sure_30 : decode cX8_sure 30 = .ok (.invokestatic 236, 3) := by decide +kernel
theorem dX8_sure_33 : decode cX8_sure 33 = .ok (.ireturn, 1) := by decide +kernel
set_option maxRecDepth 20000 in
theorem ggX8_told_X8_areSums : GoodIn wsX8_told wsX8_areSums := goodIn_r _ [6, 7, 8, 5, 9] (by decide +kernel) (by decide +kernel)
set_option maxRecDepth 20000 in
theorem gX8_told_X8_areSums : GoodIn wsX8_told (va_wsS RX8 251 yX8_areSums wsX8_areSums) := goodIn_app (goodIn_of _ (by decide +kernel)) ggX8_told_X8_areSums
set_option maxRecDepth 20000 in
theorem ggX8_told_X8_areKnown : GoodIn wsX8_told wsX8_areKnown := goodIn_r _ [12, 7, 8, 5, 9] (by decide +kernel) (by decide +kernel)
set_option maxRecDepth 20000 in
theorem gX8_told_X8_areKnown : GoodIn wsX8_told (va_wsS RX8 254 yX8_areKnown wsX8_areKnown) := goodIn_app (goodIn_of _ (by decide +kernel)) ggX8_told_X8_areKnown
set_option maxRecDepth 20000 in
theorem ggX8_told_X8_within : GoodIn wsX8_told wsX8_within := goodIn_r _ [9] (by decide +kernel) (by decide +kernel)
set_option maxRecDepth 20000 in
theorem gX8_told_X8_within : GoodIn wsX8_told (va_wsS RX8 39 yX8_within wsX8_within) := goodIn_app (goodIn_of _ (by decide +kernel)) ggX8_told_X8_within
set_option maxRecDepth 20000 in
theorem ggX8_told_X1_inLowestTerms : GoodIn wsX8_told wsX1_inLowestTerms := goodIn_r _ [16, 17, 18, 15, 19] (by decide +kernel) (by decide +kernel)
set_option maxRecDepth 20000 in
theorem gX8_told_X1_inLowestTerms : GoodIn wsX8_told (va_wsS RX8 232 yX1_inLowestTerms wsX1_inLowestTerms) := goodIn_app (goodIn_of _ (by decide +kernel)) ggX8_told_X1_inLowestTerms
theorem dX8_told_0 : decode cX8_told 0 = .ok (.iload_n 1, 1) := by decide +kernel
theorem dX8_told_1 : decode cX8_told 1 = .ok (.iload_n 2, 1) := by decide +kernel
theorem dX8_told_2 : decode cX8_told 2 = .ok (.iload_n 3, 1) := by decide +kernel
theorem dX8_told_3 : decode cX8_told 3 = .ok (.invokestatic 251, 3) := by decide +kernel
theorem dX8_told_6 : decode cX8_told 6 = .ok (.ifCond .eq 38, 3) := by decide +kernel
theorem dX8_told_9 : decode cX8_told 9 = .ok (.iload_n 1, 1) := by decide +kernel
theorem dX8_told_10 : decode cX8_told 10 = .ok (.iload_n 2, 1) := by decide +kernel
theorem dX8_told_11 : decode cX8_told 11 = .ok (.iload_n 3, 1) := by decide +kernel
theorem dX8_told_12 : decode cX8_told 12 = .ok (.iload 4, 2) := by decide +kernel
theorem dX8_told_14 : decode cX8_told 14 = .ok (.iload 5, 2) := by decide +kernel
theorem dX8_told_16 : decode cX8_told 16 = .ok (.iload 6, 2) := by decide +kernel
theorem dX8_told_18 : decode cX8_told 18 = .ok (.invokestatic 254, 3) := by decide +kernel
theorem dX8_told_21 : decode cX8_told 21 = .ok (.ifCond .eq 23, 3) := by decide +kernel
theorem dX8_told_24 : decode cX8_told 24 = .ok (.iload 7, 2) := by decide +kernel
theorem dX8_told_26 : decode cX8_told 26 = .ok (.iconst 0, 1) := by decide +kernel
theorem dX8_told_27 : decode cX8_told 27 = .ok (.iconst 2, 1) := by decide +kernel
theorem dX8_told_28 : decode cX8_told 28 = .ok (.invokestatic 39, 3) := by decide +kernel
theorem dX8_told_31 : decode cX8_told 31 = .ok (.ifCond .eq 13, 3) := by decide +kernel
theorem dX8_told_34 : decode cX8_told 34 = .ok (.iload 8, 2) := by decide +kernel
theorem dX8_told_36 : decode cX8_told 36 = .ok (.iconst 0, 1) := by decide +kernel
theorem dX8_told_37 : decode cX8_told 37 = .ok (.iconst 1, 1) := by decide +kernel
theorem dX8_told_38 : decode cX8_told 38 = .ok (.invokestatic 39, 3) := by decide +kernel
theorem dX8_told_41 : decode cX8_told 41 = .ok (.ifCond .ne 7, 3) := by decide +kernel
theorem dX8_told_44 : decode cX8_told 44 = .ok (.ldc2_w 224, 3) := by decide +kernel
theorem dX8_told_47 : decode cX8_told 47 = .ok (.lreturn, 1) := by decide +kernel
theorem dX8_told_48 : decode cX8_told 48 = .ok (.iload_n 1, 1) := by decide +kernel
theorem dX8_told_49 : decode cX8_told 49 = .ok (.iload 4, 2) := by decide +kernel
theorem dX8_told_51 : decode cX8_told 51 = .ok (.isub, 1) := by decide +kernel
theorem dX8_told_52 : decode cX8_told 52 = .ok (.iload_n 2, 1) := by decide +kernel
theorem dX8_told_53 : decode cX8_told 53 = .ok (.iadd, 1) := by decide +kernel
theorem dX8_told_54 : decode cX8_told 54 = .ok (.iload 5, 2) := by decide +kernel
theorem dX8_told_56 : decode cX8_told 56 = .ok (.isub, 1) := by decide +kernel
theorem dX8_told_57 : decode cX8_told 57 = .ok (.iload_n 3, 1) := by decide +kernel
theorem dX8_told_58 : decode cX8_told 58 = .ok (.iadd, 1) := by decide +kernel
theorem dX8_told_59 : decode cX8_told 59 = .ok (.iload 6, 2) := by decide +kernel
theorem dX8_told_61 : decode cX8_told 61 = .ok (.isub, 1) := by decide +kernel
theorem dX8_told_62 : decode cX8_told 62 = .ok (.istore 9, 2) := by decide +kernel
theorem dX8_told_64 : decode cX8_told 64 = .ok (.iload 9, 2) := by decide +kernel
theorem dX8_told_66 : decode cX8_told 66 = .ok (.ifCond .ne 7, 3) := by decide +kernel
theorem dX8_told_69 : decode cX8_told 69 = .ok (.ldc2_w 258, 3) := by decide +kernel
theorem dX8_told_72 : decode cX8_told 72 = .ok (.lreturn, 1) := by decide +kernel
theorem dX8_told_73 : decode cX8_told 73 = .ok (.iload 7, 2) := by decide +kernel
theorem dX8_told_75 : decode cX8_told 75 = .ok (.ifCond .ne 10, 3) := by decide +kernel
theorem dX8_told_78 : decode cX8_told 78 = .ok (.iload_n 1, 1) := by decide +kernel
theorem dX8_told_79 : decode cX8_told 79 = .ok (.iload 4, 2) := by decide +kernel
theorem dX8_told_81 : decode cX8_told 81 = .ok (.isub, 1) := by decide +kernel
theorem dX8_told_82 : decode cX8_told 82 = .ok (.goto 20, 3) := by decide +kernel
theorem dX8_told_85 : decode cX8_told 85 = .ok (.iload 7, 2) := by decide +kernel
theorem dX8_told_87 : decode cX8_told 87 = .ok (.iconst 1, 1) := by decide +kernel
theorem dX8_told_88 : decode cX8_told 88 = .ok (.if_icmp .ne 10, 3) := by decide +kernel
theorem dX8_told_91 : decode cX8_told 91 = .ok (.iload_n 2, 1) := by decide +kernel
theorem dX8_told_92 : decode cX8_told 92 = .ok (.iload 5, 2) := by decide +kernel
theorem dX8_told_94 : decode cX8_told 94 = .ok (.isub, 1) := by decide +kernel
theorem dX8_told_95 : decode cX8_told 95 = .ok (.goto 7, 3) := by decide +kernel
theorem dX8_told_98 : decode cX8_told 98 = .ok (.iload_n 3, 1) := by decide +kernel
theorem dX8_told_99 : decode cX8_told 99 = .ok (.iload 6, 2) := by decide +kernel
theorem dX8_told_101 : decode cX8_told 101 = .ok (.isub, 1) := by decide +kernel
theorem dX8_told_102 : decode cX8_told 102 = .ok (.istore 10, 2) := by decide +kernel
theorem dX8_told_104 : decode cX8_told 104 = .ok (.iload 10, 2) := by decide +kernel
theorem dX8_told_106 : decode cX8_told 106 = .ok (.i2l, 1) := by decide +kernel
theorem dX8_told_107 : decode cX8_told 107 = .ok (.iload 9, 2) := by decide +kernel
theorem dX8_told_109 : decode cX8_told 109 = .ok (.i2l, 1) := by decide +kernel
theorem dX8_told_110 : decode cX8_told 110 = .ok (.iload 8, 2) := by decide +kernel
theorem dX8_told_112 : decode cX8_told 112 = .ok (.invokestatic 232, 3) := by decide +kernel
theorem dX8_told_115 : decode cX8_told 115 = .ok (.lreturn, 1) := by decide +kernel
set_option maxRecDepth 20000 in
theorem ggX8_forced_X8_areSums : GoodIn wsX8_forced wsX8_areSums := goodIn_r _ [8, 9, 10, 7, 11] (by decide +kernel) (by decide +kernel)
set_option maxRecDepth 20000 in
theorem gX8_forced_X8_areSums : GoodIn wsX8_forced (va_wsS RX8 251 yX8_areSums wsX8_areSums) := goodIn_app (goodIn_of _ (by decide +kernel)) ggX8_forced_X8_areSums
set_option maxRecDepth 20000 in
theorem ggX8_forced_X8_areKnown : GoodIn wsX8_forced wsX8_areKnown := goodIn_r _ [14, 9, 10, 7, 11] (by decide +kernel) (by decide +kernel)
set_option maxRecDepth 20000 in
theorem gX8_forced_X8_areKnown : GoodIn wsX8_forced (va_wsS RX8 254 yX8_areKnown wsX8_areKnown) := goodIn_app (goodIn_of _ (by decide +kernel)) ggX8_forced_X8_areKnown
theorem dX8_forced_0 : decode cX8_forced 0 = .ok (.iload_n 1, 1) := by decide +kernel
theorem dX8_forced_1 : decode cX8_forced 1 = .ok (.iload_n 2, 1) := by decide +kernel
theorem dX8_forced_2 : decode cX8_forced 2 = .ok (.iload_n 3, 1) := by decide +kernel
theorem dX8_forced_3 : decode cX8_forced 3 = .ok (.invokestatic 251, 3) := by decide +kernel
theorem dX8_forced_6 : decode cX8_forced 6 = .ok (.ifCond .eq 18, 3) := by decide +kernel
theorem dX8_forced_9 : decode cX8_forced 9 = .ok (.iload_n 1, 1) := by decide +kernel
theorem dX8_forced_10 : decode cX8_forced 10 = .ok (.iload_n 2, 1) := by decide +kernel
theorem dX8_forced_11 : decode cX8_forced 11 = .ok (.iload_n 3, 1) := by decide +kernel
theorem dX8_forced_12 : decode cX8_forced 12 = .ok (.iload 4, 2) := by decide +kernel
theorem dX8_forced_14 : decode cX8_forced 14 = .ok (.iload 5, 2) := by decide +kernel
theorem dX8_forced_16 : decode cX8_forced 16 = .ok (.iload 6, 2) := by decide +kernel
theorem dX8_forced_18 : decode cX8_forced 18 = .ok (.invokestatic 254, 3) := by decide +kernel
theorem dX8_forced_21 : decode cX8_forced 21 = .ok (.ifCond .ne 6, 3) := by decide +kernel
theorem dX8_forced_24 : decode cX8_forced 24 = .ok (.bipush (-2), 2) := by decide +kernel
theorem dX8_forced_26 : decode cX8_forced 26 = .ok (.ireturn, 1) := by decide +kernel
theorem dX8_forced_27 : decode cX8_forced 27 = .ok (.iload_n 1, 1) := by decide +kernel
theorem dX8_forced_28 : decode cX8_forced 28 = .ok (.iload 4, 2) := by decide +kernel
theorem dX8_forced_30 : decode cX8_forced 30 = .ok (.isub, 1) := by decide +kernel
theorem dX8_forced_31 : decode cX8_forced 31 = .ok (.iload_n 2, 1) := by decide +kernel
theorem dX8_forced_32 : decode cX8_forced 32 = .ok (.iadd, 1) := by decide +kernel
theorem dX8_forced_33 : decode cX8_forced 33 = .ok (.iload 5, 2) := by decide +kernel
theorem dX8_forced_35 : decode cX8_forced 35 = .ok (.isub, 1) := by decide +kernel
theorem dX8_forced_36 : decode cX8_forced 36 = .ok (.iload_n 3, 1) := by decide +kernel
theorem dX8_forced_37 : decode cX8_forced 37 = .ok (.iadd, 1) := by decide +kernel
theorem dX8_forced_38 : decode cX8_forced 38 = .ok (.iload 6, 2) := by decide +kernel
theorem dX8_forced_40 : decode cX8_forced 40 = .ok (.isub, 1) := by decide +kernel
theorem dX8_forced_41 : decode cX8_forced 41 = .ok (.istore 7, 2) := by decide +kernel
theorem dX8_forced_43 : decode cX8_forced 43 = .ok (.iload 7, 2) := by decide +kernel
theorem dX8_forced_45 : decode cX8_forced 45 = .ok (.iload_n 1, 1) := by decide +kernel
theorem dX8_forced_46 : decode cX8_forced 46 = .ok (.iload 4, 2) := by decide +kernel
theorem dX8_forced_48 : decode cX8_forced 48 = .ok (.isub, 1) := by decide +kernel
theorem dX8_forced_49 : decode cX8_forced 49 = .ok (.iload_n 2, 1) := by decide +kernel
theorem dX8_forced_50 : decode cX8_forced 50 = .ok (.iload 5, 2) := by decide +kernel
theorem dX8_forced_52 : decode cX8_forced 52 = .ok (.isub, 1) := by decide +kernel
theorem dX8_forced_53 : decode cX8_forced 53 = .ok (.iload_n 3, 1) := by decide +kernel
theorem dX8_forced_54 : decode cX8_forced 54 = .ok (.iload 6, 2) := by decide +kernel
theorem dX8_forced_56 : decode cX8_forced 56 = .ok (.isub, 1) := by decide +kernel
theorem dX8_forced_57 : decode cX8_forced 57 = .ok (.invokestatic 260, 3) := by decide +kernel
theorem dX8_forced_60 : decode cX8_forced 60 = .ok (.invokestatic 260, 3) := by decide +kernel
theorem dX8_forced_63 : decode cX8_forced 63 = .ok (.isub, 1) := by decide +kernel
theorem dX8_forced_64 : decode cX8_forced 64 = .ok (.ireturn, 1) := by decide +kernel
set_option maxRecDepth 20000 in
theorem ggX8_count_X8_within : GoodIn wsX8_count wsX8_within := goodIn_r _ [7] (by decide +kernel) (by decide +kernel)
set_option maxRecDepth 20000 in
theorem gX8_count_X8_within : GoodIn wsX8_count (va_wsS RX8 39 yX8_within wsX8_within) := goodIn_app (goodIn_of _ (by decide +kernel)) ggX8_count_X8_within
set_option maxRecDepth 20000 in
theorem ggX8_count_X7_howManyAre : GoodIn wsX8_count wsX7_howManyAre := goodIn_r _ [12, 13, 14, 15, 16, 11, 17, 18, 19, 20, 21, 22, 23, 24, 25, 26, 27, 28, 29, 30, 31, 32, 33, 34, 35, 36, 37, 38, 39, 40, 41, 42, 43, 44, 45, 46, 47, 48, 49, 50, 51, 52, 53, 54, 55, 56, 57, 58, 59, 60, 61, 99, 100, 101, 102, 103, 104, 105, 106, 107, 108, 109, 110, 111, 112, 113, 114, 115] (by decide +kernel) (by decide +kernel)
set_option maxRecDepth 20000 in
theorem gX8_count_X7_howManyAre : GoodIn wsX8_count (wsV RX8 209 RX7 yX7_howManyAre wsX7_howManyAre) := goodIn_app (goodIn_of _ (by decide +kernel)) ggX8_count_X7_howManyAre
set_option maxRecDepth 20000 in
theorem ggX8_count_X7_size : GoodIn wsX8_count wsX7_size := goodIn_r _ [65, 13, 99, 100, 101, 102, 103, 104] (by decide +kernel) (by decide +kernel)
set_option maxRecDepth 20000 in
theorem gX8_count_X7_size : GoodIn wsX8_count (wsV RX8 47 RX7 yX7_size wsX7_size) := goodIn_app (goodIn_of _ (by decide +kernel)) ggX8_count_X7_size
set_option maxRecDepth 20000 in
theorem ggX8_count_X4_draft : GoodIn wsX8_count wsX4_draft := goodIn_r _ [69, 70, 111, 112, 113] (by decide +kernel) (by decide +kernel)
set_option maxRecDepth 20000 in
theorem gX8_count_X4_draft : GoodIn wsX8_count (wsV RX8 130 RX4 yX4_draft wsX4_draft) := goodIn_app (goodIn_of _ (by decide +kernel)) ggX8_count_X4_draft
set_option maxRecDepth 20000 in
theorem ggX8_count_X6_size : GoodIn wsX8_count wsX6_size := goodIn_r _ [74, 44, 114, 115] (by decide +kernel) (by decide +kernel)
set_option maxRecDepth 20000 in
theorem gX8_count_X6_size : GoodIn wsX8_count (wsV RX8 139 RX6 yX6_size wsX6_size) := goodIn_app (goodIn_of _ (by decide +kernel)) ggX8_count_X6_size
set_option maxRecDepth 20000 in
theorem ggX8_count_X0_h : GoodIn wsX8_count wsX0_h := goodIn_r _ [79, 80, 116, 117, 118, 119, 120] (by decide +kernel) (by decide +kernel)
set_option maxRecDepth 20000 in
theorem gX8_count_X0_h : GoodIn wsX8_count (wsV RX8 55 RX0 yX0_h wsX0_h) := goodIn_app (goodIn_of _ (by decide +kernel)) ggX8_count_X0_h
set_option maxRecDepth 20000 in
theorem ggX8_count_X0_need : GoodIn wsX8_count wsX0_need := goodIn_r _ [84, 85, 116, 117, 118, 119, 120] (by decide +kernel) (by decide +kernel)
set_option maxRecDepth 20000 in
theorem gX8_count_X0_need : GoodIn wsX8_count (wsV RX8 98 RX0 yX0_need wsX0_need) := goodIn_app (goodIn_of _ (by decide +kernel)) ggX8_count_X0_need
set_option maxRecDepth 20000 in
theorem ggX8_count_X7_closeHour : GoodIn wsX8_count wsX7_closeHour := goodIn_r _ [89, 19, 99, 100, 101, 102, 103, 104] (by decide +kernel) (by decide +kernel)
set_option maxRecDepth 20000 in
theorem gX8_count_X7_closeHour : GoodIn wsX8_count (wsV RX8 265 RX7 yX7_closeHour wsX7_closeHour) := goodIn_app (goodIn_of _ (by decide +kernel)) ggX8_count_X7_closeHour
set_option maxRecDepth 20000 in
theorem ggX8_count_X7_copiedSize : GoodIn wsX8_count wsX7_copiedSize := goodIn_r _ [93, 94, 99, 100, 101, 102, 103, 104] (by decide +kernel) (by decide +kernel)
set_option maxRecDepth 20000 in
theorem gX8_count_X7_copiedSize : GoodIn wsX8_count (wsV RX8 215 RX7 yX7_copiedSize wsX7_copiedSize) := goodIn_app (goodIn_of _ (by decide +kernel)) ggX8_count_X7_copiedSize
theorem dX8_count_0 : decode cX8_count 0 = .ok (.iload_n 1, 1) := by decide +kernel
theorem dX8_count_1 : decode cX8_count 1 = .ok (.bipush 10, 2) := by decide +kernel
theorem dX8_count_3 : decode cX8_count 3 = .ok (.bipush 14, 2) := by decide +kernel
theorem dX8_count_5 : decode cX8_count 5 = .ok (.invokestatic 39, 3) := by decide +kernel
theorem dX8_count_8 : decode cX8_count 8 = .ok (.ifCond .eq 15, 3) := by decide +kernel
theorem dX8_count_11 : decode cX8_count 11 = .ok (.aload_n 0, 1) := by decide +kernel
theorem dX8_count_12 : decode cX8_count 12 = .ok (.getfield 35, 3) := by decide +kernel
theorem dX8_count_15 : decode cX8_count 15 = .ok (.iload_n 1, 1) := by decide +kernel
theorem dX8_count_16 : decode cX8_count 16 = .ok (.bipush 10, 2) := by decide +kernel
theorem dX8_count_18 : decode cX8_count 18 = .ok (.isub, 1) := by decide +kernel
theorem dX8_count_19 : decode cX8_count 19 = .ok (.invokevirtual 209, 3) := by decide +kernel
theorem dX8_count_22 : decode cX8_count 22 = .ok (.ireturn, 1) := by decide +kernel
theorem dX8_count_23 : decode cX8_count 23 = .ok (.iload_n 1, 1) := by decide +kernel
theorem dX8_count_24 : decode cX8_count 24 = .ok (.tableswitch 91 0 5 #[40, 48, 59, 67, 75, 83], 40) := by decide +kernel
theorem dX8_count_64 : decode cX8_count 64 = .ok (.aload_n 0, 1) := by decide +kernel
theorem dX8_count_65 : decode cX8_count 65 = .ok (.getfield 35, 3) := by decide +kernel
theorem dX8_count_68 : decode cX8_count 68 = .ok (.invokevirtual 47, 3) := by decide +kernel
theorem dX8_count_71 : decode cX8_count 71 = .ok (.ireturn, 1) := by decide +kernel
theorem dX8_count_72 : decode cX8_count 72 = .ok (.aload_n 0, 1) := by decide +kernel
theorem dX8_count_73 : decode cX8_count 73 = .ok (.getfield 26, 3) := by decide +kernel
theorem dX8_count_76 : decode cX8_count 76 = .ok (.invokevirtual 130, 3) := by decide +kernel
theorem dX8_count_79 : decode cX8_count 79 = .ok (.invokevirtual 139, 3) := by decide +kernel
theorem dX8_count_82 : decode cX8_count 82 = .ok (.ireturn, 1) := by decide +kernel
theorem dX8_count_83 : decode cX8_count 83 = .ok (.aload_n 0, 1) := by decide +kernel
theorem dX8_count_84 : decode cX8_count 84 = .ok (.getfield 10, 3) := by decide +kernel
theorem dX8_count_87 : decode cX8_count 87 = .ok (.invokevirtual 55, 3) := by decide +kernel
theorem dX8_count_90 : decode cX8_count 90 = .ok (.ireturn, 1) := by decide +kernel
theorem dX8_count_91 : decode cX8_count 91 = .ok (.aload_n 0, 1) := by decide +kernel
theorem dX8_count_92 : decode cX8_count 92 = .ok (.getfield 10, 3) := by decide +kernel
theorem dX8_count_95 : decode cX8_count 95 = .ok (.invokevirtual 98, 3) := by decide +kernel
theorem dX8_count_98 : decode cX8_count 98 = .ok (.ireturn, 1) := by decide +kernel
theorem dX8_count_99 : decode cX8_count 99 = .ok (.aload_n 0, 1) := by decide +kernel
theorem dX8_count_100 : decode cX8_count 100 = .ok (.getfield 35, 3) := by decide +kernel
theorem dX8_count_103 : decode cX8_count 103 = .ok (.invokevirtual 265, 3) := by decide +kernel
theorem dX8_count_106 : decode cX8_count 106 = .ok (.ireturn, 1) := by decide +kernel
theorem dX8_count_107 : decode cX8_count 107 = .ok (.aload_n 0, 1) := by decide +kernel
theorem dX8_count_108 : decode cX8_count 108 = .ok (.getfield 35, 3) := by decide +kernel
theorem dX8_count_111 : decode cX8_count 111 = .ok (.invokevirtual 215, 3) := by decide +kernel
theorem dX8_count_114 : decode cX8_count 114 = .ok (.ireturn, 1) := by decide +kernel
theorem dX8_count_115 : decode cX8_count 115 = .ok (.bipush (-2), 2) := by decide +kernel
theorem dX8_count_117 : decode cX8_count 117 = .ok (.ireturn, 1) := by decide +kernel
theorem dX8_within_0 : decode cX8_within 0 = .ok (.iload_n 0, 1) := by decide +kernel
theorem dX8_within_1 : decode cX8_within 1 = .ok (.iload_n 1, 1) := by decide +kernel
theorem dX8_within_2 : decode cX8_within 2 = .ok (.if_icmp .lt 12, 3) := by decide +kernel
theorem dX8_within_5 : decode cX8_within 5 = .ok (.iload_n 0, 1) := by decide +kernel
theorem dX8_within_6 : decode cX8_within 6 = .ok (.iload_n 2, 1) := by decide +kernel
theorem dX8_within_7 : decode cX8_within 7 = .ok (.if_icmp .gt 7, 3) := by decide +kernel
theorem dX8_within_10 : decode cX8_within 10 = .ok (.iconst 1, 1) := by decide +kernel
theorem dX8_within_11 : decode cX8_within 11 = .ok (.goto 4, 3) := by decide +kernel
theorem dX8_within_14 : decode cX8_within 14 = .ok (.iconst 0, 1) := by decide +kernel
theorem dX8_within_15 : decode cX8_within 15 = .ok (.ireturn, 1) := by decide +kernel
set_option maxRecDepth 20000 in
theorem ggX8_isExponent_X8_within : GoodIn wsX8_isExponent wsX8_within := goodIn_r _ [4] (by decide +kernel) (by decide +kernel)
set_option maxRecDepth 20000 in
theorem gX8_isExponent_X8_within : GoodIn wsX8_isExponent (va_wsS RX8 39 yX8_within wsX8_within) := goodIn_app (goodIn_of _ (by decide +kernel)) ggX8_isExponent_X8_within
theorem dX8_isExponent_0 : decode cX8_isExponent 0 = .ok (.iload_n 0, 1) := by decide +kernel
theorem dX8_isExponent_1 : decode cX8_isExponent 1 = .ok (.iconst 0, 1) := by decide +kernel
theorem dX8_isExponent_2 : decode cX8_isExponent 2 = .ok (.sipush 5002, 3) := by decide +kernel
theorem dX8_isExponent_5 : decode cX8_isExponent 5 = .ok (.invokestatic 39, 3) := by decide +kernel
theorem dX8_isExponent_8 : decode cX8_isExponent 8 = .ok (.ireturn, 1) := by decide +kernel
set_option maxRecDepth 20000 in
theorem ggX8_areLots_X8_isExponent : GoodIn wsX8_areLots wsX8_isExponent := goodIn_r _ [4, 5, 6, 3, 7] (by decide +kernel) (by decide +kernel)
set_option maxRecDepth 20000 in
theorem gX8_areLots_X8_isExponent : GoodIn wsX8_areLots (va_wsS RX8 43 yX8_isExponent wsX8_isExponent) := goodIn_app (goodIn_of _ (by decide +kernel)) ggX8_areLots_X8_isExponent
theorem dX8_areLots_0 : decode cX8_areLots 0 = .ok (.iload_n 0, 1) := by decide +kernel
theorem dX8_areLots_1 : decode cX8_areLots 1 = .ok (.invokestatic 43, 3) := by decide +kernel
theorem dX8_areLots_4 : decode cX8_areLots 4 = .ok (.ifCond .eq 28, 3) := by decide +kernel
theorem dX8_areLots_7 : decode cX8_areLots 7 = .ok (.iload_n 1, 1) := by decide +kernel
theorem dX8_areLots_8 : decode cX8_areLots 8 = .ok (.invokestatic 43, 3) := by decide +kernel
theorem dX8_areLots_11 : decode cX8_areLots 11 = .ok (.ifCond .eq 21, 3) := by decide +kernel
theorem dX8_areLots_14 : decode cX8_areLots 14 = .ok (.iload_n 2, 1) := by decide +kernel
theorem dX8_areLots_15 : decode cX8_areLots 15 = .ok (.invokestatic 43, 3) := by decide +kernel
theorem dX8_areLots_18 : decode cX8_areLots 18 = .ok (.ifCond .eq 14, 3) := by decide +kernel
theorem dX8_areLots_21 : decode cX8_areLots 21 = .ok (.iload_n 3, 1) := by decide +kernel
theorem dX8_areLots_22 : decode cX8_areLots 22 = .ok (.invokestatic 43, 3) := by decide +kernel
theorem dX8_areLots_25 : decode cX8_areLots 25 = .ok (.ifCond .eq 7, 3) := by decide +kernel
theorem dX8_areLots_28 : decode cX8_areLots 28 = .ok (.iconst 1, 1) := by decide +kernel
theorem dX8_areLots_29 : decode cX8_areLots 29 = .ok (.goto 4, 3) := by decide +kernel
theorem dX8_areLots_32 : decode cX8_areLots 32 = .ok (.iconst 0, 1) := by decide +kernel
theorem dX8_areLots_33 : decode cX8_areLots 33 = .ok (.ireturn, 1) := by decide +kernel
set_option maxRecDepth 20000 in
theorem ggX8_isResidue_X8_within : GoodIn wsX8_isResidue wsX8_within := goodIn_r _ [4] (by decide +kernel) (by decide +kernel)
set_option maxRecDepth 20000 in
theorem gX8_isResidue_X8_within : GoodIn wsX8_isResidue (va_wsS RX8 39 yX8_within wsX8_within) := goodIn_app (goodIn_of _ (by decide +kernel)) ggX8_isResidue_X8_within
theorem dX8_isResidue_0 : decode cX8_isResidue 0 = .ok (.iload_n 0, 1) := by decide +kernel
theorem dX8_isResidue_1 : decode cX8_isResidue 1 = .ok (.iconst 1, 1) := by decide +kernel
theorem dX8_isResidue_2 : decode cX8_isResidue 2 = .ok (.sipush 10006, 3) := by decide +kernel
theorem dX8_isResidue_5 : decode cX8_isResidue 5 = .ok (.invokestatic 39, 3) := by decide +kernel
theorem dX8_isResidue_8 : decode cX8_isResidue 8 = .ok (.ireturn, 1) := by decide +kernel
set_option maxRecDepth 20000 in
theorem ggX8_isHolder_X8_within : GoodIn wsX8_isHolder wsX8_within := goodIn_r _ [4] (by decide +kernel) (by decide +kernel)
set_option maxRecDepth 20000 in
theorem gX8_isHolder_X8_within : GoodIn wsX8_isHolder (va_wsS RX8 39 yX8_within wsX8_within) := goodIn_app (goodIn_of _ (by decide +kernel)) ggX8_isHolder_X8_within
theorem dX8_isHolder_0 : decode cX8_isHolder 0 = .ok (.iload_n 0, 1) := by decide +kernel
theorem dX8_isHolder_1 : decode cX8_isHolder 1 = .ok (.iconst 1, 1) := by decide +kernel
theorem dX8_isHolder_2 : decode cX8_isHolder 2 = .ok (.iconst 5, 1) := by decide +kernel
theorem dX8_isHolder_3 : decode cX8_isHolder 3 = .ok (.invokestatic 39, 3) := by decide +kernel
theorem dX8_isHolder_6 : decode cX8_isHolder 6 = .ok (.ireturn, 1) := by decide +kernel
set_option maxRecDepth 20000 in
theorem ggX8_isSet_X8_within : GoodIn wsX8_isSet wsX8_within := goodIn_r _ [4] (by decide +kernel) (by decide +kernel)
set_option maxRecDepth 20000 in
theorem gX8_isSet_X8_within : GoodIn wsX8_isSet (va_wsS RX8 39 yX8_within wsX8_within) := goodIn_app (goodIn_of _ (by decide +kernel)) ggX8_isSet_X8_within
theorem dX8_isSet_0 : decode cX8_isSet 0 = .ok (.iload_n 0, 1) := by decide +kernel
theorem dX8_isSet_1 : decode cX8_isSet 1 = .ok (.iconst 2, 1) := by decide +kernel
theorem dX8_isSet_2 : decode cX8_isSet 2 = .ok (.bipush 62, 2) := by decide +kernel
theorem dX8_isSet_4 : decode cX8_isSet 4 = .ok (.invokestatic 39, 3) := by decide +kernel
theorem dX8_isSet_7 : decode cX8_isSet 7 = .ok (.ifCond .eq 13, 3) := by decide +kernel
theorem dX8_isSet_10 : decode cX8_isSet 10 = .ok (.iload_n 0, 1) := by decide +kernel
theorem dX8_isSet_11 : decode cX8_isSet 11 = .ok (.iconst 1, 1) := by decide +kernel
theorem dX8_isSet_12 : decode cX8_isSet 12 = .ok (.iand, 1) := by decide +kernel
theorem dX8_isSet_13 : decode cX8_isSet 13 = .ok (.ifCond .ne 7, 3) := by decide +kernel
theorem dX8_isSet_16 : decode cX8_isSet 16 = .ok (.iconst 1, 1) := by decide +kernel
theorem dX8_isSet_17 : decode cX8_isSet 17 = .ok (.goto 4, 3) := by decide +kernel
theorem dX8_isSet_20 : decode cX8_isSet 20 = .ok (.iconst 0, 1) := by decide +kernel
theorem dX8_isSet_21 : decode cX8_isSet 21 = .ok (.ireturn, 1) := by decide +kernel
theorem dX8_isIn_0 : decode cX8_isIn 0 = .ok (.iload_n 1, 1) := by decide +kernel
theorem dX8_isIn_1 : decode cX8_isIn 1 = .ok (.iload_n 0, 1) := by decide +kernel
theorem dX8_isIn_2 : decode cX8_isIn 2 = .ok (.ishr, 1) := by decide +kernel
theorem dX8_isIn_3 : decode cX8_isIn 3 = .ok (.iconst 1, 1) := by decide +kernel
theorem dX8_isIn_4 : decode cX8_isIn 4 = .ok (.iand, 1) := by decide +kernel
theorem dX8_isIn_5 : decode cX8_isIn 5 = .ok (.iconst 1, 1) := by decide +kernel
theorem dX8_isIn_6 : decode cX8_isIn 6 = .ok (.if_icmp .ne 7, 3) := by decide +kernel
theorem dX8_isIn_9 : decode cX8_isIn 9 = .ok (.iconst 1, 1) := by decide +kernel
theorem dX8_isIn_10 : decode cX8_isIn 10 = .ok (.goto 4, 3) := by decide +kernel
theorem dX8_isIn_13 : decode cX8_isIn 13 = .ok (.iconst 0, 1) := by decide +kernel
theorem dX8_isIn_14 : decode cX8_isIn 14 = .ok (.ireturn, 1) := by decide +kernel
set_option maxRecDepth 20000 in
theorem ggX8_isVoter_X8_within : GoodIn wsX8_isVoter wsX8_within := goodIn_r _ [4] (by decide +kernel) (by decide +kernel)
set_option maxRecDepth 20000 in
theorem gX8_isVoter_X8_within : GoodIn wsX8_isVoter (va_wsS RX8 39 yX8_within wsX8_within) := goodIn_app (goodIn_of _ (by decide +kernel)) ggX8_isVoter_X8_within
theorem dX8_isVoter_0 : decode cX8_isVoter 0 = .ok (.iload_n 0, 1) := by decide +kernel
theorem dX8_isVoter_1 : decode cX8_isVoter 1 = .ok (.iconst 0, 1) := by decide +kernel
theorem dX8_isVoter_2 : decode cX8_isVoter 2 = .ok (.bipush 11, 2) := by decide +kernel
theorem dX8_isVoter_4 : decode cX8_isVoter 4 = .ok (.invokestatic 39, 3) := by decide +kernel
theorem dX8_isVoter_7 : decode cX8_isVoter 7 = .ok (.ireturn, 1) := by decide +kernel
set_option maxRecDepth 20000 in
theorem ggX8_isRowNumber_X8_within : GoodIn wsX8_isRowNumber wsX8_within := goodIn_r _ [5] (by decide +kernel) (by decide +kernel)
set_option maxRecDepth 20000 in
theorem gX8_isRowNumber_X8_within : GoodIn wsX8_isRowNumber (va_wsS RX8 39 yX8_within wsX8_within) := goodIn_app (goodIn_of _ (by decide +kernel)) ggX8_isRowNumber_X8_within
theorem dX8_isRowNumber_0 : decode cX8_isRowNumber 0 = .ok (.iload_n 0, 1) := by decide +kernel
theorem dX8_isRowNumber_1 : decode cX8_isRowNumber 1 = .ok (.iconst 0, 1) := by decide +kernel
theorem dX8_isRowNumber_2 : decode cX8_isRowNumber 2 = .ok (.ldc 244, 2) := by decide +kernel
theorem dX8_isRowNumber_4 : decode cX8_isRowNumber 4 = .ok (.invokestatic 39, 3) := by decide +kernel
theorem dX8_isRowNumber_7 : decode cX8_isRowNumber 7 = .ok (.ireturn, 1) := by decide +kernel
set_option maxRecDepth 20000 in
theorem ggX8_areBooth_X8_within : GoodIn wsX8_areBooth wsX8_within := goodIn_r _ [4] (by decide +kernel) (by decide +kernel)
set_option maxRecDepth 20000 in
theorem gX8_areBooth_X8_within : GoodIn wsX8_areBooth (va_wsS RX8 39 yX8_within wsX8_within) := goodIn_app (goodIn_of _ (by decide +kernel)) ggX8_areBooth_X8_within
theorem dX8_areBooth_0 : decode cX8_areBooth 0 = .ok (.iload_n 0, 1) := by decide +kernel
theorem dX8_areBooth_1 : decode cX8_areBooth 1 = .ok (.iconst 1, 1) := by decide +kernel
theorem dX8_areBooth_2 : decode cX8_areBooth 2 = .ok (.bipush 40, 2) := by decide +kernel
theorem dX8_areBooth_4 : decode cX8_areBooth 4 = .ok (.invokestatic 39, 3) := by decide +kernel
theorem dX8_areBooth_7 : decode cX8_areBooth 7 = .ok (.ifCond .eq 16, 3) := by decide +kernel
theorem dX8_areBooth_10 : decode cX8_areBooth 10 = .ok (.iload_n 1, 1) := by decide +kernel
theorem dX8_areBooth_11 : decode cX8_areBooth 11 = .ok (.iconst 0, 1) := by decide +kernel
theorem dX8_areBooth_12 : decode cX8_areBooth 12 = .ok (.iload_n 0, 1) := by decide +kernel
theorem dX8_areBooth_13 : decode cX8_areBooth 13 = .ok (.invokestatic 39, 3) := by decide +kernel
theorem dX8_areBooth_16 : decode cX8_areBooth 16 = .ok (.ifCond .eq 7, 3) := by decide +kernel
theorem dX8_areBooth_19 : decode cX8_areBooth 19 = .ok (.iconst 1, 1) := by decide +kernel
theorem dX8_areBooth_20 : decode cX8_areBooth 20 = .ok (.goto 4, 3) := by decide +kernel
theorem dX8_areBooth_23 : decode cX8_areBooth 23 = .ok (.iconst 0, 1) := by decide +kernel
theorem dX8_areBooth_24 : decode cX8_areBooth 24 = .ok (.ireturn, 1) := by decide +kernel
set_option maxRecDepth 20000 in
theorem ggX8_areSums_X8_within : GoodIn wsX8_areSums wsX8_within := goodIn_r _ [4] (by decide +kernel) (by decide +kernel)
set_option maxRecDepth 20000 in
theorem gX8_areSums_X8_within : GoodIn wsX8_areSums (va_wsS RX8 39 yX8_within wsX8_within) := goodIn_app (goodIn_of _ (by decide +kernel)) ggX8_areSums_X8_within
theorem dX8_areSums_0 : decode cX8_areSums 0 = .ok (.iload_n 0, 1) := by decide +kernel
theorem dX8_areSums_1 : decode cX8_areSums 1 = .ok (.iconst 0, 1) := by decide +kernel
theorem dX8_areSums_2 : decode cX8_areSums 2 = .ok (.bipush 8, 2) := by decide +kernel
theorem dX8_areSums_4 : decode cX8_areSums 4 = .ok (.invokestatic 39, 3) := by decide +kernel
theorem dX8_areSums_7 : decode cX8_areSums 7 = .ok (.ifCond .eq 41, 3) := by decide +kernel
theorem dX8_areSums_10 : decode cX8_areSums 10 = .ok (.iload_n 1, 1) := by decide +kernel
theorem dX8_areSums_11 : decode cX8_areSums 11 = .ok (.iconst 0, 1) := by decide +kernel
theorem dX8_areSums_12 : decode cX8_areSums 12 = .ok (.bipush 8, 2) := by decide +kernel
theorem dX8_areSums_14 : decode cX8_areSums 14 = .ok (.invokestatic 39, 3) := by decide +kernel
theorem dX8_areSums_17 : decode cX8_areSums 17 = .ok (.ifCond .eq 31, 3) := by decide +kernel
theorem dX8_areSums_20 : decode cX8_areSums 20 = .ok (.iload_n 2, 1) := by decide +kernel
theorem dX8_areSums_21 : decode cX8_areSums 21 = .ok (.iconst 0, 1) := by decide +kernel
theorem dX8_areSums_22 : decode cX8_areSums 22 = .ok (.bipush 8, 2) := by decide +kernel
theorem dX8_areSums_24 : decode cX8_areSums 24 = .ok (.invokestatic 39, 3) := by decide +kernel
theorem dX8_areSums_27 : decode cX8_areSums 27 = .ok (.ifCond .eq 21, 3) := by decide +kernel
theorem dX8_areSums_30 : decode cX8_areSums 30 = .ok (.iload_n 0, 1) := by decide +kernel
theorem dX8_areSums_31 : decode cX8_areSums 31 = .ok (.iload_n 1, 1) := by decide +kernel
theorem dX8_areSums_32 : decode cX8_areSums 32 = .ok (.iadd, 1) := by decide +kernel
theorem dX8_areSums_33 : decode cX8_areSums 33 = .ok (.iload_n 2, 1) := by decide +kernel
theorem dX8_areSums_34 : decode cX8_areSums 34 = .ok (.iadd, 1) := by decide +kernel
theorem dX8_areSums_35 : decode cX8_areSums 35 = .ok (.iconst 1, 1) := by decide +kernel
theorem dX8_areSums_36 : decode cX8_areSums 36 = .ok (.bipush 8, 2) := by decide +kernel
theorem dX8_areSums_38 : decode cX8_areSums 38 = .ok (.invokestatic 39, 3) := by decide +kernel
theorem dX8_areSums_41 : decode cX8_areSums 41 = .ok (.ifCond .eq 7, 3) := by decide +kernel
theorem dX8_areSums_44 : decode cX8_areSums 44 = .ok (.iconst 1, 1) := by decide +kernel
theorem dX8_areSums_45 : decode cX8_areSums 45 = .ok (.goto 4, 3) := by decide +kernel
theorem dX8_areSums_48 : decode cX8_areSums 48 = .ok (.iconst 0, 1) := by decide +kernel
theorem dX8_areSums_49 : decode cX8_areSums 49 = .ok (.ireturn, 1) := by decide +kernel
set_option maxRecDepth 20000 in
theorem ggX8_areKnown_X8_within : GoodIn wsX8_areKnown wsX8_within := goodIn_r _ [4] (by decide +kernel) (by decide +kernel)
set_option maxRecDepth 20000 in
theorem gX8_areKnown_X8_within : GoodIn wsX8_areKnown (va_wsS RX8 39 yX8_within wsX8_within) := goodIn_app (goodIn_of _ (by decide +kernel)) ggX8_areKnown_X8_within
theorem dX8_areKnown_0 : decode cX8_areKnown 0 = .ok (.iload_n 3, 1) := by decide +kernel
theorem dX8_areKnown_1 : decode cX8_areKnown 1 = .ok (.iconst 0, 1) := by decide +kernel
theorem dX8_areKnown_2 : decode cX8_areKnown 2 = .ok (.iload_n 0, 1) := by decide +kernel
theorem dX8_areKnown_3 : decode cX8_areKnown 3 = .ok (.invokestatic 39, 3) := by decide +kernel
theorem dX8_areKnown_6 : decode cX8_areKnown 6 = .ok (.ifCond .eq 27, 3) := by decide +kernel
theorem dX8_areKnown_9 : decode cX8_areKnown 9 = .ok (.iload 4, 2) := by decide +kernel
theorem dX8_areKnown_11 : decode cX8_areKnown 11 = .ok (.iconst 0, 1) := by decide +kernel
theorem dX8_areKnown_12 : decode cX8_areKnown 12 = .ok (.iload_n 1, 1) := by decide +kernel
theorem dX8_areKnown_13 : decode cX8_areKnown 13 = .ok (.invokestatic 39, 3) := by decide +kernel
theorem dX8_areKnown_16 : decode cX8_areKnown 16 = .ok (.ifCond .eq 17, 3) := by decide +kernel
theorem dX8_areKnown_19 : decode cX8_areKnown 19 = .ok (.iload 5, 2) := by decide +kernel
theorem dX8_areKnown_21 : decode cX8_areKnown 21 = .ok (.iconst 0, 1) := by decide +kernel
theorem dX8_areKnown_22 : decode cX8_areKnown 22 = .ok (.iload_n 2, 1) := by decide +kernel
theorem dX8_areKnown_23 : decode cX8_areKnown 23 = .ok (.invokestatic 39, 3) := by decide +kernel
theorem dX8_areKnown_26 : decode cX8_areKnown 26 = .ok (.ifCond .eq 7, 3) := by decide +kernel
theorem dX8_areKnown_29 : decode cX8_areKnown 29 = .ok (.iconst 1, 1) := by decide +kernel
theorem dX8_areKnown_30 : decode cX8_areKnown 30 = .ok (.goto 4, 3) := by decide +kernel
theorem dX8_areKnown_33 : decode cX8_areKnown 33 = .ok (.iconst 0, 1) := by decide +kernel
theorem dX8_areKnown_34 : decode cX8_areKnown 34 = .ok (.ireturn, 1) := by decide +kernel
end
section
theorem dX9_init_0 : decode cX9_init 0 = .ok (.aload_n 0, 1) := by decide +kernel
theorem dX9_init_1 : decode cX9_init 1 = .ok (.invokespecial 1, 3) := by decide +kernel
theorem dX9_init_4 : decode cX9_init 4 = .ok (.aload_n 0, 1) := by decide +kernel
theorem dX9_init_5 : decode cX9_init 5 = .ok (.iconst 1, 1) := by decide +kernel
theorem dX9_init_6 : decode cX9_init 6 = .ok (.putfield 7, 3) := by decide +kernel
theorem dX9_init_9 : decode cX9_init 9 = .ok (.aload_n 0, 1) := by decide +kernel
theorem dX9_init_10 : decode cX9_init 10 = .ok (.iconst 3, 1) := by decide +kernel
theorem dX9_init_11 : decode cX9_init 11 = .ok (.newarray .int, 2) := by decide +kernel
theorem dX9_init_13 : decode cX9_init 13 = .ok (.putfield 13, 3) := by decide +kernel
theorem dX9_init_16 : decode cX9_init 16 = .ok (.aload_n 0, 1) := by decide +kernel
theorem dX9_init_17 : decode cX9_init 17 = .ok (.bipush 36, 2) := by decide +kernel
theorem dX9_init_19 : decode cX9_init 19 = .ok (.newarray .int, 2) := by decide +kernel
theorem dX9_init_21 : decode cX9_init 21 = .ok (.putfield 17, 3) := by decide +kernel
theorem dX9_init_24 : decode cX9_init 24 = .ok (.aload_n 0, 1) := by decide +kernel
theorem dX9_init_25 : decode cX9_init 25 = .ok (.bipush 40, 2) := by decide +kernel
theorem dX9_init_27 : decode cX9_init 27 = .ok (.newarray .int, 2) := by decide +kernel
theorem dX9_init_29 : decode cX9_init 29 = .ok (.putfield 20, 3) := by decide +kernel
theorem dX9_init_32 : decode cX9_init 32 = .ok (.aload_n 0, 1) := by decide +kernel
theorem dX9_init_33 : decode cX9_init 33 = .ok (.bipush 40, 2) := by decide +kernel
theorem dX9_init_35 : decode cX9_init 35 = .ok (.newarray .int, 2) := by decide +kernel
theorem dX9_init_37 : decode cX9_init 37 = .ok (.putfield 23, 3) := by decide +kernel
theorem dX9_init_40 : decode cX9_init 40 = .ok (.aload_n 0, 1) := by decide +kernel
theorem dX9_init_41 : decode cX9_init 41 = .ok (.bipush 100, 2) := by decide +kernel
theorem dX9_init_43 : decode cX9_init 43 = .ok (.putfield 26, 3) := by decide +kernel
theorem dX9_init_46 : decode cX9_init 46 = .ok (.aload_n 0, 1) := by decide +kernel
theorem dX9_init_47 : decode cX9_init 47 = .ok (.bipush 30, 2) := by decide +kernel
theorem dX9_init_49 : decode cX9_init 49 = .ok (.newarray .int, 2) := by decide +kernel
theorem dX9_init_51 : decode cX9_init 51 = .ok (.putfield 29, 3) := by decide +kernel
theorem dX9_init_54 : decode cX9_init 54 = .ok (.aload_n 0, 1) := by decide +kernel
theorem dX9_init_55 : decode cX9_init 55 = .ok (.bipush 30, 2) := by decide +kernel
theorem dX9_init_57 : decode cX9_init 57 = .ok (.newarray .int, 2) := by decide +kernel
theorem dX9_init_59 : decode cX9_init 59 = .ok (.putfield 32, 3) := by decide +kernel
theorem dX9_init_62 : decode cX9_init 62 = .ok (.aload_n 0, 1) := by decide +kernel
theorem dX9_init_63 : decode cX9_init 63 = .ok (.bipush 30, 2) := by decide +kernel
theorem dX9_init_65 : decode cX9_init 65 = .ok (.newarray .int, 2) := by decide +kernel
theorem dX9_init_67 : decode cX9_init 67 = .ok (.putfield 35, 3) := by decide +kernel
theorem dX9_init_70 : decode cX9_init 70 = .ok (.aload_n 0, 1) := by decide +kernel
theorem dX9_init_71 : decode cX9_init 71 = .ok (.bipush 30, 2) := by decide +kernel
theorem dX9_init_73 : decode cX9_init 73 = .ok (.newarray .int, 2) := by decide +kernel
theorem dX9_init_75 : decode cX9_init 75 = .ok (.putfield 38, 3) := by decide +kernel
theorem dX9_init_78 : decode cX9_init 78 = .ok (.aload_n 0, 1) := by decide +kernel
theorem dX9_init_79 : decode cX9_init 79 = .ok (.bipush 30, 2) := by decide +kernel
theorem dX9_init_81 : decode cX9_init 81 = .ok (.newarray .boolean, 2) := by decide +kernel
theorem dX9_init_83 : decode cX9_init 83 = .ok (.putfield 41, 3) := by decide +kernel
theorem dX9_init_86 : decode cX9_init 86 = .ok (.aload_n 0, 1) := by decide +kernel
theorem dX9_init_87 : decode cX9_init 87 = .ok (.bipush 120, 2) := by decide +kernel
theorem dX9_init_89 : decode cX9_init 89 = .ok (.newarray .int, 2) := by decide +kernel
theorem dX9_init_91 : decode cX9_init 91 = .ok (.putfield 45, 3) := by decide +kernel
theorem dX9_init_94 : decode cX9_init 94 = .ok (.aload_n 0, 1) := by decide +kernel
theorem dX9_init_95 : decode cX9_init 95 = .ok (.bipush 30, 2) := by decide +kernel
theorem dX9_init_97 : decode cX9_init 97 = .ok (.newarray .int, 2) := by decide +kernel
theorem dX9_init_99 : decode cX9_init 99 = .ok (.putfield 48, 3) := by decide +kernel
theorem dX9_init_102 : decode cX9_init 102 = .ok (.aload_n 0, 1) := by decide +kernel
theorem dX9_init_103 : decode cX9_init 103 = .ok (.getfield 13, 3) := by decide +kernel
theorem dX9_init_106 : decode cX9_init 106 = .ok (.iconst 0, 1) := by decide +kernel
theorem dX9_init_107 : decode cX9_init 107 = .ok (.iconst 1, 1) := by decide +kernel
theorem dX9_init_108 : decode cX9_init 108 = .ok (.iastore, 1) := by decide +kernel
theorem dX9_init_109 : decode cX9_init 109 = .ok (.iconst 0, 1) := by decide +kernel
theorem dX9_init_110 : decode cX9_init 110 = .ok (.istore_n 1, 1) := by decide +kernel
theorem dX9_init_111 : decode cX9_init 111 = .ok (.iload_n 1, 1) := by decide +kernel
theorem dX9_init_112 : decode cX9_init 112 = .ok (.bipush 12, 2) := by decide +kernel
theorem dX9_init_114 : decode cX9_init 114 = .ok (.if_icmp .ge 31, 3) := by decide +kernel
theorem dX9_init_117 : decode cX9_init 117 = .ok (.aload_n 0, 1) := by decide +kernel
theorem dX9_init_118 : decode cX9_init 118 = .ok (.getfield 17, 3) := by decide +kernel
theorem dX9_init_121 : decode cX9_init 121 = .ok (.iconst 3, 1) := by decide +kernel
theorem dX9_init_122 : decode cX9_init 122 = .ok (.iload_n 1, 1) := by decide +kernel
theorem dX9_init_123 : decode cX9_init 123 = .ok (.imul, 1) := by decide +kernel
theorem dX9_init_124 : decode cX9_init 124 = .ok (.bipush 30, 2) := by decide +kernel
theorem dX9_init_126 : decode cX9_init 126 = .ok (.iastore, 1) := by decide +kernel
theorem dX9_init_127 : decode cX9_init 127 = .ok (.aload_n 0, 1) := by decide +kernel
theorem dX9_init_128 : decode cX9_init 128 = .ok (.getfield 17, 3) := by decide +kernel
theorem dX9_init_131 : decode cX9_init 131 = .ok (.iconst 3, 1) := by decide +kernel
theorem dX9_init_132 : decode cX9_init 132 = .ok (.iload_n 1, 1) := by decide +kernel
theorem dX9_init_133 : decode cX9_init 133 = .ok (.imul, 1) := by decide +kernel
theorem dX9_init_134 : decode cX9_init 134 = .ok (.iconst 1, 1) := by decide +kernel
theorem dX9_init_135 : decode cX9_init 135 = .ok (.iadd, 1) := by decide +kernel
theorem dX9_init_136 : decode cX9_init 136 = .ok (.bipush 10, 2) := by decide +kernel
theorem dX9_init_138 : decode cX9_init 138 = .ok (.iastore, 1) := by decide +kernel
theorem dX9_init_139 : decode cX9_init 139 = .ok (.iinc 1 1, 3) := by decide +kernel
theorem dX9_init_142 : decode cX9_init 142 = .ok (.goto (-31), 3) := by decide +kernel
theorem dX9_init_145 : decode cX9_init 145 = .ok (.return_, 1) := by decide +kernel
theorem dX9_in_0 : decode cX9_in 0 = .ok (.iload_n 0, 1) := by decide +kernel
theorem dX9_in_1 : decode cX9_in 1 = .ok (.iload_n 1, 1) := by decide +kernel
theorem dX9_in_2 : decode cX9_in 2 = .ok (.if_icmp .lt 12, 3) := by decide +kernel
theorem dX9_in_5 : decode cX9_in 5 = .ok (.iload_n 0, 1) := by decide +kernel
theorem dX9_in_6 : decode cX9_in 6 = .ok (.iload_n 2, 1) := by decide +kernel
theorem dX9_in_7 : decode cX9_in 7 = .ok (.if_icmp .gt 7, 3) := by decide +kernel
theorem dX9_in_10 : decode cX9_in 10 = .ok (.iconst 1, 1) := by decide +kernel
theorem dX9_in_11 : decode cX9_in 11 = .ok (.goto 4, 3) := by decide +kernel
theorem dX9_in_14 : decode cX9_in 14 = .ok (.iconst 0, 1) := by decide +kernel
theorem dX9_in_15 : decode cX9_in 15 = .ok (.ireturn, 1) := by decide +kernel
set_option maxRecDepth 20000 in
theorem ggX9_isPower_X9_in : GoodIn wsX9_isPower wsX9_in := goodIn_r _ [4] (by decide +kernel) (by decide +kernel)
set_option maxRecDepth 20000 in
theorem gX9_isPower_X9_in : GoodIn wsX9_isPower (va_wsS RX9 51 yX9_in wsX9_in) := goodIn_app (goodIn_of _ (by decide +kernel)) ggX9_isPower_X9_in
theorem dX9_isPower_0 : decode cX9_isPower 0 = .ok (.iload_n 0, 1) := by decide +kernel
theorem dX9_isPower_1 : decode cX9_isPower 1 = .ok (.iconst 0, 1) := by decide +kernel
theorem dX9_isPower_2 : decode cX9_isPower 2 = .ok (.sipush 5002, 3) := by decide +kernel
theorem dX9_isPower_5 : decode cX9_isPower 5 = .ok (.invokestatic 51, 3) := by decide +kernel
theorem dX9_isPower_8 : decode cX9_isPower 8 = .ok (.ireturn, 1) := by decide +kernel
set_option maxRecDepth 20000 in
theorem ggX9_isNumber_X9_in : GoodIn wsX9_isNumber wsX9_in := goodIn_r _ [4] (by decide +kernel) (by decide +kernel)
set_option maxRecDepth 20000 in
theorem gX9_isNumber_X9_in : GoodIn wsX9_isNumber (va_wsS RX9 51 yX9_in wsX9_in) := goodIn_app (goodIn_of _ (by decide +kernel)) ggX9_isNumber_X9_in
theorem dX9_isNumber_0 : decode cX9_isNumber 0 = .ok (.iload_n 0, 1) := by decide +kernel
theorem dX9_isNumber_1 : decode cX9_isNumber 1 = .ok (.iconst 1, 1) := by decide +kernel
theorem dX9_isNumber_2 : decode cX9_isNumber 2 = .ok (.sipush 10006, 3) := by decide +kernel
theorem dX9_isNumber_5 : decode cX9_isNumber 5 = .ok (.invokestatic 51, 3) := by decide +kernel
theorem dX9_isNumber_8 : decode cX9_isNumber 8 = .ok (.ireturn, 1) := by decide +kernel
theorem dX9_times_0 : decode cX9_times 0 = .ok (.iload_n 0, 1) := by decide +kernel
theorem dX9_times_1 : decode cX9_times 1 = .ok (.i2l, 1) := by decide +kernel
theorem dX9_times_2 : decode cX9_times 2 = .ok (.iload_n 1, 1) := by decide +kernel
theorem dX9_times_3 : decode cX9_times 3 = .ok (.i2l, 1) := by decide +kernel
theorem dX9_times_4 : decode cX9_times 4 = .ok (.lmul, 1) := by decide +kernel
theorem dX9_times_5 : decode cX9_times 5 = .ok (.ldc2_w 55, 3) := by decide +kernel
theorem dX9_times_8 : decode cX9_times 8 = .ok (.lrem, 1) := by decide +kernel
theorem dX9_times_9 : decode cX9_times 9 = .ok (.l2i, 1) := by decide +kernel
theorem dX9_times_10 : decode cX9_times 10 = .ok (.ireturn, 1) := by decide +kernel
theorem dX9_raise_0 : decode cX9_raise 0 = .ok (.lconst 1, 1) := by decide +kernel
theorem dX9_raise_1 : decode cX9_raise 1 = .ok (.lstore 4, 2) := by decide +kernel
theorem dX9_raise_3 : decode cX9_raise 3 = .ok (.lload_n 0, 1) := by decide +kernel
theorem dX9_raise_4 : decode cX9_raise 4 = .ok (.iload_n 3, 1) := by decide +kernel
theorem dX9_raise_5 : decode cX9_raise 5 = .ok (.i2l, 1) := by decide +kernel
theorem dX9_raise_6 : decode cX9_raise 6 = .ok (.lrem, 1) := by decide +kernel
theorem dX9_raise_7 : decode cX9_raise 7 = .ok (.lstore 6, 2) := by decide +kernel
theorem dX9_raise_9 : decode cX9_raise 9 = .ok (.iload_n 2, 1) := by decide +kernel
theorem dX9_raise_10 : decode cX9_raise 10 = .ok (.istore 8, 2) := by decide +kernel
theorem dX9_raise_12 : decode cX9_raise 12 = .ok (.iload 8, 2) := by decide +kernel
theorem dX9_raise_14 : decode cX9_raise 14 = .ok (.ifCond .le 45, 3) := by decide +kernel
theorem dX9_raise_17 : decode cX9_raise 17 = .ok (.iload 8, 2) := by decide +kernel
theorem dX9_raise_19 : decode cX9_raise 19 = .ok (.iconst 2, 1) := by decide +kernel
theorem dX9_raise_20 : decode cX9_raise 20 = .ok (.irem, 1) := by decide +kernel
theorem dX9_raise_21 : decode cX9_raise 21 = .ok (.iconst 1, 1) := by decide +kernel
theorem dX9_raise_22 : decode cX9_raise 22 = .ok (.if_icmp .ne 14, 3) := by decide +kernel
theorem dX9_raise_25 : decode cX9_raise 25 = .ok (.lload 4, 2) := by decide +kernel
theorem dX9_raise_27 : decode cX9_raise 27 = .ok (.lload 6, 2) := by decide +kernel
theorem dX9_raise_29 : decode cX9_raise 29 = .ok (.lmul, 1) := by decide +kernel
theorem dX9_raise_30 : decode cX9_raise 30 = .ok (.iload_n 3, 1) := by decide +kernel
theorem dX9_raise_31 : decode cX9_raise 31 = .ok (.i2l, 1) := by decide +kernel
theorem dX9_raise_32 : decode cX9_raise 32 = .ok (.lrem, 1) := by decide +kernel
theorem dX9_raise_33 : decode cX9_raise 33 = .ok (.goto 5, 3) := by decide +kernel
theorem dX9_raise_36 : decode cX9_raise 36 = .ok (.lload 4, 2) := by decide +kernel
theorem dX9_raise_38 : decode cX9_raise 38 = .ok (.lstore 4, 2) := by decide +kernel
theorem dX9_raise_40 : decode cX9_raise 40 = .ok (.lload 6, 2) := by decide +kernel
theorem dX9_raise_42 : decode cX9_raise 42 = .ok (.lload 6, 2) := by decide +kernel
theorem dX9_raise_44 : decode cX9_raise 44 = .ok (.lmul, 1) := by decide +kernel
theorem dX9_raise_45 : decode cX9_raise 45 = .ok (.iload_n 3, 1) := by decide +kernel
theorem dX9_raise_46 : decode cX9_raise 46 = .ok (.i2l, 1) := by decide +kernel
theorem dX9_raise_47 : decode cX9_raise 47 = .ok (.lrem, 1) := by decide +kernel
theorem dX9_raise_48 : decode cX9_raise 48 = .ok (.lstore 6, 2) := by decide +kernel
theorem dX9_raise_50 : decode cX9_raise 50 = .ok (.iload 8, 2) := by decide +kernel
theorem dX9_raise_52 : decode cX9_raise 52 = .ok (.iconst 2, 1) := by decide +kernel
theorem dX9_raise_53 : decode cX9_raise 53 = .ok (.idiv, 1) := by decide +kernel
theorem dX9_raise_54 : decode cX9_raise 54 = .ok (.istore 8, 2) := by decide +kernel
theorem dX9_raise_56 : decode cX9_raise 56 = .ok (.goto (-44), 3) := by decide +kernel
theorem dX9_raise_59 : decode cX9_raise 59 = .ok (.lload 4, 2) := by decide +kernel
theorem dX9_raise_61 : decode cX9_raise 61 = .ok (.lreturn, 1) := by decide +kernel
set_option maxRecDepth 20000 in
theorem ggX9_power_X9_raise : GoodIn wsX9_power wsX9_raise := goodIn_r _ [4] (by decide +kernel) (by decide +kernel)
set_option maxRecDepth 20000 in
theorem gX9_power_X9_raise : GoodIn wsX9_power (va_wsS RX9 57 yX9_raise wsX9_raise) := goodIn_app (goodIn_of _ (by decide +kernel)) ggX9_power_X9_raise
theorem dX9_power_0 : decode cX9_power 0 = .ok (.iload_n 0, 1) := by decide +kernel
theorem dX9_power_1 : decode cX9_power 1 = .ok (.i2l, 1) := by decide +kernel
theorem dX9_power_2 : decode cX9_power 2 = .ok (.iload_n 1, 1) := by decide +kernel
theorem dX9_power_3 : decode cX9_power 3 = .ok (.sipush 10007, 3) := by decide +kernel
theorem dX9_power_6 : decode cX9_power 6 = .ok (.invokestatic 57, 3) := by decide +kernel
theorem dX9_power_9 : decode cX9_power 9 = .ok (.l2i, 1) := by decide +kernel
theorem dX9_power_10 : decode cX9_power 10 = .ok (.ireturn, 1) := by decide +kernel
set_option maxRecDepth 20000 in
theorem ggX9_by_X9_power : GoodIn wsX9_by wsX9_power := goodIn_r _ [4, 5, 6, 3, 7] (by decide +kernel) (by decide +kernel)
set_option maxRecDepth 20000 in
theorem gX9_by_X9_power : GoodIn wsX9_by (va_wsS RX9 61 yX9_power wsX9_power) := goodIn_app (goodIn_of _ (by decide +kernel)) ggX9_by_X9_power
set_option maxRecDepth 20000 in
theorem ggX9_by_X9_times : GoodIn wsX9_by wsX9_times := goodIn_r _ [10, 11] (by decide +kernel) (by decide +kernel)
set_option maxRecDepth 20000 in
theorem gX9_by_X9_times : GoodIn wsX9_by (va_wsS RX9 65 yX9_times wsX9_times) := goodIn_app (goodIn_of _ (by decide +kernel)) ggX9_by_X9_times
theorem dX9_by_0 : decode cX9_by 0 = .ok (.iload_n 0, 1) := by decide +kernel
theorem dX9_by_1 : decode cX9_by 1 = .ok (.iload_n 1, 1) := by decide +kernel
theorem dX9_by_2 : decode cX9_by 2 = .ok (.sipush 10005, 3) := by decide +kernel
theorem dX9_by_5 : decode cX9_by 5 = .ok (.invokestatic 61, 3) := by decide +kernel
theorem dX9_by_8 : decode cX9_by 8 = .ok (.invokestatic 65, 3) := by decide +kernel
theorem dX9_by_11 : decode cX9_by 11 = .ok (.ireturn, 1) := by decide +kernel
theorem dX9_partOf_0 : decode cX9_partOf 0 = .ok (.aload_n 0, 1) := by decide +kernel
theorem dX9_partOf_1 : decode cX9_partOf 1 = .ok (.getfield 13, 3) := by decide +kernel
theorem dX9_partOf_4 : decode cX9_partOf 4 = .ok (.iconst 0, 1) := by decide +kernel
theorem dX9_partOf_5 : decode cX9_partOf 5 = .ok (.iaload, 1) := by decide +kernel
theorem dX9_partOf_6 : decode cX9_partOf 6 = .ok (.aload_n 0, 1) := by decide +kernel
theorem dX9_partOf_7 : decode cX9_partOf 7 = .ok (.getfield 13, 3) := by decide +kernel
theorem dX9_partOf_10 : decode cX9_partOf 10 = .ok (.iconst 1, 1) := by decide +kernel
theorem dX9_partOf_11 : decode cX9_partOf 11 = .ok (.iaload, 1) := by decide +kernel
theorem dX9_partOf_12 : decode cX9_partOf 12 = .ok (.iload_n 1, 1) := by decide +kernel
theorem dX9_partOf_13 : decode cX9_partOf 13 = .ok (.imul, 1) := by decide +kernel
theorem dX9_partOf_14 : decode cX9_partOf 14 = .ok (.iadd, 1) := by decide +kernel
theorem dX9_partOf_15 : decode cX9_partOf 15 = .ok (.aload_n 0, 1) := by decide +kernel
theorem dX9_partOf_16 : decode cX9_partOf 16 = .ok (.getfield 13, 3) := by decide +kernel
theorem dX9_partOf_19 : decode cX9_partOf 19 = .ok (.iconst 2, 1) := by decide +kernel
theorem dX9_partOf_20 : decode cX9_partOf 20 = .ok (.iaload, 1) := by decide +kernel
theorem dX9_partOf_21 : decode cX9_partOf 21 = .ok (.iload_n 1, 1) := by decide +kernel
theorem dX9_partOf_22 : decode cX9_partOf 22 = .ok (.imul, 1) := by decide +kernel
theorem dX9_partOf_23 : decode cX9_partOf 23 = .ok (.iload_n 1, 1) := by decide +kernel
theorem dX9_partOf_24 : decode cX9_partOf 24 = .ok (.imul, 1) := by decide +kernel
theorem dX9_partOf_25 : decode cX9_partOf 25 = .ok (.iadd, 1) := by decide +kernel
theorem dX9_partOf_26 : decode cX9_partOf 26 = .ok (.sipush 5003, 3) := by decide +kernel
theorem dX9_partOf_29 : decode cX9_partOf 29 = .ok (.irem, 1) := by decide +kernel
theorem dX9_partOf_30 : decode cX9_partOf 30 = .ok (.ireturn, 1) := by decide +kernel
set_option maxRecDepth 20000 in
theorem ggX9_h_X9_power : GoodIn wsX9_h wsX9_power := goodIn_r _ [5, 6, 7, 4, 8] (by decide +kernel) (by decide +kernel)
set_option maxRecDepth 20000 in
theorem gX9_h_X9_power : GoodIn wsX9_h (va_wsS RX9 61 yX9_power wsX9_power) := goodIn_app (goodIn_of _ (by decide +kernel)) ggX9_h_X9_power
theorem dX9_h_0 : decode cX9_h 0 = .ok (.iconst 4, 1) := by decide +kernel
theorem dX9_h_1 : decode cX9_h 1 = .ok (.aload_n 0, 1) := by decide +kernel
theorem dX9_h_2 : decode cX9_h 2 = .ok (.getfield 13, 3) := by decide +kernel
theorem dX9_h_5 : decode cX9_h 5 = .ok (.iconst 0, 1) := by decide +kernel
theorem dX9_h_6 : decode cX9_h 6 = .ok (.iaload, 1) := by decide +kernel
theorem dX9_h_7 : decode cX9_h 7 = .ok (.invokestatic 61, 3) := by decide +kernel
theorem dX9_h_10 : decode cX9_h 10 = .ok (.ireturn, 1) := by decide +kernel
set_option maxRecDepth 20000 in
theorem ggX9_key_X9_in : GoodIn wsX9_key wsX9_in := goodIn_r _ [7] (by decide +kernel) (by decide +kernel)
set_option maxRecDepth 20000 in
theorem gX9_key_X9_in : GoodIn wsX9_key (va_wsS RX9 51 yX9_in wsX9_in) := goodIn_app (goodIn_of _ (by decide +kernel)) ggX9_key_X9_in
set_option maxRecDepth 20000 in
theorem ggX9_key_X9_isPower : GoodIn wsX9_key wsX9_isPower := goodIn_r _ [10, 4, 5, 6, 7] (by decide +kernel) (by decide +kernel)
set_option maxRecDepth 20000 in
theorem gX9_key_X9_isPower : GoodIn wsX9_key (va_wsS RX9 68 yX9_isPower wsX9_isPower) := goodIn_app (goodIn_of _ (by decide +kernel)) ggX9_key_X9_isPower
set_option maxRecDepth 20000 in
theorem ggX9_key_X9_h : GoodIn wsX9_key wsX9_h := goodIn_r _ [14, 3, 15, 16, 6, 17, 18, 19, 20, 21, 22, 23, 24, 25, 26, 27, 28, 29, 30, 31, 32, 33, 34, 35, 36, 37, 38] (by decide +kernel) (by decide +kernel)
set_option maxRecDepth 20000 in
theorem gX9_key_X9_h : GoodIn wsX9_key (wsV RX9 75 RX9 yX9_h wsX9_h) := goodIn_app (goodIn_of _ (by decide +kernel)) ggX9_key_X9_h
theorem dX9_key_0 : decode cX9_key 0 = .ok (.iload_n 1, 1) := by decide +kernel
theorem dX9_key_1 : decode cX9_key 1 = .ok (.iconst 1, 1) := by decide +kernel
theorem dX9_key_2 : decode cX9_key 2 = .ok (.iconst 3, 1) := by decide +kernel
theorem dX9_key_3 : decode cX9_key 3 = .ok (.invokestatic 51, 3) := by decide +kernel
theorem dX9_key_6 : decode cX9_key 6 = .ok (.ifCond .eq 25, 3) := by decide +kernel
theorem dX9_key_9 : decode cX9_key 9 = .ok (.iload_n 2, 1) := by decide +kernel
theorem dX9_key_10 : decode cX9_key 10 = .ok (.invokestatic 68, 3) := by decide +kernel
theorem dX9_key_13 : decode cX9_key 13 = .ok (.ifCond .eq 18, 3) := by decide +kernel
theorem dX9_key_16 : decode cX9_key 16 = .ok (.iload_n 3, 1) := by decide +kernel
theorem dX9_key_17 : decode cX9_key 17 = .ok (.invokestatic 68, 3) := by decide +kernel
theorem dX9_key_20 : decode cX9_key 20 = .ok (.ifCond .eq 11, 3) := by decide +kernel
theorem dX9_key_23 : decode cX9_key 23 = .ok (.iload 4, 2) := by decide +kernel
theorem dX9_key_25 : decode cX9_key 25 = .ok (.invokestatic 68, 3) := by decide +kernel
theorem dX9_key_28 : decode cX9_key 28 = .ok (.ifCond .ne 6, 3) := by decide +kernel
theorem dX9_key_31 : decode cX9_key 31 = .ok (.bipush (-2), 2) := by decide +kernel
theorem dX9_key_33 : decode cX9_key 33 = .ok (.ireturn, 1) := by decide +kernel
theorem dX9_key_34 : decode cX9_key 34 = .ok (.aload_n 0, 1) := by decide +kernel
theorem dX9_key_35 : decode cX9_key 35 = .ok (.getfield 72, 3) := by decide +kernel
theorem dX9_key_38 : decode cX9_key 38 = .ok (.ifCond .le 6, 3) := by decide +kernel
theorem dX9_key_41 : decode cX9_key 41 = .ok (.bipush (-3), 2) := by decide +kernel
theorem dX9_key_43 : decode cX9_key 43 = .ok (.ireturn, 1) := by decide +kernel
theorem dX9_key_44 : decode cX9_key 44 = .ok (.aload_n 0, 1) := by decide +kernel
theorem dX9_key_45 : decode cX9_key 45 = .ok (.iload_n 1, 1) := by decide +kernel
theorem dX9_key_46 : decode cX9_key 46 = .ok (.putfield 7, 3) := by decide +kernel
theorem dX9_key_49 : decode cX9_key 49 = .ok (.aload_n 0, 1) := by decide +kernel
theorem dX9_key_50 : decode cX9_key 50 = .ok (.getfield 13, 3) := by decide +kernel
theorem dX9_key_53 : decode cX9_key 53 = .ok (.iconst 0, 1) := by decide +kernel
theorem dX9_key_54 : decode cX9_key 54 = .ok (.iload_n 2, 1) := by decide +kernel
theorem dX9_key_55 : decode cX9_key 55 = .ok (.iastore, 1) := by decide +kernel
theorem dX9_key_56 : decode cX9_key 56 = .ok (.aload_n 0, 1) := by decide +kernel
theorem dX9_key_57 : decode cX9_key 57 = .ok (.getfield 13, 3) := by decide +kernel
theorem dX9_key_60 : decode cX9_key 60 = .ok (.iconst 1, 1) := by decide +kernel
theorem dX9_key_61 : decode cX9_key 61 = .ok (.iload_n 1, 1) := by decide +kernel
theorem dX9_key_62 : decode cX9_key 62 = .ok (.iconst 1, 1) := by decide +kernel
theorem dX9_key_63 : decode cX9_key 63 = .ok (.if_icmp .le 7, 3) := by decide +kernel
theorem dX9_key_66 : decode cX9_key 66 = .ok (.iload_n 3, 1) := by decide +kernel
theorem dX9_key_67 : decode cX9_key 67 = .ok (.goto 4, 3) := by decide +kernel
theorem dX9_key_70 : decode cX9_key 70 = .ok (.iconst 0, 1) := by decide +kernel
theorem dX9_key_71 : decode cX9_key 71 = .ok (.iastore, 1) := by decide +kernel
theorem dX9_key_72 : decode cX9_key 72 = .ok (.aload_n 0, 1) := by decide +kernel
theorem dX9_key_73 : decode cX9_key 73 = .ok (.getfield 13, 3) := by decide +kernel
theorem dX9_key_76 : decode cX9_key 76 = .ok (.iconst 2, 1) := by decide +kernel
theorem dX9_key_77 : decode cX9_key 77 = .ok (.iload_n 1, 1) := by decide +kernel
theorem dX9_key_78 : decode cX9_key 78 = .ok (.iconst 2, 1) := by decide +kernel
theorem dX9_key_79 : decode cX9_key 79 = .ok (.if_icmp .le 8, 3) := by decide +kernel
theorem dX9_key_82 : decode cX9_key 82 = .ok (.iload 4, 2) := by decide +kernel
theorem dX9_key_84 : decode cX9_key 84 = .ok (.goto 4, 3) := by decide +kernel
theorem dX9_key_87 : decode cX9_key 87 = .ok (.iconst 0, 1) := by decide +kernel
theorem dX9_key_88 : decode cX9_key 88 = .ok (.iastore, 1) := by decide +kernel
theorem dX9_key_89 : decode cX9_key 89 = .ok (.aload_n 0, 1) := by decide +kernel
theorem dX9_key_90 : decode cX9_key 90 = .ok (.invokevirtual 75, 3) := by decide +kernel
theorem dX9_key_93 : decode cX9_key 93 = .ok (.ireturn, 1) := by decide +kernel
set_option maxRecDepth 20000 in
theorem ggX9_isHolder_X9_in : GoodIn wsX9_isHolder wsX9_in := goodIn_r _ [4] (by decide +kernel) (by decide +kernel)
set_option maxRecDepth 20000 in
theorem gX9_isHolder_X9_in : GoodIn wsX9_isHolder (va_wsS RX9 51 yX9_in wsX9_in) := goodIn_app (goodIn_of _ (by decide +kernel)) ggX9_isHolder_X9_in
theorem dX9_isHolder_0 : decode cX9_isHolder 0 = .ok (.iload_n 0, 1) := by decide +kernel
theorem dX9_isHolder_1 : decode cX9_isHolder 1 = .ok (.iconst 1, 1) := by decide +kernel
theorem dX9_isHolder_2 : decode cX9_isHolder 2 = .ok (.iconst 5, 1) := by decide +kernel
theorem dX9_isHolder_3 : decode cX9_isHolder 3 = .ok (.invokestatic 51, 3) := by decide +kernel
theorem dX9_isHolder_6 : decode cX9_isHolder 6 = .ok (.ireturn, 1) := by decide +kernel
set_option maxRecDepth 20000 in
theorem ggX9_holder_X9_isHolder : GoodIn wsX9_holder wsX9_isHolder := goodIn_r _ [4, 5, 6, 3, 7] (by decide +kernel) (by decide +kernel)
set_option maxRecDepth 20000 in
theorem gX9_holder_X9_isHolder : GoodIn wsX9_holder (va_wsS RX9 79 yX9_isHolder wsX9_isHolder) := goodIn_app (goodIn_of _ (by decide +kernel)) ggX9_holder_X9_isHolder
set_option maxRecDepth 20000 in
theorem ggX9_holder_X9_partOf : GoodIn wsX9_holder wsX9_partOf := goodIn_r _ [11, 12, 19, 20, 21, 22, 23, 24, 25, 26, 27, 28, 29, 30, 31, 32, 33, 34, 35, 36] (by decide +kernel) (by decide +kernel)
set_option maxRecDepth 20000 in
theorem gX9_holder_X9_partOf : GoodIn wsX9_holder (wsV RX9 82 RX9 yX9_partOf wsX9_partOf) := goodIn_app (goodIn_of _ (by decide +kernel)) ggX9_holder_X9_partOf
set_option maxRecDepth 20000 in
theorem ggX9_holder_X9_power : GoodIn wsX9_holder wsX9_power := goodIn_r _ [15, 16, 17, 3, 18] (by decide +kernel) (by decide +kernel)
set_option maxRecDepth 20000 in
theorem gX9_holder_X9_power : GoodIn wsX9_holder (va_wsS RX9 61 yX9_power wsX9_power) := goodIn_app (goodIn_of _ (by decide +kernel)) ggX9_holder_X9_power
theorem dX9_holder_0 : decode cX9_holder 0 = .ok (.iload_n 1, 1) := by decide +kernel
theorem dX9_holder_1 : decode cX9_holder 1 = .ok (.invokestatic 79, 3) := by decide +kernel
theorem dX9_holder_4 : decode cX9_holder 4 = .ok (.ifCond .ne 5, 3) := by decide +kernel
theorem dX9_holder_7 : decode cX9_holder 7 = .ok (.iconst (-1), 1) := by decide +kernel
theorem dX9_holder_8 : decode cX9_holder 8 = .ok (.ireturn, 1) := by decide +kernel
theorem dX9_holder_9 : decode cX9_holder 9 = .ok (.iload_n 2, 1) := by decide +kernel
theorem dX9_holder_10 : decode cX9_holder 10 = .ok (.ifCond .ne 11, 3) := by decide +kernel
theorem dX9_holder_13 : decode cX9_holder 13 = .ok (.aload_n 0, 1) := by decide +kernel
theorem dX9_holder_14 : decode cX9_holder 14 = .ok (.iload_n 1, 1) := by decide +kernel
theorem dX9_holder_15 : decode cX9_holder 15 = .ok (.invokevirtual 82, 3) := by decide +kernel
theorem dX9_holder_18 : decode cX9_holder 18 = .ok (.goto 22, 3) := by decide +kernel
theorem dX9_holder_21 : decode cX9_holder 21 = .ok (.iload_n 2, 1) := by decide +kernel
theorem dX9_holder_22 : decode cX9_holder 22 = .ok (.iconst 1, 1) := by decide +kernel
theorem dX9_holder_23 : decode cX9_holder 23 = .ok (.if_icmp .ne 15, 3) := by decide +kernel
theorem dX9_holder_26 : decode cX9_holder 26 = .ok (.iconst 4, 1) := by decide +kernel
theorem dX9_holder_27 : decode cX9_holder 27 = .ok (.aload_n 0, 1) := by decide +kernel
theorem dX9_holder_28 : decode cX9_holder 28 = .ok (.iload_n 1, 1) := by decide +kernel
theorem dX9_holder_29 : decode cX9_holder 29 = .ok (.invokevirtual 82, 3) := by decide +kernel
theorem dX9_holder_32 : decode cX9_holder 32 = .ok (.invokestatic 61, 3) := by decide +kernel
theorem dX9_holder_35 : decode cX9_holder 35 = .ok (.goto 5, 3) := by decide +kernel
theorem dX9_holder_38 : decode cX9_holder 38 = .ok (.bipush (-2), 2) := by decide +kernel
theorem dX9_holder_40 : decode cX9_holder 40 = .ok (.ireturn, 1) := by decide +kernel
set_option maxRecDepth 20000 in
theorem ggX9_sealOf_X9_power : GoodIn wsX9_sealOf wsX9_power := goodIn_r _ [4, 5, 6, 3, 7] (by decide +kernel) (by decide +kernel)
set_option maxRecDepth 20000 in
theorem gX9_sealOf_X9_power : GoodIn wsX9_sealOf (va_wsS RX9 61 yX9_power wsX9_power) := goodIn_app (goodIn_of _ (by decide +kernel)) ggX9_sealOf_X9_power
set_option maxRecDepth 20000 in
theorem ggX9_sealOf_X9_h : GoodIn wsX9_sealOf wsX9_h := goodIn_r _ [11, 12, 1, 2, 3, 4, 5, 6, 7, 17, 18, 19, 20, 21, 22, 23, 24, 25, 26, 27, 28, 29, 30, 31, 32, 33, 34] (by decide +kernel) (by decide +kernel)
set_option maxRecDepth 20000 in
theorem gX9_sealOf_X9_h : GoodIn wsX9_sealOf (wsV RX9 75 RX9 yX9_h wsX9_h) := goodIn_app (goodIn_of _ (by decide +kernel)) ggX9_sealOf_X9_h
set_option maxRecDepth 20000 in
theorem ggX9_sealOf_X9_times : GoodIn wsX9_sealOf wsX9_times := goodIn_r _ [15, 16] (by decide +kernel) (by decide +kernel)
set_option maxRecDepth 20000 in
theorem gX9_sealOf_X9_times : GoodIn wsX9_sealOf (va_wsS RX9 65 yX9_times wsX9_times) := goodIn_app (goodIn_of _ (by decide +kernel)) ggX9_sealOf_X9_times
theorem dX9_sealOf_0 : decode cX9_sealOf 0 = .ok (.iload_n 3, 1) := by decide +kernel
theorem dX9_sealOf_1 : decode cX9_sealOf 1 = .ok (.ifCond .ne 11, 3) := by decide +kernel
theorem dX9_sealOf_4 : decode cX9_sealOf 4 = .ok (.iconst 4, 1) := by decide +kernel
theorem dX9_sealOf_5 : decode cX9_sealOf 5 = .ok (.iload_n 2, 1) := by decide +kernel
theorem dX9_sealOf_6 : decode cX9_sealOf 6 = .ok (.invokestatic 61, 3) := by decide +kernel
theorem dX9_sealOf_9 : decode cX9_sealOf 9 = .ok (.goto 19, 3) := by decide +kernel
theorem dX9_sealOf_12 : decode cX9_sealOf 12 = .ok (.aload_n 0, 1) := by decide +kernel
theorem dX9_sealOf_13 : decode cX9_sealOf 13 = .ok (.invokevirtual 75, 3) := by decide +kernel
theorem dX9_sealOf_16 : decode cX9_sealOf 16 = .ok (.iload_n 2, 1) := by decide +kernel
theorem dX9_sealOf_17 : decode cX9_sealOf 17 = .ok (.invokestatic 61, 3) := by decide +kernel
theorem dX9_sealOf_20 : decode cX9_sealOf 20 = .ok (.iconst 4, 1) := by decide +kernel
theorem dX9_sealOf_21 : decode cX9_sealOf 21 = .ok (.iload_n 1, 1) := by decide +kernel
theorem dX9_sealOf_22 : decode cX9_sealOf 22 = .ok (.invokestatic 61, 3) := by decide +kernel
theorem dX9_sealOf_25 : decode cX9_sealOf 25 = .ok (.invokestatic 65, 3) := by decide +kernel
theorem dX9_sealOf_28 : decode cX9_sealOf 28 = .ok (.ireturn, 1) := by decide +kernel
set_option maxRecDepth 20000 in
theorem ggX9_seal_X9_isPower : GoodIn wsX9_seal wsX9_isPower := goodIn_r _ [4, 5, 6, 3, 7] (by decide +kernel) (by decide +kernel)
set_option maxRecDepth 20000 in
theorem gX9_seal_X9_isPower : GoodIn wsX9_seal (va_wsS RX9 68 yX9_isPower wsX9_isPower) := goodIn_app (goodIn_of _ (by decide +kernel)) ggX9_seal_X9_isPower
set_option maxRecDepth 20000 in
theorem ggX9_seal_X9_in : GoodIn wsX9_seal wsX9_in := goodIn_r _ [7] (by decide +kernel) (by decide +kernel)
set_option maxRecDepth 20000 in
theorem gX9_seal_X9_in : GoodIn wsX9_seal (va_wsS RX9 51 yX9_in wsX9_in) := goodIn_app (goodIn_of _ (by decide +kernel)) ggX9_seal_X9_in
set_option maxRecDepth 20000 in
theorem ggX9_seal_X9_sealOf : GoodIn wsX9_seal wsX9_sealOf := goodIn_r _ [11, 12, 13, 3, 14, 15, 16, 17, 18, 19, 20, 21, 22, 23, 24, 25, 26, 27, 28, 29, 30, 31, 32, 33, 34, 35, 36, 37, 38, 39, 40, 41, 42, 43, 44] (by decide +kernel) (by decide +kernel)
set_option maxRecDepth 20000 in
theorem gX9_seal_X9_sealOf : GoodIn wsX9_seal (wsV RX9 86 RX9 yX9_sealOf wsX9_sealOf) := goodIn_app (goodIn_of _ (by decide +kernel)) ggX9_seal_X9_sealOf
theorem dX9_seal_0 : decode cX9_seal 0 = .ok (.iload_n 1, 1) := by decide +kernel
theorem dX9_seal_1 : decode cX9_seal 1 = .ok (.invokestatic 68, 3) := by decide +kernel
theorem dX9_seal_4 : decode cX9_seal 4 = .ok (.ifCond .eq 29, 3) := by decide +kernel
theorem dX9_seal_7 : decode cX9_seal 7 = .ok (.iload_n 2, 1) := by decide +kernel
theorem dX9_seal_8 : decode cX9_seal 8 = .ok (.invokestatic 68, 3) := by decide +kernel
theorem dX9_seal_11 : decode cX9_seal 11 = .ok (.ifCond .eq 22, 3) := by decide +kernel
theorem dX9_seal_14 : decode cX9_seal 14 = .ok (.iload_n 3, 1) := by decide +kernel
theorem dX9_seal_15 : decode cX9_seal 15 = .ok (.iconst 0, 1) := by decide +kernel
theorem dX9_seal_16 : decode cX9_seal 16 = .ok (.iconst 1, 1) := by decide +kernel
theorem dX9_seal_17 : decode cX9_seal 17 = .ok (.invokestatic 51, 3) := by decide +kernel
theorem dX9_seal_20 : decode cX9_seal 20 = .ok (.ifCond .eq 13, 3) := by decide +kernel
theorem dX9_seal_23 : decode cX9_seal 23 = .ok (.aload_n 0, 1) := by decide +kernel
theorem dX9_seal_24 : decode cX9_seal 24 = .ok (.iload_n 1, 1) := by decide +kernel
theorem dX9_seal_25 : decode cX9_seal 25 = .ok (.iload_n 2, 1) := by decide +kernel
theorem dX9_seal_26 : decode cX9_seal 26 = .ok (.iload_n 3, 1) := by decide +kernel
theorem dX9_seal_27 : decode cX9_seal 27 = .ok (.invokevirtual 86, 3) := by decide +kernel
theorem dX9_seal_30 : decode cX9_seal 30 = .ok (.goto 5, 3) := by decide +kernel
theorem dX9_seal_33 : decode cX9_seal 33 = .ok (.bipush (-2), 2) := by decide +kernel
theorem dX9_seal_35 : decode cX9_seal 35 = .ok (.ireturn, 1) := by decide +kernel
set_option maxRecDepth 20000 in
theorem ggX9_isRight_X9_isNumber : GoodIn wsX9_isRight wsX9_isNumber := goodIn_r _ [4, 5, 6, 3, 7] (by decide +kernel) (by decide +kernel)
set_option maxRecDepth 20000 in
theorem gX9_isRight_X9_isNumber : GoodIn wsX9_isRight (va_wsS RX9 90 yX9_isNumber wsX9_isNumber) := goodIn_app (goodIn_of _ (by decide +kernel)) ggX9_isRight_X9_isNumber
set_option maxRecDepth 20000 in
theorem ggX9_isRight_X9_power : GoodIn wsX9_isRight wsX9_power := goodIn_r _ [10, 11, 12, 3, 13] (by decide +kernel) (by decide +kernel)
set_option maxRecDepth 20000 in
theorem gX9_isRight_X9_power : GoodIn wsX9_isRight (va_wsS RX9 61 yX9_power wsX9_power) := goodIn_app (goodIn_of _ (by decide +kernel)) ggX9_isRight_X9_power
theorem dX9_isRight_0 : decode cX9_isRight 0 = .ok (.iload_n 0, 1) := by decide +kernel
theorem dX9_isRight_1 : decode cX9_isRight 1 = .ok (.invokestatic 90, 3) := by decide +kernel
theorem dX9_isRight_4 : decode cX9_isRight 4 = .ok (.ifCond .eq 36, 3) := by decide +kernel
theorem dX9_isRight_7 : decode cX9_isRight 7 = .ok (.iload_n 1, 1) := by decide +kernel
theorem dX9_isRight_8 : decode cX9_isRight 8 = .ok (.invokestatic 90, 3) := by decide +kernel
theorem dX9_isRight_11 : decode cX9_isRight 11 = .ok (.ifCond .eq 29, 3) := by decide +kernel
theorem dX9_isRight_14 : decode cX9_isRight 14 = .ok (.iload_n 0, 1) := by decide +kernel
theorem dX9_isRight_15 : decode cX9_isRight 15 = .ok (.sipush 5003, 3) := by decide +kernel
theorem dX9_isRight_18 : decode cX9_isRight 18 = .ok (.invokestatic 61, 3) := by decide +kernel
theorem dX9_isRight_21 : decode cX9_isRight 21 = .ok (.iconst 1, 1) := by decide +kernel
theorem dX9_isRight_22 : decode cX9_isRight 22 = .ok (.if_icmp .ne 18, 3) := by decide +kernel
theorem dX9_isRight_25 : decode cX9_isRight 25 = .ok (.iload_n 1, 1) := by decide +kernel
theorem dX9_isRight_26 : decode cX9_isRight 26 = .ok (.sipush 5003, 3) := by decide +kernel
theorem dX9_isRight_29 : decode cX9_isRight 29 = .ok (.invokestatic 61, 3) := by decide +kernel
theorem dX9_isRight_32 : decode cX9_isRight 32 = .ok (.iconst 1, 1) := by decide +kernel
theorem dX9_isRight_33 : decode cX9_isRight 33 = .ok (.if_icmp .ne 7, 3) := by decide +kernel
theorem dX9_isRight_36 : decode cX9_isRight 36 = .ok (.iconst 1, 1) := by decide +kernel
theorem dX9_isRight_37 : decode cX9_isRight 37 = .ok (.goto 4, 3) := by decide +kernel
theorem dX9_isRight_40 : decode cX9_isRight 40 = .ok (.iconst 0, 1) := by decide +kernel
theorem dX9_isRight_41 : decode cX9_isRight 41 = .ok (.ireturn, 1) := by decide +kernel
set_option maxRecDepth 20000 in
theorem ggX9_right_X9_isRight : GoodIn wsX9_right wsX9_isRight := goodIn_r _ [4, 5, 6, 3, 7, 8, 9, 10, 11, 12, 13, 14, 15, 16] (by decide +kernel) (by decide +kernel)
set_option maxRecDepth 20000 in
theorem gX9_right_X9_isRight : GoodIn wsX9_right (va_wsS RX9 93 yX9_isRight wsX9_isRight) := goodIn_app (goodIn_of _ (by decide +kernel)) ggX9_right_X9_isRight
theorem dX9_right_0 : decode cX9_right 0 = .ok (.iload_n 1, 1) := by decide +kernel
theorem dX9_right_1 : decode cX9_right 1 = .ok (.iload_n 2, 1) := by decide +kernel
theorem dX9_right_2 : decode cX9_right 2 = .ok (.invokestatic 93, 3) := by decide +kernel
theorem dX9_right_5 : decode cX9_right 5 = .ok (.ifCond .eq 7, 3) := by decide +kernel
theorem dX9_right_8 : decode cX9_right 8 = .ok (.iconst 1, 1) := by decide +kernel
theorem dX9_right_9 : decode cX9_right 9 = .ok (.goto 4, 3) := by decide +kernel
theorem dX9_right_12 : decode cX9_right 12 = .ok (.iconst 0, 1) := by decide +kernel
theorem dX9_right_13 : decode cX9_right 13 = .ok (.ireturn, 1) := by decide +kernel
set_option maxRecDepth 20000 in
theorem ggX9_open_X9_isHolder : GoodIn wsX9_open wsX9_isHolder := goodIn_r _ [4, 5, 6, 3, 7] (by decide +kernel) (by decide +kernel)
set_option maxRecDepth 20000 in
theorem gX9_open_X9_isHolder : GoodIn wsX9_open (va_wsS RX9 79 yX9_isHolder wsX9_isHolder) := goodIn_app (goodIn_of _ (by decide +kernel)) ggX9_open_X9_isHolder
set_option maxRecDepth 20000 in
theorem ggX9_open_X9_isNumber : GoodIn wsX9_open wsX9_isNumber := goodIn_r _ [10, 5, 6, 3, 7] (by decide +kernel) (by decide +kernel)
set_option maxRecDepth 20000 in
theorem gX9_open_X9_isNumber : GoodIn wsX9_open (va_wsS RX9 90 yX9_isNumber wsX9_isNumber) := goodIn_app (goodIn_of _ (by decide +kernel)) ggX9_open_X9_isNumber
set_option maxRecDepth 20000 in
theorem ggX9_open_X9_partOf : GoodIn wsX9_open wsX9_partOf := goodIn_r _ [14, 15, 22, 23, 24, 25, 26, 27, 28, 29, 30, 31, 32, 33, 34, 35, 36, 37, 38, 39] (by decide +kernel) (by decide +kernel)
set_option maxRecDepth 20000 in
theorem gX9_open_X9_partOf : GoodIn wsX9_open (wsV RX9 82 RX9 yX9_partOf wsX9_partOf) := goodIn_app (goodIn_of _ (by decide +kernel)) ggX9_open_X9_partOf
set_option maxRecDepth 20000 in
theorem ggX9_open_X9_power : GoodIn wsX9_open wsX9_power := goodIn_r _ [18, 19, 20, 3, 21] (by decide +kernel) (by decide +kernel)
set_option maxRecDepth 20000 in
theorem gX9_open_X9_power : GoodIn wsX9_open (va_wsS RX9 61 yX9_power wsX9_power) := goodIn_app (goodIn_of _ (by decide +kernel)) ggX9_open_X9_power
theorem dX9_open_0 : decode cX9_open 0 = .ok (.iload_n 1, 1) := by decide +kernel
theorem dX9_open_1 : decode cX9_open 1 = .ok (.invokestatic 79, 3) := by decide +kernel
theorem dX9_open_4 : decode cX9_open 4 = .ok (.ifCond .ne 5, 3) := by decide +kernel
theorem dX9_open_7 : decode cX9_open 7 = .ok (.iconst (-1), 1) := by decide +kernel
theorem dX9_open_8 : decode cX9_open 8 = .ok (.ireturn, 1) := by decide +kernel
theorem dX9_open_9 : decode cX9_open 9 = .ok (.iload_n 2, 1) := by decide +kernel
theorem dX9_open_10 : decode cX9_open 10 = .ok (.invokestatic 90, 3) := by decide +kernel
theorem dX9_open_13 : decode cX9_open 13 = .ok (.ifCond .eq 15, 3) := by decide +kernel
theorem dX9_open_16 : decode cX9_open 16 = .ok (.iload_n 2, 1) := by decide +kernel
theorem dX9_open_17 : decode cX9_open 17 = .ok (.aload_n 0, 1) := by decide +kernel
theorem dX9_open_18 : decode cX9_open 18 = .ok (.iload_n 1, 1) := by decide +kernel
theorem dX9_open_19 : decode cX9_open 19 = .ok (.invokevirtual 82, 3) := by decide +kernel
theorem dX9_open_22 : decode cX9_open 22 = .ok (.invokestatic 61, 3) := by decide +kernel
theorem dX9_open_25 : decode cX9_open 25 = .ok (.goto 5, 3) := by decide +kernel
theorem dX9_open_28 : decode cX9_open 28 = .ok (.bipush (-2), 2) := by decide +kernel
theorem dX9_open_30 : decode cX9_open 30 = .ok (.ireturn, 1) := by decide +kernel
set_option maxRecDepth 20000 in
theorem ggX9_isSet_X9_in : GoodIn wsX9_isSet wsX9_in := goodIn_r _ [4] (by decide +kernel) (by decide +kernel)
set_option maxRecDepth 20000 in
theorem gX9_isSet_X9_in : GoodIn wsX9_isSet (va_wsS RX9 51 yX9_in wsX9_in) := goodIn_app (goodIn_of _ (by decide +kernel)) ggX9_isSet_X9_in
theorem dX9_isSet_0 : decode cX9_isSet 0 = .ok (.iload_n 0, 1) := by decide +kernel
theorem dX9_isSet_1 : decode cX9_isSet 1 = .ok (.iconst 2, 1) := by decide +kernel
theorem dX9_isSet_2 : decode cX9_isSet 2 = .ok (.bipush 62, 2) := by decide +kernel
theorem dX9_isSet_4 : decode cX9_isSet 4 = .ok (.invokestatic 51, 3) := by decide +kernel
theorem dX9_isSet_7 : decode cX9_isSet 7 = .ok (.ifCond .eq 13, 3) := by decide +kernel
theorem dX9_isSet_10 : decode cX9_isSet 10 = .ok (.iload_n 0, 1) := by decide +kernel
theorem dX9_isSet_11 : decode cX9_isSet 11 = .ok (.iconst 2, 1) := by decide +kernel
theorem dX9_isSet_12 : decode cX9_isSet 12 = .ok (.irem, 1) := by decide +kernel
theorem dX9_isSet_13 : decode cX9_isSet 13 = .ok (.ifCond .ne 7, 3) := by decide +kernel
theorem dX9_isSet_16 : decode cX9_isSet 16 = .ok (.iconst 1, 1) := by decide +kernel
theorem dX9_isSet_17 : decode cX9_isSet 17 = .ok (.goto 4, 3) := by decide +kernel
theorem dX9_isSet_20 : decode cX9_isSet 20 = .ok (.iconst 0, 1) := by decide +kernel
theorem dX9_isSet_21 : decode cX9_isSet 21 = .ok (.ireturn, 1) := by decide +kernel
set_option maxRecDepth 20000 in
theorem ggX9_weightOf_X9_raise : GoodIn wsX9_weightOf wsX9_raise := goodIn_r _ [5] (by decide +kernel) (by decide +kernel)
set_option maxRecDepth 20000 in
theorem gX9_weightOf_X9_raise : GoodIn wsX9_weightOf (va_wsS RX9 57 yX9_raise wsX9_raise) := goodIn_app (goodIn_of _ (by decide +kernel)) ggX9_weightOf_X9_raise
theorem dX9_weightOf_0 : decode cX9_weightOf 0 = .ok (.lconst 1, 1) := by decide +kernel
theorem dX9_weightOf_1 : decode cX9_weightOf 1 = .ok (.lstore_n 2, 1) := by decide +kernel
theorem dX9_weightOf_2 : decode cX9_weightOf 2 = .ok (.iconst 1, 1) := by decide +kernel
theorem dX9_weightOf_3 : decode cX9_weightOf 3 = .ok (.istore 4, 2) := by decide +kernel
theorem dX9_weightOf_5 : decode cX9_weightOf 5 = .ok (.iload 4, 2) := by decide +kernel
theorem dX9_weightOf_7 : decode cX9_weightOf 7 = .ok (.bipush 6, 2) := by decide +kernel
theorem dX9_weightOf_9 : decode cX9_weightOf 9 = .ok (.if_icmp .ge 58, 3) := by decide +kernel
theorem dX9_weightOf_12 : decode cX9_weightOf 12 = .ok (.iload 4, 2) := by decide +kernel
theorem dX9_weightOf_14 : decode cX9_weightOf 14 = .ok (.iload_n 0, 1) := by decide +kernel
theorem dX9_weightOf_15 : decode cX9_weightOf 15 = .ok (.if_icmp .eq 46, 3) := by decide +kernel
theorem dX9_weightOf_18 : decode cX9_weightOf 18 = .ok (.iload_n 1, 1) := by decide +kernel
theorem dX9_weightOf_19 : decode cX9_weightOf 19 = .ok (.iload 4, 2) := by decide +kernel
theorem dX9_weightOf_21 : decode cX9_weightOf 21 = .ok (.ishr, 1) := by decide +kernel
theorem dX9_weightOf_22 : decode cX9_weightOf 22 = .ok (.iconst 1, 1) := by decide +kernel
theorem dX9_weightOf_23 : decode cX9_weightOf 23 = .ok (.iand, 1) := by decide +kernel
theorem dX9_weightOf_24 : decode cX9_weightOf 24 = .ok (.iconst 1, 1) := by decide +kernel
theorem dX9_weightOf_25 : decode cX9_weightOf 25 = .ok (.if_icmp .ne 36, 3) := by decide +kernel
theorem dX9_weightOf_28 : decode cX9_weightOf 28 = .ok (.lload_n 2, 1) := by decide +kernel
theorem dX9_weightOf_29 : decode cX9_weightOf 29 = .ok (.iload 4, 2) := by decide +kernel
theorem dX9_weightOf_31 : decode cX9_weightOf 31 = .ok (.i2l, 1) := by decide +kernel
theorem dX9_weightOf_32 : decode cX9_weightOf 32 = .ok (.lmul, 1) := by decide +kernel
theorem dX9_weightOf_33 : decode cX9_weightOf 33 = .ok (.ldc2_w 97, 3) := by decide +kernel
theorem dX9_weightOf_36 : decode cX9_weightOf 36 = .ok (.lrem, 1) := by decide +kernel
theorem dX9_weightOf_37 : decode cX9_weightOf 37 = .ok (.iload 4, 2) := by decide +kernel
theorem dX9_weightOf_39 : decode cX9_weightOf 39 = .ok (.iload_n 0, 1) := by decide +kernel
theorem dX9_weightOf_40 : decode cX9_weightOf 40 = .ok (.isub, 1) := by decide +kernel
theorem dX9_weightOf_41 : decode cX9_weightOf 41 = .ok (.sipush 5003, 3) := by decide +kernel
theorem dX9_weightOf_44 : decode cX9_weightOf 44 = .ok (.iadd, 1) := by decide +kernel
theorem dX9_weightOf_45 : decode cX9_weightOf 45 = .ok (.i2l, 1) := by decide +kernel
theorem dX9_weightOf_46 : decode cX9_weightOf 46 = .ok (.sipush 5001, 3) := by decide +kernel
theorem dX9_weightOf_49 : decode cX9_weightOf 49 = .ok (.sipush 5003, 3) := by decide +kernel
theorem dX9_weightOf_52 : decode cX9_weightOf 52 = .ok (.invokestatic 57, 3) := by decide +kernel
theorem dX9_weightOf_55 : decode cX9_weightOf 55 = .ok (.lmul, 1) := by decide +kernel
theorem dX9_weightOf_56 : decode cX9_weightOf 56 = .ok (.ldc2_w 97, 3) := by decide +kernel
theorem dX9_weightOf_59 : decode cX9_weightOf 59 = .ok (.lrem, 1) := by decide +kernel
theorem dX9_weightOf_60 : decode cX9_weightOf 60 = .ok (.lstore_n 2, 1) := by decide +kernel
theorem dX9_weightOf_61 : decode cX9_weightOf 61 = .ok (.iinc 4 1, 3) := by decide +kernel
theorem dX9_weightOf_64 : decode cX9_weightOf 64 = .ok (.goto (-59), 3) := by decide +kernel
theorem dX9_weightOf_67 : decode cX9_weightOf 67 = .ok (.lload_n 2, 1) := by decide +kernel
theorem dX9_weightOf_68 : decode cX9_weightOf 68 = .ok (.l2i, 1) := by decide +kernel
theorem dX9_weightOf_69 : decode cX9_weightOf 69 = .ok (.ireturn, 1) := by decide +kernel
set_option maxRecDepth 20000 in
theorem ggX9_weight_X9_isHolder : GoodIn wsX9_weight wsX9_isHolder := goodIn_r _ [4, 5, 6, 3, 7] (by decide +kernel) (by decide +kernel)
set_option maxRecDepth 20000 in
theorem gX9_weight_X9_isHolder : GoodIn wsX9_weight (va_wsS RX9 79 yX9_isHolder wsX9_isHolder) := goodIn_app (goodIn_of _ (by decide +kernel)) ggX9_weight_X9_isHolder
set_option maxRecDepth 20000 in
theorem ggX9_weight_X9_isSet : GoodIn wsX9_weight wsX9_isSet := goodIn_r _ [10, 5, 6, 3, 7] (by decide +kernel) (by decide +kernel)
set_option maxRecDepth 20000 in
theorem gX9_weight_X9_isSet : GoodIn wsX9_weight (va_wsS RX9 99 yX9_isSet wsX9_isSet) := goodIn_app (goodIn_of _ (by decide +kernel)) ggX9_weight_X9_isSet
set_option maxRecDepth 20000 in
theorem ggX9_weight_X9_weightOf : GoodIn wsX9_weight wsX9_weightOf := goodIn_r _ [13, 14, 15, 16, 3, 17] (by decide +kernel) (by decide +kernel)
set_option maxRecDepth 20000 in
theorem gX9_weight_X9_weightOf : GoodIn wsX9_weight (va_wsS RX9 102 yX9_weightOf wsX9_weightOf) := goodIn_app (goodIn_of _ (by decide +kernel)) ggX9_weight_X9_weightOf
theorem dX9_weight_0 : decode cX9_weight 0 = .ok (.iload_n 1, 1) := by decide +kernel
theorem dX9_weight_1 : decode cX9_weight 1 = .ok (.invokestatic 79, 3) := by decide +kernel
theorem dX9_weight_4 : decode cX9_weight 4 = .ok (.ifCond .eq 11, 3) := by decide +kernel
theorem dX9_weight_7 : decode cX9_weight 7 = .ok (.iload_n 2, 1) := by decide +kernel
theorem dX9_weight_8 : decode cX9_weight 8 = .ok (.iload_n 1, 1) := by decide +kernel
theorem dX9_weight_9 : decode cX9_weight 9 = .ok (.ishr, 1) := by decide +kernel
theorem dX9_weight_10 : decode cX9_weight 10 = .ok (.iconst 1, 1) := by decide +kernel
theorem dX9_weight_11 : decode cX9_weight 11 = .ok (.iand, 1) := by decide +kernel
theorem dX9_weight_12 : decode cX9_weight 12 = .ok (.ifCond .ne 5, 3) := by decide +kernel
theorem dX9_weight_15 : decode cX9_weight 15 = .ok (.iconst (-1), 1) := by decide +kernel
theorem dX9_weight_16 : decode cX9_weight 16 = .ok (.ireturn, 1) := by decide +kernel
theorem dX9_weight_17 : decode cX9_weight 17 = .ok (.iload_n 2, 1) := by decide +kernel
theorem dX9_weight_18 : decode cX9_weight 18 = .ok (.invokestatic 99, 3) := by decide +kernel
theorem dX9_weight_21 : decode cX9_weight 21 = .ok (.ifCond .eq 11, 3) := by decide +kernel
theorem dX9_weight_24 : decode cX9_weight 24 = .ok (.iload_n 1, 1) := by decide +kernel
theorem dX9_weight_25 : decode cX9_weight 25 = .ok (.iload_n 2, 1) := by decide +kernel
theorem dX9_weight_26 : decode cX9_weight 26 = .ok (.invokestatic 102, 3) := by decide +kernel
theorem dX9_weight_29 : decode cX9_weight 29 = .ok (.goto 5, 3) := by decide +kernel
theorem dX9_weight_32 : decode cX9_weight 32 = .ok (.bipush (-2), 2) := by decide +kernel
theorem dX9_weight_34 : decode cX9_weight 34 = .ok (.ireturn, 1) := by decide +kernel
set_option maxRecDepth 20000 in
theorem ggX9_opened_X9_isNumber : GoodIn wsX9_opened wsX9_isNumber := goodIn_r _ [5, 6, 7, 4, 8] (by decide +kernel) (by decide +kernel)
set_option maxRecDepth 20000 in
theorem gX9_opened_X9_isNumber : GoodIn wsX9_opened (va_wsS RX9 90 yX9_isNumber wsX9_isNumber) := goodIn_app (goodIn_of _ (by decide +kernel)) ggX9_opened_X9_isNumber
set_option maxRecDepth 20000 in
theorem ggX9_opened_X9_isSet : GoodIn wsX9_opened wsX9_isSet := goodIn_r _ [11, 6, 7, 4, 8] (by decide +kernel) (by decide +kernel)
set_option maxRecDepth 20000 in
theorem gX9_opened_X9_isSet : GoodIn wsX9_opened (va_wsS RX9 99 yX9_isSet wsX9_isSet) := goodIn_app (goodIn_of _ (by decide +kernel)) ggX9_opened_X9_isSet
set_option maxRecDepth 20000 in
theorem ggX9_opened_X9_in : GoodIn wsX9_opened wsX9_in := goodIn_r _ [8] (by decide +kernel) (by decide +kernel)
set_option maxRecDepth 20000 in
theorem gX9_opened_X9_in : GoodIn wsX9_opened (va_wsS RX9 51 yX9_in wsX9_in) := goodIn_app (goodIn_of _ (by decide +kernel)) ggX9_opened_X9_in
set_option maxRecDepth 20000 in
theorem ggX9_opened_X9_partOf : GoodIn wsX9_opened wsX9_partOf := goodIn_r _ [15, 16, 34, 35, 36, 37, 38, 39, 40, 41, 42, 43, 44, 45, 46, 47, 48, 49, 50, 51] (by decide +kernel) (by decide +kernel)
set_option maxRecDepth 20000 in
theorem gX9_opened_X9_partOf : GoodIn wsX9_opened (wsV RX9 82 RX9 yX9_partOf wsX9_partOf) := goodIn_app (goodIn_of _ (by decide +kernel)) ggX9_opened_X9_partOf
set_option maxRecDepth 20000 in
theorem ggX9_opened_X9_power : GoodIn wsX9_opened wsX9_power := goodIn_r _ [19, 20, 21, 4, 22] (by decide +kernel) (by decide +kernel)
set_option maxRecDepth 20000 in
theorem gX9_opened_X9_power : GoodIn wsX9_opened (va_wsS RX9 61 yX9_power wsX9_power) := goodIn_app (goodIn_of _ (by decide +kernel)) ggX9_opened_X9_power
set_option maxRecDepth 20000 in
theorem ggX9_opened_X9_weightOf : GoodIn wsX9_opened wsX9_weightOf := goodIn_r _ [25, 26, 20, 21, 4, 22] (by decide +kernel) (by decide +kernel)
set_option maxRecDepth 20000 in
theorem gX9_opened_X9_weightOf : GoodIn wsX9_opened (va_wsS RX9 102 yX9_weightOf wsX9_weightOf) := goodIn_app (goodIn_of _ (by decide +kernel)) ggX9_opened_X9_weightOf
set_option maxRecDepth 20000 in
theorem ggX9_opened_X9_times : GoodIn wsX9_opened wsX9_times := goodIn_r _ [29, 30] (by decide +kernel) (by decide +kernel)
set_option maxRecDepth 20000 in
theorem gX9_opened_X9_times : GoodIn wsX9_opened (va_wsS RX9 65 yX9_times wsX9_times) := goodIn_app (goodIn_of _ (by decide +kernel)) ggX9_opened_X9_times
set_option maxRecDepth 20000 in
theorem ggX9_opened_X9_by : GoodIn wsX9_opened wsX9_by := goodIn_r _ [33, 17, 18, 4, 19, 20, 21, 22, 27, 28, 29, 30] (by decide +kernel) (by decide +kernel)
set_option maxRecDepth 20000 in
theorem gX9_opened_X9_by : GoodIn wsX9_opened (va_wsS RX9 105 yX9_by wsX9_by) := goodIn_app (goodIn_of _ (by decide +kernel)) ggX9_opened_X9_by
theorem dX9_opened_0 : decode cX9_opened 0 = .ok (.iload_n 1, 1) := by decide +kernel
theorem dX9_opened_1 : decode cX9_opened 1 = .ok (.invokestatic 90, 3) := by decide +kernel
theorem dX9_opened_4 : decode cX9_opened 4 = .ok (.ifCond .eq 27, 3) := by decide +kernel
theorem dX9_opened_7 : decode cX9_opened 7 = .ok (.iload_n 2, 1) := by decide +kernel
theorem dX9_opened_8 : decode cX9_opened 8 = .ok (.invokestatic 90, 3) := by decide +kernel
theorem dX9_opened_11 : decode cX9_opened 11 = .ok (.ifCond .eq 20, 3) := by decide +kernel
theorem dX9_opened_14 : decode cX9_opened 14 = .ok (.iload_n 3, 1) := by decide +kernel
theorem dX9_opened_15 : decode cX9_opened 15 = .ok (.invokestatic 99, 3) := by decide +kernel
theorem dX9_opened_18 : decode cX9_opened 18 = .ok (.ifCond .eq 13, 3) := by decide +kernel
theorem dX9_opened_21 : decode cX9_opened 21 = .ok (.iload 4, 2) := by decide +kernel
theorem dX9_opened_23 : decode cX9_opened 23 = .ok (.iconst 0, 1) := by decide +kernel
theorem dX9_opened_24 : decode cX9_opened 24 = .ok (.iconst 1, 1) := by decide +kernel
theorem dX9_opened_25 : decode cX9_opened 25 = .ok (.invokestatic 51, 3) := by decide +kernel
theorem dX9_opened_28 : decode cX9_opened 28 = .ok (.ifCond .ne 6, 3) := by decide +kernel
theorem dX9_opened_31 : decode cX9_opened 31 = .ok (.bipush (-2), 2) := by decide +kernel
theorem dX9_opened_33 : decode cX9_opened 33 = .ok (.ireturn, 1) := by decide +kernel
theorem dX9_opened_34 : decode cX9_opened 34 = .ok (.iconst 0, 1) := by decide +kernel
theorem dX9_opened_35 : decode cX9_opened 35 = .ok (.istore 5, 2) := by decide +kernel
theorem dX9_opened_37 : decode cX9_opened 37 = .ok (.iconst 1, 1) := by decide +kernel
theorem dX9_opened_38 : decode cX9_opened 38 = .ok (.istore 6, 2) := by decide +kernel
theorem dX9_opened_40 : decode cX9_opened 40 = .ok (.iconst 1, 1) := by decide +kernel
theorem dX9_opened_41 : decode cX9_opened 41 = .ok (.istore 7, 2) := by decide +kernel
theorem dX9_opened_43 : decode cX9_opened 43 = .ok (.iload 7, 2) := by decide +kernel
theorem dX9_opened_45 : decode cX9_opened 45 = .ok (.bipush 6, 2) := by decide +kernel
theorem dX9_opened_47 : decode cX9_opened 47 = .ok (.if_icmp .ge 48, 3) := by decide +kernel
theorem dX9_opened_50 : decode cX9_opened 50 = .ok (.iload_n 3, 1) := by decide +kernel
theorem dX9_opened_51 : decode cX9_opened 51 = .ok (.iload 7, 2) := by decide +kernel
theorem dX9_opened_53 : decode cX9_opened 53 = .ok (.ishr, 1) := by decide +kernel
theorem dX9_opened_54 : decode cX9_opened 54 = .ok (.iconst 1, 1) := by decide +kernel
theorem dX9_opened_55 : decode cX9_opened 55 = .ok (.iand, 1) := by decide +kernel
theorem dX9_opened_56 : decode cX9_opened 56 = .ok (.iconst 1, 1) := by decide +kernel
theorem dX9_opened_57 : decode cX9_opened 57 = .ok (.if_icmp .ne 32, 3) := by decide +kernel
theorem dX9_opened_60 : decode cX9_opened 60 = .ok (.iinc 5 1, 3) := by decide +kernel
theorem dX9_opened_63 : decode cX9_opened 63 = .ok (.iload 6, 2) := by decide +kernel
theorem dX9_opened_65 : decode cX9_opened 65 = .ok (.iload_n 1, 1) := by decide +kernel
theorem dX9_opened_66 : decode cX9_opened 66 = .ok (.aload_n 0, 1) := by decide +kernel
theorem dX9_opened_67 : decode cX9_opened 67 = .ok (.iload 7, 2) := by decide +kernel
theorem dX9_opened_69 : decode cX9_opened 69 = .ok (.invokevirtual 82, 3) := by decide +kernel
theorem dX9_opened_72 : decode cX9_opened 72 = .ok (.invokestatic 61, 3) := by decide +kernel
theorem dX9_opened_75 : decode cX9_opened 75 = .ok (.iload 7, 2) := by decide +kernel
theorem dX9_opened_77 : decode cX9_opened 77 = .ok (.iload_n 3, 1) := by decide +kernel
theorem dX9_opened_78 : decode cX9_opened 78 = .ok (.invokestatic 102, 3) := by decide +kernel
theorem dX9_opened_81 : decode cX9_opened 81 = .ok (.invokestatic 61, 3) := by decide +kernel
theorem dX9_opened_84 : decode cX9_opened 84 = .ok (.invokestatic 65, 3) := by decide +kernel
theorem dX9_opened_87 : decode cX9_opened 87 = .ok (.istore 6, 2) := by decide +kernel
theorem dX9_opened_89 : decode cX9_opened 89 = .ok (.iinc 7 1, 3) := by decide +kernel
theorem dX9_opened_92 : decode cX9_opened 92 = .ok (.goto (-49), 3) := by decide +kernel
theorem dX9_opened_95 : decode cX9_opened 95 = .ok (.iload 5, 2) := by decide +kernel
theorem dX9_opened_97 : decode cX9_opened 97 = .ok (.aload_n 0, 1) := by decide +kernel
theorem dX9_opened_98 : decode cX9_opened 98 = .ok (.getfield 7, 3) := by decide +kernel
theorem dX9_opened_101 : decode cX9_opened 101 = .ok (.if_icmp .ge 6, 3) := by decide +kernel
theorem dX9_opened_104 : decode cX9_opened 104 = .ok (.bipush (-5), 2) := by decide +kernel
theorem dX9_opened_106 : decode cX9_opened 106 = .ok (.ireturn, 1) := by decide +kernel
theorem dX9_opened_107 : decode cX9_opened 107 = .ok (.iload_n 2, 1) := by decide +kernel
theorem dX9_opened_108 : decode cX9_opened 108 = .ok (.iload 6, 2) := by decide +kernel
theorem dX9_opened_110 : decode cX9_opened 110 = .ok (.invokestatic 105, 3) := by decide +kernel
theorem dX9_opened_113 : decode cX9_opened 113 = .ok (.istore 7, 2) := by decide +kernel
theorem dX9_opened_115 : decode cX9_opened 115 = .ok (.iload 4, 2) := by decide +kernel
theorem dX9_opened_117 : decode cX9_opened 117 = .ok (.ifCond .ne 6, 3) := by decide +kernel
theorem dX9_opened_120 : decode cX9_opened 120 = .ok (.iload 7, 2) := by decide +kernel
theorem dX9_opened_122 : decode cX9_opened 122 = .ok (.ireturn, 1) := by decide +kernel
theorem dX9_opened_123 : decode cX9_opened 123 = .ok (.iconst 0, 1) := by decide +kernel
theorem dX9_opened_124 : decode cX9_opened 124 = .ok (.istore 8, 2) := by decide +kernel
theorem dX9_opened_126 : decode cX9_opened 126 = .ok (.iconst 1, 1) := by decide +kernel
theorem dX9_opened_127 : decode cX9_opened 127 = .ok (.istore 9, 2) := by decide +kernel
theorem dX9_opened_129 : decode cX9_opened 129 = .ok (.iload 8, 2) := by decide +kernel
theorem dX9_opened_131 : decode cX9_opened 131 = .ok (.sipush 200, 3) := by decide +kernel
theorem dX9_opened_134 : decode cX9_opened 134 = .ok (.if_icmp .gt 24, 3) := by decide +kernel
theorem dX9_opened_137 : decode cX9_opened 137 = .ok (.iload 9, 2) := by decide +kernel
theorem dX9_opened_139 : decode cX9_opened 139 = .ok (.iload 7, 2) := by decide +kernel
theorem dX9_opened_141 : decode cX9_opened 141 = .ok (.if_icmp .eq 17, 3) := by decide +kernel
theorem dX9_opened_144 : decode cX9_opened 144 = .ok (.iload 9, 2) := by decide +kernel
theorem dX9_opened_146 : decode cX9_opened 146 = .ok (.iconst 4, 1) := by decide +kernel
theorem dX9_opened_147 : decode cX9_opened 147 = .ok (.invokestatic 65, 3) := by decide +kernel
theorem dX9_opened_150 : decode cX9_opened 150 = .ok (.istore 9, 2) := by decide +kernel
theorem dX9_opened_152 : decode cX9_opened 152 = .ok (.iinc 8 1, 3) := by decide +kernel
theorem dX9_opened_155 : decode cX9_opened 155 = .ok (.goto (-26), 3) := by decide +kernel
theorem dX9_opened_158 : decode cX9_opened 158 = .ok (.iload 8, 2) := by decide +kernel
theorem dX9_opened_160 : decode cX9_opened 160 = .ok (.sipush 200, 3) := by decide +kernel
theorem dX9_opened_163 : decode cX9_opened 163 = .ok (.if_icmp .gt 8, 3) := by decide +kernel
theorem dX9_opened_166 : decode cX9_opened 166 = .ok (.iload 8, 2) := by decide +kernel
theorem dX9_opened_168 : decode cX9_opened 168 = .ok (.goto 5, 3) := by decide +kernel
theorem dX9_opened_171 : decode cX9_opened 171 = .ok (.bipush (-6), 2) := by decide +kernel
theorem dX9_opened_173 : decode cX9_opened 173 = .ok (.ireturn, 1) := by decide +kernel
theorem dX9_mix_0 : decode cX9_mix 0 = .ok (.aload_n 0, 1) := by decide +kernel
theorem dX9_mix_1 : decode cX9_mix 1 = .ok (.aload_n 0, 1) := by decide +kernel
theorem dX9_mix_2 : decode cX9_mix 2 = .ok (.getfield 108, 3) := by decide +kernel
theorem dX9_mix_5 : decode cX9_mix 5 = .ok (.i2l, 1) := by decide +kernel
theorem dX9_mix_6 : decode cX9_mix 6 = .ok (.ldc2_w 111, 3) := by decide +kernel
theorem dX9_mix_9 : decode cX9_mix 9 = .ok (.lmul, 1) := by decide +kernel
theorem dX9_mix_10 : decode cX9_mix 10 = .ok (.iload_n 1, 1) := by decide +kernel
theorem dX9_mix_11 : decode cX9_mix 11 = .ok (.i2l, 1) := by decide +kernel
theorem dX9_mix_12 : decode cX9_mix 12 = .ok (.ladd, 1) := by decide +kernel
theorem dX9_mix_13 : decode cX9_mix 13 = .ok (.ldc2_w 97, 3) := by decide +kernel
theorem dX9_mix_16 : decode cX9_mix 16 = .ok (.lrem, 1) := by decide +kernel
theorem dX9_mix_17 : decode cX9_mix 17 = .ok (.l2i, 1) := by decide +kernel
theorem dX9_mix_18 : decode cX9_mix 18 = .ok (.putfield 108, 3) := by decide +kernel
theorem dX9_mix_21 : decode cX9_mix 21 = .ok (.return_, 1) := by decide +kernel
set_option maxRecDepth 20000 in
theorem ggX9_sOf_X9_power : GoodIn wsX9_sOf wsX9_power := goodIn_r _ [4, 5, 6, 3, 7] (by decide +kernel) (by decide +kernel)
set_option maxRecDepth 20000 in
theorem gX9_sOf_X9_power : GoodIn wsX9_sOf (va_wsS RX9 61 yX9_power wsX9_power) := goodIn_app (goodIn_of _ (by decide +kernel)) ggX9_sOf_X9_power
set_option maxRecDepth 20000 in
theorem ggX9_sOf_X9_by : GoodIn wsX9_sOf wsX9_by := goodIn_r _ [10, 1, 2, 3, 4, 5, 6, 7, 11, 12, 13, 14] (by decide +kernel) (by decide +kernel)
set_option maxRecDepth 20000 in
theorem gX9_sOf_X9_by : GoodIn wsX9_sOf (va_wsS RX9 105 yX9_by wsX9_by) := goodIn_app (goodIn_of _ (by decide +kernel)) ggX9_sOf_X9_by
theorem dX9_sOf_0 : decode cX9_sOf 0 = .ok (.iconst 4, 1) := by decide +kernel
theorem dX9_sOf_1 : decode cX9_sOf 1 = .ok (.iload_n 2, 1) := by decide +kernel
theorem dX9_sOf_2 : decode cX9_sOf 2 = .ok (.invokestatic 61, 3) := by decide +kernel
theorem dX9_sOf_5 : decode cX9_sOf 5 = .ok (.iload_n 0, 1) := by decide +kernel
theorem dX9_sOf_6 : decode cX9_sOf 6 = .ok (.iload_n 1, 1) := by decide +kernel
theorem dX9_sOf_7 : decode cX9_sOf 7 = .ok (.invokestatic 61, 3) := by decide +kernel
theorem dX9_sOf_10 : decode cX9_sOf 10 = .ok (.invokestatic 105, 3) := by decide +kernel
theorem dX9_sOf_13 : decode cX9_sOf 13 = .ok (.ireturn, 1) := by decide +kernel
set_option maxRecDepth 20000 in
theorem ggX9_tOf_X9_h : GoodIn wsX9_tOf wsX9_h := goodIn_r _ [5, 6, 7, 8, 4, 9, 10, 11, 12, 20, 21, 22, 23, 24, 25, 26, 27, 28, 29, 30, 31, 32, 33, 34, 35, 36, 37] (by decide +kernel) (by decide +kernel)
set_option maxRecDepth 20000 in
theorem gX9_tOf_X9_h : GoodIn wsX9_tOf (wsV RX9 75 RX9 yX9_h wsX9_h) := goodIn_app (goodIn_of _ (by decide +kernel)) ggX9_tOf_X9_h
set_option maxRecDepth 20000 in
theorem ggX9_tOf_X9_power : GoodIn wsX9_tOf wsX9_power := goodIn_r _ [9, 10, 11, 4, 12] (by decide +kernel) (by decide +kernel)
set_option maxRecDepth 20000 in
theorem gX9_tOf_X9_power : GoodIn wsX9_tOf (va_wsS RX9 61 yX9_power wsX9_power) := goodIn_app (goodIn_of _ (by decide +kernel)) ggX9_tOf_X9_power
set_option maxRecDepth 20000 in
theorem ggX9_tOf_X9_by : GoodIn wsX9_tOf wsX9_by := goodIn_r _ [15, 7, 8, 4, 9, 10, 11, 12, 16, 17, 18, 19] (by decide +kernel) (by decide +kernel)
set_option maxRecDepth 20000 in
theorem gX9_tOf_X9_by : GoodIn wsX9_tOf (va_wsS RX9 105 yX9_by wsX9_by) := goodIn_app (goodIn_of _ (by decide +kernel)) ggX9_tOf_X9_by
theorem dX9_tOf_0 : decode cX9_tOf 0 = .ok (.aload_n 0, 1) := by decide +kernel
theorem dX9_tOf_1 : decode cX9_tOf 1 = .ok (.invokevirtual 75, 3) := by decide +kernel
theorem dX9_tOf_4 : decode cX9_tOf 4 = .ok (.iload 4, 2) := by decide +kernel
theorem dX9_tOf_6 : decode cX9_tOf 6 = .ok (.invokestatic 61, 3) := by decide +kernel
theorem dX9_tOf_9 : decode cX9_tOf 9 = .ok (.iload_n 1, 1) := by decide +kernel
theorem dX9_tOf_10 : decode cX9_tOf 10 = .ok (.iconst 4, 1) := by decide +kernel
theorem dX9_tOf_11 : decode cX9_tOf 11 = .ok (.iload_n 2, 1) := by decide +kernel
theorem dX9_tOf_12 : decode cX9_tOf 12 = .ok (.invokestatic 61, 3) := by decide +kernel
theorem dX9_tOf_15 : decode cX9_tOf 15 = .ok (.invokestatic 105, 3) := by decide +kernel
theorem dX9_tOf_18 : decode cX9_tOf 18 = .ok (.iload_n 3, 1) := by decide +kernel
theorem dX9_tOf_19 : decode cX9_tOf 19 = .ok (.invokestatic 61, 3) := by decide +kernel
theorem dX9_tOf_22 : decode cX9_tOf 22 = .ok (.invokestatic 105, 3) := by decide +kernel
theorem dX9_tOf_25 : decode cX9_tOf 25 = .ok (.ireturn, 1) := by decide +kernel
set_option maxRecDepth 20000 in
theorem ggX9_prove_X9_in : GoodIn wsX9_prove wsX9_in := goodIn_r _ [4] (by decide +kernel) (by decide +kernel)
set_option maxRecDepth 20000 in
theorem gX9_prove_X9_in : GoodIn wsX9_prove (va_wsS RX9 51 yX9_in wsX9_in) := goodIn_app (goodIn_of _ (by decide +kernel)) ggX9_prove_X9_in
set_option maxRecDepth 20000 in
theorem ggX9_prove_X9_isPower : GoodIn wsX9_prove wsX9_isPower := goodIn_r _ [7, 1, 2, 3, 4] (by decide +kernel) (by decide +kernel)
set_option maxRecDepth 20000 in
theorem gX9_prove_X9_isPower : GoodIn wsX9_prove (va_wsS RX9 68 yX9_isPower wsX9_isPower) := goodIn_app (goodIn_of _ (by decide +kernel)) ggX9_prove_X9_isPower
set_option maxRecDepth 20000 in
theorem ggX9_prove_X9_proved : GoodIn wsX9_prove wsX9_proved := goodIn_r _ [11, 12, 13, 14, 15, 16, 3, 17, 18, 19, 20, 21, 22, 23, 24, 25, 26, 27, 28, 29, 30, 31, 32, 33, 34, 35, 36, 37, 38, 39, 40, 41, 42, 43, 44, 45, 46, 47, 48, 49, 50, 51, 52, 53, 54, 55, 56, 57, 58, 59, 60, 61, 62, 63, 64, 65] (by decide +kernel) (by decide +kernel)
set_option maxRecDepth 20000 in
theorem gX9_prove_X9_proved : GoodIn wsX9_prove (wsV RX9 113 RX9 yX9_proved wsX9_proved) := goodIn_app (goodIn_of _ (by decide +kernel)) ggX9_prove_X9_proved
theorem dX9_prove_0 : decode cX9_prove 0 = .ok (.iload_n 1, 1) := by decide +kernel
theorem dX9_prove_1 : decode cX9_prove 1 = .ok (.iconst 0, 1) := by decide +kernel
theorem dX9_prove_2 : decode cX9_prove 2 = .ok (.iconst 1, 1) := by decide +kernel
theorem dX9_prove_3 : decode cX9_prove 3 = .ok (.invokestatic 51, 3) := by decide +kernel
theorem dX9_prove_6 : decode cX9_prove 6 = .ok (.ifCond .eq 43, 3) := by decide +kernel
theorem dX9_prove_9 : decode cX9_prove 9 = .ok (.iload_n 2, 1) := by decide +kernel
theorem dX9_prove_10 : decode cX9_prove 10 = .ok (.invokestatic 68, 3) := by decide +kernel
theorem dX9_prove_13 : decode cX9_prove 13 = .ok (.ifCond .eq 36, 3) := by decide +kernel
theorem dX9_prove_16 : decode cX9_prove 16 = .ok (.iload_n 3, 1) := by decide +kernel
theorem dX9_prove_17 : decode cX9_prove 17 = .ok (.invokestatic 68, 3) := by decide +kernel
theorem dX9_prove_20 : decode cX9_prove 20 = .ok (.ifCond .eq 29, 3) := by decide +kernel
theorem dX9_prove_23 : decode cX9_prove 23 = .ok (.iload 4, 2) := by decide +kernel
theorem dX9_prove_25 : decode cX9_prove 25 = .ok (.invokestatic 68, 3) := by decide +kernel
theorem dX9_prove_28 : decode cX9_prove 28 = .ok (.ifCond .eq 21, 3) := by decide +kernel
theorem dX9_prove_31 : decode cX9_prove 31 = .ok (.iload 5, 2) := by decide +kernel
theorem dX9_prove_33 : decode cX9_prove 33 = .ok (.invokestatic 68, 3) := by decide +kernel
theorem dX9_prove_36 : decode cX9_prove 36 = .ok (.ifCond .eq 13, 3) := by decide +kernel
theorem dX9_prove_39 : decode cX9_prove 39 = .ok (.iload 6, 2) := by decide +kernel
theorem dX9_prove_41 : decode cX9_prove 41 = .ok (.iconst 0, 1) := by decide +kernel
theorem dX9_prove_42 : decode cX9_prove 42 = .ok (.iconst 3, 1) := by decide +kernel
theorem dX9_prove_43 : decode cX9_prove 43 = .ok (.invokestatic 51, 3) := by decide +kernel
theorem dX9_prove_46 : decode cX9_prove 46 = .ok (.ifCond .ne 6, 3) := by decide +kernel
theorem dX9_prove_49 : decode cX9_prove 49 = .ok (.bipush (-2), 2) := by decide +kernel
theorem dX9_prove_51 : decode cX9_prove 51 = .ok (.ireturn, 1) := by decide +kernel
theorem dX9_prove_52 : decode cX9_prove 52 = .ok (.aload_n 0, 1) := by decide +kernel
theorem dX9_prove_53 : decode cX9_prove 53 = .ok (.iload_n 1, 1) := by decide +kernel
theorem dX9_prove_54 : decode cX9_prove 54 = .ok (.iload_n 2, 1) := by decide +kernel
theorem dX9_prove_55 : decode cX9_prove 55 = .ok (.iload_n 3, 1) := by decide +kernel
theorem dX9_prove_56 : decode cX9_prove 56 = .ok (.iload 4, 2) := by decide +kernel
theorem dX9_prove_58 : decode cX9_prove 58 = .ok (.iload 5, 2) := by decide +kernel
theorem dX9_prove_60 : decode cX9_prove 60 = .ok (.iload 6, 2) := by decide +kernel
theorem dX9_prove_62 : decode cX9_prove 62 = .ok (.invokevirtual 113, 3) := by decide +kernel
theorem dX9_prove_65 : decode cX9_prove 65 = .ok (.ireturn, 1) := by decide +kernel
set_option maxRecDepth 20000 in
theorem ggX9_proved_X9_sealOf : GoodIn wsX9_proved wsX9_sealOf := goodIn_r _ [7, 8, 9, 6, 10, 11, 12, 13, 14, 15, 16, 17, 18, 19, 20, 21, 22, 38, 39, 40, 41, 42, 43, 44, 45, 46, 47, 48, 49, 50, 51, 52, 53, 54, 55] (by decide +kernel) (by decide +kernel)
set_option maxRecDepth 20000 in
theorem gX9_proved_X9_sealOf : GoodIn wsX9_proved (wsV RX9 86 RX9 yX9_sealOf wsX9_sealOf) := goodIn_app (goodIn_of _ (by decide +kernel)) ggX9_proved_X9_sealOf
set_option maxRecDepth 20000 in
theorem ggX9_proved_X9_mix : GoodIn wsX9_proved wsX9_mix := goodIn_r _ [26, 1, 27, 2, 38, 39, 40, 41, 42, 43, 44, 45, 46, 47, 48, 49, 50, 51, 52, 53, 54, 55] (by decide +kernel) (by decide +kernel)
set_option maxRecDepth 20000 in
theorem gX9_proved_X9_mix : GoodIn wsX9_proved (wsV RX9 117 RX9 yX9_mix wsX9_mix) := goodIn_app (goodIn_of _ (by decide +kernel)) ggX9_proved_X9_mix
set_option maxRecDepth 20000 in
theorem ggX9_proved_X9_power : GoodIn wsX9_proved wsX9_power := goodIn_r _ [10, 11, 12, 6, 13] (by decide +kernel) (by decide +kernel)
set_option maxRecDepth 20000 in
theorem gX9_proved_X9_power : GoodIn wsX9_proved (va_wsS RX9 61 yX9_power wsX9_power) := goodIn_app (goodIn_of _ (by decide +kernel)) ggX9_proved_X9_power
set_option maxRecDepth 20000 in
theorem ggX9_proved_X9_sOf : GoodIn wsX9_proved wsX9_sOf := goodIn_r _ [30, 8, 9, 6, 10, 11, 12, 13, 31, 32, 33, 19, 20, 21, 22] (by decide +kernel) (by decide +kernel)
set_option maxRecDepth 20000 in
theorem gX9_proved_X9_sOf : GoodIn wsX9_proved (va_wsS RX9 121 yX9_sOf wsX9_sOf) := goodIn_app (goodIn_of _ (by decide +kernel)) ggX9_proved_X9_sOf
set_option maxRecDepth 20000 in
theorem ggX9_proved_X9_h : GoodIn wsX9_proved wsX9_h := goodIn_r _ [17, 18, 8, 9, 6, 10, 11, 12, 13, 38, 39, 40, 41, 42, 43, 44, 45, 46, 47, 48, 49, 50, 51, 52, 53, 54, 55] (by decide +kernel) (by decide +kernel)
set_option maxRecDepth 20000 in
theorem gX9_proved_X9_h : GoodIn wsX9_proved (wsV RX9 75 RX9 yX9_h wsX9_h) := goodIn_app (goodIn_of _ (by decide +kernel)) ggX9_proved_X9_h
set_option maxRecDepth 20000 in
theorem ggX9_proved_X9_tOf : GoodIn wsX9_proved wsX9_tOf := goodIn_r _ [37, 14, 15, 16, 6, 17, 18, 8, 9, 10, 11, 12, 13, 31, 32, 33, 19, 20, 21, 22, 38, 39, 40, 41, 42, 43, 44, 45, 46, 47, 48, 49, 50, 51, 52, 53, 54, 55] (by decide +kernel) (by decide +kernel)
set_option maxRecDepth 20000 in
theorem gX9_proved_X9_tOf : GoodIn wsX9_proved (wsV RX9 124 RX9 yX9_tOf wsX9_tOf) := goodIn_app (goodIn_of _ (by decide +kernel)) ggX9_proved_X9_tOf
theorem dX9_proved_0 : decode cX9_proved 0 = .ok (.aload_n 0, 1) := by decide +kernel
theorem dX9_proved_1 : decode cX9_proved 1 = .ok (.iload_n 1, 1) := by decide +kernel
theorem dX9_proved_2 : decode cX9_proved 2 = .ok (.iload_n 2, 1) := by decide +kernel
theorem dX9_proved_3 : decode cX9_proved 3 = .ok (.iconst 0, 1) := by decide +kernel
theorem dX9_proved_4 : decode cX9_proved 4 = .ok (.invokevirtual 86, 3) := by decide +kernel
theorem dX9_proved_7 : decode cX9_proved 7 = .ok (.istore 7, 2) := by decide +kernel
theorem dX9_proved_9 : decode cX9_proved 9 = .ok (.aload_n 0, 1) := by decide +kernel
theorem dX9_proved_10 : decode cX9_proved 10 = .ok (.iload_n 1, 1) := by decide +kernel
theorem dX9_proved_11 : decode cX9_proved 11 = .ok (.iload_n 2, 1) := by decide +kernel
theorem dX9_proved_12 : decode cX9_proved 12 = .ok (.iconst 1, 1) := by decide +kernel
theorem dX9_proved_13 : decode cX9_proved 13 = .ok (.invokevirtual 86, 3) := by decide +kernel
theorem dX9_proved_16 : decode cX9_proved 16 = .ok (.istore 8, 2) := by decide +kernel
theorem dX9_proved_18 : decode cX9_proved 18 = .ok (.aload_n 0, 1) := by decide +kernel
theorem dX9_proved_19 : decode cX9_proved 19 = .ok (.iconst 1, 1) := by decide +kernel
theorem dX9_proved_20 : decode cX9_proved 20 = .ok (.putfield 108, 3) := by decide +kernel
theorem dX9_proved_23 : decode cX9_proved 23 = .ok (.aload_n 0, 1) := by decide +kernel
theorem dX9_proved_24 : decode cX9_proved 24 = .ok (.iload 7, 2) := by decide +kernel
theorem dX9_proved_26 : decode cX9_proved 26 = .ok (.invokevirtual 117, 3) := by decide +kernel
theorem dX9_proved_29 : decode cX9_proved 29 = .ok (.aload_n 0, 1) := by decide +kernel
theorem dX9_proved_30 : decode cX9_proved 30 = .ok (.iload 8, 2) := by decide +kernel
theorem dX9_proved_32 : decode cX9_proved 32 = .ok (.invokevirtual 117, 3) := by decide +kernel
theorem dX9_proved_35 : decode cX9_proved 35 = .ok (.iconst 0, 1) := by decide +kernel
theorem dX9_proved_36 : decode cX9_proved 36 = .ok (.istore 9, 2) := by decide +kernel
theorem dX9_proved_38 : decode cX9_proved 38 = .ok (.iload 9, 2) := by decide +kernel
theorem dX9_proved_40 : decode cX9_proved 40 = .ok (.iconst 2, 1) := by decide +kernel
theorem dX9_proved_41 : decode cX9_proved 41 = .ok (.if_icmp .ge 69, 3) := by decide +kernel
theorem dX9_proved_44 : decode cX9_proved 44 = .ok (.aload_n 0, 1) := by decide +kernel
theorem dX9_proved_45 : decode cX9_proved 45 = .ok (.iload 9, 2) := by decide +kernel
theorem dX9_proved_47 : decode cX9_proved 47 = .ok (.iload_n 1, 1) := by decide +kernel
theorem dX9_proved_48 : decode cX9_proved 48 = .ok (.if_icmp .ne 11, 3) := by decide +kernel
theorem dX9_proved_51 : decode cX9_proved 51 = .ok (.iconst 4, 1) := by decide +kernel
theorem dX9_proved_52 : decode cX9_proved 52 = .ok (.iload_n 3, 1) := by decide +kernel
theorem dX9_proved_53 : decode cX9_proved 53 = .ok (.invokestatic 61, 3) := by decide +kernel
theorem dX9_proved_56 : decode cX9_proved 56 = .ok (.goto 12, 3) := by decide +kernel
theorem dX9_proved_59 : decode cX9_proved 59 = .ok (.iload 7, 2) := by decide +kernel
theorem dX9_proved_61 : decode cX9_proved 61 = .ok (.iload 4, 2) := by decide +kernel
theorem dX9_proved_63 : decode cX9_proved 63 = .ok (.iload 5, 2) := by decide +kernel
theorem dX9_proved_65 : decode cX9_proved 65 = .ok (.invokestatic 121, 3) := by decide +kernel
theorem dX9_proved_68 : decode cX9_proved 68 = .ok (.invokevirtual 117, 3) := by decide +kernel
theorem dX9_proved_71 : decode cX9_proved 71 = .ok (.aload_n 0, 1) := by decide +kernel
theorem dX9_proved_72 : decode cX9_proved 72 = .ok (.iload 9, 2) := by decide +kernel
theorem dX9_proved_74 : decode cX9_proved 74 = .ok (.iload_n 1, 1) := by decide +kernel
theorem dX9_proved_75 : decode cX9_proved 75 = .ok (.if_icmp .ne 14, 3) := by decide +kernel
theorem dX9_proved_78 : decode cX9_proved 78 = .ok (.aload_n 0, 1) := by decide +kernel
theorem dX9_proved_79 : decode cX9_proved 79 = .ok (.invokevirtual 75, 3) := by decide +kernel
theorem dX9_proved_82 : decode cX9_proved 82 = .ok (.iload_n 3, 1) := by decide +kernel
theorem dX9_proved_83 : decode cX9_proved 83 = .ok (.invokestatic 61, 3) := by decide +kernel
theorem dX9_proved_86 : decode cX9_proved 86 = .ok (.goto 15, 3) := by decide +kernel
theorem dX9_proved_89 : decode cX9_proved 89 = .ok (.aload_n 0, 1) := by decide +kernel
theorem dX9_proved_90 : decode cX9_proved 90 = .ok (.iload 8, 2) := by decide +kernel
theorem dX9_proved_92 : decode cX9_proved 92 = .ok (.iload 9, 2) := by decide +kernel
theorem dX9_proved_94 : decode cX9_proved 94 = .ok (.iload 4, 2) := by decide +kernel
theorem dX9_proved_96 : decode cX9_proved 96 = .ok (.iload 5, 2) := by decide +kernel
theorem dX9_proved_98 : decode cX9_proved 98 = .ok (.invokevirtual 124, 3) := by decide +kernel
theorem dX9_proved_101 : decode cX9_proved 101 = .ok (.invokevirtual 117, 3) := by decide +kernel
theorem dX9_proved_104 : decode cX9_proved 104 = .ok (.iinc 9 1, 3) := by decide +kernel
theorem dX9_proved_107 : decode cX9_proved 107 = .ok (.goto (-69), 3) := by decide +kernel
theorem dX9_proved_110 : decode cX9_proved 110 = .ok (.aload_n 0, 1) := by decide +kernel
theorem dX9_proved_111 : decode cX9_proved 111 = .ok (.getfield 108, 3) := by decide +kernel
theorem dX9_proved_114 : decode cX9_proved 114 = .ok (.sipush 5003, 3) := by decide +kernel
theorem dX9_proved_117 : decode cX9_proved 117 = .ok (.iadd, 1) := by decide +kernel
theorem dX9_proved_118 : decode cX9_proved 118 = .ok (.iload 4, 2) := by decide +kernel
theorem dX9_proved_120 : decode cX9_proved 120 = .ok (.isub, 1) := by decide +kernel
theorem dX9_proved_121 : decode cX9_proved 121 = .ok (.sipush 5003, 3) := by decide +kernel
theorem dX9_proved_124 : decode cX9_proved 124 = .ok (.irem, 1) := by decide +kernel
theorem dX9_proved_125 : decode cX9_proved 125 = .ok (.istore 9, 2) := by decide +kernel
theorem dX9_proved_127 : decode cX9_proved 127 = .ok (.iload_n 3, 1) := by decide +kernel
theorem dX9_proved_128 : decode cX9_proved 128 = .ok (.i2l, 1) := by decide +kernel
theorem dX9_proved_129 : decode cX9_proved 129 = .ok (.iload 9, 2) := by decide +kernel
theorem dX9_proved_131 : decode cX9_proved 131 = .ok (.i2l, 1) := by decide +kernel
theorem dX9_proved_132 : decode cX9_proved 132 = .ok (.iload_n 2, 1) := by decide +kernel
theorem dX9_proved_133 : decode cX9_proved 133 = .ok (.i2l, 1) := by decide +kernel
theorem dX9_proved_134 : decode cX9_proved 134 = .ok (.lmul, 1) := by decide +kernel
theorem dX9_proved_135 : decode cX9_proved 135 = .ok (.ladd, 1) := by decide +kernel
theorem dX9_proved_136 : decode cX9_proved 136 = .ok (.ldc2_w 97, 3) := by decide +kernel
theorem dX9_proved_139 : decode cX9_proved 139 = .ok (.lrem, 1) := by decide +kernel
theorem dX9_proved_140 : decode cX9_proved 140 = .ok (.l2i, 1) := by decide +kernel
theorem dX9_proved_141 : decode cX9_proved 141 = .ok (.istore 10, 2) := by decide +kernel
theorem dX9_proved_143 : decode cX9_proved 143 = .ok (.iload 6, 2) := by decide +kernel
theorem dX9_proved_145 : decode cX9_proved 145 = .ok (.iconst 2, 1) := by decide +kernel
theorem dX9_proved_146 : decode cX9_proved 146 = .ok (.idiv, 1) := by decide +kernel
theorem dX9_proved_147 : decode cX9_proved 147 = .ok (.iload_n 1, 1) := by decide +kernel
theorem dX9_proved_148 : decode cX9_proved 148 = .ok (.if_icmp .ne 7, 3) := by decide +kernel
theorem dX9_proved_151 : decode cX9_proved 151 = .ok (.iconst 1, 1) := by decide +kernel
theorem dX9_proved_152 : decode cX9_proved 152 = .ok (.goto 4, 3) := by decide +kernel
theorem dX9_proved_155 : decode cX9_proved 155 = .ok (.iconst 0, 1) := by decide +kernel
theorem dX9_proved_156 : decode cX9_proved 156 = .ok (.istore 11, 2) := by decide +kernel
theorem dX9_proved_158 : decode cX9_proved 158 = .ok (.iload 6, 2) := by decide +kernel
theorem dX9_proved_160 : decode cX9_proved 160 = .ok (.iconst 2, 1) := by decide +kernel
theorem dX9_proved_161 : decode cX9_proved 161 = .ok (.irem, 1) := by decide +kernel
theorem dX9_proved_162 : decode cX9_proved 162 = .ok (.ifCond .ne 18, 3) := by decide +kernel
theorem dX9_proved_165 : decode cX9_proved 165 = .ok (.iload 11, 2) := by decide +kernel
theorem dX9_proved_167 : decode cX9_proved 167 = .ok (.ifCond .eq 8, 3) := by decide +kernel
theorem dX9_proved_170 : decode cX9_proved 170 = .ok (.iload 9, 2) := by decide +kernel
theorem dX9_proved_172 : decode cX9_proved 172 = .ok (.goto 20, 3) := by decide +kernel
theorem dX9_proved_175 : decode cX9_proved 175 = .ok (.iload 4, 2) := by decide +kernel
theorem dX9_proved_177 : decode cX9_proved 177 = .ok (.goto 15, 3) := by decide +kernel
theorem dX9_proved_180 : decode cX9_proved 180 = .ok (.iload 11, 2) := by decide +kernel
theorem dX9_proved_182 : decode cX9_proved 182 = .ok (.ifCond .eq 8, 3) := by decide +kernel
theorem dX9_proved_185 : decode cX9_proved 185 = .ok (.iload 10, 2) := by decide +kernel
theorem dX9_proved_187 : decode cX9_proved 187 = .ok (.goto 5, 3) := by decide +kernel
theorem dX9_proved_190 : decode cX9_proved 190 = .ok (.iload 5, 2) := by decide +kernel
theorem dX9_proved_192 : decode cX9_proved 192 = .ok (.ireturn, 1) := by decide +kernel
set_option maxRecDepth 20000 in
theorem ggX9_holds_X9_isRight : GoodIn wsX9_holds wsX9_isRight := goodIn_r _ [5, 6, 7, 4, 8, 9, 10, 11, 12, 13, 14, 15, 16, 17] (by decide +kernel) (by decide +kernel)
set_option maxRecDepth 20000 in
theorem gX9_holds_X9_isRight : GoodIn wsX9_holds (va_wsS RX9 93 yX9_isRight wsX9_isRight) := goodIn_app (goodIn_of _ (by decide +kernel)) ggX9_holds_X9_isRight
set_option maxRecDepth 20000 in
theorem ggX9_holds_X9_isPower : GoodIn wsX9_holds wsX9_isPower := goodIn_r _ [20, 9, 10, 4, 11] (by decide +kernel) (by decide +kernel)
set_option maxRecDepth 20000 in
theorem gX9_holds_X9_isPower : GoodIn wsX9_holds (va_wsS RX9 68 yX9_isPower wsX9_isPower) := goodIn_app (goodIn_of _ (by decide +kernel)) ggX9_holds_X9_isPower
set_option maxRecDepth 20000 in
theorem ggX9_holds_X9_mix : GoodIn wsX9_holds wsX9_mix := goodIn_r _ [24, 1, 25, 26, 46, 47, 48, 49, 50, 51, 52, 53, 54, 55, 56, 57, 58, 59, 60, 61, 62, 63] (by decide +kernel) (by decide +kernel)
set_option maxRecDepth 20000 in
theorem gX9_holds_X9_mix : GoodIn wsX9_holds (wsV RX9 117 RX9 yX9_mix wsX9_mix) := goodIn_app (goodIn_of _ (by decide +kernel)) ggX9_holds_X9_mix
set_option maxRecDepth 20000 in
theorem ggX9_holds_X9_sOf : GoodIn wsX9_holds wsX9_sOf := goodIn_r _ [29, 12, 13, 4, 14, 15, 16, 17, 30, 31, 32, 33, 34, 35, 36] (by decide +kernel) (by decide +kernel)
set_option maxRecDepth 20000 in
theorem gX9_holds_X9_sOf : GoodIn wsX9_holds (va_wsS RX9 121 yX9_sOf wsX9_sOf) := goodIn_app (goodIn_of _ (by decide +kernel)) ggX9_holds_X9_sOf
set_option maxRecDepth 20000 in
theorem ggX9_holds_X9_tOf : GoodIn wsX9_holds wsX9_tOf := goodIn_r _ [40, 41, 42, 43, 4, 44, 45, 12, 13, 14, 15, 16, 17, 30, 31, 32, 33, 34, 35, 36, 46, 47, 48, 49, 50, 51, 52, 53, 54, 55, 56, 57, 58, 59, 60, 61, 62, 63] (by decide +kernel) (by decide +kernel)
set_option maxRecDepth 20000 in
theorem gX9_holds_X9_tOf : GoodIn wsX9_holds (wsV RX9 124 RX9 yX9_tOf wsX9_tOf) := goodIn_app (goodIn_of _ (by decide +kernel)) ggX9_holds_X9_tOf
theorem dX9_holds_0 : decode cX9_holds 0 = .ok (.iload_n 1, 1) := by decide +kernel
theorem dX9_holds_1 : decode cX9_holds 1 = .ok (.iload_n 2, 1) := by decide +kernel
theorem dX9_holds_2 : decode cX9_holds 2 = .ok (.invokestatic 93, 3) := by decide +kernel
theorem dX9_holds_5 : decode cX9_holds 5 = .ok (.ifCond .eq 34, 3) := by decide +kernel
theorem dX9_holds_8 : decode cX9_holds 8 = .ok (.iload_n 3, 1) := by decide +kernel
theorem dX9_holds_9 : decode cX9_holds 9 = .ok (.invokestatic 68, 3) := by decide +kernel
theorem dX9_holds_12 : decode cX9_holds 12 = .ok (.ifCond .eq 27, 3) := by decide +kernel
theorem dX9_holds_15 : decode cX9_holds 15 = .ok (.iload 4, 2) := by decide +kernel
theorem dX9_holds_17 : decode cX9_holds 17 = .ok (.invokestatic 68, 3) := by decide +kernel
theorem dX9_holds_20 : decode cX9_holds 20 = .ok (.ifCond .eq 19, 3) := by decide +kernel
theorem dX9_holds_23 : decode cX9_holds 23 = .ok (.iload 5, 2) := by decide +kernel
theorem dX9_holds_25 : decode cX9_holds 25 = .ok (.invokestatic 68, 3) := by decide +kernel
theorem dX9_holds_28 : decode cX9_holds 28 = .ok (.ifCond .eq 11, 3) := by decide +kernel
theorem dX9_holds_31 : decode cX9_holds 31 = .ok (.iload 6, 2) := by decide +kernel
theorem dX9_holds_33 : decode cX9_holds 33 = .ok (.invokestatic 68, 3) := by decide +kernel
theorem dX9_holds_36 : decode cX9_holds 36 = .ok (.ifCond .ne 5, 3) := by decide +kernel
theorem dX9_holds_39 : decode cX9_holds 39 = .ok (.iconst 0, 1) := by decide +kernel
theorem dX9_holds_40 : decode cX9_holds 40 = .ok (.ireturn, 1) := by decide +kernel
theorem dX9_holds_41 : decode cX9_holds 41 = .ok (.aload_n 0, 1) := by decide +kernel
theorem dX9_holds_42 : decode cX9_holds 42 = .ok (.iconst 1, 1) := by decide +kernel
theorem dX9_holds_43 : decode cX9_holds 43 = .ok (.putfield 108, 3) := by decide +kernel
theorem dX9_holds_46 : decode cX9_holds 46 = .ok (.aload_n 0, 1) := by decide +kernel
theorem dX9_holds_47 : decode cX9_holds 47 = .ok (.iload_n 1, 1) := by decide +kernel
theorem dX9_holds_48 : decode cX9_holds 48 = .ok (.invokevirtual 117, 3) := by decide +kernel
theorem dX9_holds_51 : decode cX9_holds 51 = .ok (.aload_n 0, 1) := by decide +kernel
theorem dX9_holds_52 : decode cX9_holds 52 = .ok (.iload_n 2, 1) := by decide +kernel
theorem dX9_holds_53 : decode cX9_holds 53 = .ok (.invokevirtual 117, 3) := by decide +kernel
theorem dX9_holds_56 : decode cX9_holds 56 = .ok (.aload_n 0, 1) := by decide +kernel
theorem dX9_holds_57 : decode cX9_holds 57 = .ok (.iload_n 1, 1) := by decide +kernel
theorem dX9_holds_58 : decode cX9_holds 58 = .ok (.iload_n 3, 1) := by decide +kernel
theorem dX9_holds_59 : decode cX9_holds 59 = .ok (.iload 4, 2) := by decide +kernel
theorem dX9_holds_61 : decode cX9_holds 61 = .ok (.invokestatic 121, 3) := by decide +kernel
theorem dX9_holds_64 : decode cX9_holds 64 = .ok (.invokevirtual 117, 3) := by decide +kernel
theorem dX9_holds_67 : decode cX9_holds 67 = .ok (.aload_n 0, 1) := by decide +kernel
theorem dX9_holds_68 : decode cX9_holds 68 = .ok (.aload_n 0, 1) := by decide +kernel
theorem dX9_holds_69 : decode cX9_holds 69 = .ok (.iload_n 2, 1) := by decide +kernel
theorem dX9_holds_70 : decode cX9_holds 70 = .ok (.iconst 0, 1) := by decide +kernel
theorem dX9_holds_71 : decode cX9_holds 71 = .ok (.iload_n 3, 1) := by decide +kernel
theorem dX9_holds_72 : decode cX9_holds 72 = .ok (.iload 4, 2) := by decide +kernel
theorem dX9_holds_74 : decode cX9_holds 74 = .ok (.invokevirtual 124, 3) := by decide +kernel
theorem dX9_holds_77 : decode cX9_holds 77 = .ok (.invokevirtual 117, 3) := by decide +kernel
theorem dX9_holds_80 : decode cX9_holds 80 = .ok (.aload_n 0, 1) := by decide +kernel
theorem dX9_holds_81 : decode cX9_holds 81 = .ok (.iload_n 1, 1) := by decide +kernel
theorem dX9_holds_82 : decode cX9_holds 82 = .ok (.iload 5, 2) := by decide +kernel
theorem dX9_holds_84 : decode cX9_holds 84 = .ok (.iload 6, 2) := by decide +kernel
theorem dX9_holds_86 : decode cX9_holds 86 = .ok (.invokestatic 121, 3) := by decide +kernel
theorem dX9_holds_89 : decode cX9_holds 89 = .ok (.invokevirtual 117, 3) := by decide +kernel
theorem dX9_holds_92 : decode cX9_holds 92 = .ok (.aload_n 0, 1) := by decide +kernel
theorem dX9_holds_93 : decode cX9_holds 93 = .ok (.aload_n 0, 1) := by decide +kernel
theorem dX9_holds_94 : decode cX9_holds 94 = .ok (.iload_n 2, 1) := by decide +kernel
theorem dX9_holds_95 : decode cX9_holds 95 = .ok (.iconst 1, 1) := by decide +kernel
theorem dX9_holds_96 : decode cX9_holds 96 = .ok (.iload 5, 2) := by decide +kernel
theorem dX9_holds_98 : decode cX9_holds 98 = .ok (.iload 6, 2) := by decide +kernel
theorem dX9_holds_100 : decode cX9_holds 100 = .ok (.invokevirtual 124, 3) := by decide +kernel
theorem dX9_holds_103 : decode cX9_holds 103 = .ok (.invokevirtual 117, 3) := by decide +kernel
theorem dX9_holds_106 : decode cX9_holds 106 = .ok (.iload_n 3, 1) := by decide +kernel
theorem dX9_holds_107 : decode cX9_holds 107 = .ok (.iload 5, 2) := by decide +kernel
theorem dX9_holds_109 : decode cX9_holds 109 = .ok (.iadd, 1) := by decide +kernel
theorem dX9_holds_110 : decode cX9_holds 110 = .ok (.sipush 5003, 3) := by decide +kernel
theorem dX9_holds_113 : decode cX9_holds 113 = .ok (.irem, 1) := by decide +kernel
theorem dX9_holds_114 : decode cX9_holds 114 = .ok (.aload_n 0, 1) := by decide +kernel
theorem dX9_holds_115 : decode cX9_holds 115 = .ok (.getfield 108, 3) := by decide +kernel
theorem dX9_holds_118 : decode cX9_holds 118 = .ok (.if_icmp .ne 7, 3) := by decide +kernel
theorem dX9_holds_121 : decode cX9_holds 121 = .ok (.iconst 1, 1) := by decide +kernel
theorem dX9_holds_122 : decode cX9_holds 122 = .ok (.goto 4, 3) := by decide +kernel
theorem dX9_holds_125 : decode cX9_holds 125 = .ok (.iconst 0, 1) := by decide +kernel
theorem dX9_holds_126 : decode cX9_holds 126 = .ok (.ireturn, 1) := by decide +kernel
set_option maxRecDepth 20000 in
theorem ggX9_check_X9_holds : GoodIn wsX9_check wsX9_holds := goodIn_r _ [5, 6, 7, 8, 4, 9, 10, 11, 12, 13, 14, 15, 16, 17, 18, 19, 20, 21, 22, 23, 24, 25, 26, 27, 28, 29, 30, 31, 32, 33, 34, 35, 36, 37, 38, 39, 40, 41, 42, 43, 44, 45, 46, 47, 48, 49, 50, 51, 52, 53, 54, 55, 56, 57, 58, 59, 60, 61, 62, 63, 64, 65, 66, 67] (by decide +kernel) (by decide +kernel)
set_option maxRecDepth 20000 in
theorem gX9_check_X9_holds : GoodIn wsX9_check (wsV RX9 128 RX9 yX9_holds wsX9_holds) := goodIn_app (goodIn_of _ (by decide +kernel)) ggX9_check_X9_holds
theorem dX9_check_0 : decode cX9_check 0 = .ok (.aload_n 0, 1) := by decide +kernel
theorem dX9_check_1 : decode cX9_check 1 = .ok (.iload_n 1, 1) := by decide +kernel
theorem dX9_check_2 : decode cX9_check 2 = .ok (.iload_n 2, 1) := by decide +kernel
theorem dX9_check_3 : decode cX9_check 3 = .ok (.iload_n 3, 1) := by decide +kernel
theorem dX9_check_4 : decode cX9_check 4 = .ok (.iload 4, 2) := by decide +kernel
theorem dX9_check_6 : decode cX9_check 6 = .ok (.iload 5, 2) := by decide +kernel
theorem dX9_check_8 : decode cX9_check 8 = .ok (.iload 6, 2) := by decide +kernel
theorem dX9_check_10 : decode cX9_check 10 = .ok (.invokevirtual 128, 3) := by decide +kernel
theorem dX9_check_13 : decode cX9_check 13 = .ok (.ifCond .eq 7, 3) := by decide +kernel
theorem dX9_check_16 : decode cX9_check 16 = .ok (.iconst 1, 1) := by decide +kernel
theorem dX9_check_17 : decode cX9_check 17 = .ok (.goto 4, 3) := by decide +kernel
theorem dX9_check_20 : decode cX9_check 20 = .ok (.iconst 0, 1) := by decide +kernel
theorem dX9_check_21 : decode cX9_check 21 = .ok (.ireturn, 1) := by decide +kernel
set_option maxRecDepth 20000 in
theorem ggX9_isVoter_X9_in : GoodIn wsX9_isVoter wsX9_in := goodIn_r _ [4] (by decide +kernel) (by decide +kernel)
set_option maxRecDepth 20000 in
theorem gX9_isVoter_X9_in : GoodIn wsX9_isVoter (va_wsS RX9 51 yX9_in wsX9_in) := goodIn_app (goodIn_of _ (by decide +kernel)) ggX9_isVoter_X9_in
theorem dX9_isVoter_0 : decode cX9_isVoter 0 = .ok (.iload_n 0, 1) := by decide +kernel
theorem dX9_isVoter_1 : decode cX9_isVoter 1 = .ok (.iconst 0, 1) := by decide +kernel
theorem dX9_isVoter_2 : decode cX9_isVoter 2 = .ok (.bipush 11, 2) := by decide +kernel
theorem dX9_isVoter_4 : decode cX9_isVoter 4 = .ok (.invokestatic 51, 3) := by decide +kernel
theorem dX9_isVoter_7 : decode cX9_isVoter 7 = .ok (.ireturn, 1) := by decide +kernel
set_option maxRecDepth 20000 in
theorem ggX9_voter_X9_isVoter : GoodIn wsX9_voter wsX9_isVoter := goodIn_r _ [5, 6, 7, 4, 8] (by decide +kernel) (by decide +kernel)
set_option maxRecDepth 20000 in
theorem gX9_voter_X9_isVoter : GoodIn wsX9_voter (va_wsS RX9 132 yX9_isVoter wsX9_isVoter) := goodIn_app (goodIn_of _ (by decide +kernel)) ggX9_voter_X9_isVoter
set_option maxRecDepth 20000 in
theorem ggX9_voter_X9_in : GoodIn wsX9_voter wsX9_in := goodIn_r _ [8] (by decide +kernel) (by decide +kernel)
set_option maxRecDepth 20000 in
theorem gX9_voter_X9_in : GoodIn wsX9_voter (va_wsS RX9 51 yX9_in wsX9_in) := goodIn_app (goodIn_of _ (by decide +kernel)) ggX9_voter_X9_in
theorem dX9_voter_0 : decode cX9_voter 0 = .ok (.iload_n 1, 1) := by decide +kernel
theorem dX9_voter_1 : decode cX9_voter 1 = .ok (.invokestatic 132, 3) := by decide +kernel
theorem dX9_voter_4 : decode cX9_voter 4 = .ok (.ifCond .ne 5, 3) := by decide +kernel
theorem dX9_voter_7 : decode cX9_voter 7 = .ok (.iconst (-1), 1) := by decide +kernel
theorem dX9_voter_8 : decode cX9_voter 8 = .ok (.ireturn, 1) := by decide +kernel
theorem dX9_voter_9 : decode cX9_voter 9 = .ok (.iload_n 2, 1) := by decide +kernel
theorem dX9_voter_10 : decode cX9_voter 10 = .ok (.iconst 0, 1) := by decide +kernel
theorem dX9_voter_11 : decode cX9_voter 11 = .ok (.iconst 2, 1) := by decide +kernel
theorem dX9_voter_12 : decode cX9_voter 12 = .ok (.invokestatic 51, 3) := by decide +kernel
theorem dX9_voter_15 : decode cX9_voter 15 = .ok (.ifCond .eq 22, 3) := by decide +kernel
theorem dX9_voter_18 : decode cX9_voter 18 = .ok (.iload_n 3, 1) := by decide +kernel
theorem dX9_voter_19 : decode cX9_voter 19 = .ok (.iconst 0, 1) := by decide +kernel
theorem dX9_voter_20 : decode cX9_voter 20 = .ok (.iload_n 2, 1) := by decide +kernel
theorem dX9_voter_21 : decode cX9_voter 21 = .ok (.iconst 2, 1) := by decide +kernel
theorem dX9_voter_22 : decode cX9_voter 22 = .ok (.if_icmp .ne 7, 3) := by decide +kernel
theorem dX9_voter_25 : decode cX9_voter 25 = .ok (.iconst 1, 1) := by decide +kernel
theorem dX9_voter_26 : decode cX9_voter 26 = .ok (.goto 5, 3) := by decide +kernel
theorem dX9_voter_29 : decode cX9_voter 29 = .ok (.bipush 120, 2) := by decide +kernel
theorem dX9_voter_31 : decode cX9_voter 31 = .ok (.invokestatic 51, 3) := by decide +kernel
theorem dX9_voter_34 : decode cX9_voter 34 = .ok (.ifCond .ne 6, 3) := by decide +kernel
theorem dX9_voter_37 : decode cX9_voter 37 = .ok (.bipush (-2), 2) := by decide +kernel
theorem dX9_voter_39 : decode cX9_voter 39 = .ok (.ireturn, 1) := by decide +kernel
theorem dX9_voter_40 : decode cX9_voter 40 = .ok (.aload_n 0, 1) := by decide +kernel
theorem dX9_voter_41 : decode cX9_voter 41 = .ok (.getfield 17, 3) := by decide +kernel
theorem dX9_voter_44 : decode cX9_voter 44 = .ok (.iconst 3, 1) := by decide +kernel
theorem dX9_voter_45 : decode cX9_voter 45 = .ok (.iload_n 1, 1) := by decide +kernel
theorem dX9_voter_46 : decode cX9_voter 46 = .ok (.imul, 1) := by decide +kernel
theorem dX9_voter_47 : decode cX9_voter 47 = .ok (.iload_n 2, 1) := by decide +kernel
theorem dX9_voter_48 : decode cX9_voter 48 = .ok (.iadd, 1) := by decide +kernel
theorem dX9_voter_49 : decode cX9_voter 49 = .ok (.iaload, 1) := by decide +kernel
theorem dX9_voter_50 : decode cX9_voter 50 = .ok (.istore 4, 2) := by decide +kernel
theorem dX9_voter_52 : decode cX9_voter 52 = .ok (.aload_n 0, 1) := by decide +kernel
theorem dX9_voter_53 : decode cX9_voter 53 = .ok (.getfield 17, 3) := by decide +kernel
theorem dX9_voter_56 : decode cX9_voter 56 = .ok (.iconst 3, 1) := by decide +kernel
theorem dX9_voter_57 : decode cX9_voter 57 = .ok (.iload_n 1, 1) := by decide +kernel
theorem dX9_voter_58 : decode cX9_voter 58 = .ok (.imul, 1) := by decide +kernel
theorem dX9_voter_59 : decode cX9_voter 59 = .ok (.iload_n 2, 1) := by decide +kernel
theorem dX9_voter_60 : decode cX9_voter 60 = .ok (.iadd, 1) := by decide +kernel
theorem dX9_voter_61 : decode cX9_voter 61 = .ok (.iload_n 3, 1) := by decide +kernel
theorem dX9_voter_62 : decode cX9_voter 62 = .ok (.iastore, 1) := by decide +kernel
theorem dX9_voter_63 : decode cX9_voter 63 = .ok (.iload 4, 2) := by decide +kernel
theorem dX9_voter_65 : decode cX9_voter 65 = .ok (.ireturn, 1) := by decide +kernel
set_option maxRecDepth 20000 in
theorem ggX9_say_X9_in : GoodIn wsX9_say wsX9_in := goodIn_r _ [6] (by decide +kernel) (by decide +kernel)
set_option maxRecDepth 20000 in
theorem gX9_say_X9_in : GoodIn wsX9_say (va_wsS RX9 51 yX9_in wsX9_in) := goodIn_app (goodIn_of _ (by decide +kernel)) ggX9_say_X9_in
theorem dX9_say_0 : decode cX9_say 0 = .ok (.iload_n 1, 1) := by decide +kernel
theorem dX9_say_1 : decode cX9_say 1 = .ok (.bipush 33, 2) := by decide +kernel
theorem dX9_say_3 : decode cX9_say 3 = .ok (.bipush 126, 2) := by decide +kernel
theorem dX9_say_5 : decode cX9_say 5 = .ok (.invokestatic 51, 3) := by decide +kernel
theorem dX9_say_8 : decode cX9_say 8 = .ok (.ifCond .ne 6, 3) := by decide +kernel
theorem dX9_say_11 : decode cX9_say 11 = .ok (.bipush (-2), 2) := by decide +kernel
theorem dX9_say_13 : decode cX9_say 13 = .ok (.ireturn, 1) := by decide +kernel
theorem dX9_say_14 : decode cX9_say 14 = .ok (.aload_n 0, 1) := by decide +kernel
theorem dX9_say_15 : decode cX9_say 15 = .ok (.getfield 135, 3) := by decide +kernel
theorem dX9_say_18 : decode cX9_say 18 = .ok (.bipush 40, 2) := by decide +kernel
theorem dX9_say_20 : decode cX9_say 20 = .ok (.if_icmp .ne 6, 3) := by decide +kernel
theorem dX9_say_23 : decode cX9_say 23 = .ok (.bipush (-4), 2) := by decide +kernel
theorem dX9_say_25 : decode cX9_say 25 = .ok (.ireturn, 1) := by decide +kernel
theorem dX9_say_26 : decode cX9_say 26 = .ok (.aload_n 0, 1) := by decide +kernel
theorem dX9_say_27 : decode cX9_say 27 = .ok (.getfield 20, 3) := by decide +kernel
theorem dX9_say_30 : decode cX9_say 30 = .ok (.aload_n 0, 1) := by decide +kernel
theorem dX9_say_31 : decode cX9_say 31 = .ok (.getfield 135, 3) := by decide +kernel
theorem dX9_say_34 : decode cX9_say 34 = .ok (.iload_n 1, 1) := by decide +kernel
theorem dX9_say_35 : decode cX9_say 35 = .ok (.iastore, 1) := by decide +kernel
theorem dX9_say_36 : decode cX9_say 36 = .ok (.aload_n 0, 1) := by decide +kernel
theorem dX9_say_37 : decode cX9_say 37 = .ok (.dup, 1) := by decide +kernel
theorem dX9_say_38 : decode cX9_say 38 = .ok (.getfield 135, 3) := by decide +kernel
theorem dX9_say_41 : decode cX9_say 41 = .ok (.iconst 1, 1) := by decide +kernel
theorem dX9_say_42 : decode cX9_say 42 = .ok (.iadd, 1) := by decide +kernel
theorem dX9_say_43 : decode cX9_say 43 = .ok (.putfield 135, 3) := by decide +kernel
theorem dX9_say_46 : decode cX9_say 46 = .ok (.aload_n 0, 1) := by decide +kernel
theorem dX9_say_47 : decode cX9_say 47 = .ok (.getfield 135, 3) := by decide +kernel
theorem dX9_say_50 : decode cX9_say 50 = .ok (.ireturn, 1) := by decide +kernel
theorem dX9_wipe_0 : decode cX9_wipe 0 = .ok (.aload_n 0, 1) := by decide +kernel
theorem dX9_wipe_1 : decode cX9_wipe 1 = .ok (.getfield 135, 3) := by decide +kernel
theorem dX9_wipe_4 : decode cX9_wipe 4 = .ok (.istore_n 1, 1) := by decide +kernel
theorem dX9_wipe_5 : decode cX9_wipe 5 = .ok (.aload_n 0, 1) := by decide +kernel
theorem dX9_wipe_6 : decode cX9_wipe 6 = .ok (.iconst 0, 1) := by decide +kernel
theorem dX9_wipe_7 : decode cX9_wipe 7 = .ok (.putfield 135, 3) := by decide +kernel
theorem dX9_wipe_10 : decode cX9_wipe 10 = .ok (.iload_n 1, 1) := by decide +kernel
theorem dX9_wipe_11 : decode cX9_wipe 11 = .ok (.ireturn, 1) := by decide +kernel
set_option maxRecDepth 20000 in
theorem ggX9_faultOf_X9_in : GoodIn wsX9_faultOf wsX9_in := goodIn_r _ [6] (by decide +kernel) (by decide +kernel)
set_option maxRecDepth 20000 in
theorem gX9_faultOf_X9_in : GoodIn wsX9_faultOf (va_wsS RX9 51 yX9_in wsX9_in) := goodIn_app (goodIn_of _ (by decide +kernel)) ggX9_faultOf_X9_in
theorem dX9_faultOf_0 : decode cX9_faultOf 0 = .ok (.iconst 0, 1) := by decide +kernel
theorem dX9_faultOf_1 : decode cX9_faultOf 1 = .ok (.istore_n 1, 1) := by decide +kernel
theorem dX9_faultOf_2 : decode cX9_faultOf 2 = .ok (.iconst 0, 1) := by decide +kernel
theorem dX9_faultOf_3 : decode cX9_faultOf 3 = .ok (.istore_n 2, 1) := by decide +kernel
theorem dX9_faultOf_4 : decode cX9_faultOf 4 = .ok (.iload_n 2, 1) := by decide +kernel
theorem dX9_faultOf_5 : decode cX9_faultOf 5 = .ok (.aload_n 0, 1) := by decide +kernel
theorem dX9_faultOf_6 : decode cX9_faultOf 6 = .ok (.getfield 135, 3) := by decide +kernel
theorem dX9_faultOf_9 : decode cX9_faultOf 9 = .ok (.if_icmp .ge 166, 3) := by decide +kernel
theorem dX9_faultOf_12 : decode cX9_faultOf 12 = .ok (.aload_n 0, 1) := by decide +kernel
theorem dX9_faultOf_13 : decode cX9_faultOf 13 = .ok (.getfield 20, 3) := by decide +kernel
theorem dX9_faultOf_16 : decode cX9_faultOf 16 = .ok (.iload_n 2, 1) := by decide +kernel
theorem dX9_faultOf_17 : decode cX9_faultOf 17 = .ok (.iaload, 1) := by decide +kernel
theorem dX9_faultOf_18 : decode cX9_faultOf 18 = .ok (.istore_n 3, 1) := by decide +kernel
theorem dX9_faultOf_19 : decode cX9_faultOf 19 = .ok (.iload_n 3, 1) := by decide +kernel
theorem dX9_faultOf_20 : decode cX9_faultOf 20 = .ok (.bipush 48, 2) := by decide +kernel
theorem dX9_faultOf_22 : decode cX9_faultOf 22 = .ok (.bipush 57, 2) := by decide +kernel
theorem dX9_faultOf_24 : decode cX9_faultOf 24 = .ok (.invokestatic 51, 3) := by decide +kernel
theorem dX9_faultOf_27 : decode cX9_faultOf 27 = .ok (.istore 4, 2) := by decide +kernel
theorem dX9_faultOf_29 : decode cX9_faultOf 29 = .ok (.iload_n 3, 1) := by decide +kernel
theorem dX9_faultOf_30 : decode cX9_faultOf 30 = .ok (.bipush 38, 2) := by decide +kernel
theorem dX9_faultOf_32 : decode cX9_faultOf 32 = .ok (.if_icmp .eq 9, 3) := by decide +kernel
theorem dX9_faultOf_35 : decode cX9_faultOf 35 = .ok (.iload_n 3, 1) := by decide +kernel
theorem dX9_faultOf_36 : decode cX9_faultOf 36 = .ok (.bipush 124, 2) := by decide +kernel
theorem dX9_faultOf_38 : decode cX9_faultOf 38 = .ok (.if_icmp .ne 7, 3) := by decide +kernel
theorem dX9_faultOf_41 : decode cX9_faultOf 41 = .ok (.iconst 1, 1) := by decide +kernel
theorem dX9_faultOf_42 : decode cX9_faultOf 42 = .ok (.goto 4, 3) := by decide +kernel
theorem dX9_faultOf_45 : decode cX9_faultOf 45 = .ok (.iconst 0, 1) := by decide +kernel
theorem dX9_faultOf_46 : decode cX9_faultOf 46 = .ok (.istore 5, 2) := by decide +kernel
theorem dX9_faultOf_48 : decode cX9_faultOf 48 = .ok (.iload_n 1, 1) := by decide +kernel
theorem dX9_faultOf_49 : decode cX9_faultOf 49 = .ok (.ifCond .ne 29, 3) := by decide +kernel
theorem dX9_faultOf_52 : decode cX9_faultOf 52 = .ok (.iload_n 3, 1) := by decide +kernel
theorem dX9_faultOf_53 : decode cX9_faultOf 53 = .ok (.bipush 97, 2) := by decide +kernel
theorem dX9_faultOf_55 : decode cX9_faultOf 55 = .ok (.if_icmp .eq 15, 3) := by decide +kernel
theorem dX9_faultOf_58 : decode cX9_faultOf 58 = .ok (.iload_n 3, 1) := by decide +kernel
theorem dX9_faultOf_59 : decode cX9_faultOf 59 = .ok (.bipush 121, 2) := by decide +kernel
theorem dX9_faultOf_61 : decode cX9_faultOf 61 = .ok (.if_icmp .eq 9, 3) := by decide +kernel
theorem dX9_faultOf_64 : decode cX9_faultOf 64 = .ok (.iload_n 3, 1) := by decide +kernel
theorem dX9_faultOf_65 : decode cX9_faultOf 65 = .ok (.bipush 98, 2) := by decide +kernel
theorem dX9_faultOf_67 : decode cX9_faultOf 67 = .ok (.if_icmp .ne 7, 3) := by decide +kernel
theorem dX9_faultOf_70 : decode cX9_faultOf 70 = .ok (.iconst 1, 1) := by decide +kernel
theorem dX9_faultOf_71 : decode cX9_faultOf 71 = .ok (.goto 71, 3) := by decide +kernel
theorem dX9_faultOf_74 : decode cX9_faultOf 74 = .ok (.iconst 0, 1) := by decide +kernel
theorem dX9_faultOf_75 : decode cX9_faultOf 75 = .ok (.goto 67, 3) := by decide +kernel
theorem dX9_faultOf_78 : decode cX9_faultOf 78 = .ok (.iload_n 1, 1) := by decide +kernel
theorem dX9_faultOf_79 : decode cX9_faultOf 79 = .ok (.iconst 1, 1) := by decide +kernel
theorem dX9_faultOf_80 : decode cX9_faultOf 80 = .ok (.if_icmp .ne 29, 3) := by decide +kernel
theorem dX9_faultOf_83 : decode cX9_faultOf 83 = .ok (.iload_n 3, 1) := by decide +kernel
theorem dX9_faultOf_84 : decode cX9_faultOf 84 = .ok (.bipush 60, 2) := by decide +kernel
theorem dX9_faultOf_86 : decode cX9_faultOf 86 = .ok (.if_icmp .eq 15, 3) := by decide +kernel
theorem dX9_faultOf_89 : decode cX9_faultOf 89 = .ok (.iload_n 3, 1) := by decide +kernel
theorem dX9_faultOf_90 : decode cX9_faultOf 90 = .ok (.bipush 62, 2) := by decide +kernel
theorem dX9_faultOf_92 : decode cX9_faultOf 92 = .ok (.if_icmp .eq 9, 3) := by decide +kernel
theorem dX9_faultOf_95 : decode cX9_faultOf 95 = .ok (.iload_n 3, 1) := by decide +kernel
theorem dX9_faultOf_96 : decode cX9_faultOf 96 = .ok (.bipush 61, 2) := by decide +kernel
theorem dX9_faultOf_98 : decode cX9_faultOf 98 = .ok (.if_icmp .ne 7, 3) := by decide +kernel
theorem dX9_faultOf_101 : decode cX9_faultOf 101 = .ok (.iconst 1, 1) := by decide +kernel
theorem dX9_faultOf_102 : decode cX9_faultOf 102 = .ok (.goto 40, 3) := by decide +kernel
theorem dX9_faultOf_105 : decode cX9_faultOf 105 = .ok (.iconst 0, 1) := by decide +kernel
theorem dX9_faultOf_106 : decode cX9_faultOf 106 = .ok (.goto 36, 3) := by decide +kernel
theorem dX9_faultOf_109 : decode cX9_faultOf 109 = .ok (.iload 4, 2) := by decide +kernel
theorem dX9_faultOf_111 : decode cX9_faultOf 111 = .ok (.ifCond .eq 16, 3) := by decide +kernel
theorem dX9_faultOf_114 : decode cX9_faultOf 114 = .ok (.iload_n 1, 1) := by decide +kernel
theorem dX9_faultOf_115 : decode cX9_faultOf 115 = .ok (.iconst 5, 1) := by decide +kernel
theorem dX9_faultOf_116 : decode cX9_faultOf 116 = .ok (.if_icmp .ge 7, 3) := by decide +kernel
theorem dX9_faultOf_119 : decode cX9_faultOf 119 = .ok (.iconst 1, 1) := by decide +kernel
theorem dX9_faultOf_120 : decode cX9_faultOf 120 = .ok (.goto 22, 3) := by decide +kernel
theorem dX9_faultOf_123 : decode cX9_faultOf 123 = .ok (.iconst 0, 1) := by decide +kernel
theorem dX9_faultOf_124 : decode cX9_faultOf 124 = .ok (.goto 18, 3) := by decide +kernel
theorem dX9_faultOf_127 : decode cX9_faultOf 127 = .ok (.iload 5, 2) := by decide +kernel
theorem dX9_faultOf_129 : decode cX9_faultOf 129 = .ok (.ifCond .eq 12, 3) := by decide +kernel
theorem dX9_faultOf_132 : decode cX9_faultOf 132 = .ok (.iload_n 1, 1) := by decide +kernel
theorem dX9_faultOf_133 : decode cX9_faultOf 133 = .ok (.iconst 2, 1) := by decide +kernel
theorem dX9_faultOf_134 : decode cX9_faultOf 134 = .ok (.if_icmp .le 7, 3) := by decide +kernel
theorem dX9_faultOf_137 : decode cX9_faultOf 137 = .ok (.iconst 1, 1) := by decide +kernel
theorem dX9_faultOf_138 : decode cX9_faultOf 138 = .ok (.goto 4, 3) := by decide +kernel
theorem dX9_faultOf_141 : decode cX9_faultOf 141 = .ok (.iconst 0, 1) := by decide +kernel
theorem dX9_faultOf_142 : decode cX9_faultOf 142 = .ok (.istore 6, 2) := by decide +kernel
theorem dX9_faultOf_144 : decode cX9_faultOf 144 = .ok (.iload 6, 2) := by decide +kernel
theorem dX9_faultOf_146 : decode cX9_faultOf 146 = .ok (.ifCond .ne 5, 3) := by decide +kernel
theorem dX9_faultOf_149 : decode cX9_faultOf 149 = .ok (.iload_n 2, 1) := by decide +kernel
theorem dX9_faultOf_150 : decode cX9_faultOf 150 = .ok (.ireturn, 1) := by decide +kernel
theorem dX9_faultOf_151 : decode cX9_faultOf 151 = .ok (.iload_n 1, 1) := by decide +kernel
theorem dX9_faultOf_152 : decode cX9_faultOf 152 = .ok (.iconst 2, 1) := by decide +kernel
theorem dX9_faultOf_153 : decode cX9_faultOf 153 = .ok (.if_icmp .le 12, 3) := by decide +kernel
theorem dX9_faultOf_156 : decode cX9_faultOf 156 = .ok (.iload 5, 2) := by decide +kernel
theorem dX9_faultOf_158 : decode cX9_faultOf 158 = .ok (.ifCond .eq 7, 3) := by decide +kernel
theorem dX9_faultOf_161 : decode cX9_faultOf 161 = .ok (.iconst 0, 1) := by decide +kernel
theorem dX9_faultOf_162 : decode cX9_faultOf 162 = .ok (.goto 6, 3) := by decide +kernel
theorem dX9_faultOf_165 : decode cX9_faultOf 165 = .ok (.iload_n 1, 1) := by decide +kernel
theorem dX9_faultOf_166 : decode cX9_faultOf 166 = .ok (.iconst 1, 1) := by decide +kernel
theorem dX9_faultOf_167 : decode cX9_faultOf 167 = .ok (.iadd, 1) := by decide +kernel
theorem dX9_faultOf_168 : decode cX9_faultOf 168 = .ok (.istore_n 1, 1) := by decide +kernel
theorem dX9_faultOf_169 : decode cX9_faultOf 169 = .ok (.iinc 2 1, 3) := by decide +kernel
theorem dX9_faultOf_172 : decode cX9_faultOf 172 = .ok (.goto (-168), 3) := by decide +kernel
theorem dX9_faultOf_175 : decode cX9_faultOf 175 = .ok (.iload_n 1, 1) := by decide +kernel
theorem dX9_faultOf_176 : decode cX9_faultOf 176 = .ok (.iconst 2, 1) := by decide +kernel
theorem dX9_faultOf_177 : decode cX9_faultOf 177 = .ok (.if_icmp .le 8, 3) := by decide +kernel
theorem dX9_faultOf_180 : decode cX9_faultOf 180 = .ok (.bipush (-6), 2) := by decide +kernel
theorem dX9_faultOf_182 : decode cX9_faultOf 182 = .ok (.goto 7, 3) := by decide +kernel
theorem dX9_faultOf_185 : decode cX9_faultOf 185 = .ok (.aload_n 0, 1) := by decide +kernel
theorem dX9_faultOf_186 : decode cX9_faultOf 186 = .ok (.getfield 135, 3) := by decide +kernel
theorem dX9_faultOf_189 : decode cX9_faultOf 189 = .ok (.ireturn, 1) := by decide +kernel
set_option maxRecDepth 20000 in
theorem ggX9_fault_X9_faultOf : GoodIn wsX9_fault wsX9_faultOf := goodIn_r _ [5, 6, 7, 8, 9, 4, 10, 11, 12, 13, 14, 15, 16, 17, 18, 19, 20, 21, 22, 23, 24, 25, 26, 27, 28] (by decide +kernel) (by decide +kernel)
set_option maxRecDepth 20000 in
theorem gX9_fault_X9_faultOf : GoodIn wsX9_fault (wsV RX9 138 RX9 yX9_faultOf wsX9_faultOf) := goodIn_app (goodIn_of _ (by decide +kernel)) ggX9_fault_X9_faultOf
theorem dX9_fault_0 : decode cX9_fault 0 = .ok (.aload_n 0, 1) := by decide +kernel
theorem dX9_fault_1 : decode cX9_fault 1 = .ok (.invokevirtual 138, 3) := by decide +kernel
theorem dX9_fault_4 : decode cX9_fault 4 = .ok (.ireturn, 1) := by decide +kernel
set_option maxRecDepth 20000 in
theorem ggX9_rule_X9_faultOf : GoodIn wsX9_rule wsX9_faultOf := goodIn_r _ [9, 1, 4, 10, 11, 8, 12, 13, 14, 15, 16, 17, 18, 19, 20, 21, 22, 23, 24, 25, 26, 27, 28, 29, 30] (by decide +kernel) (by decide +kernel)
set_option maxRecDepth 20000 in
theorem gX9_rule_X9_faultOf : GoodIn wsX9_rule (wsV RX9 138 RX9 yX9_faultOf wsX9_faultOf) := goodIn_app (goodIn_of _ (by decide +kernel)) ggX9_rule_X9_faultOf
theorem dX9_rule_0 : decode cX9_rule 0 = .ok (.aload_n 0, 1) := by decide +kernel
theorem dX9_rule_1 : decode cX9_rule 1 = .ok (.invokevirtual 138, 3) := by decide +kernel
theorem dX9_rule_4 : decode cX9_rule 4 = .ok (.ifCond .lt 6, 3) := by decide +kernel
theorem dX9_rule_7 : decode cX9_rule 7 = .ok (.bipush (-5), 2) := by decide +kernel
theorem dX9_rule_9 : decode cX9_rule 9 = .ok (.ireturn, 1) := by decide +kernel
theorem dX9_rule_10 : decode cX9_rule 10 = .ok (.aload_n 0, 1) := by decide +kernel
theorem dX9_rule_11 : decode cX9_rule 11 = .ok (.aload_n 0, 1) := by decide +kernel
theorem dX9_rule_12 : decode cX9_rule 12 = .ok (.getfield 135, 3) := by decide +kernel
theorem dX9_rule_15 : decode cX9_rule 15 = .ok (.putfield 141, 3) := by decide +kernel
theorem dX9_rule_18 : decode cX9_rule 18 = .ok (.iconst 0, 1) := by decide +kernel
theorem dX9_rule_19 : decode cX9_rule 19 = .ok (.istore_n 1, 1) := by decide +kernel
theorem dX9_rule_20 : decode cX9_rule 20 = .ok (.iload_n 1, 1) := by decide +kernel
theorem dX9_rule_21 : decode cX9_rule 21 = .ok (.aload_n 0, 1) := by decide +kernel
theorem dX9_rule_22 : decode cX9_rule 22 = .ok (.getfield 135, 3) := by decide +kernel
theorem dX9_rule_25 : decode cX9_rule 25 = .ok (.if_icmp .ge 21, 3) := by decide +kernel
theorem dX9_rule_28 : decode cX9_rule 28 = .ok (.aload_n 0, 1) := by decide +kernel
theorem dX9_rule_29 : decode cX9_rule 29 = .ok (.getfield 23, 3) := by decide +kernel
theorem dX9_rule_32 : decode cX9_rule 32 = .ok (.iload_n 1, 1) := by decide +kernel
theorem dX9_rule_33 : decode cX9_rule 33 = .ok (.aload_n 0, 1) := by decide +kernel
theorem dX9_rule_34 : decode cX9_rule 34 = .ok (.getfield 20, 3) := by decide +kernel
theorem dX9_rule_37 : decode cX9_rule 37 = .ok (.iload_n 1, 1) := by decide +kernel
theorem dX9_rule_38 : decode cX9_rule 38 = .ok (.iaload, 1) := by decide +kernel
theorem dX9_rule_39 : decode cX9_rule 39 = .ok (.iastore, 1) := by decide +kernel
theorem dX9_rule_40 : decode cX9_rule 40 = .ok (.iinc 1 1, 3) := by decide +kernel
theorem dX9_rule_43 : decode cX9_rule 43 = .ok (.goto (-23), 3) := by decide +kernel
theorem dX9_rule_46 : decode cX9_rule 46 = .ok (.aload_n 0, 1) := by decide +kernel
theorem dX9_rule_47 : decode cX9_rule 47 = .ok (.iconst 0, 1) := by decide +kernel
theorem dX9_rule_48 : decode cX9_rule 48 = .ok (.putfield 135, 3) := by decide +kernel
theorem dX9_rule_51 : decode cX9_rule 51 = .ok (.iconst 1, 1) := by decide +kernel
theorem dX9_rule_52 : decode cX9_rule 52 = .ok (.ireturn, 1) := by decide +kernel
set_option maxRecDepth 20000 in
theorem ggX9_mayVote_X9_in : GoodIn wsX9_mayVote wsX9_in := goodIn_r _ [7] (by decide +kernel) (by decide +kernel)
set_option maxRecDepth 20000 in
theorem gX9_mayVote_X9_in : GoodIn wsX9_mayVote (va_wsS RX9 51 yX9_in wsX9_in) := goodIn_app (goodIn_of _ (by decide +kernel)) ggX9_mayVote_X9_in
theorem dX9_mayVote_0 : decode cX9_mayVote 0 = .ok (.aload_n 0, 1) := by decide +kernel
theorem dX9_mayVote_1 : decode cX9_mayVote 1 = .ok (.getfield 141, 3) := by decide +kernel
theorem dX9_mayVote_4 : decode cX9_mayVote 4 = .ok (.ifCond .ne 5, 3) := by decide +kernel
theorem dX9_mayVote_7 : decode cX9_mayVote 7 = .ok (.iconst 1, 1) := by decide +kernel
theorem dX9_mayVote_8 : decode cX9_mayVote 8 = .ok (.ireturn, 1) := by decide +kernel
theorem dX9_mayVote_9 : decode cX9_mayVote 9 = .ok (.iconst 0, 1) := by decide +kernel
theorem dX9_mayVote_10 : decode cX9_mayVote 10 = .ok (.istore_n 2, 1) := by decide +kernel
theorem dX9_mayVote_11 : decode cX9_mayVote 11 = .ok (.iconst 1, 1) := by decide +kernel
theorem dX9_mayVote_12 : decode cX9_mayVote 12 = .ok (.istore_n 3, 1) := by decide +kernel
theorem dX9_mayVote_13 : decode cX9_mayVote 13 = .ok (.iconst 0, 1) := by decide +kernel
theorem dX9_mayVote_14 : decode cX9_mayVote 14 = .ok (.istore 4, 2) := by decide +kernel
theorem dX9_mayVote_16 : decode cX9_mayVote 16 = .ok (.iload 4, 2) := by decide +kernel
theorem dX9_mayVote_18 : decode cX9_mayVote 18 = .ok (.aload_n 0, 1) := by decide +kernel
theorem dX9_mayVote_19 : decode cX9_mayVote 19 = .ok (.getfield 141, 3) := by decide +kernel
theorem dX9_mayVote_22 : decode cX9_mayVote 22 = .ok (.if_icmp .ge 212, 3) := by decide +kernel
theorem dX9_mayVote_25 : decode cX9_mayVote 25 = .ok (.aload_n 0, 1) := by decide +kernel
theorem dX9_mayVote_26 : decode cX9_mayVote 26 = .ok (.getfield 23, 3) := by decide +kernel
theorem dX9_mayVote_29 : decode cX9_mayVote 29 = .ok (.iload 4, 2) := by decide +kernel
theorem dX9_mayVote_31 : decode cX9_mayVote 31 = .ok (.iaload, 1) := by decide +kernel
theorem dX9_mayVote_32 : decode cX9_mayVote 32 = .ok (.bipush 97, 2) := by decide +kernel
theorem dX9_mayVote_34 : decode cX9_mayVote 34 = .ok (.if_icmp .ne 7, 3) := by decide +kernel
theorem dX9_mayVote_37 : decode cX9_mayVote 37 = .ok (.iconst 0, 1) := by decide +kernel
theorem dX9_mayVote_38 : decode cX9_mayVote 38 = .ok (.goto 20, 3) := by decide +kernel
theorem dX9_mayVote_41 : decode cX9_mayVote 41 = .ok (.aload_n 0, 1) := by decide +kernel
theorem dX9_mayVote_42 : decode cX9_mayVote 42 = .ok (.getfield 23, 3) := by decide +kernel
theorem dX9_mayVote_45 : decode cX9_mayVote 45 = .ok (.iload 4, 2) := by decide +kernel
theorem dX9_mayVote_47 : decode cX9_mayVote 47 = .ok (.iaload, 1) := by decide +kernel
theorem dX9_mayVote_48 : decode cX9_mayVote 48 = .ok (.bipush 121, 2) := by decide +kernel
theorem dX9_mayVote_50 : decode cX9_mayVote 50 = .ok (.if_icmp .ne 7, 3) := by decide +kernel
theorem dX9_mayVote_53 : decode cX9_mayVote 53 = .ok (.iconst 1, 1) := by decide +kernel
theorem dX9_mayVote_54 : decode cX9_mayVote 54 = .ok (.goto 4, 3) := by decide +kernel
theorem dX9_mayVote_57 : decode cX9_mayVote 57 = .ok (.iconst 2, 1) := by decide +kernel
theorem dX9_mayVote_58 : decode cX9_mayVote 58 = .ok (.istore 5, 2) := by decide +kernel
theorem dX9_mayVote_60 : decode cX9_mayVote 60 = .ok (.aload_n 0, 1) := by decide +kernel
theorem dX9_mayVote_61 : decode cX9_mayVote 61 = .ok (.getfield 17, 3) := by decide +kernel
theorem dX9_mayVote_64 : decode cX9_mayVote 64 = .ok (.iconst 3, 1) := by decide +kernel
theorem dX9_mayVote_65 : decode cX9_mayVote 65 = .ok (.iload_n 1, 1) := by decide +kernel
theorem dX9_mayVote_66 : decode cX9_mayVote 66 = .ok (.imul, 1) := by decide +kernel
theorem dX9_mayVote_67 : decode cX9_mayVote 67 = .ok (.iload 5, 2) := by decide +kernel
theorem dX9_mayVote_69 : decode cX9_mayVote 69 = .ok (.iadd, 1) := by decide +kernel
theorem dX9_mayVote_70 : decode cX9_mayVote 70 = .ok (.iaload, 1) := by decide +kernel
theorem dX9_mayVote_71 : decode cX9_mayVote 71 = .ok (.istore 6, 2) := by decide +kernel
theorem dX9_mayVote_73 : decode cX9_mayVote 73 = .ok (.aload_n 0, 1) := by decide +kernel
theorem dX9_mayVote_74 : decode cX9_mayVote 74 = .ok (.getfield 23, 3) := by decide +kernel
theorem dX9_mayVote_77 : decode cX9_mayVote 77 = .ok (.iload 4, 2) := by decide +kernel
theorem dX9_mayVote_79 : decode cX9_mayVote 79 = .ok (.iconst 1, 1) := by decide +kernel
theorem dX9_mayVote_80 : decode cX9_mayVote 80 = .ok (.iadd, 1) := by decide +kernel
theorem dX9_mayVote_81 : decode cX9_mayVote 81 = .ok (.iaload, 1) := by decide +kernel
theorem dX9_mayVote_82 : decode cX9_mayVote 82 = .ok (.istore 7, 2) := by decide +kernel
theorem dX9_mayVote_84 : decode cX9_mayVote 84 = .ok (.iconst 0, 1) := by decide +kernel
theorem dX9_mayVote_85 : decode cX9_mayVote 85 = .ok (.istore 8, 2) := by decide +kernel
theorem dX9_mayVote_87 : decode cX9_mayVote 87 = .ok (.iinc 4 2, 3) := by decide +kernel
theorem dX9_mayVote_90 : decode cX9_mayVote 90 = .ok (.iload 4, 2) := by decide +kernel
theorem dX9_mayVote_92 : decode cX9_mayVote 92 = .ok (.aload_n 0, 1) := by decide +kernel
theorem dX9_mayVote_93 : decode cX9_mayVote 93 = .ok (.getfield 141, 3) := by decide +kernel
theorem dX9_mayVote_96 : decode cX9_mayVote 96 = .ok (.if_icmp .ge 44, 3) := by decide +kernel
theorem dX9_mayVote_99 : decode cX9_mayVote 99 = .ok (.aload_n 0, 1) := by decide +kernel
theorem dX9_mayVote_100 : decode cX9_mayVote 100 = .ok (.getfield 23, 3) := by decide +kernel
theorem dX9_mayVote_103 : decode cX9_mayVote 103 = .ok (.iload 4, 2) := by decide +kernel
theorem dX9_mayVote_105 : decode cX9_mayVote 105 = .ok (.iaload, 1) := by decide +kernel
theorem dX9_mayVote_106 : decode cX9_mayVote 106 = .ok (.bipush 48, 2) := by decide +kernel
theorem dX9_mayVote_108 : decode cX9_mayVote 108 = .ok (.bipush 57, 2) := by decide +kernel
theorem dX9_mayVote_110 : decode cX9_mayVote 110 = .ok (.invokestatic 51, 3) := by decide +kernel
theorem dX9_mayVote_113 : decode cX9_mayVote 113 = .ok (.ifCond .eq 27, 3) := by decide +kernel
theorem dX9_mayVote_116 : decode cX9_mayVote 116 = .ok (.bipush 10, 2) := by decide +kernel
theorem dX9_mayVote_118 : decode cX9_mayVote 118 = .ok (.iload 8, 2) := by decide +kernel
theorem dX9_mayVote_120 : decode cX9_mayVote 120 = .ok (.imul, 1) := by decide +kernel
theorem dX9_mayVote_121 : decode cX9_mayVote 121 = .ok (.aload_n 0, 1) := by decide +kernel
theorem dX9_mayVote_122 : decode cX9_mayVote 122 = .ok (.getfield 23, 3) := by decide +kernel
theorem dX9_mayVote_125 : decode cX9_mayVote 125 = .ok (.iload 4, 2) := by decide +kernel
theorem dX9_mayVote_127 : decode cX9_mayVote 127 = .ok (.iaload, 1) := by decide +kernel
theorem dX9_mayVote_128 : decode cX9_mayVote 128 = .ok (.iadd, 1) := by decide +kernel
theorem dX9_mayVote_129 : decode cX9_mayVote 129 = .ok (.bipush 48, 2) := by decide +kernel
theorem dX9_mayVote_131 : decode cX9_mayVote 131 = .ok (.isub, 1) := by decide +kernel
theorem dX9_mayVote_132 : decode cX9_mayVote 132 = .ok (.istore 8, 2) := by decide +kernel
theorem dX9_mayVote_134 : decode cX9_mayVote 134 = .ok (.iinc 4 1, 3) := by decide +kernel
theorem dX9_mayVote_137 : decode cX9_mayVote 137 = .ok (.goto (-47), 3) := by decide +kernel
theorem dX9_mayVote_140 : decode cX9_mayVote 140 = .ok (.iload_n 3, 1) := by decide +kernel
theorem dX9_mayVote_141 : decode cX9_mayVote 141 = .ok (.ifCond .eq 48, 3) := by decide +kernel
theorem dX9_mayVote_144 : decode cX9_mayVote 144 = .ok (.iload 7, 2) := by decide +kernel
theorem dX9_mayVote_146 : decode cX9_mayVote 146 = .ok (.bipush 60, 2) := by decide +kernel
theorem dX9_mayVote_148 : decode cX9_mayVote 148 = .ok (.if_icmp .ne 13, 3) := by decide +kernel
theorem dX9_mayVote_151 : decode cX9_mayVote 151 = .ok (.iload 6, 2) := by decide +kernel
theorem dX9_mayVote_153 : decode cX9_mayVote 153 = .ok (.iload 8, 2) := by decide +kernel
theorem dX9_mayVote_155 : decode cX9_mayVote 155 = .ok (.if_icmp .ge 34, 3) := by decide +kernel
theorem dX9_mayVote_158 : decode cX9_mayVote 158 = .ok (.goto 27, 3) := by decide +kernel
theorem dX9_mayVote_161 : decode cX9_mayVote 161 = .ok (.iload 7, 2) := by decide +kernel
theorem dX9_mayVote_163 : decode cX9_mayVote 163 = .ok (.bipush 62, 2) := by decide +kernel
theorem dX9_mayVote_165 : decode cX9_mayVote 165 = .ok (.if_icmp .ne 13, 3) := by decide +kernel
theorem dX9_mayVote_168 : decode cX9_mayVote 168 = .ok (.iload 6, 2) := by decide +kernel
theorem dX9_mayVote_170 : decode cX9_mayVote 170 = .ok (.iload 8, 2) := by decide +kernel
theorem dX9_mayVote_172 : decode cX9_mayVote 172 = .ok (.if_icmp .le 17, 3) := by decide +kernel
theorem dX9_mayVote_175 : decode cX9_mayVote 175 = .ok (.goto 10, 3) := by decide +kernel
theorem dX9_mayVote_178 : decode cX9_mayVote 178 = .ok (.iload 6, 2) := by decide +kernel
theorem dX9_mayVote_180 : decode cX9_mayVote 180 = .ok (.iload 8, 2) := by decide +kernel
theorem dX9_mayVote_182 : decode cX9_mayVote 182 = .ok (.if_icmp .ne 7, 3) := by decide +kernel
theorem dX9_mayVote_185 : decode cX9_mayVote 185 = .ok (.iconst 1, 1) := by decide +kernel
theorem dX9_mayVote_186 : decode cX9_mayVote 186 = .ok (.goto 4, 3) := by decide +kernel
theorem dX9_mayVote_189 : decode cX9_mayVote 189 = .ok (.iconst 0, 1) := by decide +kernel
theorem dX9_mayVote_190 : decode cX9_mayVote 190 = .ok (.istore_n 3, 1) := by decide +kernel
theorem dX9_mayVote_191 : decode cX9_mayVote 191 = .ok (.iload 4, 2) := by decide +kernel
theorem dX9_mayVote_193 : decode cX9_mayVote 193 = .ok (.aload_n 0, 1) := by decide +kernel
theorem dX9_mayVote_194 : decode cX9_mayVote 194 = .ok (.getfield 141, 3) := by decide +kernel
theorem dX9_mayVote_197 : decode cX9_mayVote 197 = .ok (.if_icmp .eq 15, 3) := by decide +kernel
theorem dX9_mayVote_200 : decode cX9_mayVote 200 = .ok (.aload_n 0, 1) := by decide +kernel
theorem dX9_mayVote_201 : decode cX9_mayVote 201 = .ok (.getfield 23, 3) := by decide +kernel
theorem dX9_mayVote_204 : decode cX9_mayVote 204 = .ok (.iload 4, 2) := by decide +kernel
theorem dX9_mayVote_206 : decode cX9_mayVote 206 = .ok (.iaload, 1) := by decide +kernel
theorem dX9_mayVote_207 : decode cX9_mayVote 207 = .ok (.bipush 124, 2) := by decide +kernel
theorem dX9_mayVote_209 : decode cX9_mayVote 209 = .ok (.if_icmp .ne 19, 3) := by decide +kernel
theorem dX9_mayVote_212 : decode cX9_mayVote 212 = .ok (.iload_n 2, 1) := by decide +kernel
theorem dX9_mayVote_213 : decode cX9_mayVote 213 = .ok (.ifCond .ne 7, 3) := by decide +kernel
theorem dX9_mayVote_216 : decode cX9_mayVote 216 = .ok (.iload_n 3, 1) := by decide +kernel
theorem dX9_mayVote_217 : decode cX9_mayVote 217 = .ok (.ifCond .eq 7, 3) := by decide +kernel
theorem dX9_mayVote_220 : decode cX9_mayVote 220 = .ok (.iconst 1, 1) := by decide +kernel
theorem dX9_mayVote_221 : decode cX9_mayVote 221 = .ok (.goto 4, 3) := by decide +kernel
theorem dX9_mayVote_224 : decode cX9_mayVote 224 = .ok (.iconst 0, 1) := by decide +kernel
theorem dX9_mayVote_225 : decode cX9_mayVote 225 = .ok (.istore_n 2, 1) := by decide +kernel
theorem dX9_mayVote_226 : decode cX9_mayVote 226 = .ok (.iconst 1, 1) := by decide +kernel
theorem dX9_mayVote_227 : decode cX9_mayVote 227 = .ok (.istore_n 3, 1) := by decide +kernel
theorem dX9_mayVote_228 : decode cX9_mayVote 228 = .ok (.iinc 4 1, 3) := by decide +kernel
theorem dX9_mayVote_231 : decode cX9_mayVote 231 = .ok (.goto (-215), 3) := by decide +kernel
theorem dX9_mayVote_234 : decode cX9_mayVote 234 = .ok (.iload_n 2, 1) := by decide +kernel
theorem dX9_mayVote_235 : decode cX9_mayVote 235 = .ok (.ireturn, 1) := by decide +kernel
set_option maxRecDepth 20000 in
theorem ggX9_may_X9_isVoter : GoodIn wsX9_may wsX9_isVoter := goodIn_r _ [4, 5, 6, 3, 7] (by decide +kernel) (by decide +kernel)
set_option maxRecDepth 20000 in
theorem gX9_may_X9_isVoter : GoodIn wsX9_may (va_wsS RX9 132 yX9_isVoter wsX9_isVoter) := goodIn_app (goodIn_of _ (by decide +kernel)) ggX9_may_X9_isVoter
set_option maxRecDepth 20000 in
theorem ggX9_may_X9_mayVote : GoodIn wsX9_may wsX9_mayVote := goodIn_r _ [11, 12, 13, 14, 5, 6, 3, 7, 15, 16, 17, 18, 19, 20, 21, 22, 23, 24, 25, 26, 27, 28, 29, 30, 31, 32] (by decide +kernel) (by decide +kernel)
set_option maxRecDepth 20000 in
theorem gX9_may_X9_mayVote : GoodIn wsX9_may (wsV RX9 144 RX9 yX9_mayVote wsX9_mayVote) := goodIn_app (goodIn_of _ (by decide +kernel)) ggX9_may_X9_mayVote
theorem dX9_may_0 : decode cX9_may 0 = .ok (.iload_n 1, 1) := by decide +kernel
theorem dX9_may_1 : decode cX9_may 1 = .ok (.invokestatic 132, 3) := by decide +kernel
theorem dX9_may_4 : decode cX9_may 4 = .ok (.ifCond .ne 7, 3) := by decide +kernel
theorem dX9_may_7 : decode cX9_may 7 = .ok (.iconst (-1), 1) := by decide +kernel
theorem dX9_may_8 : decode cX9_may 8 = .ok (.goto 16, 3) := by decide +kernel
theorem dX9_may_11 : decode cX9_may 11 = .ok (.aload_n 0, 1) := by decide +kernel
theorem dX9_may_12 : decode cX9_may 12 = .ok (.iload_n 1, 1) := by decide +kernel
theorem dX9_may_13 : decode cX9_may 13 = .ok (.invokevirtual 144, 3) := by decide +kernel
theorem dX9_may_16 : decode cX9_may 16 = .ok (.ifCond .eq 7, 3) := by decide +kernel
theorem dX9_may_19 : decode cX9_may 19 = .ok (.iconst 1, 1) := by decide +kernel
theorem dX9_may_20 : decode cX9_may 20 = .ok (.goto 4, 3) := by decide +kernel
theorem dX9_may_23 : decode cX9_may 23 = .ok (.iconst 0, 1) := by decide +kernel
theorem dX9_may_24 : decode cX9_may 24 = .ok (.ireturn, 1) := by decide +kernel
set_option maxRecDepth 20000 in
theorem ggX9_isHour_X9_in : GoodIn wsX9_isHour wsX9_in := goodIn_r _ [4] (by decide +kernel) (by decide +kernel)
set_option maxRecDepth 20000 in
theorem gX9_isHour_X9_in : GoodIn wsX9_isHour (va_wsS RX9 51 yX9_in wsX9_in) := goodIn_app (goodIn_of _ (by decide +kernel)) ggX9_isHour_X9_in
theorem dX9_isHour_0 : decode cX9_isHour 0 = .ok (.iload_n 0, 1) := by decide +kernel
theorem dX9_isHour_1 : decode cX9_isHour 1 = .ok (.iconst 0, 1) := by decide +kernel
theorem dX9_isHour_2 : decode cX9_isHour 2 = .ok (.sipush 999, 3) := by decide +kernel
theorem dX9_isHour_5 : decode cX9_isHour 5 = .ok (.invokestatic 51, 3) := by decide +kernel
theorem dX9_isHour_8 : decode cX9_isHour 8 = .ok (.ireturn, 1) := by decide +kernel
set_option maxRecDepth 20000 in
theorem ggX9_isTold_X9_in : GoodIn wsX9_isTold wsX9_in := goodIn_r _ [5] (by decide +kernel) (by decide +kernel)
set_option maxRecDepth 20000 in
theorem gX9_isTold_X9_in : GoodIn wsX9_isTold (va_wsS RX9 51 yX9_in wsX9_in) := goodIn_app (goodIn_of _ (by decide +kernel)) ggX9_isTold_X9_in
theorem dX9_isTold_0 : decode cX9_isTold 0 = .ok (.iload_n 0, 1) := by decide +kernel
theorem dX9_isTold_1 : decode cX9_isTold 1 = .ok (.iconst 0, 1) := by decide +kernel
theorem dX9_isTold_2 : decode cX9_isTold 2 = .ok (.ldc 147, 2) := by decide +kernel
theorem dX9_isTold_4 : decode cX9_isTold 4 = .ok (.invokestatic 51, 3) := by decide +kernel
theorem dX9_isTold_7 : decode cX9_isTold 7 = .ok (.ireturn, 1) := by decide +kernel
set_option maxRecDepth 20000 in
theorem ggX9_close_X9_isHour : GoodIn wsX9_close wsX9_isHour := goodIn_r _ [5, 6, 7, 4, 8] (by decide +kernel) (by decide +kernel)
set_option maxRecDepth 20000 in
theorem gX9_close_X9_isHour : GoodIn wsX9_close (va_wsS RX9 148 yX9_isHour wsX9_isHour) := goodIn_app (goodIn_of _ (by decide +kernel)) ggX9_close_X9_isHour
theorem dX9_close_0 : decode cX9_close 0 = .ok (.iload_n 1, 1) := by decide +kernel
theorem dX9_close_1 : decode cX9_close 1 = .ok (.invokestatic 148, 3) := by decide +kernel
theorem dX9_close_4 : decode cX9_close 4 = .ok (.ifCond .ne 6, 3) := by decide +kernel
theorem dX9_close_7 : decode cX9_close 7 = .ok (.bipush (-2), 2) := by decide +kernel
theorem dX9_close_9 : decode cX9_close 9 = .ok (.ireturn, 1) := by decide +kernel
theorem dX9_close_10 : decode cX9_close 10 = .ok (.aload_n 0, 1) := by decide +kernel
theorem dX9_close_11 : decode cX9_close 11 = .ok (.getfield 26, 3) := by decide +kernel
theorem dX9_close_14 : decode cX9_close 14 = .ok (.istore_n 2, 1) := by decide +kernel
theorem dX9_close_15 : decode cX9_close 15 = .ok (.aload_n 0, 1) := by decide +kernel
theorem dX9_close_16 : decode cX9_close 16 = .ok (.iload_n 1, 1) := by decide +kernel
theorem dX9_close_17 : decode cX9_close 17 = .ok (.putfield 26, 3) := by decide +kernel
theorem dX9_close_20 : decode cX9_close 20 = .ok (.iload_n 2, 1) := by decide +kernel
theorem dX9_close_21 : decode cX9_close 21 = .ok (.ireturn, 1) := by decide +kernel
theorem dX9_addRow_0 : decode cX9_addRow 0 = .ok (.aload_n 0, 1) := by decide +kernel
theorem dX9_addRow_1 : decode cX9_addRow 1 = .ok (.getfield 29, 3) := by decide +kernel
theorem dX9_addRow_4 : decode cX9_addRow 4 = .ok (.aload_n 0, 1) := by decide +kernel
theorem dX9_addRow_5 : decode cX9_addRow 5 = .ok (.getfield 72, 3) := by decide +kernel
theorem dX9_addRow_8 : decode cX9_addRow 8 = .ok (.iload_n 1, 1) := by decide +kernel
theorem dX9_addRow_9 : decode cX9_addRow 9 = .ok (.iastore, 1) := by decide +kernel
theorem dX9_addRow_10 : decode cX9_addRow 10 = .ok (.aload_n 0, 1) := by decide +kernel
theorem dX9_addRow_11 : decode cX9_addRow 11 = .ok (.getfield 32, 3) := by decide +kernel
theorem dX9_addRow_14 : decode cX9_addRow 14 = .ok (.aload_n 0, 1) := by decide +kernel
theorem dX9_addRow_15 : decode cX9_addRow 15 = .ok (.getfield 72, 3) := by decide +kernel
theorem dX9_addRow_18 : decode cX9_addRow 18 = .ok (.iload_n 2, 1) := by decide +kernel
theorem dX9_addRow_19 : decode cX9_addRow 19 = .ok (.iastore, 1) := by decide +kernel
theorem dX9_addRow_20 : decode cX9_addRow 20 = .ok (.aload_n 0, 1) := by decide +kernel
theorem dX9_addRow_21 : decode cX9_addRow 21 = .ok (.getfield 35, 3) := by decide +kernel
theorem dX9_addRow_24 : decode cX9_addRow 24 = .ok (.aload_n 0, 1) := by decide +kernel
theorem dX9_addRow_25 : decode cX9_addRow 25 = .ok (.getfield 72, 3) := by decide +kernel
theorem dX9_addRow_28 : decode cX9_addRow 28 = .ok (.iload_n 3, 1) := by decide +kernel
theorem dX9_addRow_29 : decode cX9_addRow 29 = .ok (.iastore, 1) := by decide +kernel
theorem dX9_addRow_30 : decode cX9_addRow 30 = .ok (.aload_n 0, 1) := by decide +kernel
theorem dX9_addRow_31 : decode cX9_addRow 31 = .ok (.getfield 38, 3) := by decide +kernel
theorem dX9_addRow_34 : decode cX9_addRow 34 = .ok (.aload_n 0, 1) := by decide +kernel
theorem dX9_addRow_35 : decode cX9_addRow 35 = .ok (.getfield 72, 3) := by decide +kernel
theorem dX9_addRow_38 : decode cX9_addRow 38 = .ok (.iload 4, 2) := by decide +kernel
theorem dX9_addRow_40 : decode cX9_addRow 40 = .ok (.iastore, 1) := by decide +kernel
theorem dX9_addRow_41 : decode cX9_addRow 41 = .ok (.aload_n 0, 1) := by decide +kernel
theorem dX9_addRow_42 : decode cX9_addRow 42 = .ok (.getfield 41, 3) := by decide +kernel
theorem dX9_addRow_45 : decode cX9_addRow 45 = .ok (.aload_n 0, 1) := by decide +kernel
theorem dX9_addRow_46 : decode cX9_addRow 46 = .ok (.getfield 72, 3) := by decide +kernel
theorem dX9_addRow_49 : decode cX9_addRow 49 = .ok (.iload 5, 2) := by decide +kernel
theorem dX9_addRow_51 : decode cX9_addRow 51 = .ok (.bastore, 1) := by decide +kernel
theorem dX9_addRow_52 : decode cX9_addRow 52 = .ok (.iconst 0, 1) := by decide +kernel
theorem dX9_addRow_53 : decode cX9_addRow 53 = .ok (.istore 6, 2) := by decide +kernel
theorem dX9_addRow_55 : decode cX9_addRow 55 = .ok (.iload 6, 2) := by decide +kernel
theorem dX9_addRow_57 : decode cX9_addRow 57 = .ok (.iconst 4, 1) := by decide +kernel
theorem dX9_addRow_58 : decode cX9_addRow 58 = .ok (.if_icmp .ge 24, 3) := by decide +kernel
theorem dX9_addRow_61 : decode cX9_addRow 61 = .ok (.aload_n 0, 1) := by decide +kernel
theorem dX9_addRow_62 : decode cX9_addRow 62 = .ok (.getfield 45, 3) := by decide +kernel
theorem dX9_addRow_65 : decode cX9_addRow 65 = .ok (.iconst 4, 1) := by decide +kernel
theorem dX9_addRow_66 : decode cX9_addRow 66 = .ok (.aload_n 0, 1) := by decide +kernel
theorem dX9_addRow_67 : decode cX9_addRow 67 = .ok (.getfield 72, 3) := by decide +kernel
theorem dX9_addRow_70 : decode cX9_addRow 70 = .ok (.imul, 1) := by decide +kernel
theorem dX9_addRow_71 : decode cX9_addRow 71 = .ok (.iload 6, 2) := by decide +kernel
theorem dX9_addRow_73 : decode cX9_addRow 73 = .ok (.iadd, 1) := by decide +kernel
theorem dX9_addRow_74 : decode cX9_addRow 74 = .ok (.iconst 0, 1) := by decide +kernel
theorem dX9_addRow_75 : decode cX9_addRow 75 = .ok (.iastore, 1) := by decide +kernel
theorem dX9_addRow_76 : decode cX9_addRow 76 = .ok (.iinc 6 1, 3) := by decide +kernel
theorem dX9_addRow_79 : decode cX9_addRow 79 = .ok (.goto (-24), 3) := by decide +kernel
theorem dX9_addRow_82 : decode cX9_addRow 82 = .ok (.aload_n 0, 1) := by decide +kernel
theorem dX9_addRow_83 : decode cX9_addRow 83 = .ok (.dup, 1) := by decide +kernel
theorem dX9_addRow_84 : decode cX9_addRow 84 = .ok (.getfield 72, 3) := by decide +kernel
theorem dX9_addRow_87 : decode cX9_addRow 87 = .ok (.iconst 1, 1) := by decide +kernel
theorem dX9_addRow_88 : decode cX9_addRow 88 = .ok (.iadd, 1) := by decide +kernel
theorem dX9_addRow_89 : decode cX9_addRow 89 = .ok (.putfield 72, 3) := by decide +kernel
theorem dX9_addRow_92 : decode cX9_addRow 92 = .ok (.aload_n 0, 1) := by decide +kernel
theorem dX9_addRow_93 : decode cX9_addRow 93 = .ok (.getfield 72, 3) := by decide +kernel
theorem dX9_addRow_96 : decode cX9_addRow 96 = .ok (.iconst 1, 1) := by decide +kernel
theorem dX9_addRow_97 : decode cX9_addRow 97 = .ok (.isub, 1) := by decide +kernel
theorem dX9_addRow_98 : decode cX9_addRow 98 = .ok (.ireturn, 1) := by decide +kernel
set_option maxRecDepth 20000 in
theorem ggX9_row_X9_isVoter : GoodIn wsX9_row wsX9_isVoter := goodIn_r _ [5, 6, 7, 4, 8] (by decide +kernel) (by decide +kernel)
set_option maxRecDepth 20000 in
theorem gX9_row_X9_isVoter : GoodIn wsX9_row (va_wsS RX9 132 yX9_isVoter wsX9_isVoter) := goodIn_app (goodIn_of _ (by decide +kernel)) ggX9_row_X9_isVoter
set_option maxRecDepth 20000 in
theorem ggX9_row_X9_isTold : GoodIn wsX9_row wsX9_isTold := goodIn_r _ [11, 12, 6, 7, 4, 8] (by decide +kernel) (by decide +kernel)
set_option maxRecDepth 20000 in
theorem gX9_row_X9_isTold : GoodIn wsX9_row (va_wsS RX9 151 yX9_isTold wsX9_isTold) := goodIn_app (goodIn_of _ (by decide +kernel)) ggX9_row_X9_isTold
set_option maxRecDepth 20000 in
theorem ggX9_row_X9_isHour : GoodIn wsX9_row wsX9_isHour := goodIn_r _ [15, 6, 7, 4, 8] (by decide +kernel) (by decide +kernel)
set_option maxRecDepth 20000 in
theorem gX9_row_X9_isHour : GoodIn wsX9_row (va_wsS RX9 148 yX9_isHour wsX9_isHour) := goodIn_app (goodIn_of _ (by decide +kernel)) ggX9_row_X9_isHour
set_option maxRecDepth 20000 in
theorem ggX9_row_X9_addRow : GoodIn wsX9_row wsX9_addRow := goodIn_r _ [19, 20, 1, 21, 22, 23, 24, 25, 26, 27, 28, 29, 30, 31, 32, 33, 34, 35, 36, 37, 38, 39, 40, 41, 42, 43] (by decide +kernel) (by decide +kernel)
set_option maxRecDepth 20000 in
theorem gX9_row_X9_addRow : GoodIn wsX9_row (wsV RX9 154 RX9 yX9_addRow wsX9_addRow) := goodIn_app (goodIn_of _ (by decide +kernel)) ggX9_row_X9_addRow
theorem dX9_row_0 : decode cX9_row 0 = .ok (.iload_n 1, 1) := by decide +kernel
theorem dX9_row_1 : decode cX9_row 1 = .ok (.invokestatic 132, 3) := by decide +kernel
theorem dX9_row_4 : decode cX9_row 4 = .ok (.ifCond .ne 5, 3) := by decide +kernel
theorem dX9_row_7 : decode cX9_row 7 = .ok (.iconst (-1), 1) := by decide +kernel
theorem dX9_row_8 : decode cX9_row 8 = .ok (.ireturn, 1) := by decide +kernel
theorem dX9_row_9 : decode cX9_row 9 = .ok (.iload_n 2, 1) := by decide +kernel
theorem dX9_row_10 : decode cX9_row 10 = .ok (.invokestatic 151, 3) := by decide +kernel
theorem dX9_row_13 : decode cX9_row 13 = .ok (.ifCond .eq 18, 3) := by decide +kernel
theorem dX9_row_16 : decode cX9_row 16 = .ok (.iload_n 3, 1) := by decide +kernel
theorem dX9_row_17 : decode cX9_row 17 = .ok (.invokestatic 151, 3) := by decide +kernel
theorem dX9_row_20 : decode cX9_row 20 = .ok (.ifCond .eq 11, 3) := by decide +kernel
theorem dX9_row_23 : decode cX9_row 23 = .ok (.iload 4, 2) := by decide +kernel
theorem dX9_row_25 : decode cX9_row 25 = .ok (.invokestatic 148, 3) := by decide +kernel
theorem dX9_row_28 : decode cX9_row 28 = .ok (.ifCond .ne 6, 3) := by decide +kernel
theorem dX9_row_31 : decode cX9_row 31 = .ok (.bipush (-2), 2) := by decide +kernel
theorem dX9_row_33 : decode cX9_row 33 = .ok (.ireturn, 1) := by decide +kernel
theorem dX9_row_34 : decode cX9_row 34 = .ok (.aload_n 0, 1) := by decide +kernel
theorem dX9_row_35 : decode cX9_row 35 = .ok (.getfield 72, 3) := by decide +kernel
theorem dX9_row_38 : decode cX9_row 38 = .ok (.bipush 30, 2) := by decide +kernel
theorem dX9_row_40 : decode cX9_row 40 = .ok (.if_icmp .ne 8, 3) := by decide +kernel
theorem dX9_row_43 : decode cX9_row 43 = .ok (.bipush (-4), 2) := by decide +kernel
theorem dX9_row_45 : decode cX9_row 45 = .ok (.goto 13, 3) := by decide +kernel
theorem dX9_row_48 : decode cX9_row 48 = .ok (.aload_n 0, 1) := by decide +kernel
theorem dX9_row_49 : decode cX9_row 49 = .ok (.iload_n 1, 1) := by decide +kernel
theorem dX9_row_50 : decode cX9_row 50 = .ok (.iload_n 2, 1) := by decide +kernel
theorem dX9_row_51 : decode cX9_row 51 = .ok (.iload_n 3, 1) := by decide +kernel
theorem dX9_row_52 : decode cX9_row 52 = .ok (.iload 4, 2) := by decide +kernel
theorem dX9_row_54 : decode cX9_row 54 = .ok (.iconst 0, 1) := by decide +kernel
theorem dX9_row_55 : decode cX9_row 55 = .ok (.invokevirtual 154, 3) := by decide +kernel
theorem dX9_row_58 : decode cX9_row 58 = .ok (.ireturn, 1) := by decide +kernel
set_option maxRecDepth 20000 in
theorem ggX9_isRow_X9_in : GoodIn wsX9_isRow wsX9_in := goodIn_r _ [5] (by decide +kernel) (by decide +kernel)
set_option maxRecDepth 20000 in
theorem gX9_isRow_X9_in : GoodIn wsX9_isRow (va_wsS RX9 51 yX9_in wsX9_in) := goodIn_app (goodIn_of _ (by decide +kernel)) ggX9_isRow_X9_in
theorem dX9_isRow_0 : decode cX9_isRow 0 = .ok (.iload_n 1, 1) := by decide +kernel
theorem dX9_isRow_1 : decode cX9_isRow 1 = .ok (.iconst 0, 1) := by decide +kernel
theorem dX9_isRow_2 : decode cX9_isRow 2 = .ok (.aload_n 0, 1) := by decide +kernel
theorem dX9_isRow_3 : decode cX9_isRow 3 = .ok (.getfield 72, 3) := by decide +kernel
theorem dX9_isRow_6 : decode cX9_isRow 6 = .ok (.iconst 1, 1) := by decide +kernel
theorem dX9_isRow_7 : decode cX9_isRow 7 = .ok (.isub, 1) := by decide +kernel
theorem dX9_isRow_8 : decode cX9_isRow 8 = .ok (.invokestatic 51, 3) := by decide +kernel
theorem dX9_isRow_11 : decode cX9_isRow 11 = .ok (.ireturn, 1) := by decide +kernel
set_option maxRecDepth 20000 in
theorem ggX9_attach_X9_isRow : GoodIn wsX9_attach wsX9_isRow := goodIn_r _ [7, 8, 9, 10, 6, 11, 16, 17, 18, 19, 20, 21, 22, 23, 24, 25, 26, 27, 28, 29, 30, 31, 32, 33] (by decide +kernel) (by decide +kernel)
set_option maxRecDepth 20000 in
theorem gX9_attach_X9_isRow : GoodIn wsX9_attach (wsV RX9 158 RX9 yX9_isRow wsX9_isRow) := goodIn_app (goodIn_of _ (by decide +kernel)) ggX9_attach_X9_isRow
set_option maxRecDepth 20000 in
theorem ggX9_attach_X9_isTold : GoodIn wsX9_attach wsX9_isTold := goodIn_r _ [14, 15, 9, 10, 6, 11] (by decide +kernel) (by decide +kernel)
set_option maxRecDepth 20000 in
theorem gX9_attach_X9_isTold : GoodIn wsX9_attach (va_wsS RX9 151 yX9_isTold wsX9_isTold) := goodIn_app (goodIn_of _ (by decide +kernel)) ggX9_attach_X9_isTold
theorem dX9_attach_0 : decode cX9_attach 0 = .ok (.aload_n 0, 1) := by decide +kernel
theorem dX9_attach_1 : decode cX9_attach 1 = .ok (.iload_n 1, 1) := by decide +kernel
theorem dX9_attach_2 : decode cX9_attach 2 = .ok (.invokevirtual 158, 3) := by decide +kernel
theorem dX9_attach_5 : decode cX9_attach 5 = .ok (.ifCond .ne 5, 3) := by decide +kernel
theorem dX9_attach_8 : decode cX9_attach 8 = .ok (.iconst (-1), 1) := by decide +kernel
theorem dX9_attach_9 : decode cX9_attach 9 = .ok (.ireturn, 1) := by decide +kernel
theorem dX9_attach_10 : decode cX9_attach 10 = .ok (.iload_n 2, 1) := by decide +kernel
theorem dX9_attach_11 : decode cX9_attach 11 = .ok (.invokestatic 151, 3) := by decide +kernel
theorem dX9_attach_14 : decode cX9_attach 14 = .ok (.ifCond .eq 26, 3) := by decide +kernel
theorem dX9_attach_17 : decode cX9_attach 17 = .ok (.iload_n 3, 1) := by decide +kernel
theorem dX9_attach_18 : decode cX9_attach 18 = .ok (.invokestatic 151, 3) := by decide +kernel
theorem dX9_attach_21 : decode cX9_attach 21 = .ok (.ifCond .eq 19, 3) := by decide +kernel
theorem dX9_attach_24 : decode cX9_attach 24 = .ok (.iload 4, 2) := by decide +kernel
theorem dX9_attach_26 : decode cX9_attach 26 = .ok (.invokestatic 151, 3) := by decide +kernel
theorem dX9_attach_29 : decode cX9_attach 29 = .ok (.ifCond .eq 11, 3) := by decide +kernel
theorem dX9_attach_32 : decode cX9_attach 32 = .ok (.iload 5, 2) := by decide +kernel
theorem dX9_attach_34 : decode cX9_attach 34 = .ok (.invokestatic 151, 3) := by decide +kernel
theorem dX9_attach_37 : decode cX9_attach 37 = .ok (.ifCond .ne 6, 3) := by decide +kernel
theorem dX9_attach_40 : decode cX9_attach 40 = .ok (.bipush (-2), 2) := by decide +kernel
theorem dX9_attach_42 : decode cX9_attach 42 = .ok (.ireturn, 1) := by decide +kernel
theorem dX9_attach_43 : decode cX9_attach 43 = .ok (.aload_n 0, 1) := by decide +kernel
theorem dX9_attach_44 : decode cX9_attach 44 = .ok (.getfield 41, 3) := by decide +kernel
theorem dX9_attach_47 : decode cX9_attach 47 = .ok (.iload_n 1, 1) := by decide +kernel
theorem dX9_attach_48 : decode cX9_attach 48 = .ok (.baload, 1) := by decide +kernel
theorem dX9_attach_49 : decode cX9_attach 49 = .ok (.ifCond .eq 6, 3) := by decide +kernel
theorem dX9_attach_52 : decode cX9_attach 52 = .ok (.bipush (-3), 2) := by decide +kernel
theorem dX9_attach_54 : decode cX9_attach 54 = .ok (.ireturn, 1) := by decide +kernel
theorem dX9_attach_55 : decode cX9_attach 55 = .ok (.aload_n 0, 1) := by decide +kernel
theorem dX9_attach_56 : decode cX9_attach 56 = .ok (.getfield 41, 3) := by decide +kernel
theorem dX9_attach_59 : decode cX9_attach 59 = .ok (.iload_n 1, 1) := by decide +kernel
theorem dX9_attach_60 : decode cX9_attach 60 = .ok (.iconst 1, 1) := by decide +kernel
theorem dX9_attach_61 : decode cX9_attach 61 = .ok (.bastore, 1) := by decide +kernel
theorem dX9_attach_62 : decode cX9_attach 62 = .ok (.aload_n 0, 1) := by decide +kernel
theorem dX9_attach_63 : decode cX9_attach 63 = .ok (.getfield 45, 3) := by decide +kernel
theorem dX9_attach_66 : decode cX9_attach 66 = .ok (.iconst 4, 1) := by decide +kernel
theorem dX9_attach_67 : decode cX9_attach 67 = .ok (.iload_n 1, 1) := by decide +kernel
theorem dX9_attach_68 : decode cX9_attach 68 = .ok (.imul, 1) := by decide +kernel
theorem dX9_attach_69 : decode cX9_attach 69 = .ok (.iload_n 2, 1) := by decide +kernel
theorem dX9_attach_70 : decode cX9_attach 70 = .ok (.iastore, 1) := by decide +kernel
theorem dX9_attach_71 : decode cX9_attach 71 = .ok (.aload_n 0, 1) := by decide +kernel
theorem dX9_attach_72 : decode cX9_attach 72 = .ok (.getfield 45, 3) := by decide +kernel
theorem dX9_attach_75 : decode cX9_attach 75 = .ok (.iconst 4, 1) := by decide +kernel
theorem dX9_attach_76 : decode cX9_attach 76 = .ok (.iload_n 1, 1) := by decide +kernel
theorem dX9_attach_77 : decode cX9_attach 77 = .ok (.imul, 1) := by decide +kernel
theorem dX9_attach_78 : decode cX9_attach 78 = .ok (.iconst 1, 1) := by decide +kernel
theorem dX9_attach_79 : decode cX9_attach 79 = .ok (.iadd, 1) := by decide +kernel
theorem dX9_attach_80 : decode cX9_attach 80 = .ok (.iload_n 3, 1) := by decide +kernel
theorem dX9_attach_81 : decode cX9_attach 81 = .ok (.iastore, 1) := by decide +kernel
theorem dX9_attach_82 : decode cX9_attach 82 = .ok (.aload_n 0, 1) := by decide +kernel
theorem dX9_attach_83 : decode cX9_attach 83 = .ok (.getfield 45, 3) := by decide +kernel
theorem dX9_attach_86 : decode cX9_attach 86 = .ok (.iconst 4, 1) := by decide +kernel
theorem dX9_attach_87 : decode cX9_attach 87 = .ok (.iload_n 1, 1) := by decide +kernel
theorem dX9_attach_88 : decode cX9_attach 88 = .ok (.imul, 1) := by decide +kernel
theorem dX9_attach_89 : decode cX9_attach 89 = .ok (.iconst 2, 1) := by decide +kernel
theorem dX9_attach_90 : decode cX9_attach 90 = .ok (.iadd, 1) := by decide +kernel
theorem dX9_attach_91 : decode cX9_attach 91 = .ok (.iload 4, 2) := by decide +kernel
theorem dX9_attach_93 : decode cX9_attach 93 = .ok (.iastore, 1) := by decide +kernel
theorem dX9_attach_94 : decode cX9_attach 94 = .ok (.aload_n 0, 1) := by decide +kernel
theorem dX9_attach_95 : decode cX9_attach 95 = .ok (.getfield 45, 3) := by decide +kernel
theorem dX9_attach_98 : decode cX9_attach 98 = .ok (.iconst 4, 1) := by decide +kernel
theorem dX9_attach_99 : decode cX9_attach 99 = .ok (.iload_n 1, 1) := by decide +kernel
theorem dX9_attach_100 : decode cX9_attach 100 = .ok (.imul, 1) := by decide +kernel
theorem dX9_attach_101 : decode cX9_attach 101 = .ok (.iconst 3, 1) := by decide +kernel
theorem dX9_attach_102 : decode cX9_attach 102 = .ok (.iadd, 1) := by decide +kernel
theorem dX9_attach_103 : decode cX9_attach 103 = .ok (.iload 5, 2) := by decide +kernel
theorem dX9_attach_105 : decode cX9_attach 105 = .ok (.iastore, 1) := by decide +kernel
theorem dX9_attach_106 : decode cX9_attach 106 = .ok (.iconst 1, 1) := by decide +kernel
theorem dX9_attach_107 : decode cX9_attach 107 = .ok (.ireturn, 1) := by decide +kernel
set_option maxRecDepth 20000 in
theorem ggX9_cast_X9_isVoter : GoodIn wsX9_cast wsX9_isVoter := goodIn_r _ [6, 7, 8, 5, 9] (by decide +kernel) (by decide +kernel)
set_option maxRecDepth 20000 in
theorem gX9_cast_X9_isVoter : GoodIn wsX9_cast (va_wsS RX9 132 yX9_isVoter wsX9_isVoter) := goodIn_app (goodIn_of _ (by decide +kernel)) ggX9_cast_X9_isVoter
set_option maxRecDepth 20000 in
theorem ggX9_cast_X9_in : GoodIn wsX9_cast wsX9_in := goodIn_r _ [9] (by decide +kernel) (by decide +kernel)
set_option maxRecDepth 20000 in
theorem gX9_cast_X9_in : GoodIn wsX9_cast (va_wsS RX9 51 yX9_in wsX9_in) := goodIn_app (goodIn_of _ (by decide +kernel)) ggX9_cast_X9_in
set_option maxRecDepth 20000 in
theorem ggX9_cast_X9_isHour : GoodIn wsX9_cast wsX9_isHour := goodIn_r _ [12, 7, 8, 5, 9] (by decide +kernel) (by decide +kernel)
set_option maxRecDepth 20000 in
theorem gX9_cast_X9_isHour : GoodIn wsX9_cast (va_wsS RX9 148 yX9_isHour wsX9_isHour) := goodIn_app (goodIn_of _ (by decide +kernel)) ggX9_cast_X9_isHour
set_option maxRecDepth 20000 in
theorem ggX9_cast_X9_isPower : GoodIn wsX9_cast wsX9_isPower := goodIn_r _ [15, 7, 8, 5, 9] (by decide +kernel) (by decide +kernel)
set_option maxRecDepth 20000 in
theorem gX9_cast_X9_isPower : GoodIn wsX9_cast (va_wsS RX9 68 yX9_isPower wsX9_isPower) := goodIn_app (goodIn_of _ (by decide +kernel)) ggX9_cast_X9_isPower
set_option maxRecDepth 20000 in
theorem ggX9_cast_X9_sealOf : GoodIn wsX9_cast wsX9_sealOf := goodIn_r _ [19, 20, 21, 5, 22, 23, 24, 25, 26, 27, 28, 29, 30, 31, 32, 33, 34, 65, 66, 67, 68, 69, 70, 71, 72, 73, 74, 75, 76, 77, 78, 79, 80, 81, 82] (by decide +kernel) (by decide +kernel)
set_option maxRecDepth 20000 in
theorem gX9_cast_X9_sealOf : GoodIn wsX9_cast (wsV RX9 86 RX9 yX9_sealOf wsX9_sealOf) := goodIn_app (goodIn_of _ (by decide +kernel)) ggX9_cast_X9_sealOf
set_option maxRecDepth 20000 in
theorem ggX9_cast_X9_addRow : GoodIn wsX9_cast wsX9_addRow := goodIn_r _ [38, 39, 1, 40, 41, 42, 43, 2, 65, 66, 67, 68, 69, 70, 71, 72, 73, 74, 75, 76, 77, 78, 79, 80, 81, 82] (by decide +kernel) (by decide +kernel)
set_option maxRecDepth 20000 in
theorem gX9_cast_X9_addRow : GoodIn wsX9_cast (wsV RX9 154 RX9 yX9_addRow wsX9_addRow) := goodIn_app (goodIn_of _ (by decide +kernel)) ggX9_cast_X9_addRow
set_option maxRecDepth 20000 in
theorem ggX9_cast_X9_proved : GoodIn wsX9_cast wsX9_proved := goodIn_r _ [47, 48, 49, 16, 17, 18, 5, 19, 20, 21, 22, 23, 24, 25, 26, 27, 28, 29, 30, 31, 32, 33, 34, 50, 51, 52, 53, 54, 55, 56, 57, 58, 59, 60, 61, 62, 63, 64, 65, 66, 67, 68, 69, 70, 71, 72, 73, 74, 75, 76, 77, 78, 79, 80, 81, 82] (by decide +kernel) (by decide +kernel)
set_option maxRecDepth 20000 in
theorem gX9_cast_X9_proved : GoodIn wsX9_cast (wsV RX9 113 RX9 yX9_proved wsX9_proved) := goodIn_app (goodIn_of _ (by decide +kernel)) ggX9_cast_X9_proved
theorem dX9_cast_0 : decode cX9_cast 0 = .ok (.iload_n 1, 1) := by decide +kernel
theorem dX9_cast_1 : decode cX9_cast 1 = .ok (.invokestatic 132, 3) := by decide +kernel
theorem dX9_cast_4 : decode cX9_cast 4 = .ok (.ifCond .ne 5, 3) := by decide +kernel
theorem dX9_cast_7 : decode cX9_cast 7 = .ok (.iconst (-1), 1) := by decide +kernel
theorem dX9_cast_8 : decode cX9_cast 8 = .ok (.ireturn, 1) := by decide +kernel
theorem dX9_cast_9 : decode cX9_cast 9 = .ok (.iload_n 2, 1) := by decide +kernel
theorem dX9_cast_10 : decode cX9_cast 10 = .ok (.iconst 0, 1) := by decide +kernel
theorem dX9_cast_11 : decode cX9_cast 11 = .ok (.iconst 1, 1) := by decide +kernel
theorem dX9_cast_12 : decode cX9_cast 12 = .ok (.invokestatic 51, 3) := by decide +kernel
theorem dX9_cast_15 : decode cX9_cast 15 = .ok (.ifCond .eq 42, 3) := by decide +kernel
theorem dX9_cast_18 : decode cX9_cast 18 = .ok (.iload_n 3, 1) := by decide +kernel
theorem dX9_cast_19 : decode cX9_cast 19 = .ok (.invokestatic 148, 3) := by decide +kernel
theorem dX9_cast_22 : decode cX9_cast 22 = .ok (.ifCond .eq 35, 3) := by decide +kernel
theorem dX9_cast_25 : decode cX9_cast 25 = .ok (.iload 4, 2) := by decide +kernel
theorem dX9_cast_27 : decode cX9_cast 27 = .ok (.invokestatic 68, 3) := by decide +kernel
theorem dX9_cast_30 : decode cX9_cast 30 = .ok (.ifCond .eq 27, 3) := by decide +kernel
theorem dX9_cast_33 : decode cX9_cast 33 = .ok (.iload 5, 2) := by decide +kernel
theorem dX9_cast_35 : decode cX9_cast 35 = .ok (.invokestatic 68, 3) := by decide +kernel
theorem dX9_cast_38 : decode cX9_cast 38 = .ok (.ifCond .eq 19, 3) := by decide +kernel
theorem dX9_cast_41 : decode cX9_cast 41 = .ok (.iload 6, 2) := by decide +kernel
theorem dX9_cast_43 : decode cX9_cast 43 = .ok (.invokestatic 68, 3) := by decide +kernel
theorem dX9_cast_46 : decode cX9_cast 46 = .ok (.ifCond .eq 11, 3) := by decide +kernel
theorem dX9_cast_49 : decode cX9_cast 49 = .ok (.iload 7, 2) := by decide +kernel
theorem dX9_cast_51 : decode cX9_cast 51 = .ok (.invokestatic 68, 3) := by decide +kernel
theorem dX9_cast_54 : decode cX9_cast 54 = .ok (.ifCond .ne 6, 3) := by decide +kernel
theorem dX9_cast_57 : decode cX9_cast 57 = .ok (.bipush (-2), 2) := by decide +kernel
theorem dX9_cast_59 : decode cX9_cast 59 = .ok (.ireturn, 1) := by decide +kernel
theorem dX9_cast_60 : decode cX9_cast 60 = .ok (.aload_n 0, 1) := by decide +kernel
theorem dX9_cast_61 : decode cX9_cast 61 = .ok (.getfield 72, 3) := by decide +kernel
theorem dX9_cast_64 : decode cX9_cast 64 = .ok (.bipush 30, 2) := by decide +kernel
theorem dX9_cast_66 : decode cX9_cast 66 = .ok (.if_icmp .ne 6, 3) := by decide +kernel
theorem dX9_cast_69 : decode cX9_cast 69 = .ok (.bipush (-4), 2) := by decide +kernel
theorem dX9_cast_71 : decode cX9_cast 71 = .ok (.ireturn, 1) := by decide +kernel
theorem dX9_cast_72 : decode cX9_cast 72 = .ok (.aload_n 0, 1) := by decide +kernel
theorem dX9_cast_73 : decode cX9_cast 73 = .ok (.iload_n 1, 1) := by decide +kernel
theorem dX9_cast_74 : decode cX9_cast 74 = .ok (.aload_n 0, 1) := by decide +kernel
theorem dX9_cast_75 : decode cX9_cast 75 = .ok (.iload_n 2, 1) := by decide +kernel
theorem dX9_cast_76 : decode cX9_cast 76 = .ok (.iload 4, 2) := by decide +kernel
theorem dX9_cast_78 : decode cX9_cast 78 = .ok (.iconst 0, 1) := by decide +kernel
theorem dX9_cast_79 : decode cX9_cast 79 = .ok (.invokevirtual 86, 3) := by decide +kernel
theorem dX9_cast_82 : decode cX9_cast 82 = .ok (.aload_n 0, 1) := by decide +kernel
theorem dX9_cast_83 : decode cX9_cast 83 = .ok (.iload_n 2, 1) := by decide +kernel
theorem dX9_cast_84 : decode cX9_cast 84 = .ok (.iload 4, 2) := by decide +kernel
theorem dX9_cast_86 : decode cX9_cast 86 = .ok (.iconst 1, 1) := by decide +kernel
theorem dX9_cast_87 : decode cX9_cast 87 = .ok (.invokevirtual 86, 3) := by decide +kernel
theorem dX9_cast_90 : decode cX9_cast 90 = .ok (.iload_n 3, 1) := by decide +kernel
theorem dX9_cast_91 : decode cX9_cast 91 = .ok (.iconst 1, 1) := by decide +kernel
theorem dX9_cast_92 : decode cX9_cast 92 = .ok (.invokevirtual 154, 3) := by decide +kernel
theorem dX9_cast_95 : decode cX9_cast 95 = .ok (.istore 8, 2) := by decide +kernel
theorem dX9_cast_97 : decode cX9_cast 97 = .ok (.iconst 0, 1) := by decide +kernel
theorem dX9_cast_98 : decode cX9_cast 98 = .ok (.istore 9, 2) := by decide +kernel
theorem dX9_cast_100 : decode cX9_cast 100 = .ok (.iload 9, 2) := by decide +kernel
theorem dX9_cast_102 : decode cX9_cast 102 = .ok (.iconst 4, 1) := by decide +kernel
theorem dX9_cast_103 : decode cX9_cast 103 = .ok (.if_icmp .ge 36, 3) := by decide +kernel
theorem dX9_cast_106 : decode cX9_cast 106 = .ok (.aload_n 0, 1) := by decide +kernel
theorem dX9_cast_107 : decode cX9_cast 107 = .ok (.getfield 45, 3) := by decide +kernel
theorem dX9_cast_110 : decode cX9_cast 110 = .ok (.iconst 4, 1) := by decide +kernel
theorem dX9_cast_111 : decode cX9_cast 111 = .ok (.iload 8, 2) := by decide +kernel
theorem dX9_cast_113 : decode cX9_cast 113 = .ok (.imul, 1) := by decide +kernel
theorem dX9_cast_114 : decode cX9_cast 114 = .ok (.iload 9, 2) := by decide +kernel
theorem dX9_cast_116 : decode cX9_cast 116 = .ok (.iadd, 1) := by decide +kernel
theorem dX9_cast_117 : decode cX9_cast 117 = .ok (.aload_n 0, 1) := by decide +kernel
theorem dX9_cast_118 : decode cX9_cast 118 = .ok (.iload_n 2, 1) := by decide +kernel
theorem dX9_cast_119 : decode cX9_cast 119 = .ok (.iload 4, 2) := by decide +kernel
theorem dX9_cast_121 : decode cX9_cast 121 = .ok (.iload 5, 2) := by decide +kernel
theorem dX9_cast_123 : decode cX9_cast 123 = .ok (.iload 6, 2) := by decide +kernel
theorem dX9_cast_125 : decode cX9_cast 125 = .ok (.iload 7, 2) := by decide +kernel
theorem dX9_cast_127 : decode cX9_cast 127 = .ok (.iload 9, 2) := by decide +kernel
theorem dX9_cast_129 : decode cX9_cast 129 = .ok (.invokevirtual 113, 3) := by decide +kernel
theorem dX9_cast_132 : decode cX9_cast 132 = .ok (.iastore, 1) := by decide +kernel
theorem dX9_cast_133 : decode cX9_cast 133 = .ok (.iinc 9 1, 3) := by decide +kernel
theorem dX9_cast_136 : decode cX9_cast 136 = .ok (.goto (-36), 3) := by decide +kernel
theorem dX9_cast_139 : decode cX9_cast 139 = .ok (.iload 8, 2) := by decide +kernel
theorem dX9_cast_141 : decode cX9_cast 141 = .ok (.ireturn, 1) := by decide +kernel
set_option maxRecDepth 20000 in
theorem ggX9_flawOf_X9_holds : GoodIn wsX9_flawOf wsX9_holds := goodIn_r _ [11, 12, 13, 14, 10, 15, 16, 17, 18, 19, 20, 21, 22, 23, 24, 25, 26, 27, 28, 29, 30, 31, 32, 33, 34, 35, 36, 37, 38, 39, 40, 41, 42, 43, 44, 45, 46, 47, 48, 49, 50, 51, 52, 53, 54, 55, 63, 64, 65, 66, 67, 68, 69, 70, 71, 72, 73, 74, 75, 76, 77, 78, 79, 80] (by decide +kernel) (by decide +kernel)
set_option maxRecDepth 20000 in
theorem gX9_flawOf_X9_holds : GoodIn wsX9_flawOf (wsV RX9 128 RX9 yX9_holds wsX9_holds) := goodIn_app (goodIn_of _ (by decide +kernel)) ggX9_flawOf_X9_holds
set_option maxRecDepth 20000 in
theorem ggX9_flawOf_X9_mayVote : GoodIn wsX9_flawOf wsX9_mayVote := goodIn_r _ [59, 60, 61, 62, 19, 20, 10, 21, 63, 64, 65, 66, 67, 68, 69, 70, 71, 72, 73, 74, 75, 76, 77, 78, 79, 80] (by decide +kernel) (by decide +kernel)
set_option maxRecDepth 20000 in
theorem gX9_flawOf_X9_mayVote : GoodIn wsX9_flawOf (wsV RX9 144 RX9 yX9_mayVote wsX9_mayVote) := goodIn_app (goodIn_of _ (by decide +kernel)) ggX9_flawOf_X9_mayVote
theorem dX9_flawOf_0 : decode cX9_flawOf 0 = .ok (.aload_n 0, 1) := by decide +kernel
theorem dX9_flawOf_1 : decode cX9_flawOf 1 = .ok (.getfield 38, 3) := by decide +kernel
theorem dX9_flawOf_4 : decode cX9_flawOf 4 = .ok (.iload_n 1, 1) := by decide +kernel
theorem dX9_flawOf_5 : decode cX9_flawOf 5 = .ok (.iaload, 1) := by decide +kernel
theorem dX9_flawOf_6 : decode cX9_flawOf 6 = .ok (.aload_n 0, 1) := by decide +kernel
theorem dX9_flawOf_7 : decode cX9_flawOf 7 = .ok (.getfield 26, 3) := by decide +kernel
theorem dX9_flawOf_10 : decode cX9_flawOf 10 = .ok (.if_icmp .le 5, 3) := by decide +kernel
theorem dX9_flawOf_13 : decode cX9_flawOf 13 = .ok (.iconst 1, 1) := by decide +kernel
theorem dX9_flawOf_14 : decode cX9_flawOf 14 = .ok (.ireturn, 1) := by decide +kernel
theorem dX9_flawOf_15 : decode cX9_flawOf 15 = .ok (.aload_n 0, 1) := by decide +kernel
theorem dX9_flawOf_16 : decode cX9_flawOf 16 = .ok (.aload_n 0, 1) := by decide +kernel
theorem dX9_flawOf_17 : decode cX9_flawOf 17 = .ok (.getfield 32, 3) := by decide +kernel
theorem dX9_flawOf_20 : decode cX9_flawOf 20 = .ok (.iload_n 1, 1) := by decide +kernel
theorem dX9_flawOf_21 : decode cX9_flawOf 21 = .ok (.iaload, 1) := by decide +kernel
theorem dX9_flawOf_22 : decode cX9_flawOf 22 = .ok (.aload_n 0, 1) := by decide +kernel
theorem dX9_flawOf_23 : decode cX9_flawOf 23 = .ok (.getfield 35, 3) := by decide +kernel
theorem dX9_flawOf_26 : decode cX9_flawOf 26 = .ok (.iload_n 1, 1) := by decide +kernel
theorem dX9_flawOf_27 : decode cX9_flawOf 27 = .ok (.iaload, 1) := by decide +kernel
theorem dX9_flawOf_28 : decode cX9_flawOf 28 = .ok (.aload_n 0, 1) := by decide +kernel
theorem dX9_flawOf_29 : decode cX9_flawOf 29 = .ok (.getfield 45, 3) := by decide +kernel
theorem dX9_flawOf_32 : decode cX9_flawOf 32 = .ok (.iconst 4, 1) := by decide +kernel
theorem dX9_flawOf_33 : decode cX9_flawOf 33 = .ok (.iload_n 1, 1) := by decide +kernel
theorem dX9_flawOf_34 : decode cX9_flawOf 34 = .ok (.imul, 1) := by decide +kernel
theorem dX9_flawOf_35 : decode cX9_flawOf 35 = .ok (.iaload, 1) := by decide +kernel
theorem dX9_flawOf_36 : decode cX9_flawOf 36 = .ok (.aload_n 0, 1) := by decide +kernel
theorem dX9_flawOf_37 : decode cX9_flawOf 37 = .ok (.getfield 45, 3) := by decide +kernel
theorem dX9_flawOf_40 : decode cX9_flawOf 40 = .ok (.iconst 4, 1) := by decide +kernel
theorem dX9_flawOf_41 : decode cX9_flawOf 41 = .ok (.iload_n 1, 1) := by decide +kernel
theorem dX9_flawOf_42 : decode cX9_flawOf 42 = .ok (.imul, 1) := by decide +kernel
theorem dX9_flawOf_43 : decode cX9_flawOf 43 = .ok (.iconst 1, 1) := by decide +kernel
theorem dX9_flawOf_44 : decode cX9_flawOf 44 = .ok (.iadd, 1) := by decide +kernel
theorem dX9_flawOf_45 : decode cX9_flawOf 45 = .ok (.iaload, 1) := by decide +kernel
theorem dX9_flawOf_46 : decode cX9_flawOf 46 = .ok (.aload_n 0, 1) := by decide +kernel
theorem dX9_flawOf_47 : decode cX9_flawOf 47 = .ok (.getfield 45, 3) := by decide +kernel
theorem dX9_flawOf_50 : decode cX9_flawOf 50 = .ok (.iconst 4, 1) := by decide +kernel
theorem dX9_flawOf_51 : decode cX9_flawOf 51 = .ok (.iload_n 1, 1) := by decide +kernel
theorem dX9_flawOf_52 : decode cX9_flawOf 52 = .ok (.imul, 1) := by decide +kernel
theorem dX9_flawOf_53 : decode cX9_flawOf 53 = .ok (.iconst 2, 1) := by decide +kernel
theorem dX9_flawOf_54 : decode cX9_flawOf 54 = .ok (.iadd, 1) := by decide +kernel
theorem dX9_flawOf_55 : decode cX9_flawOf 55 = .ok (.iaload, 1) := by decide +kernel
theorem dX9_flawOf_56 : decode cX9_flawOf 56 = .ok (.aload_n 0, 1) := by decide +kernel
theorem dX9_flawOf_57 : decode cX9_flawOf 57 = .ok (.getfield 45, 3) := by decide +kernel
theorem dX9_flawOf_60 : decode cX9_flawOf 60 = .ok (.iconst 4, 1) := by decide +kernel
theorem dX9_flawOf_61 : decode cX9_flawOf 61 = .ok (.iload_n 1, 1) := by decide +kernel
theorem dX9_flawOf_62 : decode cX9_flawOf 62 = .ok (.imul, 1) := by decide +kernel
theorem dX9_flawOf_63 : decode cX9_flawOf 63 = .ok (.iconst 3, 1) := by decide +kernel
theorem dX9_flawOf_64 : decode cX9_flawOf 64 = .ok (.iadd, 1) := by decide +kernel
theorem dX9_flawOf_65 : decode cX9_flawOf 65 = .ok (.iaload, 1) := by decide +kernel
theorem dX9_flawOf_66 : decode cX9_flawOf 66 = .ok (.invokevirtual 128, 3) := by decide +kernel
theorem dX9_flawOf_69 : decode cX9_flawOf 69 = .ok (.istore_n 2, 1) := by decide +kernel
theorem dX9_flawOf_70 : decode cX9_flawOf 70 = .ok (.iload_n 2, 1) := by decide +kernel
theorem dX9_flawOf_71 : decode cX9_flawOf 71 = .ok (.ifCond .ne 7, 3) := by decide +kernel
theorem dX9_flawOf_74 : decode cX9_flawOf 74 = .ok (.iconst 2, 1) := by decide +kernel
theorem dX9_flawOf_75 : decode cX9_flawOf 75 = .ok (.goto 21, 3) := by decide +kernel
theorem dX9_flawOf_78 : decode cX9_flawOf 78 = .ok (.aload_n 0, 1) := by decide +kernel
theorem dX9_flawOf_79 : decode cX9_flawOf 79 = .ok (.aload_n 0, 1) := by decide +kernel
theorem dX9_flawOf_80 : decode cX9_flawOf 80 = .ok (.getfield 29, 3) := by decide +kernel
theorem dX9_flawOf_83 : decode cX9_flawOf 83 = .ok (.iload_n 1, 1) := by decide +kernel
theorem dX9_flawOf_84 : decode cX9_flawOf 84 = .ok (.iaload, 1) := by decide +kernel
theorem dX9_flawOf_85 : decode cX9_flawOf 85 = .ok (.invokevirtual 144, 3) := by decide +kernel
theorem dX9_flawOf_88 : decode cX9_flawOf 88 = .ok (.ifCond .eq 7, 3) := by decide +kernel
theorem dX9_flawOf_91 : decode cX9_flawOf 91 = .ok (.iconst 0, 1) := by decide +kernel
theorem dX9_flawOf_92 : decode cX9_flawOf 92 = .ok (.goto 4, 3) := by decide +kernel
theorem dX9_flawOf_95 : decode cX9_flawOf 95 = .ok (.iconst 3, 1) := by decide +kernel
theorem dX9_flawOf_96 : decode cX9_flawOf 96 = .ok (.ireturn, 1) := by decide +kernel
set_option maxRecDepth 20000 in
theorem ggX9_stateOf_X9_flawOf : GoodIn wsX9_stateOf wsX9_flawOf := goodIn_r _ [7, 8, 9, 10, 11, 12, 2, 13, 14, 15, 6, 16, 17, 18, 19, 20, 21, 22, 23, 24, 25, 26, 27, 28, 29, 30, 31, 32, 33, 34, 35, 36, 37, 38, 39, 40, 41, 42, 43, 44, 45, 46, 47, 48, 49, 50, 51, 52, 53, 54, 55, 56, 57, 58, 59, 60, 61, 62, 63, 64, 65, 66, 67, 68, 69, 70, 71, 72, 73, 74, 75, 76, 77, 78, 79, 80, 81, 82, 83, 84, 85] (by decide +kernel) (by decide +kernel)
set_option maxRecDepth 20000 in
theorem gX9_stateOf_X9_flawOf : GoodIn wsX9_stateOf (wsV RX9 161 RX9 yX9_flawOf wsX9_flawOf) := goodIn_app (goodIn_of _ (by decide +kernel)) ggX9_stateOf_X9_flawOf
theorem dX9_stateOf_0 : decode cX9_stateOf 0 = .ok (.aload_n 0, 1) := by decide +kernel
theorem dX9_stateOf_1 : decode cX9_stateOf 1 = .ok (.iload_n 1, 1) := by decide +kernel
theorem dX9_stateOf_2 : decode cX9_stateOf 2 = .ok (.invokevirtual 161, 3) := by decide +kernel
theorem dX9_stateOf_5 : decode cX9_stateOf 5 = .ok (.istore_n 2, 1) := by decide +kernel
theorem dX9_stateOf_6 : decode cX9_stateOf 6 = .ok (.iconst 0, 1) := by decide +kernel
theorem dX9_stateOf_7 : decode cX9_stateOf 7 = .ok (.istore_n 3, 1) := by decide +kernel
theorem dX9_stateOf_8 : decode cX9_stateOf 8 = .ok (.iload_n 1, 1) := by decide +kernel
theorem dX9_stateOf_9 : decode cX9_stateOf 9 = .ok (.iconst 1, 1) := by decide +kernel
theorem dX9_stateOf_10 : decode cX9_stateOf 10 = .ok (.iadd, 1) := by decide +kernel
theorem dX9_stateOf_11 : decode cX9_stateOf 11 = .ok (.istore 4, 2) := by decide +kernel
theorem dX9_stateOf_13 : decode cX9_stateOf 13 = .ok (.iload 4, 2) := by decide +kernel
theorem dX9_stateOf_15 : decode cX9_stateOf 15 = .ok (.aload_n 0, 1) := by decide +kernel
theorem dX9_stateOf_16 : decode cX9_stateOf 16 = .ok (.getfield 72, 3) := by decide +kernel
theorem dX9_stateOf_19 : decode cX9_stateOf 19 = .ok (.if_icmp .ge 48, 3) := by decide +kernel
theorem dX9_stateOf_22 : decode cX9_stateOf 22 = .ok (.iload_n 2, 1) := by decide +kernel
theorem dX9_stateOf_23 : decode cX9_stateOf 23 = .ok (.ifCond .ne 44, 3) := by decide +kernel
theorem dX9_stateOf_26 : decode cX9_stateOf 26 = .ok (.iload_n 3, 1) := by decide +kernel
theorem dX9_stateOf_27 : decode cX9_stateOf 27 = .ok (.ifCond .ne 40, 3) := by decide +kernel
theorem dX9_stateOf_30 : decode cX9_stateOf 30 = .ok (.aload_n 0, 1) := by decide +kernel
theorem dX9_stateOf_31 : decode cX9_stateOf 31 = .ok (.getfield 29, 3) := by decide +kernel
theorem dX9_stateOf_34 : decode cX9_stateOf 34 = .ok (.iload 4, 2) := by decide +kernel
theorem dX9_stateOf_36 : decode cX9_stateOf 36 = .ok (.iaload, 1) := by decide +kernel
theorem dX9_stateOf_37 : decode cX9_stateOf 37 = .ok (.aload_n 0, 1) := by decide +kernel
theorem dX9_stateOf_38 : decode cX9_stateOf 38 = .ok (.getfield 29, 3) := by decide +kernel
theorem dX9_stateOf_41 : decode cX9_stateOf 41 = .ok (.iload_n 1, 1) := by decide +kernel
theorem dX9_stateOf_42 : decode cX9_stateOf 42 = .ok (.iaload, 1) := by decide +kernel
theorem dX9_stateOf_43 : decode cX9_stateOf 43 = .ok (.if_icmp .ne 16, 3) := by decide +kernel
theorem dX9_stateOf_46 : decode cX9_stateOf 46 = .ok (.aload_n 0, 1) := by decide +kernel
theorem dX9_stateOf_47 : decode cX9_stateOf 47 = .ok (.iload 4, 2) := by decide +kernel
theorem dX9_stateOf_49 : decode cX9_stateOf 49 = .ok (.invokevirtual 161, 3) := by decide +kernel
theorem dX9_stateOf_52 : decode cX9_stateOf 52 = .ok (.ifCond .ne 7, 3) := by decide +kernel
theorem dX9_stateOf_55 : decode cX9_stateOf 55 = .ok (.iconst 1, 1) := by decide +kernel
theorem dX9_stateOf_56 : decode cX9_stateOf 56 = .ok (.goto 4, 3) := by decide +kernel
theorem dX9_stateOf_59 : decode cX9_stateOf 59 = .ok (.iconst 0, 1) := by decide +kernel
theorem dX9_stateOf_60 : decode cX9_stateOf 60 = .ok (.istore_n 3, 1) := by decide +kernel
theorem dX9_stateOf_61 : decode cX9_stateOf 61 = .ok (.iinc 4 1, 3) := by decide +kernel
theorem dX9_stateOf_64 : decode cX9_stateOf 64 = .ok (.goto (-51), 3) := by decide +kernel
theorem dX9_stateOf_67 : decode cX9_stateOf 67 = .ok (.iload_n 2, 1) := by decide +kernel
theorem dX9_stateOf_68 : decode cX9_stateOf 68 = .ok (.ifCond .le 7, 3) := by decide +kernel
theorem dX9_stateOf_71 : decode cX9_stateOf 71 = .ok (.iload_n 2, 1) := by decide +kernel
theorem dX9_stateOf_72 : decode cX9_stateOf 72 = .ok (.goto 12, 3) := by decide +kernel
theorem dX9_stateOf_75 : decode cX9_stateOf 75 = .ok (.iload_n 3, 1) := by decide +kernel
theorem dX9_stateOf_76 : decode cX9_stateOf 76 = .ok (.ifCond .eq 7, 3) := by decide +kernel
theorem dX9_stateOf_79 : decode cX9_stateOf 79 = .ok (.iconst 4, 1) := by decide +kernel
theorem dX9_stateOf_80 : decode cX9_stateOf 80 = .ok (.goto 4, 3) := by decide +kernel
theorem dX9_stateOf_83 : decode cX9_stateOf 83 = .ok (.iconst 0, 1) := by decide +kernel
theorem dX9_stateOf_84 : decode cX9_stateOf 84 = .ok (.ireturn, 1) := by decide +kernel
theorem dX9_wordOf_0 : decode cX9_wordOf 0 = .ok (.ldc2_w 164, 3) := by decide +kernel
theorem dX9_wordOf_3 : decode cX9_wordOf 3 = .ok (.lstore_n 2, 1) := by decide +kernel
theorem dX9_wordOf_4 : decode cX9_wordOf 4 = .ok (.lload_n 2, 1) := by decide +kernel
theorem dX9_wordOf_5 : decode cX9_wordOf 5 = .ok (.ldc2_w 166, 3) := by decide +kernel
theorem dX9_wordOf_8 : decode cX9_wordOf 8 = .ok (.lmul, 1) := by decide +kernel
theorem dX9_wordOf_9 : decode cX9_wordOf 9 = .ok (.aload_n 0, 1) := by decide +kernel
theorem dX9_wordOf_10 : decode cX9_wordOf 10 = .ok (.getfield 29, 3) := by decide +kernel
theorem dX9_wordOf_13 : decode cX9_wordOf 13 = .ok (.iload_n 1, 1) := by decide +kernel
theorem dX9_wordOf_14 : decode cX9_wordOf 14 = .ok (.iaload, 1) := by decide +kernel
theorem dX9_wordOf_15 : decode cX9_wordOf 15 = .ok (.i2l, 1) := by decide +kernel
theorem dX9_wordOf_16 : decode cX9_wordOf 16 = .ok (.ladd, 1) := by decide +kernel
theorem dX9_wordOf_17 : decode cX9_wordOf 17 = .ok (.ldc2_w 168, 3) := by decide +kernel
theorem dX9_wordOf_20 : decode cX9_wordOf 20 = .ok (.lrem, 1) := by decide +kernel
theorem dX9_wordOf_21 : decode cX9_wordOf 21 = .ok (.lstore_n 2, 1) := by decide +kernel
theorem dX9_wordOf_22 : decode cX9_wordOf 22 = .ok (.lload_n 2, 1) := by decide +kernel
theorem dX9_wordOf_23 : decode cX9_wordOf 23 = .ok (.ldc2_w 166, 3) := by decide +kernel
theorem dX9_wordOf_26 : decode cX9_wordOf 26 = .ok (.lmul, 1) := by decide +kernel
theorem dX9_wordOf_27 : decode cX9_wordOf 27 = .ok (.aload_n 0, 1) := by decide +kernel
theorem dX9_wordOf_28 : decode cX9_wordOf 28 = .ok (.getfield 32, 3) := by decide +kernel
theorem dX9_wordOf_31 : decode cX9_wordOf 31 = .ok (.iload_n 1, 1) := by decide +kernel
theorem dX9_wordOf_32 : decode cX9_wordOf 32 = .ok (.iaload, 1) := by decide +kernel
theorem dX9_wordOf_33 : decode cX9_wordOf 33 = .ok (.i2l, 1) := by decide +kernel
theorem dX9_wordOf_34 : decode cX9_wordOf 34 = .ok (.ladd, 1) := by decide +kernel
theorem dX9_wordOf_35 : decode cX9_wordOf 35 = .ok (.ldc2_w 168, 3) := by decide +kernel
theorem dX9_wordOf_38 : decode cX9_wordOf 38 = .ok (.lrem, 1) := by decide +kernel
theorem dX9_wordOf_39 : decode cX9_wordOf 39 = .ok (.lstore_n 2, 1) := by decide +kernel
theorem dX9_wordOf_40 : decode cX9_wordOf 40 = .ok (.lload_n 2, 1) := by decide +kernel
theorem dX9_wordOf_41 : decode cX9_wordOf 41 = .ok (.ldc2_w 166, 3) := by decide +kernel
theorem dX9_wordOf_44 : decode cX9_wordOf 44 = .ok (.lmul, 1) := by decide +kernel
theorem dX9_wordOf_45 : decode cX9_wordOf 45 = .ok (.aload_n 0, 1) := by decide +kernel
theorem dX9_wordOf_46 : decode cX9_wordOf 46 = .ok (.getfield 35, 3) := by decide +kernel
theorem dX9_wordOf_49 : decode cX9_wordOf 49 = .ok (.iload_n 1, 1) := by decide +kernel
theorem dX9_wordOf_50 : decode cX9_wordOf 50 = .ok (.iaload, 1) := by decide +kernel
theorem dX9_wordOf_51 : decode cX9_wordOf 51 = .ok (.i2l, 1) := by decide +kernel
theorem dX9_wordOf_52 : decode cX9_wordOf 52 = .ok (.ladd, 1) := by decide +kernel
theorem dX9_wordOf_53 : decode cX9_wordOf 53 = .ok (.ldc2_w 168, 3) := by decide +kernel
theorem dX9_wordOf_56 : decode cX9_wordOf 56 = .ok (.lrem, 1) := by decide +kernel
theorem dX9_wordOf_57 : decode cX9_wordOf 57 = .ok (.lstore_n 2, 1) := by decide +kernel
theorem dX9_wordOf_58 : decode cX9_wordOf 58 = .ok (.lload_n 2, 1) := by decide +kernel
theorem dX9_wordOf_59 : decode cX9_wordOf 59 = .ok (.ldc2_w 166, 3) := by decide +kernel
theorem dX9_wordOf_62 : decode cX9_wordOf 62 = .ok (.lmul, 1) := by decide +kernel
theorem dX9_wordOf_63 : decode cX9_wordOf 63 = .ok (.aload_n 0, 1) := by decide +kernel
theorem dX9_wordOf_64 : decode cX9_wordOf 64 = .ok (.getfield 38, 3) := by decide +kernel
theorem dX9_wordOf_67 : decode cX9_wordOf 67 = .ok (.iload_n 1, 1) := by decide +kernel
theorem dX9_wordOf_68 : decode cX9_wordOf 68 = .ok (.iaload, 1) := by decide +kernel
theorem dX9_wordOf_69 : decode cX9_wordOf 69 = .ok (.i2l, 1) := by decide +kernel
theorem dX9_wordOf_70 : decode cX9_wordOf 70 = .ok (.ladd, 1) := by decide +kernel
theorem dX9_wordOf_71 : decode cX9_wordOf 71 = .ok (.ldc2_w 168, 3) := by decide +kernel
theorem dX9_wordOf_74 : decode cX9_wordOf 74 = .ok (.lrem, 1) := by decide +kernel
theorem dX9_wordOf_75 : decode cX9_wordOf 75 = .ok (.lstore_n 2, 1) := by decide +kernel
theorem dX9_wordOf_76 : decode cX9_wordOf 76 = .ok (.lload_n 2, 1) := by decide +kernel
theorem dX9_wordOf_77 : decode cX9_wordOf 77 = .ok (.l2i, 1) := by decide +kernel
theorem dX9_wordOf_78 : decode cX9_wordOf 78 = .ok (.ireturn, 1) := by decide +kernel
set_option maxRecDepth 20000 in
theorem ggX9_headOf_X9_wordOf : GoodIn wsX9_headOf wsX9_wordOf := goodIn_r _ [7, 8, 9, 10, 11, 12, 13, 14, 15, 16, 17, 18, 19, 20, 21, 22, 23, 24, 25, 26, 27, 28, 29, 30, 31, 32] (by decide +kernel) (by decide +kernel)
set_option maxRecDepth 20000 in
theorem gX9_headOf_X9_wordOf : GoodIn wsX9_headOf (wsV RX9 170 RX9 yX9_wordOf wsX9_wordOf) := goodIn_app (goodIn_of _ (by decide +kernel)) ggX9_headOf_X9_wordOf
theorem dX9_headOf_0 : decode cX9_headOf 0 = .ok (.lconst 1, 1) := by decide +kernel
theorem dX9_headOf_1 : decode cX9_headOf 1 = .ok (.lstore_n 2, 1) := by decide +kernel
theorem dX9_headOf_2 : decode cX9_headOf 2 = .ok (.iconst 0, 1) := by decide +kernel
theorem dX9_headOf_3 : decode cX9_headOf 3 = .ok (.istore 4, 2) := by decide +kernel
theorem dX9_headOf_5 : decode cX9_headOf 5 = .ok (.iload 4, 2) := by decide +kernel
theorem dX9_headOf_7 : decode cX9_headOf 7 = .ok (.iload_n 1, 1) := by decide +kernel
theorem dX9_headOf_8 : decode cX9_headOf 8 = .ok (.if_icmp .gt 27, 3) := by decide +kernel
theorem dX9_headOf_11 : decode cX9_headOf 11 = .ok (.lload_n 2, 1) := by decide +kernel
theorem dX9_headOf_12 : decode cX9_headOf 12 = .ok (.ldc2_w 55, 3) := by decide +kernel
theorem dX9_headOf_15 : decode cX9_headOf 15 = .ok (.lmul, 1) := by decide +kernel
theorem dX9_headOf_16 : decode cX9_headOf 16 = .ok (.aload_n 0, 1) := by decide +kernel
theorem dX9_headOf_17 : decode cX9_headOf 17 = .ok (.iload 4, 2) := by decide +kernel
theorem dX9_headOf_19 : decode cX9_headOf 19 = .ok (.invokevirtual 170, 3) := by decide +kernel
theorem dX9_headOf_22 : decode cX9_headOf 22 = .ok (.i2l, 1) := by decide +kernel
theorem dX9_headOf_23 : decode cX9_headOf 23 = .ok (.ladd, 1) := by decide +kernel
theorem dX9_headOf_24 : decode cX9_headOf 24 = .ok (.ldc2_w 173, 3) := by decide +kernel
theorem dX9_headOf_27 : decode cX9_headOf 27 = .ok (.lrem, 1) := by decide +kernel
theorem dX9_headOf_28 : decode cX9_headOf 28 = .ok (.lstore_n 2, 1) := by decide +kernel
theorem dX9_headOf_29 : decode cX9_headOf 29 = .ok (.iinc 4 1, 3) := by decide +kernel
theorem dX9_headOf_32 : decode cX9_headOf 32 = .ok (.goto (-27), 3) := by decide +kernel
theorem dX9_headOf_35 : decode cX9_headOf 35 = .ok (.lload_n 2, 1) := by decide +kernel
theorem dX9_headOf_36 : decode cX9_headOf 36 = .ok (.l2i, 1) := by decide +kernel
theorem dX9_headOf_37 : decode cX9_headOf 37 = .ok (.ireturn, 1) := by decide +kernel
set_option maxRecDepth 20000 in
theorem ggX9_ofRow_X9_isRow : GoodIn wsX9_ofRow wsX9_isRow := goodIn_r _ [9, 10, 11, 12, 8, 13, 88, 89, 90, 91, 92, 93, 94, 95, 96, 97, 98, 99, 100, 101, 102, 103, 104, 105] (by decide +kernel) (by decide +kernel)
set_option maxRecDepth 20000 in
theorem gX9_ofRow_X9_isRow : GoodIn wsX9_ofRow (wsV RX9 158 RX9 yX9_isRow wsX9_isRow) := goodIn_app (goodIn_of _ (by decide +kernel)) ggX9_ofRow_X9_isRow
set_option maxRecDepth 20000 in
theorem ggX9_ofRow_X9_stateOf : GoodIn wsX9_ofRow wsX9_stateOf := goodIn_r _ [17, 10, 1, 18, 19, 20, 8, 21, 4, 22, 2, 3, 23, 24, 25, 26, 27, 28, 29, 30, 31, 32, 33, 34, 11, 12, 13, 35, 36, 37, 38, 39, 40, 41, 42, 43, 44, 45, 46, 47, 48, 49, 50, 51, 52, 53, 54, 55, 56, 57, 58, 59, 60, 61, 62, 63, 64, 65, 66, 67, 68, 69, 70, 71, 72, 73, 74, 75, 88, 89, 90, 91, 92, 93, 94, 95, 96, 97, 98, 99, 100, 101, 102, 103, 104, 105] (by decide +kernel) (by decide +kernel)
set_option maxRecDepth 20000 in
theorem gX9_ofRow_X9_stateOf : GoodIn wsX9_ofRow (wsV RX9 175 RX9 yX9_stateOf wsX9_stateOf) := goodIn_app (goodIn_of _ (by decide +kernel)) ggX9_ofRow_X9_stateOf
set_option maxRecDepth 20000 in
theorem ggX9_ofRow_X9_wordOf : GoodIn wsX9_ofRow wsX9_wordOf := goodIn_r _ [79, 80, 81, 1, 82, 2, 3, 4, 88, 89, 90, 91, 92, 93, 94, 95, 96, 97, 98, 99, 100, 101, 102, 103, 104, 105] (by decide +kernel) (by decide +kernel)
set_option maxRecDepth 20000 in
theorem gX9_ofRow_X9_wordOf : GoodIn wsX9_ofRow (wsV RX9 170 RX9 yX9_wordOf wsX9_wordOf) := goodIn_app (goodIn_of _ (by decide +kernel)) ggX9_ofRow_X9_wordOf
set_option maxRecDepth 20000 in
theorem ggX9_ofRow_X9_headOf : GoodIn wsX9_ofRow wsX9_headOf := goodIn_r _ [86, 59, 87, 76, 77, 78, 8, 79, 80, 81, 1, 82, 2, 3, 4, 88, 89, 90, 91, 92, 93, 94, 95, 96, 97, 98, 99, 100, 101, 102, 103, 104, 105] (by decide +kernel) (by decide +kernel)
set_option maxRecDepth 20000 in
theorem gX9_ofRow_X9_headOf : GoodIn wsX9_ofRow (wsV RX9 178 RX9 yX9_headOf wsX9_headOf) := goodIn_app (goodIn_of _ (by decide +kernel)) ggX9_ofRow_X9_headOf
theorem dX9_ofRow_0 : decode cX9_ofRow 0 = .ok (.aload_n 0, 1) := by decide +kernel
theorem dX9_ofRow_1 : decode cX9_ofRow 1 = .ok (.iload_n 1, 1) := by decide +kernel
theorem dX9_ofRow_2 : decode cX9_ofRow 2 = .ok (.invokevirtual 158, 3) := by decide +kernel
theorem dX9_ofRow_5 : decode cX9_ofRow 5 = .ok (.ifCond .ne 5, 3) := by decide +kernel
theorem dX9_ofRow_8 : decode cX9_ofRow 8 = .ok (.iconst (-1), 1) := by decide +kernel
theorem dX9_ofRow_9 : decode cX9_ofRow 9 = .ok (.ireturn, 1) := by decide +kernel
theorem dX9_ofRow_10 : decode cX9_ofRow 10 = .ok (.iload_n 2, 1) := by decide +kernel
theorem dX9_ofRow_11 : decode cX9_ofRow 11 = .ok (.tableswitch 87 0 6 #[41, 48, 55, 62, 69, 75, 81], 41) := by decide +kernel
theorem dX9_ofRow_52 : decode cX9_ofRow 52 = .ok (.aload_n 0, 1) := by decide +kernel
theorem dX9_ofRow_53 : decode cX9_ofRow 53 = .ok (.getfield 29, 3) := by decide +kernel
theorem dX9_ofRow_56 : decode cX9_ofRow 56 = .ok (.iload_n 1, 1) := by decide +kernel
theorem dX9_ofRow_57 : decode cX9_ofRow 57 = .ok (.iaload, 1) := by decide +kernel
theorem dX9_ofRow_58 : decode cX9_ofRow 58 = .ok (.ireturn, 1) := by decide +kernel
theorem dX9_ofRow_59 : decode cX9_ofRow 59 = .ok (.aload_n 0, 1) := by decide +kernel
theorem dX9_ofRow_60 : decode cX9_ofRow 60 = .ok (.getfield 32, 3) := by decide +kernel
theorem dX9_ofRow_63 : decode cX9_ofRow 63 = .ok (.iload_n 1, 1) := by decide +kernel
theorem dX9_ofRow_64 : decode cX9_ofRow 64 = .ok (.iaload, 1) := by decide +kernel
theorem dX9_ofRow_65 : decode cX9_ofRow 65 = .ok (.ireturn, 1) := by decide +kernel
theorem dX9_ofRow_66 : decode cX9_ofRow 66 = .ok (.aload_n 0, 1) := by decide +kernel
theorem dX9_ofRow_67 : decode cX9_ofRow 67 = .ok (.getfield 35, 3) := by decide +kernel
theorem dX9_ofRow_70 : decode cX9_ofRow 70 = .ok (.iload_n 1, 1) := by decide +kernel
theorem dX9_ofRow_71 : decode cX9_ofRow 71 = .ok (.iaload, 1) := by decide +kernel
theorem dX9_ofRow_72 : decode cX9_ofRow 72 = .ok (.ireturn, 1) := by decide +kernel
theorem dX9_ofRow_73 : decode cX9_ofRow 73 = .ok (.aload_n 0, 1) := by decide +kernel
theorem dX9_ofRow_74 : decode cX9_ofRow 74 = .ok (.getfield 38, 3) := by decide +kernel
theorem dX9_ofRow_77 : decode cX9_ofRow 77 = .ok (.iload_n 1, 1) := by decide +kernel
theorem dX9_ofRow_78 : decode cX9_ofRow 78 = .ok (.iaload, 1) := by decide +kernel
theorem dX9_ofRow_79 : decode cX9_ofRow 79 = .ok (.ireturn, 1) := by decide +kernel
theorem dX9_ofRow_80 : decode cX9_ofRow 80 = .ok (.aload_n 0, 1) := by decide +kernel
theorem dX9_ofRow_81 : decode cX9_ofRow 81 = .ok (.iload_n 1, 1) := by decide +kernel
theorem dX9_ofRow_82 : decode cX9_ofRow 82 = .ok (.invokevirtual 175, 3) := by decide +kernel
theorem dX9_ofRow_85 : decode cX9_ofRow 85 = .ok (.ireturn, 1) := by decide +kernel
theorem dX9_ofRow_86 : decode cX9_ofRow 86 = .ok (.aload_n 0, 1) := by decide +kernel
theorem dX9_ofRow_87 : decode cX9_ofRow 87 = .ok (.iload_n 1, 1) := by decide +kernel
theorem dX9_ofRow_88 : decode cX9_ofRow 88 = .ok (.invokevirtual 170, 3) := by decide +kernel
theorem dX9_ofRow_91 : decode cX9_ofRow 91 = .ok (.ireturn, 1) := by decide +kernel
theorem dX9_ofRow_92 : decode cX9_ofRow 92 = .ok (.aload_n 0, 1) := by decide +kernel
theorem dX9_ofRow_93 : decode cX9_ofRow 93 = .ok (.iload_n 1, 1) := by decide +kernel
theorem dX9_ofRow_94 : decode cX9_ofRow 94 = .ok (.invokevirtual 178, 3) := by decide +kernel
theorem dX9_ofRow_97 : decode cX9_ofRow 97 = .ok (.ireturn, 1) := by decide +kernel
theorem dX9_ofRow_98 : decode cX9_ofRow 98 = .ok (.bipush (-2), 2) := by decide +kernel
theorem dX9_ofRow_100 : decode cX9_ofRow 100 = .ok (.ireturn, 1) := by decide +kernel
set_option maxRecDepth 20000 in
theorem ggX9_find_X9_in : GoodIn wsX9_find wsX9_in := goodIn_r _ [5] (by decide +kernel) (by decide +kernel)
set_option maxRecDepth 20000 in
theorem gX9_find_X9_in : GoodIn wsX9_find (va_wsS RX9 51 yX9_in wsX9_in) := goodIn_app (goodIn_of _ (by decide +kernel)) ggX9_find_X9_in
set_option maxRecDepth 20000 in
theorem ggX9_find_X9_wordOf : GoodIn wsX9_find wsX9_wordOf := goodIn_r _ [9, 10, 11, 12, 13, 14, 15, 16, 17, 18, 19, 20, 21, 22, 23, 24, 25, 26, 27, 28, 29, 30, 31, 32, 33, 34] (by decide +kernel) (by decide +kernel)
set_option maxRecDepth 20000 in
theorem gX9_find_X9_wordOf : GoodIn wsX9_find (wsV RX9 170 RX9 yX9_wordOf wsX9_wordOf) := goodIn_app (goodIn_of _ (by decide +kernel)) ggX9_find_X9_wordOf
theorem dX9_find_0 : decode cX9_find 0 = .ok (.iload_n 2, 1) := by decide +kernel
theorem dX9_find_1 : decode cX9_find 1 = .ok (.iconst 0, 1) := by decide +kernel
theorem dX9_find_2 : decode cX9_find 2 = .ok (.bipush 30, 2) := by decide +kernel
theorem dX9_find_4 : decode cX9_find 4 = .ok (.invokestatic 51, 3) := by decide +kernel
theorem dX9_find_7 : decode cX9_find 7 = .ok (.ifCond .ne 6, 3) := by decide +kernel
theorem dX9_find_10 : decode cX9_find 10 = .ok (.bipush (-2), 2) := by decide +kernel
theorem dX9_find_12 : decode cX9_find 12 = .ok (.ireturn, 1) := by decide +kernel
theorem dX9_find_13 : decode cX9_find 13 = .ok (.iload_n 2, 1) := by decide +kernel
theorem dX9_find_14 : decode cX9_find 14 = .ok (.istore_n 3, 1) := by decide +kernel
theorem dX9_find_15 : decode cX9_find 15 = .ok (.iload_n 3, 1) := by decide +kernel
theorem dX9_find_16 : decode cX9_find 16 = .ok (.aload_n 0, 1) := by decide +kernel
theorem dX9_find_17 : decode cX9_find 17 = .ok (.getfield 72, 3) := by decide +kernel
theorem dX9_find_20 : decode cX9_find 20 = .ok (.if_icmp .ge 20, 3) := by decide +kernel
theorem dX9_find_23 : decode cX9_find 23 = .ok (.aload_n 0, 1) := by decide +kernel
theorem dX9_find_24 : decode cX9_find 24 = .ok (.iload_n 3, 1) := by decide +kernel
theorem dX9_find_25 : decode cX9_find 25 = .ok (.invokevirtual 170, 3) := by decide +kernel
theorem dX9_find_28 : decode cX9_find 28 = .ok (.iload_n 1, 1) := by decide +kernel
theorem dX9_find_29 : decode cX9_find 29 = .ok (.if_icmp .ne 5, 3) := by decide +kernel
theorem dX9_find_32 : decode cX9_find 32 = .ok (.iload_n 3, 1) := by decide +kernel
theorem dX9_find_33 : decode cX9_find 33 = .ok (.ireturn, 1) := by decide +kernel
theorem dX9_find_34 : decode cX9_find 34 = .ok (.iinc 3 1, 3) := by decide +kernel
theorem dX9_find_37 : decode cX9_find 37 = .ok (.goto (-22), 3) := by decide +kernel
theorem dX9_find_40 : decode cX9_find 40 = .ok (.bipush (-6), 2) := by decide +kernel
theorem dX9_find_42 : decode cX9_find 42 = .ok (.ireturn, 1) := by decide +kernel
set_option maxRecDepth 20000 in
theorem ggX9_tally_X9_in : GoodIn wsX9_tally wsX9_in := goodIn_r _ [7] (by decide +kernel) (by decide +kernel)
set_option maxRecDepth 20000 in
theorem gX9_tally_X9_in : GoodIn wsX9_tally (va_wsS RX9 51 yX9_in wsX9_in) := goodIn_app (goodIn_of _ (by decide +kernel)) ggX9_tally_X9_in
set_option maxRecDepth 20000 in
theorem ggX9_tally_X9_stateOf : GoodIn wsX9_tally wsX9_stateOf := goodIn_r _ [11, 1, 12, 13, 14, 15, 6, 16, 17, 18, 2, 3, 19, 20, 21, 22, 23, 24, 25, 26, 27, 28, 29, 30, 4, 5, 7, 31, 32, 33, 34, 35, 36, 37, 38, 39, 40, 41, 42, 43, 44, 45, 46, 47, 48, 49, 50, 51, 52, 53, 54, 55, 56, 57, 58, 59, 60, 61, 62, 63, 64, 65, 66, 67, 68, 69, 70, 71, 72, 73, 74, 75, 76, 77, 78, 79, 80, 81, 82, 83, 84, 85, 86, 87, 88, 89] (by decide +kernel) (by decide +kernel)
set_option maxRecDepth 20000 in
theorem gX9_tally_X9_stateOf : GoodIn wsX9_tally (wsV RX9 175 RX9 yX9_stateOf wsX9_stateOf) := goodIn_app (goodIn_of _ (by decide +kernel)) ggX9_tally_X9_stateOf
set_option maxRecDepth 20000 in
theorem ggX9_tally_X9_times : GoodIn wsX9_tally wsX9_times := goodIn_r _ [54, 55] (by decide +kernel) (by decide +kernel)
set_option maxRecDepth 20000 in
theorem gX9_tally_X9_times : GoodIn wsX9_tally (va_wsS RX9 65 yX9_times wsX9_times) := goodIn_app (goodIn_of _ (by decide +kernel)) ggX9_tally_X9_times
theorem dX9_tally_0 : decode cX9_tally 0 = .ok (.iload_n 1, 1) := by decide +kernel
theorem dX9_tally_1 : decode cX9_tally 1 = .ok (.iconst 0, 1) := by decide +kernel
theorem dX9_tally_2 : decode cX9_tally 2 = .ok (.iconst 2, 1) := by decide +kernel
theorem dX9_tally_3 : decode cX9_tally 3 = .ok (.invokestatic 51, 3) := by decide +kernel
theorem dX9_tally_6 : decode cX9_tally 6 = .ok (.ifCond .ne 6, 3) := by decide +kernel
theorem dX9_tally_9 : decode cX9_tally 9 = .ok (.bipush (-2), 2) := by decide +kernel
theorem dX9_tally_11 : decode cX9_tally 11 = .ok (.ireturn, 1) := by decide +kernel
theorem dX9_tally_12 : decode cX9_tally 12 = .ok (.iconst 1, 1) := by decide +kernel
theorem dX9_tally_13 : decode cX9_tally 13 = .ok (.istore_n 2, 1) := by decide +kernel
theorem dX9_tally_14 : decode cX9_tally 14 = .ok (.iconst 1, 1) := by decide +kernel
theorem dX9_tally_15 : decode cX9_tally 15 = .ok (.istore_n 3, 1) := by decide +kernel
theorem dX9_tally_16 : decode cX9_tally 16 = .ok (.iconst 0, 1) := by decide +kernel
theorem dX9_tally_17 : decode cX9_tally 17 = .ok (.istore 4, 2) := by decide +kernel
theorem dX9_tally_19 : decode cX9_tally 19 = .ok (.iconst 0, 1) := by decide +kernel
theorem dX9_tally_20 : decode cX9_tally 20 = .ok (.istore 5, 2) := by decide +kernel
theorem dX9_tally_22 : decode cX9_tally 22 = .ok (.iload 5, 2) := by decide +kernel
theorem dX9_tally_24 : decode cX9_tally 24 = .ok (.aload_n 0, 1) := by decide +kernel
theorem dX9_tally_25 : decode cX9_tally 25 = .ok (.getfield 72, 3) := by decide +kernel
theorem dX9_tally_28 : decode cX9_tally 28 = .ok (.if_icmp .ge 45, 3) := by decide +kernel
theorem dX9_tally_31 : decode cX9_tally 31 = .ok (.aload_n 0, 1) := by decide +kernel
theorem dX9_tally_32 : decode cX9_tally 32 = .ok (.iload 5, 2) := by decide +kernel
theorem dX9_tally_34 : decode cX9_tally 34 = .ok (.invokevirtual 175, 3) := by decide +kernel
theorem dX9_tally_37 : decode cX9_tally 37 = .ok (.ifCond .ne 30, 3) := by decide +kernel
theorem dX9_tally_40 : decode cX9_tally 40 = .ok (.iload_n 2, 1) := by decide +kernel
theorem dX9_tally_41 : decode cX9_tally 41 = .ok (.aload_n 0, 1) := by decide +kernel
theorem dX9_tally_42 : decode cX9_tally 42 = .ok (.getfield 32, 3) := by decide +kernel
theorem dX9_tally_45 : decode cX9_tally 45 = .ok (.iload 5, 2) := by decide +kernel
theorem dX9_tally_47 : decode cX9_tally 47 = .ok (.iaload, 1) := by decide +kernel
theorem dX9_tally_48 : decode cX9_tally 48 = .ok (.invokestatic 65, 3) := by decide +kernel
theorem dX9_tally_51 : decode cX9_tally 51 = .ok (.istore_n 2, 1) := by decide +kernel
theorem dX9_tally_52 : decode cX9_tally 52 = .ok (.iload_n 3, 1) := by decide +kernel
theorem dX9_tally_53 : decode cX9_tally 53 = .ok (.aload_n 0, 1) := by decide +kernel
theorem dX9_tally_54 : decode cX9_tally 54 = .ok (.getfield 35, 3) := by decide +kernel
theorem dX9_tally_57 : decode cX9_tally 57 = .ok (.iload 5, 2) := by decide +kernel
theorem dX9_tally_59 : decode cX9_tally 59 = .ok (.iaload, 1) := by decide +kernel
theorem dX9_tally_60 : decode cX9_tally 60 = .ok (.invokestatic 65, 3) := by decide +kernel
theorem dX9_tally_63 : decode cX9_tally 63 = .ok (.istore_n 3, 1) := by decide +kernel
theorem dX9_tally_64 : decode cX9_tally 64 = .ok (.iinc 4 1, 3) := by decide +kernel
theorem dX9_tally_67 : decode cX9_tally 67 = .ok (.iinc 5 1, 3) := by decide +kernel
theorem dX9_tally_70 : decode cX9_tally 70 = .ok (.goto (-48), 3) := by decide +kernel
theorem dX9_tally_73 : decode cX9_tally 73 = .ok (.iload_n 1, 1) := by decide +kernel
theorem dX9_tally_74 : decode cX9_tally 74 = .ok (.ifCond .ne 7, 3) := by decide +kernel
theorem dX9_tally_77 : decode cX9_tally 77 = .ok (.iload_n 2, 1) := by decide +kernel
theorem dX9_tally_78 : decode cX9_tally 78 = .ok (.goto 14, 3) := by decide +kernel
theorem dX9_tally_81 : decode cX9_tally 81 = .ok (.iload_n 1, 1) := by decide +kernel
theorem dX9_tally_82 : decode cX9_tally 82 = .ok (.iconst 1, 1) := by decide +kernel
theorem dX9_tally_83 : decode cX9_tally 83 = .ok (.if_icmp .ne 7, 3) := by decide +kernel
theorem dX9_tally_86 : decode cX9_tally 86 = .ok (.iload_n 3, 1) := by decide +kernel
theorem dX9_tally_87 : decode cX9_tally 87 = .ok (.goto 5, 3) := by decide +kernel
theorem dX9_tally_90 : decode cX9_tally 90 = .ok (.iload 4, 2) := by decide +kernel
theorem dX9_tally_92 : decode cX9_tally 92 = .ok (.ireturn, 1) := by decide +kernel
set_option maxRecDepth 20000 in
theorem ggX9_copy_X9_in : GoodIn wsX9_copy wsX9_in := goodIn_r _ [6] (by decide +kernel) (by decide +kernel)
set_option maxRecDepth 20000 in
theorem gX9_copy_X9_in : GoodIn wsX9_copy (va_wsS RX9 51 yX9_in wsX9_in) := goodIn_app (goodIn_of _ (by decide +kernel)) ggX9_copy_X9_in
theorem dX9_copy_0 : decode cX9_copy 0 = .ok (.iload_n 1, 1) := by decide +kernel
theorem dX9_copy_1 : decode cX9_copy 1 = .ok (.iconst 0, 1) := by decide +kernel
theorem dX9_copy_2 : decode cX9_copy 2 = .ok (.sipush 9972, 3) := by decide +kernel
theorem dX9_copy_5 : decode cX9_copy 5 = .ok (.invokestatic 51, 3) := by decide +kernel
theorem dX9_copy_8 : decode cX9_copy 8 = .ok (.ifCond .ne 6, 3) := by decide +kernel
theorem dX9_copy_11 : decode cX9_copy 11 = .ok (.bipush (-2), 2) := by decide +kernel
theorem dX9_copy_13 : decode cX9_copy 13 = .ok (.ireturn, 1) := by decide +kernel
theorem dX9_copy_14 : decode cX9_copy 14 = .ok (.aload_n 0, 1) := by decide +kernel
theorem dX9_copy_15 : decode cX9_copy 15 = .ok (.getfield 181, 3) := by decide +kernel
theorem dX9_copy_18 : decode cX9_copy 18 = .ok (.bipush 30, 2) := by decide +kernel
theorem dX9_copy_20 : decode cX9_copy 20 = .ok (.if_icmp .ne 6, 3) := by decide +kernel
theorem dX9_copy_23 : decode cX9_copy 23 = .ok (.bipush (-4), 2) := by decide +kernel
theorem dX9_copy_25 : decode cX9_copy 25 = .ok (.ireturn, 1) := by decide +kernel
theorem dX9_copy_26 : decode cX9_copy 26 = .ok (.aload_n 0, 1) := by decide +kernel
theorem dX9_copy_27 : decode cX9_copy 27 = .ok (.getfield 48, 3) := by decide +kernel
theorem dX9_copy_30 : decode cX9_copy 30 = .ok (.aload_n 0, 1) := by decide +kernel
theorem dX9_copy_31 : decode cX9_copy 31 = .ok (.getfield 181, 3) := by decide +kernel
theorem dX9_copy_34 : decode cX9_copy 34 = .ok (.iload_n 1, 1) := by decide +kernel
theorem dX9_copy_35 : decode cX9_copy 35 = .ok (.iastore, 1) := by decide +kernel
theorem dX9_copy_36 : decode cX9_copy 36 = .ok (.aload_n 0, 1) := by decide +kernel
theorem dX9_copy_37 : decode cX9_copy 37 = .ok (.dup, 1) := by decide +kernel
theorem dX9_copy_38 : decode cX9_copy 38 = .ok (.getfield 181, 3) := by decide +kernel
theorem dX9_copy_41 : decode cX9_copy 41 = .ok (.iconst 1, 1) := by decide +kernel
theorem dX9_copy_42 : decode cX9_copy 42 = .ok (.iadd, 1) := by decide +kernel
theorem dX9_copy_43 : decode cX9_copy 43 = .ok (.putfield 181, 3) := by decide +kernel
theorem dX9_copy_46 : decode cX9_copy 46 = .ok (.aload_n 0, 1) := by decide +kernel
theorem dX9_copy_47 : decode cX9_copy 47 = .ok (.getfield 181, 3) := by decide +kernel
theorem dX9_copy_50 : decode cX9_copy 50 = .ok (.ireturn, 1) := by decide +kernel
set_option maxRecDepth 20000 in
theorem ggX9_parted_X9_wordOf : GoodIn wsX9_parted wsX9_wordOf := goodIn_r _ [8, 9, 10, 11, 12, 13, 14, 15, 16, 17, 18, 19, 20, 21, 22, 23, 24, 25, 26, 27, 28, 29, 30, 31, 32, 33] (by decide +kernel) (by decide +kernel)
set_option maxRecDepth 20000 in
theorem gX9_parted_X9_wordOf : GoodIn wsX9_parted (wsV RX9 170 RX9 yX9_wordOf wsX9_wordOf) := goodIn_app (goodIn_of _ (by decide +kernel)) ggX9_parted_X9_wordOf
theorem dX9_parted_0 : decode cX9_parted 0 = .ok (.iconst 0, 1) := by decide +kernel
theorem dX9_parted_1 : decode cX9_parted 1 = .ok (.istore_n 1, 1) := by decide +kernel
theorem dX9_parted_2 : decode cX9_parted 2 = .ok (.iload_n 1, 1) := by decide +kernel
theorem dX9_parted_3 : decode cX9_parted 3 = .ok (.aload_n 0, 1) := by decide +kernel
theorem dX9_parted_4 : decode cX9_parted 4 = .ok (.getfield 72, 3) := by decide +kernel
theorem dX9_parted_7 : decode cX9_parted 7 = .ok (.if_icmp .ge 33, 3) := by decide +kernel
theorem dX9_parted_10 : decode cX9_parted 10 = .ok (.iload_n 1, 1) := by decide +kernel
theorem dX9_parted_11 : decode cX9_parted 11 = .ok (.aload_n 0, 1) := by decide +kernel
theorem dX9_parted_12 : decode cX9_parted 12 = .ok (.getfield 181, 3) := by decide +kernel
theorem dX9_parted_15 : decode cX9_parted 15 = .ok (.if_icmp .ge 25, 3) := by decide +kernel
theorem dX9_parted_18 : decode cX9_parted 18 = .ok (.aload_n 0, 1) := by decide +kernel
theorem dX9_parted_19 : decode cX9_parted 19 = .ok (.getfield 48, 3) := by decide +kernel
theorem dX9_parted_22 : decode cX9_parted 22 = .ok (.iload_n 1, 1) := by decide +kernel
theorem dX9_parted_23 : decode cX9_parted 23 = .ok (.iaload, 1) := by decide +kernel
theorem dX9_parted_24 : decode cX9_parted 24 = .ok (.aload_n 0, 1) := by decide +kernel
theorem dX9_parted_25 : decode cX9_parted 25 = .ok (.iload_n 1, 1) := by decide +kernel
theorem dX9_parted_26 : decode cX9_parted 26 = .ok (.invokevirtual 170, 3) := by decide +kernel
theorem dX9_parted_29 : decode cX9_parted 29 = .ok (.if_icmp .eq 5, 3) := by decide +kernel
theorem dX9_parted_32 : decode cX9_parted 32 = .ok (.iload_n 1, 1) := by decide +kernel
theorem dX9_parted_33 : decode cX9_parted 33 = .ok (.ireturn, 1) := by decide +kernel
theorem dX9_parted_34 : decode cX9_parted 34 = .ok (.iinc 1 1, 3) := by decide +kernel
theorem dX9_parted_37 : decode cX9_parted 37 = .ok (.goto (-35), 3) := by decide +kernel
theorem dX9_parted_40 : decode cX9_parted 40 = .ok (.bipush (-6), 2) := by decide +kernel
theorem dX9_parted_42 : decode cX9_parted 42 = .ok (.ireturn, 1) := by decide +kernel
theorem dX9_choose_0 : decode cX9_choose 0 = .ok (.iload_n 1, 1) := by decide +kernel
theorem dX9_choose_1 : decode cX9_choose 1 = .ok (.ifCond .lt 8, 3) := by decide +kernel
theorem dX9_choose_4 : decode cX9_choose 4 = .ok (.iload_n 1, 1) := by decide +kernel
theorem dX9_choose_5 : decode cX9_choose 5 = .ok (.iload_n 0, 1) := by decide +kernel
theorem dX9_choose_6 : decode cX9_choose 6 = .ok (.if_icmp .le 7, 3) := by decide +kernel
theorem dX9_choose_9 : decode cX9_choose 9 = .ok (.lconst 0, 1) := by decide +kernel
theorem dX9_choose_10 : decode cX9_choose 10 = .ok (.goto 4, 3) := by decide +kernel
theorem dX9_choose_13 : decode cX9_choose 13 = .ok (.lconst 1, 1) := by decide +kernel
theorem dX9_choose_14 : decode cX9_choose 14 = .ok (.lstore_n 2, 1) := by decide +kernel
theorem dX9_choose_15 : decode cX9_choose 15 = .ok (.iconst 0, 1) := by decide +kernel
theorem dX9_choose_16 : decode cX9_choose 16 = .ok (.istore 4, 2) := by decide +kernel
theorem dX9_choose_18 : decode cX9_choose 18 = .ok (.iload 4, 2) := by decide +kernel
theorem dX9_choose_20 : decode cX9_choose 20 = .ok (.iload_n 1, 1) := by decide +kernel
theorem dX9_choose_21 : decode cX9_choose 21 = .ok (.if_icmp .ge 29, 3) := by decide +kernel
theorem dX9_choose_24 : decode cX9_choose 24 = .ok (.lload_n 2, 1) := by decide +kernel
theorem dX9_choose_25 : decode cX9_choose 25 = .ok (.lconst 0, 1) := by decide +kernel
theorem dX9_choose_26 : decode cX9_choose 26 = .ok (.lcmp, 1) := by decide +kernel
theorem dX9_choose_27 : decode cX9_choose 27 = .ok (.ifCond .le 23, 3) := by decide +kernel
theorem dX9_choose_30 : decode cX9_choose 30 = .ok (.lload_n 2, 1) := by decide +kernel
theorem dX9_choose_31 : decode cX9_choose 31 = .ok (.iload_n 0, 1) := by decide +kernel
theorem dX9_choose_32 : decode cX9_choose 32 = .ok (.iload 4, 2) := by decide +kernel
theorem dX9_choose_34 : decode cX9_choose 34 = .ok (.isub, 1) := by decide +kernel
theorem dX9_choose_35 : decode cX9_choose 35 = .ok (.i2l, 1) := by decide +kernel
theorem dX9_choose_36 : decode cX9_choose 36 = .ok (.lmul, 1) := by decide +kernel
theorem dX9_choose_37 : decode cX9_choose 37 = .ok (.iload 4, 2) := by decide +kernel
theorem dX9_choose_39 : decode cX9_choose 39 = .ok (.iconst 1, 1) := by decide +kernel
theorem dX9_choose_40 : decode cX9_choose 40 = .ok (.iadd, 1) := by decide +kernel
theorem dX9_choose_41 : decode cX9_choose 41 = .ok (.i2l, 1) := by decide +kernel
theorem dX9_choose_42 : decode cX9_choose 42 = .ok (.ldiv, 1) := by decide +kernel
theorem dX9_choose_43 : decode cX9_choose 43 = .ok (.lstore_n 2, 1) := by decide +kernel
theorem dX9_choose_44 : decode cX9_choose 44 = .ok (.iinc 4 1, 3) := by decide +kernel
theorem dX9_choose_47 : decode cX9_choose 47 = .ok (.goto (-29), 3) := by decide +kernel
theorem dX9_choose_50 : decode cX9_choose 50 = .ok (.lload_n 2, 1) := by decide +kernel
theorem dX9_choose_51 : decode cX9_choose 51 = .ok (.lreturn, 1) := by decide +kernel
theorem dX9_term_0 : decode cX9_term 0 = .ok (.lload_n 0, 1) := by decide +kernel
theorem dX9_term_1 : decode cX9_term 1 = .ok (.lstore 5, 2) := by decide +kernel
theorem dX9_term_3 : decode cX9_term 3 = .ok (.lload_n 2, 1) := by decide +kernel
theorem dX9_term_4 : decode cX9_term 4 = .ok (.lstore 7, 2) := by decide +kernel
theorem dX9_term_6 : decode cX9_term 6 = .ok (.lload 7, 2) := by decide +kernel
theorem dX9_term_8 : decode cX9_term 8 = .ok (.lconst 0, 1) := by decide +kernel
theorem dX9_term_9 : decode cX9_term 9 = .ok (.lcmp, 1) := by decide +kernel
theorem dX9_term_10 : decode cX9_term 10 = .ok (.ifCond .eq 21, 3) := by decide +kernel
theorem dX9_term_13 : decode cX9_term 13 = .ok (.lload 5, 2) := by decide +kernel
theorem dX9_term_15 : decode cX9_term 15 = .ok (.lload 7, 2) := by decide +kernel
theorem dX9_term_17 : decode cX9_term 17 = .ok (.lrem, 1) := by decide +kernel
theorem dX9_term_18 : decode cX9_term 18 = .ok (.lstore 9, 2) := by decide +kernel
theorem dX9_term_20 : decode cX9_term 20 = .ok (.lload 7, 2) := by decide +kernel
theorem dX9_term_22 : decode cX9_term 22 = .ok (.lstore 5, 2) := by decide +kernel
theorem dX9_term_24 : decode cX9_term 24 = .ok (.lload 9, 2) := by decide +kernel
theorem dX9_term_26 : decode cX9_term 26 = .ok (.lstore 7, 2) := by decide +kernel
theorem dX9_term_28 : decode cX9_term 28 = .ok (.goto (-22), 3) := by decide +kernel
theorem dX9_term_31 : decode cX9_term 31 = .ok (.iload 4, 2) := by decide +kernel
theorem dX9_term_33 : decode cX9_term 33 = .ok (.ifCond .ne 10, 3) := by decide +kernel
theorem dX9_term_36 : decode cX9_term 36 = .ok (.lload_n 0, 1) := by decide +kernel
theorem dX9_term_37 : decode cX9_term 37 = .ok (.lload 5, 2) := by decide +kernel
theorem dX9_term_39 : decode cX9_term 39 = .ok (.ldiv, 1) := by decide +kernel
theorem dX9_term_40 : decode cX9_term 40 = .ok (.goto 7, 3) := by decide +kernel
theorem dX9_term_43 : decode cX9_term 43 = .ok (.lload_n 2, 1) := by decide +kernel
theorem dX9_term_44 : decode cX9_term 44 = .ok (.lload 5, 2) := by decide +kernel
theorem dX9_term_46 : decode cX9_term 46 = .ok (.ldiv, 1) := by decide +kernel
theorem dX9_term_47 : decode cX9_term 47 = .ok (.lreturn, 1) := by decide +kernel
set_option maxRecDepth 20000 in
theorem ggX9_isBooth_X9_in : GoodIn wsX9_isBooth wsX9_in := goodIn_r _ [4] (by decide +kernel) (by decide +kernel)
set_option maxRecDepth 20000 in
theorem gX9_isBooth_X9_in : GoodIn wsX9_isBooth (va_wsS RX9 51 yX9_in wsX9_in) := goodIn_app (goodIn_of _ (by decide +kernel)) ggX9_isBooth_X9_in
theorem dX9_isBooth_0 : decode cX9_isBooth 0 = .ok (.iload_n 0, 1) := by decide +kernel
theorem dX9_isBooth_1 : decode cX9_isBooth 1 = .ok (.iconst 1, 1) := by decide +kernel
theorem dX9_isBooth_2 : decode cX9_isBooth 2 = .ok (.bipush 40, 2) := by decide +kernel
theorem dX9_isBooth_4 : decode cX9_isBooth 4 = .ok (.invokestatic 51, 3) := by decide +kernel
theorem dX9_isBooth_7 : decode cX9_isBooth 7 = .ok (.ifCond .eq 16, 3) := by decide +kernel
theorem dX9_isBooth_10 : decode cX9_isBooth 10 = .ok (.iload_n 1, 1) := by decide +kernel
theorem dX9_isBooth_11 : decode cX9_isBooth 11 = .ok (.iconst 0, 1) := by decide +kernel
theorem dX9_isBooth_12 : decode cX9_isBooth 12 = .ok (.iload_n 0, 1) := by decide +kernel
theorem dX9_isBooth_13 : decode cX9_isBooth 13 = .ok (.invokestatic 51, 3) := by decide +kernel
theorem dX9_isBooth_16 : decode cX9_isBooth 16 = .ok (.ifCond .eq 7, 3) := by decide +kernel
theorem dX9_isBooth_19 : decode cX9_isBooth 19 = .ok (.iconst 1, 1) := by decide +kernel
theorem dX9_isBooth_20 : decode cX9_isBooth 20 = .ok (.goto 4, 3) := by decide +kernel
theorem dX9_isBooth_23 : decode cX9_isBooth 23 = .ok (.iconst 0, 1) := by decide +kernel
theorem dX9_isBooth_24 : decode cX9_isBooth 24 = .ok (.ireturn, 1) := by decide +kernel
set_option maxRecDepth 20000 in
theorem ggX9_lies_X9_isBooth : GoodIn wsX9_lies wsX9_isBooth := goodIn_r _ [5, 6, 7, 4, 8] (by decide +kernel) (by decide +kernel)
set_option maxRecDepth 20000 in
theorem gX9_lies_X9_isBooth : GoodIn wsX9_lies (va_wsS RX9 184 yX9_isBooth wsX9_isBooth) := goodIn_app (goodIn_of _ (by decide +kernel)) ggX9_lies_X9_isBooth
set_option maxRecDepth 20000 in
theorem ggX9_lies_X9_in : GoodIn wsX9_lies wsX9_in := goodIn_r _ [8] (by decide +kernel) (by decide +kernel)
set_option maxRecDepth 20000 in
theorem gX9_lies_X9_in : GoodIn wsX9_lies (va_wsS RX9 51 yX9_in wsX9_in) := goodIn_app (goodIn_of _ (by decide +kernel)) ggX9_lies_X9_in
set_option maxRecDepth 20000 in
theorem ggX9_lies_X9_choose : GoodIn wsX9_lies wsX9_choose := goodIn_r _ [11] (by decide +kernel) (by decide +kernel)
set_option maxRecDepth 20000 in
theorem gX9_lies_X9_choose : GoodIn wsX9_lies (va_wsS RX9 189 yX9_choose wsX9_choose) := goodIn_app (goodIn_of _ (by decide +kernel)) ggX9_lies_X9_choose
set_option maxRecDepth 20000 in
theorem ggX9_lies_X9_term : GoodIn wsX9_lies wsX9_term := goodIn_r _ [14] (by decide +kernel) (by decide +kernel)
set_option maxRecDepth 20000 in
theorem gX9_lies_X9_term : GoodIn wsX9_lies (va_wsS RX9 193 yX9_term wsX9_term) := goodIn_app (goodIn_of _ (by decide +kernel)) ggX9_lies_X9_term
theorem dX9_lies_0 : decode cX9_lies 0 = .ok (.iload_n 1, 1) := by decide +kernel
theorem dX9_lies_1 : decode cX9_lies 1 = .ok (.iload_n 2, 1) := by decide +kernel
theorem dX9_lies_2 : decode cX9_lies 2 = .ok (.invokestatic 184, 3) := by decide +kernel
theorem dX9_lies_5 : decode cX9_lies 5 = .ok (.ifCond .eq 22, 3) := by decide +kernel
theorem dX9_lies_8 : decode cX9_lies 8 = .ok (.iload_n 3, 1) := by decide +kernel
theorem dX9_lies_9 : decode cX9_lies 9 = .ok (.iconst 0, 1) := by decide +kernel
theorem dX9_lies_10 : decode cX9_lies 10 = .ok (.iload_n 1, 1) := by decide +kernel
theorem dX9_lies_11 : decode cX9_lies 11 = .ok (.invokestatic 51, 3) := by decide +kernel
theorem dX9_lies_14 : decode cX9_lies 14 = .ok (.ifCond .eq 13, 3) := by decide +kernel
theorem dX9_lies_17 : decode cX9_lies 17 = .ok (.iload 4, 2) := by decide +kernel
theorem dX9_lies_19 : decode cX9_lies 19 = .ok (.iconst 0, 1) := by decide +kernel
theorem dX9_lies_20 : decode cX9_lies 20 = .ok (.iconst 1, 1) := by decide +kernel
theorem dX9_lies_21 : decode cX9_lies 21 = .ok (.invokestatic 51, 3) := by decide +kernel
theorem dX9_lies_24 : decode cX9_lies 24 = .ok (.ifCond .ne 7, 3) := by decide +kernel
theorem dX9_lies_27 : decode cX9_lies 27 = .ok (.ldc2_w 187, 3) := by decide +kernel
theorem dX9_lies_30 : decode cX9_lies 30 = .ok (.lreturn, 1) := by decide +kernel
theorem dX9_lies_31 : decode cX9_lies 31 = .ok (.iload_n 1, 1) := by decide +kernel
theorem dX9_lies_32 : decode cX9_lies 32 = .ok (.iload_n 2, 1) := by decide +kernel
theorem dX9_lies_33 : decode cX9_lies 33 = .ok (.isub, 1) := by decide +kernel
theorem dX9_lies_34 : decode cX9_lies 34 = .ok (.iload_n 3, 1) := by decide +kernel
theorem dX9_lies_35 : decode cX9_lies 35 = .ok (.invokestatic 189, 3) := by decide +kernel
theorem dX9_lies_38 : decode cX9_lies 38 = .ok (.iload_n 1, 1) := by decide +kernel
theorem dX9_lies_39 : decode cX9_lies 39 = .ok (.iload_n 3, 1) := by decide +kernel
theorem dX9_lies_40 : decode cX9_lies 40 = .ok (.invokestatic 189, 3) := by decide +kernel
theorem dX9_lies_43 : decode cX9_lies 43 = .ok (.iload 4, 2) := by decide +kernel
theorem dX9_lies_45 : decode cX9_lies 45 = .ok (.invokestatic 193, 3) := by decide +kernel
theorem dX9_lies_48 : decode cX9_lies 48 = .ok (.lreturn, 1) := by decide +kernel
set_option maxRecDepth 20000 in
theorem ggX9_ask_X9_isBooth : GoodIn wsX9_ask wsX9_isBooth := goodIn_r _ [5, 6, 7, 4, 8] (by decide +kernel) (by decide +kernel)
set_option maxRecDepth 20000 in
theorem gX9_ask_X9_isBooth : GoodIn wsX9_ask (va_wsS RX9 184 yX9_isBooth wsX9_isBooth) := goodIn_app (goodIn_of _ (by decide +kernel)) ggX9_ask_X9_isBooth
set_option maxRecDepth 20000 in
theorem ggX9_ask_X9_in : GoodIn wsX9_ask wsX9_in := goodIn_r _ [8] (by decide +kernel) (by decide +kernel)
set_option maxRecDepth 20000 in
theorem gX9_ask_X9_in : GoodIn wsX9_ask (va_wsS RX9 51 yX9_in wsX9_in) := goodIn_app (goodIn_of _ (by decide +kernel)) ggX9_ask_X9_in
set_option maxRecDepth 20000 in
theorem ggX9_ask_X9_choose : GoodIn wsX9_ask wsX9_choose := goodIn_r _ [11] (by decide +kernel) (by decide +kernel)
set_option maxRecDepth 20000 in
theorem gX9_ask_X9_choose : GoodIn wsX9_ask (va_wsS RX9 189 yX9_choose wsX9_choose) := goodIn_app (goodIn_of _ (by decide +kernel)) ggX9_ask_X9_choose
theorem dX9_ask_0 : decode cX9_ask 0 = .ok (.iload_n 1, 1) := by decide +kernel
theorem dX9_ask_1 : decode cX9_ask 1 = .ok (.iload_n 2, 1) := by decide +kernel
theorem dX9_ask_2 : decode cX9_ask 2 = .ok (.invokestatic 184, 3) := by decide +kernel
theorem dX9_ask_5 : decode cX9_ask 5 = .ok (.ifCond .eq 13, 3) := by decide +kernel
theorem dX9_ask_8 : decode cX9_ask 8 = .ok (.iload_n 3, 1) := by decide +kernel
theorem dX9_ask_9 : decode cX9_ask 9 = .ok (.iconst 0, 1) := by decide +kernel
theorem dX9_ask_10 : decode cX9_ask 10 = .ok (.bipush 100, 2) := by decide +kernel
theorem dX9_ask_12 : decode cX9_ask 12 = .ok (.invokestatic 51, 3) := by decide +kernel
theorem dX9_ask_15 : decode cX9_ask 15 = .ok (.ifCond .ne 6, 3) := by decide +kernel
theorem dX9_ask_18 : decode cX9_ask 18 = .ok (.bipush (-2), 2) := by decide +kernel
theorem dX9_ask_20 : decode cX9_ask 20 = .ok (.ireturn, 1) := by decide +kernel
theorem dX9_ask_21 : decode cX9_ask 21 = .ok (.iconst 0, 1) := by decide +kernel
theorem dX9_ask_22 : decode cX9_ask 22 = .ok (.istore 4, 2) := by decide +kernel
theorem dX9_ask_24 : decode cX9_ask 24 = .ok (.iload 4, 2) := by decide +kernel
theorem dX9_ask_26 : decode cX9_ask 26 = .ok (.iload_n 1, 1) := by decide +kernel
theorem dX9_ask_27 : decode cX9_ask 27 = .ok (.if_icmp .gt 37, 3) := by decide +kernel
theorem dX9_ask_30 : decode cX9_ask 30 = .ok (.iload_n 1, 1) := by decide +kernel
theorem dX9_ask_31 : decode cX9_ask 31 = .ok (.iload_n 2, 1) := by decide +kernel
theorem dX9_ask_32 : decode cX9_ask 32 = .ok (.isub, 1) := by decide +kernel
theorem dX9_ask_33 : decode cX9_ask 33 = .ok (.iload 4, 2) := by decide +kernel
theorem dX9_ask_35 : decode cX9_ask 35 = .ok (.invokestatic 189, 3) := by decide +kernel
theorem dX9_ask_38 : decode cX9_ask 38 = .ok (.ldc2_w 197, 3) := by decide +kernel
theorem dX9_ask_41 : decode cX9_ask 41 = .ok (.lmul, 1) := by decide +kernel
theorem dX9_ask_42 : decode cX9_ask 42 = .ok (.iload_n 3, 1) := by decide +kernel
theorem dX9_ask_43 : decode cX9_ask 43 = .ok (.i2l, 1) := by decide +kernel
theorem dX9_ask_44 : decode cX9_ask 44 = .ok (.iload_n 1, 1) := by decide +kernel
theorem dX9_ask_45 : decode cX9_ask 45 = .ok (.iload 4, 2) := by decide +kernel
theorem dX9_ask_47 : decode cX9_ask 47 = .ok (.invokestatic 189, 3) := by decide +kernel
theorem dX9_ask_50 : decode cX9_ask 50 = .ok (.lmul, 1) := by decide +kernel
theorem dX9_ask_51 : decode cX9_ask 51 = .ok (.lcmp, 1) := by decide +kernel
theorem dX9_ask_52 : decode cX9_ask 52 = .ok (.ifCond .gt 6, 3) := by decide +kernel
theorem dX9_ask_55 : decode cX9_ask 55 = .ok (.iload 4, 2) := by decide +kernel
theorem dX9_ask_57 : decode cX9_ask 57 = .ok (.ireturn, 1) := by decide +kernel
theorem dX9_ask_58 : decode cX9_ask 58 = .ok (.iinc 4 1, 3) := by decide +kernel
theorem dX9_ask_61 : decode cX9_ask 61 = .ok (.goto (-37), 3) := by decide +kernel
theorem dX9_ask_64 : decode cX9_ask 64 = .ok (.bipush (-6), 2) := by decide +kernel
theorem dX9_ask_66 : decode cX9_ask 66 = .ok (.ireturn, 1) := by decide +kernel
set_option maxRecDepth 20000 in
theorem ggX9_isAll_X9_in : GoodIn wsX9_isAll wsX9_in := goodIn_r _ [4] (by decide +kernel) (by decide +kernel)
set_option maxRecDepth 20000 in
theorem gX9_isAll_X9_in : GoodIn wsX9_isAll (va_wsS RX9 51 yX9_in wsX9_in) := goodIn_app (goodIn_of _ (by decide +kernel)) ggX9_isAll_X9_in
theorem dX9_isAll_0 : decode cX9_isAll 0 = .ok (.iload_n 0, 1) := by decide +kernel
theorem dX9_isAll_1 : decode cX9_isAll 1 = .ok (.iconst 2, 1) := by decide +kernel
theorem dX9_isAll_2 : decode cX9_isAll 2 = .ok (.bipush 40, 2) := by decide +kernel
theorem dX9_isAll_4 : decode cX9_isAll 4 = .ok (.invokestatic 51, 3) := by decide +kernel
theorem dX9_isAll_7 : decode cX9_isAll 7 = .ok (.ireturn, 1) := by decide +kernel
set_option maxRecDepth 20000 in
theorem ggX9_slips_X9_isAll : GoodIn wsX9_slips wsX9_isAll := goodIn_r _ [5, 6, 7, 4, 8] (by decide +kernel) (by decide +kernel)
set_option maxRecDepth 20000 in
theorem gX9_slips_X9_isAll : GoodIn wsX9_slips (va_wsS RX9 199 yX9_isAll wsX9_isAll) := goodIn_app (goodIn_of _ (by decide +kernel)) ggX9_slips_X9_isAll
set_option maxRecDepth 20000 in
theorem ggX9_slips_X9_in : GoodIn wsX9_slips wsX9_in := goodIn_r _ [8] (by decide +kernel) (by decide +kernel)
set_option maxRecDepth 20000 in
theorem gX9_slips_X9_in : GoodIn wsX9_slips (va_wsS RX9 51 yX9_in wsX9_in) := goodIn_app (goodIn_of _ (by decide +kernel)) ggX9_slips_X9_in
set_option maxRecDepth 20000 in
theorem ggX9_slips_X9_choose : GoodIn wsX9_slips wsX9_choose := goodIn_r _ [11] (by decide +kernel) (by decide +kernel)
set_option maxRecDepth 20000 in
theorem gX9_slips_X9_choose : GoodIn wsX9_slips (va_wsS RX9 189 yX9_choose wsX9_choose) := goodIn_app (goodIn_of _ (by decide +kernel)) ggX9_slips_X9_choose
set_option maxRecDepth 20000 in
theorem ggX9_slips_X9_term : GoodIn wsX9_slips wsX9_term := goodIn_r _ [14] (by decide +kernel) (by decide +kernel)
set_option maxRecDepth 20000 in
theorem gX9_slips_X9_term : GoodIn wsX9_slips (va_wsS RX9 193 yX9_term wsX9_term) := goodIn_app (goodIn_of _ (by decide +kernel)) ggX9_slips_X9_term
theorem dX9_slips_0 : decode cX9_slips 0 = .ok (.iload_n 1, 1) := by decide +kernel
theorem dX9_slips_1 : decode cX9_slips 1 = .ok (.invokestatic 199, 3) := by decide +kernel
theorem dX9_slips_4 : decode cX9_slips 4 = .ok (.ifCond .eq 31, 3) := by decide +kernel
theorem dX9_slips_7 : decode cX9_slips 7 = .ok (.iload_n 2, 1) := by decide +kernel
theorem dX9_slips_8 : decode cX9_slips 8 = .ok (.iconst 0, 1) := by decide +kernel
theorem dX9_slips_9 : decode cX9_slips 9 = .ok (.iload_n 1, 1) := by decide +kernel
theorem dX9_slips_10 : decode cX9_slips 10 = .ok (.invokestatic 51, 3) := by decide +kernel
theorem dX9_slips_13 : decode cX9_slips 13 = .ok (.ifCond .eq 22, 3) := by decide +kernel
theorem dX9_slips_16 : decode cX9_slips 16 = .ok (.iload_n 3, 1) := by decide +kernel
theorem dX9_slips_17 : decode cX9_slips 17 = .ok (.iconst 0, 1) := by decide +kernel
theorem dX9_slips_18 : decode cX9_slips 18 = .ok (.iload_n 2, 1) := by decide +kernel
theorem dX9_slips_19 : decode cX9_slips 19 = .ok (.invokestatic 51, 3) := by decide +kernel
theorem dX9_slips_22 : decode cX9_slips 22 = .ok (.ifCond .eq 13, 3) := by decide +kernel
theorem dX9_slips_25 : decode cX9_slips 25 = .ok (.iload 4, 2) := by decide +kernel
theorem dX9_slips_27 : decode cX9_slips 27 = .ok (.iconst 0, 1) := by decide +kernel
theorem dX9_slips_28 : decode cX9_slips 28 = .ok (.iconst 1, 1) := by decide +kernel
theorem dX9_slips_29 : decode cX9_slips 29 = .ok (.invokestatic 51, 3) := by decide +kernel
theorem dX9_slips_32 : decode cX9_slips 32 = .ok (.ifCond .ne 7, 3) := by decide +kernel
theorem dX9_slips_35 : decode cX9_slips 35 = .ok (.ldc2_w 187, 3) := by decide +kernel
theorem dX9_slips_38 : decode cX9_slips 38 = .ok (.lreturn, 1) := by decide +kernel
theorem dX9_slips_39 : decode cX9_slips 39 = .ok (.iload_n 1, 1) := by decide +kernel
theorem dX9_slips_40 : decode cX9_slips 40 = .ok (.iconst 2, 1) := by decide +kernel
theorem dX9_slips_41 : decode cX9_slips 41 = .ok (.idiv, 1) := by decide +kernel
theorem dX9_slips_42 : decode cX9_slips 42 = .ok (.istore 5, 2) := by decide +kernel
theorem dX9_slips_44 : decode cX9_slips 44 = .ok (.lconst 0, 1) := by decide +kernel
theorem dX9_slips_45 : decode cX9_slips 45 = .ok (.lstore 6, 2) := by decide +kernel
theorem dX9_slips_47 : decode cX9_slips 47 = .ok (.iload_n 3, 1) := by decide +kernel
theorem dX9_slips_48 : decode cX9_slips 48 = .ok (.istore 8, 2) := by decide +kernel
theorem dX9_slips_50 : decode cX9_slips 50 = .ok (.iload 8, 2) := by decide +kernel
theorem dX9_slips_52 : decode cX9_slips 52 = .ok (.iload_n 2, 1) := by decide +kernel
theorem dX9_slips_53 : decode cX9_slips 53 = .ok (.if_icmp .gt 33, 3) := by decide +kernel
theorem dX9_slips_56 : decode cX9_slips 56 = .ok (.lload 6, 2) := by decide +kernel
theorem dX9_slips_58 : decode cX9_slips 58 = .ok (.iload_n 1, 1) := by decide +kernel
theorem dX9_slips_59 : decode cX9_slips 59 = .ok (.iload 5, 2) := by decide +kernel
theorem dX9_slips_61 : decode cX9_slips 61 = .ok (.isub, 1) := by decide +kernel
theorem dX9_slips_62 : decode cX9_slips 62 = .ok (.iload 8, 2) := by decide +kernel
theorem dX9_slips_64 : decode cX9_slips 64 = .ok (.invokestatic 189, 3) := by decide +kernel
theorem dX9_slips_67 : decode cX9_slips 67 = .ok (.iload 5, 2) := by decide +kernel
theorem dX9_slips_69 : decode cX9_slips 69 = .ok (.iload_n 2, 1) := by decide +kernel
theorem dX9_slips_70 : decode cX9_slips 70 = .ok (.iload 8, 2) := by decide +kernel
theorem dX9_slips_72 : decode cX9_slips 72 = .ok (.isub, 1) := by decide +kernel
theorem dX9_slips_73 : decode cX9_slips 73 = .ok (.invokestatic 189, 3) := by decide +kernel
theorem dX9_slips_76 : decode cX9_slips 76 = .ok (.lmul, 1) := by decide +kernel
theorem dX9_slips_77 : decode cX9_slips 77 = .ok (.ladd, 1) := by decide +kernel
theorem dX9_slips_78 : decode cX9_slips 78 = .ok (.lstore 6, 2) := by decide +kernel
theorem dX9_slips_80 : decode cX9_slips 80 = .ok (.iinc 8 1, 3) := by decide +kernel
theorem dX9_slips_83 : decode cX9_slips 83 = .ok (.goto (-33), 3) := by decide +kernel
theorem dX9_slips_86 : decode cX9_slips 86 = .ok (.lload 6, 2) := by decide +kernel
theorem dX9_slips_88 : decode cX9_slips 88 = .ok (.iload_n 1, 1) := by decide +kernel
theorem dX9_slips_89 : decode cX9_slips 89 = .ok (.iload_n 2, 1) := by decide +kernel
theorem dX9_slips_90 : decode cX9_slips 90 = .ok (.invokestatic 189, 3) := by decide +kernel
theorem dX9_slips_93 : decode cX9_slips 93 = .ok (.iload 4, 2) := by decide +kernel
theorem dX9_slips_95 : decode cX9_slips 95 = .ok (.invokestatic 193, 3) := by decide +kernel
theorem dX9_slips_98 : decode cX9_slips 98 = .ok (.lreturn, 1) := by decide +kernel
set_option maxRecDepth 20000 in
theorem ggX9_drawn_X9_in : GoodIn wsX9_drawn wsX9_in := goodIn_r _ [7] (by decide +kernel) (by decide +kernel)
set_option maxRecDepth 20000 in
theorem gX9_drawn_X9_in : GoodIn wsX9_drawn (va_wsS RX9 51 yX9_in wsX9_in) := goodIn_app (goodIn_of _ (by decide +kernel)) ggX9_drawn_X9_in
set_option maxRecDepth 20000 in
theorem ggX9_drawn_X9_isAll : GoodIn wsX9_drawn wsX9_isAll := goodIn_r _ [10, 4, 5, 6, 7] (by decide +kernel) (by decide +kernel)
set_option maxRecDepth 20000 in
theorem gX9_drawn_X9_isAll : GoodIn wsX9_drawn (va_wsS RX9 199 yX9_isAll wsX9_isAll) := goodIn_app (goodIn_of _ (by decide +kernel)) ggX9_drawn_X9_isAll
theorem dX9_drawn_0 : decode cX9_drawn 0 = .ok (.iload_n 1, 1) := by decide +kernel
theorem dX9_drawn_1 : decode cX9_drawn 1 = .ok (.iconst 1, 1) := by decide +kernel
theorem dX9_drawn_2 : decode cX9_drawn 2 = .ok (.ldc 147, 2) := by decide +kernel
theorem dX9_drawn_4 : decode cX9_drawn 4 = .ok (.invokestatic 51, 3) := by decide +kernel
theorem dX9_drawn_7 : decode cX9_drawn 7 = .ok (.ifCond .eq 20, 3) := by decide +kernel
theorem dX9_drawn_10 : decode cX9_drawn 10 = .ok (.iload_n 2, 1) := by decide +kernel
theorem dX9_drawn_11 : decode cX9_drawn 11 = .ok (.invokestatic 199, 3) := by decide +kernel
theorem dX9_drawn_14 : decode cX9_drawn 14 = .ok (.ifCond .eq 13, 3) := by decide +kernel
theorem dX9_drawn_17 : decode cX9_drawn 17 = .ok (.iload_n 3, 1) := by decide +kernel
theorem dX9_drawn_18 : decode cX9_drawn 18 = .ok (.iconst 1, 1) := by decide +kernel
theorem dX9_drawn_19 : decode cX9_drawn 19 = .ok (.bipush 40, 2) := by decide +kernel
theorem dX9_drawn_21 : decode cX9_drawn 21 = .ok (.invokestatic 51, 3) := by decide +kernel
theorem dX9_drawn_24 : decode cX9_drawn 24 = .ok (.ifCond .ne 6, 3) := by decide +kernel
theorem dX9_drawn_27 : decode cX9_drawn 27 = .ok (.bipush (-2), 2) := by decide +kernel
theorem dX9_drawn_29 : decode cX9_drawn 29 = .ok (.ireturn, 1) := by decide +kernel
theorem dX9_drawn_30 : decode cX9_drawn 30 = .ok (.iload_n 1, 1) := by decide +kernel
theorem dX9_drawn_31 : decode cX9_drawn 31 = .ok (.i2l, 1) := by decide +kernel
theorem dX9_drawn_32 : decode cX9_drawn 32 = .ok (.lstore 4, 2) := by decide +kernel
theorem dX9_drawn_34 : decode cX9_drawn 34 = .ok (.iconst 0, 1) := by decide +kernel
theorem dX9_drawn_35 : decode cX9_drawn 35 = .ok (.istore 6, 2) := by decide +kernel
theorem dX9_drawn_37 : decode cX9_drawn 37 = .ok (.iload 6, 2) := by decide +kernel
theorem dX9_drawn_39 : decode cX9_drawn 39 = .ok (.iload_n 3, 1) := by decide +kernel
theorem dX9_drawn_40 : decode cX9_drawn 40 = .ok (.if_icmp .ge 21, 3) := by decide +kernel
theorem dX9_drawn_43 : decode cX9_drawn 43 = .ok (.lload 4, 2) := by decide +kernel
theorem dX9_drawn_45 : decode cX9_drawn 45 = .ok (.ldc2_w 202, 3) := by decide +kernel
theorem dX9_drawn_48 : decode cX9_drawn 48 = .ok (.lmul, 1) := by decide +kernel
theorem dX9_drawn_49 : decode cX9_drawn 49 = .ok (.ldc2_w 204, 3) := by decide +kernel
theorem dX9_drawn_52 : decode cX9_drawn 52 = .ok (.lrem, 1) := by decide +kernel
theorem dX9_drawn_53 : decode cX9_drawn 53 = .ok (.lstore 4, 2) := by decide +kernel
theorem dX9_drawn_55 : decode cX9_drawn 55 = .ok (.iinc 6 1, 3) := by decide +kernel
theorem dX9_drawn_58 : decode cX9_drawn 58 = .ok (.goto (-21), 3) := by decide +kernel
theorem dX9_drawn_61 : decode cX9_drawn 61 = .ok (.lload 4, 2) := by decide +kernel
theorem dX9_drawn_63 : decode cX9_drawn 63 = .ok (.iload_n 2, 1) := by decide +kernel
theorem dX9_drawn_64 : decode cX9_drawn 64 = .ok (.i2l, 1) := by decide +kernel
theorem dX9_drawn_65 : decode cX9_drawn 65 = .ok (.lrem, 1) := by decide +kernel
theorem dX9_drawn_66 : decode cX9_drawn 66 = .ok (.l2i, 1) := by decide +kernel
theorem dX9_drawn_67 : decode cX9_drawn 67 = .ok (.ireturn, 1) := by decide +kernel
set_option maxRecDepth 20000 in
theorem ggX9_sure_X9_isAll : GoodIn wsX9_sure wsX9_isAll := goodIn_r _ [5, 6, 7, 4, 8] (by decide +kernel) (by decide +kernel)
set_option maxRecDepth 20000 in
theorem gX9_sure_X9_isAll : GoodIn wsX9_sure (va_wsS RX9 199 yX9_isAll wsX9_isAll) := goodIn_app (goodIn_of _ (by decide +kernel)) ggX9_sure_X9_isAll
set_option maxRecDepth 20000 in
theorem ggX9_sure_X9_in : GoodIn wsX9_sure wsX9_in := goodIn_r _ [8] (by decide +kernel) (by decide +kernel)
set_option maxRecDepth 20000 in
theorem gX9_sure_X9_in : GoodIn wsX9_sure (va_wsS RX9 51 yX9_in wsX9_in) := goodIn_app (goodIn_of _ (by decide +kernel)) ggX9_sure_X9_in
set_option maxRecDepth 20000 in
theorem ggX9_sure_X9_choose : GoodIn wsX9_sure wsX9_choose := goodIn_r _ [11] (by decide +kernel) (by decide +kernel)
set_option maxRecDepth 20000 in
theorem gX9_sure_X9_choose : GoodIn wsX9_sure (va_wsS RX9 189 yX9_choose wsX9_choose) := goodIn_app (goodIn_of _ (by decide +kernel)) ggX9_sure_X9_choose
theorem dX9_sure_0 : decode cX9_sure 0 = .ok (.iload_n 1, 1) := by decide +kernel
theorem dX9_sure_1 : decode cX9_sure 1 = .ok (.invokestatic 199, 3) := by decide +kernel
theorem dX9_sure_4 : decode cX9_sure 4 = .ok (.ifCond .eq 13, 3) := by decide +kernel
theorem dX9_sure_7 : decode cX9_sure 7 = .ok (.iload_n 2, 1) := by decide +kernel
theorem dX9_sure_8 : decode cX9_sure 8 = .ok (.iconst 0, 1) := by decide +kernel
theorem dX9_sure_9 : decode cX9_sure 9 = .ok (.bipush 100, 2) := by decide +kernel
theorem dX9_sure_11 : decode cX9_sure 11 = .ok (.invokestatic 51, 3) := by decide +kernel
theorem dX9_sure_14 : decode cX9_sure 14 = .ok (.ifCond .ne 6, 3) := by decide +kernel
theorem dX9_sure_17 : decode cX9_sure 17 = .ok (.bipush (-2), 2) := by decide +kernel
theorem dX9_sure_19 : decode cX9_sure 19 = .ok (.ireturn, 1) := by decide +kernel
theorem dX9_sure_20 : decode cX9_sure 20 = .ok (.iconst 1, 1) := by decide +kernel
theorem dX9_sure_21 : decode cX9_sure 21 = .ok (.istore_n 3, 1) := by decide +kernel
theorem dX9_sure_22 : decode cX9_sure 22 = .ok (.iload_n 3, 1) := by decide +kernel
theorem dX9_sure_23 : decode cX9_sure 23 = .ok (.iload_n 1, 1) := by decide +kernel
theorem dX9_sure_24 : decode cX9_sure 24 = .ok (.if_icmp .gt 36, 3) := by decide +kernel
theorem dX9_sure_27 : decode cX9_sure 27 = .ok (.iload_n 1, 1) := by decide +kernel
theorem dX9_sure_28 : decode cX9_sure 28 = .ok (.iload_n 1, 1) := by decide +kernel
theorem dX9_sure_29 : decode cX9_sure 29 = .ok (.iconst 2, 1) := by decide +kernel
theorem dX9_sure_30 : decode cX9_sure 30 = .ok (.idiv, 1) := by decide +kernel
theorem dX9_sure_31 : decode cX9_sure 31 = .ok (.isub, 1) := by decide +kernel
theorem dX9_sure_32 : decode cX9_sure 32 = .ok (.iload_n 3, 1) := by decide +kernel
theorem dX9_sure_33 : decode cX9_sure 33 = .ok (.invokestatic 189, 3) := by decide +kernel
theorem dX9_sure_36 : decode cX9_sure 36 = .ok (.ldc2_w 197, 3) := by decide +kernel
theorem dX9_sure_39 : decode cX9_sure 39 = .ok (.lmul, 1) := by decide +kernel
theorem dX9_sure_40 : decode cX9_sure 40 = .ok (.iload_n 2, 1) := by decide +kernel
theorem dX9_sure_41 : decode cX9_sure 41 = .ok (.i2l, 1) := by decide +kernel
theorem dX9_sure_42 : decode cX9_sure 42 = .ok (.iload_n 1, 1) := by decide +kernel
theorem dX9_sure_43 : decode cX9_sure 43 = .ok (.iload_n 3, 1) := by decide +kernel
theorem dX9_sure_44 : decode cX9_sure 44 = .ok (.invokestatic 189, 3) := by decide +kernel
theorem dX9_sure_47 : decode cX9_sure 47 = .ok (.lmul, 1) := by decide +kernel
theorem dX9_sure_48 : decode cX9_sure 48 = .ok (.lcmp, 1) := by decide +kernel
theorem dX9_sure_49 : decode cX9_sure 49 = .ok (.ifCond .gt 5, 3) := by decide +kernel
theorem dX9_sure_52 : decode cX9_sure 52 = .ok (.iload_n 3, 1) := by decide +kernel
theorem dX9_sure_53 : decode cX9_sure 53 = .ok (.ireturn, 1) := by decide +kernel
theorem dX9_sure_54 : decode cX9_sure 54 = .ok (.iinc 3 1, 3) := by decide +kernel
theorem dX9_sure_57 : decode cX9_sure 57 = .ok (.goto (-35), 3) := by decide +kernel
theorem dX9_sure_60 : decode cX9_sure 60 = .ok (.bipush (-6), 2) := by decide +kernel
theorem dX9_sure_62 : decode cX9_sure 62 = .ok (.ireturn, 1) := by decide +kernel
set_option maxRecDepth 20000 in
theorem ggX9_areSums_X9_in : GoodIn wsX9_areSums wsX9_in := goodIn_r _ [4] (by decide +kernel) (by decide +kernel)
set_option maxRecDepth 20000 in
theorem gX9_areSums_X9_in : GoodIn wsX9_areSums (va_wsS RX9 51 yX9_in wsX9_in) := goodIn_app (goodIn_of _ (by decide +kernel)) ggX9_areSums_X9_in
theorem dX9_areSums_0 : decode cX9_areSums 0 = .ok (.iload_n 0, 1) := by decide +kernel
theorem dX9_areSums_1 : decode cX9_areSums 1 = .ok (.iconst 0, 1) := by decide +kernel
theorem dX9_areSums_2 : decode cX9_areSums 2 = .ok (.bipush 8, 2) := by decide +kernel
theorem dX9_areSums_4 : decode cX9_areSums 4 = .ok (.invokestatic 51, 3) := by decide +kernel
theorem dX9_areSums_7 : decode cX9_areSums 7 = .ok (.ifCond .eq 41, 3) := by decide +kernel
theorem dX9_areSums_10 : decode cX9_areSums 10 = .ok (.iload_n 1, 1) := by decide +kernel
theorem dX9_areSums_11 : decode cX9_areSums 11 = .ok (.iconst 0, 1) := by decide +kernel
theorem dX9_areSums_12 : decode cX9_areSums 12 = .ok (.bipush 8, 2) := by decide +kernel
theorem dX9_areSums_14 : decode cX9_areSums 14 = .ok (.invokestatic 51, 3) := by decide +kernel
theorem dX9_areSums_17 : decode cX9_areSums 17 = .ok (.ifCond .eq 31, 3) := by decide +kernel
theorem dX9_areSums_20 : decode cX9_areSums 20 = .ok (.iload_n 2, 1) := by decide +kernel
theorem dX9_areSums_21 : decode cX9_areSums 21 = .ok (.iconst 0, 1) := by decide +kernel
theorem dX9_areSums_22 : decode cX9_areSums 22 = .ok (.bipush 8, 2) := by decide +kernel
theorem dX9_areSums_24 : decode cX9_areSums 24 = .ok (.invokestatic 51, 3) := by decide +kernel
theorem dX9_areSums_27 : decode cX9_areSums 27 = .ok (.ifCond .eq 21, 3) := by decide +kernel
theorem dX9_areSums_30 : decode cX9_areSums 30 = .ok (.iload_n 0, 1) := by decide +kernel
theorem dX9_areSums_31 : decode cX9_areSums 31 = .ok (.iload_n 1, 1) := by decide +kernel
theorem dX9_areSums_32 : decode cX9_areSums 32 = .ok (.iadd, 1) := by decide +kernel
theorem dX9_areSums_33 : decode cX9_areSums 33 = .ok (.iload_n 2, 1) := by decide +kernel
theorem dX9_areSums_34 : decode cX9_areSums 34 = .ok (.iadd, 1) := by decide +kernel
theorem dX9_areSums_35 : decode cX9_areSums 35 = .ok (.iconst 1, 1) := by decide +kernel
theorem dX9_areSums_36 : decode cX9_areSums 36 = .ok (.bipush 8, 2) := by decide +kernel
theorem dX9_areSums_38 : decode cX9_areSums 38 = .ok (.invokestatic 51, 3) := by decide +kernel
theorem dX9_areSums_41 : decode cX9_areSums 41 = .ok (.ifCond .eq 7, 3) := by decide +kernel
theorem dX9_areSums_44 : decode cX9_areSums 44 = .ok (.iconst 1, 1) := by decide +kernel
theorem dX9_areSums_45 : decode cX9_areSums 45 = .ok (.goto 4, 3) := by decide +kernel
theorem dX9_areSums_48 : decode cX9_areSums 48 = .ok (.iconst 0, 1) := by decide +kernel
theorem dX9_areSums_49 : decode cX9_areSums 49 = .ok (.istore 6, 2) := by decide +kernel
theorem dX9_areSums_51 : decode cX9_areSums 51 = .ok (.iload 6, 2) := by decide +kernel
theorem dX9_areSums_53 : decode cX9_areSums 53 = .ok (.ifCond .eq 36, 3) := by decide +kernel
theorem dX9_areSums_56 : decode cX9_areSums 56 = .ok (.iload_n 3, 1) := by decide +kernel
theorem dX9_areSums_57 : decode cX9_areSums 57 = .ok (.iconst 0, 1) := by decide +kernel
theorem dX9_areSums_58 : decode cX9_areSums 58 = .ok (.iload_n 0, 1) := by decide +kernel
theorem dX9_areSums_59 : decode cX9_areSums 59 = .ok (.invokestatic 51, 3) := by decide +kernel
theorem dX9_areSums_62 : decode cX9_areSums 62 = .ok (.ifCond .eq 27, 3) := by decide +kernel
theorem dX9_areSums_65 : decode cX9_areSums 65 = .ok (.iload 4, 2) := by decide +kernel
theorem dX9_areSums_67 : decode cX9_areSums 67 = .ok (.iconst 0, 1) := by decide +kernel
theorem dX9_areSums_68 : decode cX9_areSums 68 = .ok (.iload_n 1, 1) := by decide +kernel
theorem dX9_areSums_69 : decode cX9_areSums 69 = .ok (.invokestatic 51, 3) := by decide +kernel
theorem dX9_areSums_72 : decode cX9_areSums 72 = .ok (.ifCond .eq 17, 3) := by decide +kernel
theorem dX9_areSums_75 : decode cX9_areSums 75 = .ok (.iload 5, 2) := by decide +kernel
theorem dX9_areSums_77 : decode cX9_areSums 77 = .ok (.iconst 0, 1) := by decide +kernel
theorem dX9_areSums_78 : decode cX9_areSums 78 = .ok (.iload_n 2, 1) := by decide +kernel
theorem dX9_areSums_79 : decode cX9_areSums 79 = .ok (.invokestatic 51, 3) := by decide +kernel
theorem dX9_areSums_82 : decode cX9_areSums 82 = .ok (.ifCond .eq 7, 3) := by decide +kernel
theorem dX9_areSums_85 : decode cX9_areSums 85 = .ok (.iconst 1, 1) := by decide +kernel
theorem dX9_areSums_86 : decode cX9_areSums 86 = .ok (.goto 4, 3) := by decide +kernel
theorem dX9_areSums_89 : decode cX9_areSums 89 = .ok (.iconst 0, 1) := by decide +kernel
theorem dX9_areSums_90 : decode cX9_areSums 90 = .ok (.ireturn, 1) := by decide +kernel
set_option maxRecDepth 20000 in
theorem ggX9_told_X9_areSums : GoodIn wsX9_told wsX9_areSums := goodIn_r _ [6, 7, 8, 5, 9] (by decide +kernel) (by decide +kernel)
set_option maxRecDepth 20000 in
theorem gX9_told_X9_areSums : GoodIn wsX9_told (va_wsS RX9 206 yX9_areSums wsX9_areSums) := goodIn_app (goodIn_of _ (by decide +kernel)) ggX9_told_X9_areSums
set_option maxRecDepth 20000 in
theorem ggX9_told_X9_in : GoodIn wsX9_told wsX9_in := goodIn_r _ [9] (by decide +kernel) (by decide +kernel)
set_option maxRecDepth 20000 in
theorem gX9_told_X9_in : GoodIn wsX9_told (va_wsS RX9 51 yX9_in wsX9_in) := goodIn_app (goodIn_of _ (by decide +kernel)) ggX9_told_X9_in
set_option maxRecDepth 20000 in
theorem ggX9_told_X9_term : GoodIn wsX9_told wsX9_term := goodIn_r _ [12] (by decide +kernel) (by decide +kernel)
set_option maxRecDepth 20000 in
theorem gX9_told_X9_term : GoodIn wsX9_told (va_wsS RX9 193 yX9_term wsX9_term) := goodIn_app (goodIn_of _ (by decide +kernel)) ggX9_told_X9_term
theorem dX9_told_0 : decode cX9_told 0 = .ok (.iload_n 1, 1) := by decide +kernel
theorem dX9_told_1 : decode cX9_told 1 = .ok (.iload_n 2, 1) := by decide +kernel
theorem dX9_told_2 : decode cX9_told 2 = .ok (.iload_n 3, 1) := by decide +kernel
theorem dX9_told_3 : decode cX9_told 3 = .ok (.iload 4, 2) := by decide +kernel
theorem dX9_told_5 : decode cX9_told 5 = .ok (.iload 5, 2) := by decide +kernel
theorem dX9_told_7 : decode cX9_told 7 = .ok (.iload 6, 2) := by decide +kernel
theorem dX9_told_9 : decode cX9_told 9 = .ok (.invokestatic 206, 3) := by decide +kernel
theorem dX9_told_12 : decode cX9_told 12 = .ok (.ifCond .eq 23, 3) := by decide +kernel
theorem dX9_told_15 : decode cX9_told 15 = .ok (.iload 7, 2) := by decide +kernel
theorem dX9_told_17 : decode cX9_told 17 = .ok (.iconst 0, 1) := by decide +kernel
theorem dX9_told_18 : decode cX9_told 18 = .ok (.iconst 2, 1) := by decide +kernel
theorem dX9_told_19 : decode cX9_told 19 = .ok (.invokestatic 51, 3) := by decide +kernel
theorem dX9_told_22 : decode cX9_told 22 = .ok (.ifCond .eq 13, 3) := by decide +kernel
theorem dX9_told_25 : decode cX9_told 25 = .ok (.iload 8, 2) := by decide +kernel
theorem dX9_told_27 : decode cX9_told 27 = .ok (.iconst 0, 1) := by decide +kernel
theorem dX9_told_28 : decode cX9_told 28 = .ok (.iconst 1, 1) := by decide +kernel
theorem dX9_told_29 : decode cX9_told 29 = .ok (.invokestatic 51, 3) := by decide +kernel
theorem dX9_told_32 : decode cX9_told 32 = .ok (.ifCond .ne 7, 3) := by decide +kernel
theorem dX9_told_35 : decode cX9_told 35 = .ok (.ldc2_w 187, 3) := by decide +kernel
theorem dX9_told_38 : decode cX9_told 38 = .ok (.lreturn, 1) := by decide +kernel
theorem dX9_told_39 : decode cX9_told 39 = .ok (.iload_n 1, 1) := by decide +kernel
theorem dX9_told_40 : decode cX9_told 40 = .ok (.iload_n 2, 1) := by decide +kernel
theorem dX9_told_41 : decode cX9_told 41 = .ok (.iadd, 1) := by decide +kernel
theorem dX9_told_42 : decode cX9_told 42 = .ok (.iload_n 3, 1) := by decide +kernel
theorem dX9_told_43 : decode cX9_told 43 = .ok (.iadd, 1) := by decide +kernel
theorem dX9_told_44 : decode cX9_told 44 = .ok (.iload 4, 2) := by decide +kernel
theorem dX9_told_46 : decode cX9_told 46 = .ok (.isub, 1) := by decide +kernel
theorem dX9_told_47 : decode cX9_told 47 = .ok (.iload 5, 2) := by decide +kernel
theorem dX9_told_49 : decode cX9_told 49 = .ok (.isub, 1) := by decide +kernel
theorem dX9_told_50 : decode cX9_told 50 = .ok (.iload 6, 2) := by decide +kernel
theorem dX9_told_52 : decode cX9_told 52 = .ok (.isub, 1) := by decide +kernel
theorem dX9_told_53 : decode cX9_told 53 = .ok (.istore 9, 2) := by decide +kernel
theorem dX9_told_55 : decode cX9_told 55 = .ok (.iload 9, 2) := by decide +kernel
theorem dX9_told_57 : decode cX9_told 57 = .ok (.ifCond .ne 7, 3) := by decide +kernel
theorem dX9_told_60 : decode cX9_told 60 = .ok (.ldc2_w 209, 3) := by decide +kernel
theorem dX9_told_63 : decode cX9_told 63 = .ok (.lreturn, 1) := by decide +kernel
theorem dX9_told_64 : decode cX9_told 64 = .ok (.iload 7, 2) := by decide +kernel
theorem dX9_told_66 : decode cX9_told 66 = .ok (.ifCond .ne 11, 3) := by decide +kernel
theorem dX9_told_69 : decode cX9_told 69 = .ok (.iload_n 1, 1) := by decide +kernel
theorem dX9_told_70 : decode cX9_told 70 = .ok (.iload 4, 2) := by decide +kernel
theorem dX9_told_72 : decode cX9_told 72 = .ok (.isub, 1) := by decide +kernel
theorem dX9_told_73 : decode cX9_told 73 = .ok (.i2l, 1) := by decide +kernel
theorem dX9_told_74 : decode cX9_told 74 = .ok (.goto 22, 3) := by decide +kernel
theorem dX9_told_77 : decode cX9_told 77 = .ok (.iload 7, 2) := by decide +kernel
theorem dX9_told_79 : decode cX9_told 79 = .ok (.iconst 1, 1) := by decide +kernel
theorem dX9_told_80 : decode cX9_told 80 = .ok (.if_icmp .ne 11, 3) := by decide +kernel
theorem dX9_told_83 : decode cX9_told 83 = .ok (.iload_n 2, 1) := by decide +kernel
theorem dX9_told_84 : decode cX9_told 84 = .ok (.iload 5, 2) := by decide +kernel
theorem dX9_told_86 : decode cX9_told 86 = .ok (.isub, 1) := by decide +kernel
theorem dX9_told_87 : decode cX9_told 87 = .ok (.i2l, 1) := by decide +kernel
theorem dX9_told_88 : decode cX9_told 88 = .ok (.goto 8, 3) := by decide +kernel
theorem dX9_told_91 : decode cX9_told 91 = .ok (.iload_n 3, 1) := by decide +kernel
theorem dX9_told_92 : decode cX9_told 92 = .ok (.iload 6, 2) := by decide +kernel
theorem dX9_told_94 : decode cX9_told 94 = .ok (.isub, 1) := by decide +kernel
theorem dX9_told_95 : decode cX9_told 95 = .ok (.i2l, 1) := by decide +kernel
theorem dX9_told_96 : decode cX9_told 96 = .ok (.iload 9, 2) := by decide +kernel
theorem dX9_told_98 : decode cX9_told 98 = .ok (.i2l, 1) := by decide +kernel
theorem dX9_told_99 : decode cX9_told 99 = .ok (.iload 8, 2) := by decide +kernel
theorem dX9_told_101 : decode cX9_told 101 = .ok (.invokestatic 193, 3) := by decide +kernel
theorem dX9_told_104 : decode cX9_told 104 = .ok (.lreturn, 1) := by decide +kernel
set_option maxRecDepth 20000 in
theorem ggX9_forced_X9_areSums : GoodIn wsX9_forced wsX9_areSums := goodIn_r _ [4, 5, 6, 3, 7] (by decide +kernel) (by decide +kernel)
set_option maxRecDepth 20000 in
theorem gX9_forced_X9_areSums : GoodIn wsX9_forced (va_wsS RX9 206 yX9_areSums wsX9_areSums) := goodIn_app (goodIn_of _ (by decide +kernel)) ggX9_forced_X9_areSums
theorem dX9_forced_0 : decode cX9_forced 0 = .ok (.iload_n 1, 1) := by decide +kernel
theorem dX9_forced_1 : decode cX9_forced 1 = .ok (.iload_n 2, 1) := by decide +kernel
theorem dX9_forced_2 : decode cX9_forced 2 = .ok (.iload_n 3, 1) := by decide +kernel
theorem dX9_forced_3 : decode cX9_forced 3 = .ok (.iload 4, 2) := by decide +kernel
theorem dX9_forced_5 : decode cX9_forced 5 = .ok (.iload 5, 2) := by decide +kernel
theorem dX9_forced_7 : decode cX9_forced 7 = .ok (.iload 6, 2) := by decide +kernel
theorem dX9_forced_9 : decode cX9_forced 9 = .ok (.invokestatic 206, 3) := by decide +kernel
theorem dX9_forced_12 : decode cX9_forced 12 = .ok (.ifCond .ne 6, 3) := by decide +kernel
theorem dX9_forced_15 : decode cX9_forced 15 = .ok (.bipush (-2), 2) := by decide +kernel
theorem dX9_forced_17 : decode cX9_forced 17 = .ok (.ireturn, 1) := by decide +kernel
theorem dX9_forced_18 : decode cX9_forced 18 = .ok (.iload_n 1, 1) := by decide +kernel
theorem dX9_forced_19 : decode cX9_forced 19 = .ok (.iload 4, 2) := by decide +kernel
theorem dX9_forced_21 : decode cX9_forced 21 = .ok (.isub, 1) := by decide +kernel
theorem dX9_forced_22 : decode cX9_forced 22 = .ok (.iload_n 2, 1) := by decide +kernel
theorem dX9_forced_23 : decode cX9_forced 23 = .ok (.iload 5, 2) := by decide +kernel
theorem dX9_forced_25 : decode cX9_forced 25 = .ok (.isub, 1) := by decide +kernel
theorem dX9_forced_26 : decode cX9_forced 26 = .ok (.if_icmp .le 10, 3) := by decide +kernel
theorem dX9_forced_29 : decode cX9_forced 29 = .ok (.iload_n 1, 1) := by decide +kernel
theorem dX9_forced_30 : decode cX9_forced 30 = .ok (.iload 4, 2) := by decide +kernel
theorem dX9_forced_32 : decode cX9_forced 32 = .ok (.isub, 1) := by decide +kernel
theorem dX9_forced_33 : decode cX9_forced 33 = .ok (.goto 7, 3) := by decide +kernel
theorem dX9_forced_36 : decode cX9_forced 36 = .ok (.iload_n 2, 1) := by decide +kernel
theorem dX9_forced_37 : decode cX9_forced 37 = .ok (.iload 5, 2) := by decide +kernel
theorem dX9_forced_39 : decode cX9_forced 39 = .ok (.isub, 1) := by decide +kernel
theorem dX9_forced_40 : decode cX9_forced 40 = .ok (.istore 7, 2) := by decide +kernel
theorem dX9_forced_42 : decode cX9_forced 42 = .ok (.iload_n 3, 1) := by decide +kernel
theorem dX9_forced_43 : decode cX9_forced 43 = .ok (.iload 6, 2) := by decide +kernel
theorem dX9_forced_45 : decode cX9_forced 45 = .ok (.isub, 1) := by decide +kernel
theorem dX9_forced_46 : decode cX9_forced 46 = .ok (.iload 7, 2) := by decide +kernel
theorem dX9_forced_48 : decode cX9_forced 48 = .ok (.if_icmp .le 10, 3) := by decide +kernel
theorem dX9_forced_51 : decode cX9_forced 51 = .ok (.iload_n 3, 1) := by decide +kernel
theorem dX9_forced_52 : decode cX9_forced 52 = .ok (.iload 6, 2) := by decide +kernel
theorem dX9_forced_54 : decode cX9_forced 54 = .ok (.isub, 1) := by decide +kernel
theorem dX9_forced_55 : decode cX9_forced 55 = .ok (.goto 5, 3) := by decide +kernel
theorem dX9_forced_58 : decode cX9_forced 58 = .ok (.iload 7, 2) := by decide +kernel
theorem dX9_forced_60 : decode cX9_forced 60 = .ok (.istore 7, 2) := by decide +kernel
theorem dX9_forced_62 : decode cX9_forced 62 = .ok (.iload_n 1, 1) := by decide +kernel
theorem dX9_forced_63 : decode cX9_forced 63 = .ok (.iload_n 2, 1) := by decide +kernel
theorem dX9_forced_64 : decode cX9_forced 64 = .ok (.iadd, 1) := by decide +kernel
theorem dX9_forced_65 : decode cX9_forced 65 = .ok (.iload_n 3, 1) := by decide +kernel
theorem dX9_forced_66 : decode cX9_forced 66 = .ok (.iadd, 1) := by decide +kernel
theorem dX9_forced_67 : decode cX9_forced 67 = .ok (.iload 4, 2) := by decide +kernel
theorem dX9_forced_69 : decode cX9_forced 69 = .ok (.isub, 1) := by decide +kernel
theorem dX9_forced_70 : decode cX9_forced 70 = .ok (.iload 5, 2) := by decide +kernel
theorem dX9_forced_72 : decode cX9_forced 72 = .ok (.isub, 1) := by decide +kernel
theorem dX9_forced_73 : decode cX9_forced 73 = .ok (.iload 6, 2) := by decide +kernel
theorem dX9_forced_75 : decode cX9_forced 75 = .ok (.isub, 1) := by decide +kernel
theorem dX9_forced_76 : decode cX9_forced 76 = .ok (.iload 7, 2) := by decide +kernel
theorem dX9_forced_78 : decode cX9_forced 78 = .ok (.isub, 1) := by decide +kernel
theorem dX9_forced_79 : decode cX9_forced 79 = .ok (.ireturn, 1) := by decide +kernel
set_option maxRecDepth 20000 in
theorem ggX9_rowsThatAre_X9_stateOf : GoodIn wsX9_rowsThatAre wsX9_stateOf := goodIn_r _ [6, 1, 7, 8, 9, 10, 5, 11, 12, 13, 14, 15, 16, 17, 18, 19, 20, 21, 22, 23, 24, 25, 26, 27, 28, 29, 30, 31, 32, 33, 34, 35, 36, 37, 38, 39, 40, 41, 42, 43, 44, 45, 46, 47, 48, 49, 50, 51, 52, 53, 54, 55, 56, 57, 58, 59, 60, 61, 62, 63, 64, 65, 66, 67, 68, 69, 70, 71, 72, 73, 74, 75, 76, 77, 78, 79, 80, 81, 82, 83, 84, 85, 86, 87, 88, 89] (by decide +kernel) (by decide +kernel)
set_option maxRecDepth 20000 in
theorem gX9_rowsThatAre_X9_stateOf : GoodIn wsX9_rowsThatAre (wsV RX9 175 RX9 yX9_stateOf wsX9_stateOf) := goodIn_app (goodIn_of _ (by decide +kernel)) ggX9_rowsThatAre_X9_stateOf
theorem dX9_rowsThatAre_0 : decode cX9_rowsThatAre 0 = .ok (.iconst 0, 1) := by decide +kernel
theorem dX9_rowsThatAre_1 : decode cX9_rowsThatAre 1 = .ok (.istore_n 2, 1) := by decide +kernel
theorem dX9_rowsThatAre_2 : decode cX9_rowsThatAre 2 = .ok (.iconst 0, 1) := by decide +kernel
theorem dX9_rowsThatAre_3 : decode cX9_rowsThatAre 3 = .ok (.istore_n 3, 1) := by decide +kernel
theorem dX9_rowsThatAre_4 : decode cX9_rowsThatAre 4 = .ok (.iload_n 3, 1) := by decide +kernel
theorem dX9_rowsThatAre_5 : decode cX9_rowsThatAre 5 = .ok (.aload_n 0, 1) := by decide +kernel
theorem dX9_rowsThatAre_6 : decode cX9_rowsThatAre 6 = .ok (.getfield 72, 3) := by decide +kernel
theorem dX9_rowsThatAre_9 : decode cX9_rowsThatAre 9 = .ok (.if_icmp .ge 26, 3) := by decide +kernel
theorem dX9_rowsThatAre_12 : decode cX9_rowsThatAre 12 = .ok (.iload_n 2, 1) := by decide +kernel
theorem dX9_rowsThatAre_13 : decode cX9_rowsThatAre 13 = .ok (.aload_n 0, 1) := by decide +kernel
theorem dX9_rowsThatAre_14 : decode cX9_rowsThatAre 14 = .ok (.iload_n 3, 1) := by decide +kernel
theorem dX9_rowsThatAre_15 : decode cX9_rowsThatAre 15 = .ok (.invokevirtual 175, 3) := by decide +kernel
theorem dX9_rowsThatAre_18 : decode cX9_rowsThatAre 18 = .ok (.iload_n 1, 1) := by decide +kernel
theorem dX9_rowsThatAre_19 : decode cX9_rowsThatAre 19 = .ok (.if_icmp .ne 7, 3) := by decide +kernel
theorem dX9_rowsThatAre_22 : decode cX9_rowsThatAre 22 = .ok (.iconst 1, 1) := by decide +kernel
theorem dX9_rowsThatAre_23 : decode cX9_rowsThatAre 23 = .ok (.goto 4, 3) := by decide +kernel
theorem dX9_rowsThatAre_26 : decode cX9_rowsThatAre 26 = .ok (.iconst 0, 1) := by decide +kernel
theorem dX9_rowsThatAre_27 : decode cX9_rowsThatAre 27 = .ok (.iadd, 1) := by decide +kernel
theorem dX9_rowsThatAre_28 : decode cX9_rowsThatAre 28 = .ok (.istore_n 2, 1) := by decide +kernel
theorem dX9_rowsThatAre_29 : decode cX9_rowsThatAre 29 = .ok (.iinc 3 1, 3) := by decide +kernel
theorem dX9_rowsThatAre_32 : decode cX9_rowsThatAre 32 = .ok (.goto (-28), 3) := by decide +kernel
theorem dX9_rowsThatAre_35 : decode cX9_rowsThatAre 35 = .ok (.iload_n 2, 1) := by decide +kernel
theorem dX9_rowsThatAre_36 : decode cX9_rowsThatAre 36 = .ok (.ireturn, 1) := by decide +kernel
set_option maxRecDepth 20000 in
theorem ggX9_count_X9_in : GoodIn wsX9_count wsX9_in := goodIn_r _ [9] (by decide +kernel) (by decide +kernel)
set_option maxRecDepth 20000 in
theorem gX9_count_X9_in : GoodIn wsX9_count (va_wsS RX9 51 yX9_in wsX9_in) := goodIn_app (goodIn_of _ (by decide +kernel)) ggX9_count_X9_in
set_option maxRecDepth 20000 in
theorem ggX9_count_X9_rowsThatAre : GoodIn wsX9_count wsX9_rowsThatAre := goodIn_r _ [13, 1, 14, 15, 16, 8, 17, 18, 19, 20, 21, 22, 23, 4, 24, 25, 26, 27, 28, 29, 30, 31, 32, 33, 34, 35, 36, 37, 6, 7, 9, 38, 39, 40, 41, 42, 43, 44, 45, 46, 47, 48, 49, 50, 51, 52, 53, 54, 55, 56, 57, 58, 59, 60, 61, 62, 63, 64, 65, 66, 67, 68, 69, 70, 71, 72, 73, 74, 75, 76, 77, 78, 79, 80, 81, 82, 83, 84, 85, 86, 87, 88, 89, 90, 91, 92, 93, 94, 95, 96] (by decide +kernel) (by decide +kernel)
set_option maxRecDepth 20000 in
theorem gX9_count_X9_rowsThatAre : GoodIn wsX9_count (wsV RX9 211 RX9 yX9_rowsThatAre wsX9_rowsThatAre) := goodIn_app (goodIn_of _ (by decide +kernel)) ggX9_count_X9_rowsThatAre
set_option maxRecDepth 20000 in
theorem ggX9_count_X9_h : GoodIn wsX9_count wsX9_h := goodIn_r _ [70, 71, 38, 39, 8, 40, 41, 42, 43, 79, 80, 81, 82, 83, 84, 85, 86, 87, 88, 89, 90, 91, 92, 93, 94, 95, 96] (by decide +kernel) (by decide +kernel)
set_option maxRecDepth 20000 in
theorem gX9_count_X9_h : GoodIn wsX9_count (wsV RX9 75 RX9 yX9_h wsX9_h) := goodIn_app (goodIn_of _ (by decide +kernel)) ggX9_count_X9_h
theorem dX9_count_0 : decode cX9_count 0 = .ok (.iload_n 1, 1) := by decide +kernel
theorem dX9_count_1 : decode cX9_count 1 = .ok (.bipush 10, 2) := by decide +kernel
theorem dX9_count_3 : decode cX9_count 3 = .ok (.bipush 14, 2) := by decide +kernel
theorem dX9_count_5 : decode cX9_count 5 = .ok (.invokestatic 51, 3) := by decide +kernel
theorem dX9_count_8 : decode cX9_count 8 = .ok (.ifCond .eq 12, 3) := by decide +kernel
theorem dX9_count_11 : decode cX9_count 11 = .ok (.aload_n 0, 1) := by decide +kernel
theorem dX9_count_12 : decode cX9_count 12 = .ok (.iload_n 1, 1) := by decide +kernel
theorem dX9_count_13 : decode cX9_count 13 = .ok (.bipush 10, 2) := by decide +kernel
theorem dX9_count_15 : decode cX9_count 15 = .ok (.isub, 1) := by decide +kernel
theorem dX9_count_16 : decode cX9_count 16 = .ok (.invokevirtual 211, 3) := by decide +kernel
theorem dX9_count_19 : decode cX9_count 19 = .ok (.ireturn, 1) := by decide +kernel
theorem dX9_count_20 : decode cX9_count 20 = .ok (.iload_n 1, 1) := by decide +kernel
theorem dX9_count_21 : decode cX9_count 21 = .ok (.tableswitch 69 0 5 #[39, 44, 49, 54, 59, 64], 39) := by decide +kernel
theorem dX9_count_60 : decode cX9_count 60 = .ok (.aload_n 0, 1) := by decide +kernel
theorem dX9_count_61 : decode cX9_count 61 = .ok (.getfield 72, 3) := by decide +kernel
theorem dX9_count_64 : decode cX9_count 64 = .ok (.ireturn, 1) := by decide +kernel
theorem dX9_count_65 : decode cX9_count 65 = .ok (.aload_n 0, 1) := by decide +kernel
theorem dX9_count_66 : decode cX9_count 66 = .ok (.getfield 135, 3) := by decide +kernel
theorem dX9_count_69 : decode cX9_count 69 = .ok (.ireturn, 1) := by decide +kernel
theorem dX9_count_70 : decode cX9_count 70 = .ok (.aload_n 0, 1) := by decide +kernel
theorem dX9_count_71 : decode cX9_count 71 = .ok (.invokevirtual 75, 3) := by decide +kernel
theorem dX9_count_74 : decode cX9_count 74 = .ok (.ireturn, 1) := by decide +kernel
theorem dX9_count_75 : decode cX9_count 75 = .ok (.aload_n 0, 1) := by decide +kernel
theorem dX9_count_76 : decode cX9_count 76 = .ok (.getfield 7, 3) := by decide +kernel
theorem dX9_count_79 : decode cX9_count 79 = .ok (.ireturn, 1) := by decide +kernel
theorem dX9_count_80 : decode cX9_count 80 = .ok (.aload_n 0, 1) := by decide +kernel
theorem dX9_count_81 : decode cX9_count 81 = .ok (.getfield 26, 3) := by decide +kernel
theorem dX9_count_84 : decode cX9_count 84 = .ok (.ireturn, 1) := by decide +kernel
theorem dX9_count_85 : decode cX9_count 85 = .ok (.aload_n 0, 1) := by decide +kernel
theorem dX9_count_86 : decode cX9_count 86 = .ok (.getfield 181, 3) := by decide +kernel
theorem dX9_count_89 : decode cX9_count 89 = .ok (.ireturn, 1) := by decide +kernel
theorem dX9_count_90 : decode cX9_count 90 = .ok (.bipush (-2), 2) := by decide +kernel
theorem dX9_count_92 : decode cX9_count 92 = .ok (.ireturn, 1) := by decide +kernel
theorem dJ6_bitCount_0f7a4_0 : decode cJ6_bitCount_0f7a4 0 = .ok (.iload_n 0, 1) := by decide +kernel
theorem dJ6_bitCount_0f7a4_1 : decode cJ6_bitCount_0f7a4 1 = .ok (.iload_n 0, 1) := by decide +kernel
theorem dJ6_bitCount_0f7a4_2 : decode cJ6_bitCount_0f7a4 2 = .ok (.iconst 1, 1) := by decide +kernel
theorem dJ6_bitCount_0f7a4_3 : decode cJ6_bitCount_0f7a4 3 = .ok (.iushr, 1) := by decide +kernel
theorem dJ6_bitCount_0f7a4_4 : decode cJ6_bitCount_0f7a4 4 = .ok (.ldc_w 265, 3) := by decide +kernel
theorem dJ6_bitCount_0f7a4_7 : decode cJ6_bitCount_0f7a4 7 = .ok (.iand, 1) := by decide +kernel
theorem dJ6_bitCount_0f7a4_8 : decode cJ6_bitCount_0f7a4 8 = .ok (.isub, 1) := by decide +kernel
theorem dJ6_bitCount_0f7a4_9 : decode cJ6_bitCount_0f7a4 9 = .ok (.istore_n 0, 1) := by decide +kernel
theorem dJ6_bitCount_0f7a4_10 : decode cJ6_bitCount_0f7a4 10 = .ok (.iload_n 0, 1) := by decide +kernel
theorem dJ6_bitCount_0f7a4_11 : decode cJ6_bitCount_0f7a4 11 = .ok (.ldc_w 266, 3) := by decide +kernel
theorem dJ6_bitCount_0f7a4_14 : decode cJ6_bitCount_0f7a4 14 = .ok (.iand, 1) := by decide +kernel
theorem dJ6_bitCount_0f7a4_15 : decode cJ6_bitCount_0f7a4 15 = .ok (.iload_n 0, 1) := by decide +kernel
theorem dJ6_bitCount_0f7a4_16 : decode cJ6_bitCount_0f7a4 16 = .ok (.iconst 2, 1) := by decide +kernel
theorem dJ6_bitCount_0f7a4_17 : decode cJ6_bitCount_0f7a4 17 = .ok (.iushr, 1) := by decide +kernel
theorem dJ6_bitCount_0f7a4_18 : decode cJ6_bitCount_0f7a4 18 = .ok (.ldc_w 266, 3) := by decide +kernel
theorem dJ6_bitCount_0f7a4_21 : decode cJ6_bitCount_0f7a4 21 = .ok (.iand, 1) := by decide +kernel
theorem dJ6_bitCount_0f7a4_22 : decode cJ6_bitCount_0f7a4 22 = .ok (.iadd, 1) := by decide +kernel
theorem dJ6_bitCount_0f7a4_23 : decode cJ6_bitCount_0f7a4 23 = .ok (.istore_n 0, 1) := by decide +kernel
theorem dJ6_bitCount_0f7a4_24 : decode cJ6_bitCount_0f7a4 24 = .ok (.iload_n 0, 1) := by decide +kernel
theorem dJ6_bitCount_0f7a4_25 : decode cJ6_bitCount_0f7a4 25 = .ok (.iload_n 0, 1) := by decide +kernel
theorem dJ6_bitCount_0f7a4_26 : decode cJ6_bitCount_0f7a4 26 = .ok (.iconst 4, 1) := by decide +kernel
theorem dJ6_bitCount_0f7a4_27 : decode cJ6_bitCount_0f7a4 27 = .ok (.iushr, 1) := by decide +kernel
theorem dJ6_bitCount_0f7a4_28 : decode cJ6_bitCount_0f7a4 28 = .ok (.iadd, 1) := by decide +kernel
theorem dJ6_bitCount_0f7a4_29 : decode cJ6_bitCount_0f7a4 29 = .ok (.ldc_w 267, 3) := by decide +kernel
theorem dJ6_bitCount_0f7a4_32 : decode cJ6_bitCount_0f7a4 32 = .ok (.iand, 1) := by decide +kernel
theorem dJ6_bitCount_0f7a4_33 : decode cJ6_bitCount_0f7a4 33 = .ok (.istore_n 0, 1) := by decide +kernel
theorem dJ6_bitCount_0f7a4_34 : decode cJ6_bitCount_0f7a4 34 = .ok (.iload_n 0, 1) := by decide +kernel
theorem dJ6_bitCount_0f7a4_35 : decode cJ6_bitCount_0f7a4 35 = .ok (.iload_n 0, 1) := by decide +kernel
theorem dJ6_bitCount_0f7a4_36 : decode cJ6_bitCount_0f7a4 36 = .ok (.bipush 8, 2) := by decide +kernel
theorem dJ6_bitCount_0f7a4_38 : decode cJ6_bitCount_0f7a4 38 = .ok (.iushr, 1) := by decide +kernel
theorem dJ6_bitCount_0f7a4_39 : decode cJ6_bitCount_0f7a4 39 = .ok (.iadd, 1) := by decide +kernel
theorem dJ6_bitCount_0f7a4_40 : decode cJ6_bitCount_0f7a4 40 = .ok (.istore_n 0, 1) := by decide +kernel
theorem dJ6_bitCount_0f7a4_41 : decode cJ6_bitCount_0f7a4 41 = .ok (.iload_n 0, 1) := by decide +kernel
theorem dJ6_bitCount_0f7a4_42 : decode cJ6_bitCount_0f7a4 42 = .ok (.iload_n 0, 1) := by decide +kernel
theorem dJ6_bitCount_0f7a4_43 : decode cJ6_bitCount_0f7a4 43 = .ok (.bipush 16, 2) := by decide +kernel
theorem dJ6_bitCount_0f7a4_45 : decode cJ6_bitCount_0f7a4 45 = .ok (.iushr, 1) := by decide +kernel
theorem dJ6_bitCount_0f7a4_46 : decode cJ6_bitCount_0f7a4 46 = .ok (.iadd, 1) := by decide +kernel
theorem dJ6_bitCount_0f7a4_47 : decode cJ6_bitCount_0f7a4 47 = .ok (.istore_n 0, 1) := by decide +kernel
theorem dJ6_bitCount_0f7a4_48 : decode cJ6_bitCount_0f7a4 48 = .ok (.iload_n 0, 1) := by decide +kernel
theorem dJ6_bitCount_0f7a4_49 : decode cJ6_bitCount_0f7a4 49 = .ok (.bipush 63, 2) := by decide +kernel
theorem dJ6_bitCount_0f7a4_51 : decode cJ6_bitCount_0f7a4 51 = .ok (.iand, 1) := by decide +kernel
theorem dJ6_bitCount_0f7a4_52 : decode cJ6_bitCount_0f7a4 52 = .ok (.ireturn, 1) := by decide +kernel
theorem dJ9_max_7cf53_0 : decode cJ9_max_7cf53 0 = .ok (.iload_n 0, 1) := by decide +kernel
theorem dJ9_max_7cf53_1 : decode cJ9_max_7cf53 1 = .ok (.iload_n 1, 1) := by decide +kernel
theorem dJ9_max_7cf53_2 : decode cJ9_max_7cf53 2 = .ok (.if_icmp .lt 7, 3) := by decide +kernel
theorem dJ9_max_7cf53_5 : decode cJ9_max_7cf53 5 = .ok (.iload_n 0, 1) := by decide +kernel
theorem dJ9_max_7cf53_6 : decode cJ9_max_7cf53 6 = .ok (.goto 4, 3) := by decide +kernel
theorem dJ9_max_7cf53_9 : decode cJ9_max_7cf53 9 = .ok (.iload_n 1, 1) := by decide +kernel
theorem dJ9_max_7cf53_10 : decode cJ9_max_7cf53 10 = .ok (.ireturn, 1) := by decide +kernel
end
section
/-! what all contracts are said in: booleans, rests, the tables, read-only and writing contracts -/
def bI : Bool → Int32
  | true => 1
  | false => 0
theorem bI_nar (b : Bool) : narrow .boolean (.int (bI b)) = .int (bI b) := by cases b <;> decide +kernel
theorem bI_fit (b : Bool) : fits .boolean (.int (bI b)) = true := by cases b <;> decide +kernel
theorem bI_0 (b : Bool) : bI b = 0 ↔ ¬ b = true := by cases b <;> decide +kernel
theorem bI_inj {a b : Bool} (h : bI a = bI b) : a = b := by
  cases a <;> cases b <;> first | rfl | (revert h; decide +kernel)
theorem bI_vp (b : Bool) : vp_nar .boolean (bI b) = bI b := by cases b <;> decide +kernel
theorem itT {c : Prop} {h : Decidable c} {α : Sort _} {t e r : α} (hE : @ite α c h t e = r) (hc : c) : t = r := (if_pos hc).symm.trans hE
theorem itF {c : Prop} {h : Decidable c} {α : Sort _} {t e r : α} (hE : @ite α c h t e = r) (hc : ¬ c) : e = r := (if_neg hc).symm.trans hE
def xRem (x y : Int32) : Int32 := x - x / y * y
def xRemL (x y : Int64) : Int64 := x - x / y * y
def xShr (x y : Int32) : Int32 := x >>> (y &&& 31)
def xUsr (x y : Int32) : Int32 := (x.toUInt32 >>> (y.toUInt32 &&& Int32.toUInt32 31)).toInt32
abbrev ix (i : Int32) : Nat := i.toNatClampNeg
/-- the links of private members across the nest -/
def NW (U : State) : Prop := va_Nw (.methodLinkNest RX8 18 yX3_init "WallCount") U ∧ va_Nw (.methodLinkNest RX2 19 yX8_isResidue "WallCount") U ∧ va_Nw (.methodLinkNest RX0 40 yX8_isIn "WallCount") U ∧ va_Nw (.methodLinkNest RX3 30 yX8_areLots "WallCount") U
theorem NW.warm {s U : State} (hW : s.WarmedH U.vm) (h : NW s) : NW U := ⟨h.1.warmM hW, h.2.1.warmM hW, h.2.2.1.warmM hW, h.2.2.2.warmM hW⟩
theorem NW.same {u U : State} (hv : u.vm = U.vm) (h : NW u) : NW U := ⟨h.1.same rfl hv, h.2.1.same rfl hv, h.2.2.1.same rfl hv, h.2.2.2.same rfl hv⟩
abbrev TY (cI cZ cR : ClassId) : List (ClassId × FieldType) := [(cI, .int), (cZ, .boolean), (cR, .object RX5)]
/-- the tables, as every method of ours finds them -/
def AM (D : va_G) (cI cZ cR : ClassId) (U : State) : Prop := va_K D vwCl (TY cI cZ cR) U ∧ NW U
theorem AM.warm {D : va_G} {cI cZ cR : ClassId} {s U : State} (hW : s.WarmedH U.vm) (h : AM D cI cZ cR s) : AM D cI cZ cR U := ⟨va_K.moved hW.alike h.1, h.2.warm hW⟩
theorem AM.calling {D : va_G} {cI cZ cR : ClassId} {U : State} {g : JFrame} {mk : MethodId} {a : Array Value} (h : AM D cI cZ cR U) : AM D cI cZ cR (U.calling g mk a) := ⟨va_K.moved (u := U) (U := U.calling g mk a) (Vm.Alike.refl U.vm) h.1, h.2.same (u := U) rfl⟩
abbrev nF : Addr → Prop := fun _ => False
/-- read-only: the start -/
def po_P (D : va_G) (cI cZ cR : ClassId) (av : List Value) (ws : va_W) (H0 : Heap) : Array Value → State → Prop := va_Pc av (fun U => U.heap = H0 ∧ AM D cI cZ cR U ∧ va_P D vwCl ws H0)
/-- read-only: the end -/
def po_Q (v : Option Value) (H0 : Heap) : Array Value → State → Outcome → State → Prop := fun _ _ oc t => oc = .returned v ∧ t.heap = H0
theorem po_blind {D : va_G} {cI cZ cR : ClassId} {av : List Value} {ws : va_W} {H0 : Heap} : FrameBlind (po_P D cI cZ cR av ws H0) := fun _ _ _ _ q => ⟨q.1, q.2.1, q.2.2.1.calling, q.2.2.2⟩
theorem po_pre {D : va_G} {cI cZ cR : ClassId} {As : List Value} {ws : va_W} {s : State} {H : Heap} (h : AM D cI cZ cR s) (hP : va_P D vwCl ws H) : PreS s H (po_P D cI cZ cR As ws H) As := ⟨po_blind, fun _ hU hW => ⟨rfl, hU, h.warm hW, hP⟩⟩
theorem po_preV {D : va_G} {cI cZ cR : ClassId} {As : List Value} {ws : va_W} {s : State} {H : Heap} {C : String} {b : Addr} (h : AM D cI cZ cR s) (hP : va_P D vwCl ws H) (hr : ∃ cell : Cell, H[b]? = some cell ∧ cell.vm.isStatics = false ∧ s.vm.findClass C = some cell.cls) : PreV s H C b (po_P D cI cZ cR (.ref b :: As) ws H) As := ⟨po_blind, hr, fun _ hU hW => ⟨rfl, hU, h.warm hW, hP⟩⟩
theorem va_P.nil {D : va_G} {cl : List vw_C} {H : Heap} : va_P D cl [] H := fun k q h => by simp at h
theorem va_P.tail {D : va_G} {cl : List vw_C} {x : Nat × va_E} {ws : va_W} {H : Heap} (h : va_P D cl (x :: ws) H) : va_P D cl ws H := fun k q hk => h (k + 1) q hk
/-- writing, in a world of its own: start and end -/
def wr_P (D : va_G) (cI cZ cR : ClassId) (av : List Value) (ws : va_W) (A : Nat → Prop) (H0 : Heap) : Array Value → State → Prop := va_Pc av (fun U => U.heap = H0 ∧ AM D cI cZ cR U ∧ va_P D vwCl ws H0 ∧ va_D A ws)
def wr_Q {S : Type} (D : va_G) (post : Option Value → S → Prop) (ws : S → va_W) (A : Nat → Prop) : Array Value → State → Outcome → State → Prop := fun _ st oc t => (∃ (v : Option Value) (u : S), oc = .returned v ∧ post v u ∧ va_P D vwCl (ws u) t.heap ∧ va_D A (ws u)) ∧ va_F A st t
theorem wr_blind {D : va_G} {cI cZ cR : ClassId} {av : List Value} {ws : va_W} {A : Nat → Prop} {H0 : Heap} : FrameBlind (wr_P D cI cZ cR av ws A H0) := fun _ _ _ _ q => ⟨q.1, q.2.1, q.2.2.1.calling, q.2.2.2⟩
theorem wr_pre {D : va_G} {cI cZ cR : ClassId} {As : List Value} {ws : va_W} {A : Nat → Prop} {s : State} {H : Heap} (h : AM D cI cZ cR s) (hP : va_P D vwCl ws H) (hD : va_D A ws) : PreS s H (wr_P D cI cZ cR As ws A H) As := ⟨wr_blind, fun _ hU hW => ⟨rfl, hU, h.warm hW, hP, hD⟩⟩
theorem wr_preV {D : va_G} {cI cZ cR : ClassId} {As : List Value} {ws : va_W} {A : Nat → Prop} {s : State} {H : Heap} {C : String} {b : Addr} (h : AM D cI cZ cR s) (hP : va_P D vwCl ws H) (hD : va_D A ws) (hr : ∃ cell : Cell, H[b]? = some cell ∧ cell.vm.isStatics = false ∧ s.vm.findClass C = some cell.cls) : PreV s H C b (wr_P D cI cZ cR (.ref b :: As) ws A H) As := ⟨wr_blind, hr, fun _ hU hW => ⟨rfl, hU, h.warm hW, hP, hD⟩⟩
section WB
variable {p : Program} {l : Launch} {e : Env} {R : Room} {s : State} {m : MethodId} {args : Array Value} {below : List Frame} {meth : Method} {c : Code} {H : Heap} {locs : List Loc} {cells slots : Nat} {Q : State → Prop} {cc : ByteArray} {pc : Nat} {ls : Array Slot} {rest st0 : List Value} {a : Array Value}
theorem w_irem (hexec : p.tables.exec = Jvm.exec) (hb : c.code = cc) {x y : Int32} (hdg : decode cc pc = .ok (.irem, 1)) (hne : ¬ y = 0) (k : W p l e R s m args below meth c H locs cells slots Q (F0 m (pc + 1) ls (.int (xRem x y) :: rest))) : W p l e R s m args below meth c H locs cells slots Q (F0 m pc ls (.int y :: .int x :: rest)) := lv_irem hexec hb hdg hne k
theorem w_lrem (hexec : p.tables.exec = Jvm.exec) (hb : c.code = cc) {x y : Int64} (hdg : decode cc pc = .ok (.lrem, 1)) (hne : ¬ y = 0) (k : W p l e R s m args below meth c H locs cells slots Q (F0 m (pc + 1) ls (.long (xRemL x y) :: rest))) : W p l e R s m args below meth c H locs cells slots Q (F0 m pc ls (.long y :: .long x :: rest)) := lv_lrem hexec hb hdg hne k
theorem w_ishr (hexec : p.tables.exec = Jvm.exec) (hb : c.code = cc) {x y : Int32} (hdg : decode cc pc = .ok (.ishr, 1)) (k : W p l e R s m args below meth c H locs cells slots Q (F0 m (pc + 1) ls (.int (xShr x y) :: rest))) : W p l e R s m args below meth c H locs cells slots Q (F0 m pc ls (.int y :: .int x :: rest)) := lv_ishr hexec hb hdg k
theorem w_iushr (hexec : p.tables.exec = Jvm.exec) (hb : c.code = cc) {x y : Int32} (hdg : decode cc pc = .ok (.iushr, 1)) (k : W p l e R s m args below meth c H locs cells slots Q (F0 m (pc + 1) ls (.int (xUsr x y) :: rest))) : W p l e R s m args below meth c H locs cells slots Q (F0 m pc ls (.int y :: .int x :: rest)) := lv_iushr hexec hb hdg rfl k
theorem w_if_eqb (hexec : p.tables.exec = Jvm.exec) (hb : c.code = cc) {b : Bool} {off : Int} {tgt : Nat} (hdg : decode cc pc = .ok (.ifCond .eq off, 3)) (ht : (pc : Int) + off = (tgt : Int)) (kt : ¬ b = true → W p l e R s m args below meth c H locs cells slots Q (F0 m tgt ls rest)) (kf : b = true → W p l e R s m args below meth c H locs cells slots Q (F0 m (pc + 3) ls rest)) : W p l e R s m args below meth c H locs cells slots Q (F0 m pc ls (.int (bI b) :: rest)) := lv_if_eq hexec hb hdg ht (fun h => kt ((bI_0 b).mp h)) (fun h => kf (Classical.byContradiction fun q => h ((bI_0 b).mpr q)))
theorem w_if_neb (hexec : p.tables.exec = Jvm.exec) (hb : c.code = cc) {b : Bool} {off : Int} {tgt : Nat} (hdg : decode cc pc = .ok (.ifCond .ne off, 3)) (ht : (pc : Int) + off = (tgt : Int)) (kt : b = true → W p l e R s m args below meth c H locs cells slots Q (F0 m tgt ls rest)) (kf : ¬ b = true → W p l e R s m args below meth c H locs cells slots Q (F0 m (pc + 3) ls rest)) : W p l e R s m args below meth c H locs cells slots Q (F0 m pc ls (.int (bI b) :: rest)) := lv_if_ne hexec hb hdg ht (fun h => kt (Classical.byContradiction fun q => h ((bI_0 b).mpr q))) (fun h => kf ((bI_0 b).mp h))
theorem w_lcmp_eq (hexec : p.tables.exec = Jvm.exec) (hb : c.code = cc) {x y : Int64} {off : Int} {tgt : Nat} (h1 : decode cc pc = .ok (.lcmp, 1)) (hdg : decode cc (pc + 1) = .ok (.ifCond .eq off, 3)) (ht : ((pc + 1 : Nat) : Int) + off = (tgt : Int)) (kt : x = y → W p l e R s m args below meth c H locs cells slots Q (F0 m tgt ls rest)) (kf : ¬ x = y → W p l e R s m args below meth c H locs cells slots Q (F0 m (pc + 1 + 3) ls rest)) : W p l e R s m args below meth c H locs cells slots Q (F0 m pc ls (.long y :: .long x :: rest)) := W.lcmp hexec hb h1 (lv_if_eq hexec hb hdg ht (fun h => kt ((lg_cmp_eq x y).mp h)) (fun h => kf (fun q => h ((lg_cmp_eq x y).mpr q))))
theorem w_lcmp_ne (hexec : p.tables.exec = Jvm.exec) (hb : c.code = cc) {x y : Int64} {off : Int} {tgt : Nat} (h1 : decode cc pc = .ok (.lcmp, 1)) (hdg : decode cc (pc + 1) = .ok (.ifCond .ne off, 3)) (ht : ((pc + 1 : Nat) : Int) + off = (tgt : Int)) (kt : ¬ x = y → W p l e R s m args below meth c H locs cells slots Q (F0 m tgt ls rest)) (kf : x = y → W p l e R s m args below meth c H locs cells slots Q (F0 m (pc + 1 + 3) ls rest)) : W p l e R s m args below meth c H locs cells slots Q (F0 m pc ls (.long y :: .long x :: rest)) := W.lcmp hexec hb h1 (lv_if_ne hexec hb hdg ht (fun h => kt (fun q => h ((lg_cmp_eq x y).mpr q))) (fun h => kf ((lg_cmp_eq x y).mp h)))
theorem w_lcmp_le (hexec : p.tables.exec = Jvm.exec) (hb : c.code = cc) {x y : Int64} {off : Int} {tgt : Nat} (h1 : decode cc pc = .ok (.lcmp, 1)) (hdg : decode cc (pc + 1) = .ok (.ifCond .le off, 3)) (ht : ((pc + 1 : Nat) : Int) + off = (tgt : Int)) (kt : x ≤ y → W p l e R s m args below meth c H locs cells slots Q (F0 m tgt ls rest)) (kf : ¬ x ≤ y → W p l e R s m args below meth c H locs cells slots Q (F0 m (pc + 1 + 3) ls rest)) : W p l e R s m args below meth c H locs cells slots Q (F0 m pc ls (.long y :: .long x :: rest)) := W.lcmp hexec hb h1 (lv_if_le hexec hb hdg ht (fun h => kt ((lg_cmp_le x y).mp h)) (fun h => kf (fun q => h ((lg_cmp_le x y).mpr q))))
theorem w_lcmp_gt (hexec : p.tables.exec = Jvm.exec) (hb : c.code = cc) {x y : Int64} {off : Int} {tgt : Nat} (h1 : decode cc pc = .ok (.lcmp, 1)) (hdg : decode cc (pc + 1) = .ok (.ifCond .gt off, 3)) (ht : ((pc + 1 : Nat) : Int) + off = (tgt : Int)) (kt : y < x → W p l e R s m args below meth c H locs cells slots Q (F0 m tgt ls rest)) (kf : ¬ y < x → W p l e R s m args below meth c H locs cells slots Q (F0 m (pc + 1 + 3) ls rest)) : W p l e R s m args below meth c H locs cells slots Q (F0 m pc ls (.long y :: .long x :: rest)) := W.lcmp hexec hb h1 (lv_if_gt hexec hb hdg ht (fun h => kt ((lg_cmp_gt x y).mp h)) (fun h => kf (fun q => h ((lg_cmp_gt x y).mpr q))))
theorem w_iret {v r : Int32} (hexec : p.tables.exec = Jvm.exec) (hb : c.code = cc) (hr : meth.sig.returnType = some .int) (hlocks : meth.locks = false) (hE : v = r) (hdg : decode cc pc = .ok (.ireturn, 1)) : W p l e R s m args below meth c s.heap [] 0 0 (MQ below (po_Q (some (.int r)) s.heap) args s 0 0 nF) (F0 m pc ls [.int v]) := by
  subst hE
  exact W.iret hexec hb hr (fun t ht _ => ⟨rfl, ht⟩) (fun q h => by cases h) hdg hlocks
theorem w_zret {v r : Bool} (hexec : p.tables.exec = Jvm.exec) (hb : c.code = cc) (hr : meth.sig.returnType = some .boolean) (hlocks : meth.locks = false) (hE : v = r) (hdg : decode cc pc = .ok (.ireturn, 1)) : W p l e R s m args below meth c s.heap [] 0 0 (MQ below (po_Q (some (.int (bI r))) s.heap) args s 0 0 nF) (F0 m pc ls [.int (bI v)]) := by
  subst hE
  exact W.zret hexec hb hr (bI_nar v) (fun t ht _ => ⟨rfl, ht⟩) (fun q h => by cases h) hdg hlocks
theorem w_lret {v r : Int64} (hexec : p.tables.exec = Jvm.exec) (hb : c.code = cc) (hr : meth.sig.returnType = some .long) (hlocks : meth.locks = false) (hE : v = r) (hdg : decode cc pc = .ok (.lreturn, 1)) : W p l e R s m args below meth c s.heap [] 0 0 (MQ below (po_Q (some (.long r)) s.heap) args s 0 0 nF) (F0 m pc ls [.long v]) := by
  subst hE
  exact W.lret hexec hb hr (fun t ht _ => ⟨rfl, ht⟩) (fun q h => by cases h) hdg hlocks
/-- behind a read-only call -/
theorem ro_call {v : Value} (hr : va_Run p l e R s m args below meth c H locs cells slots 0 0 (F0 m pc ls st0) rest (po_Q (some v) H a) nF) (k : W p l e R s m args below meth c H locs cells slots Q (F0 m (pc + 3) ls (v :: rest))) : W p l e R s m args below meth c H locs cells slots Q (F0 m pc ls st0) := by
  intro T hT X
  obtain ⟨v', st₀, t, T', L, h0, X', hL, e1, e2, ⟨hq1, hq2⟩, st⟩ := hr T hT X
  have hn : L = [] := by
    cases L with
    | nil => rfl
    | cons q L => exact (hL q List.mem_cons_self).elim
  subst hn
  rw [List.append_nil] at X'
  cases hq1
  obtain ⟨t2, a1, b1⟩ := k T' (e1.trans hq2) X'
  exact ⟨t2, st t2 a1, b1⟩
/-- behind a writing call in the same world -/
theorem wr_call {S : Type} {D : va_G} {post : Option Value → S → Prop} {ws : S → va_W} {A : Nat → Prop} {mc ms : Nat} {H0 : Heap} (hr : va_Run p l e R s m args below meth c H locs cells slots mc ms (F0 m pc ls st0) rest (wr_Q D post ws A a) A) (hS : va_S A H0 H locs)
    (k : ∀ (v : Option Value) (u : S) (H1 : Heap) (locs1 : List Loc), post v u → va_P D vwCl (ws u) H1 → va_D A (ws u) → H.size ≤ H1.size → va_S A H0 H1 locs1 → W p l e R s m args below meth c H1 locs1 (cells + mc) (slots + ms) Q (F0 m (pc + 3) ls (v.toList ++ rest))) : W p l e R s m args below meth c H locs cells slots Q (F0 m pc ls st0) := by
  intro T hT X
  obtain ⟨v', st₀, t, T', L, h0, X', hL, e1, e2, ⟨⟨v, u, hq1, hq2, hq3, hq4⟩, hF1, hF2⟩, st⟩ := hr T hT X
  cases hq1
  rw [h0] at hF1 hF2
  obtain ⟨t2, a1, b1⟩ := k v' u t.heap (locs ++ L) hq2 hq3 hq4 hF1 ⟨Nat.le_trans hS.1 hF1, fun q h1 h2 => (hF2 q (Nat.lt_of_lt_of_le h1 hS.1) h2).trans (hS.2.1 q h1 h2), t_lL hS.2.2 hL⟩ T' e1 X'
  exact ⟨t2, st t2 a1, b1⟩
end WB
end
section
/-! counters, and small facts of Int32 -/
theorem ne_pos {x : Int32} (h : 0 < x) : ¬ x = 0 := by
  intro q
  subst q
  exact absurd h (by decide +kernel)
theorem ne_posL {x : Int64} (h : 0 < x) : ¬ x = 0 := by
  intro q
  subst q
  exact absurd h (by decide +kernel)
/-- a counter v between a and K, with n rounds enough for what is left -/
def UP (a K n : Nat) (v : Int32) : Prop := ∃ i : Nat, v = nI i ∧ a ≤ i ∧ i ≤ K ∧ K < i + n
theorem UP.zero {a K : Nat} {v : Int32} : ¬ UP a K 0 v := by
  rintro ⟨i, h1, h2, h3, h4⟩
  omega
theorem UP.start {a K : Nat} (b : Nat) (h1 : a ≤ b) (h2 : b ≤ K) : UP a K (K + 1) (nI b) := ⟨b, rfl, h1, h2, by omega⟩
/-- the test was: leave if K ≤ v -/
theorem UP.ge {a K n : Nat} {v k : Int32} (hI : UP a K (n + 1) v) (hK : K < 2 ^ 31) (hk : k = nI K) (hc : ¬ k ≤ v) : UP a K n (v + 1) ∧ ∃ i : Nat, v = nI i ∧ a ≤ i ∧ i < K := by
  obtain ⟨i, rfl, h1, h2, h3⟩ := hI
  have hlt : i < K := by
    rcases Nat.lt_or_ge i K with q | q
    · exact q
    · exact absurd (by rw [hk]; exact nI_le q (by omega)) hc
  exact ⟨⟨i + 1, nI_1 i, by omega, by omega, by omega⟩, i, rfl, h1, hlt⟩
/-- the test was: leave if K < v, for the counter's bound K + 1 -/
theorem UP.gt {a K n : Nat} {v k : Int32} (hI : UP a (K + 1) (n + 1) v) (hK : K + 1 < 2 ^ 31) (hk : k = nI K) (hc : ¬ k < v) : UP a (K + 1) n (v + 1) ∧ ∃ i : Nat, v = nI i ∧ a ≤ i ∧ i ≤ K := by
  obtain ⟨i, rfl, h1, h2, h3⟩ := hI
  have hlt : i ≤ K := by
    rcases Nat.lt_or_ge K i with q | q
    · exact absurd (by rw [hk]; exact nI_lt q (by omega)) hc
    · exact q
  exact ⟨⟨i + 1, nI_1 i, by omega, by omega, by omega⟩, i, rfl, h1, hlt⟩
theorem nI_ix {x : Int32} (h : ¬ x < 0) : x = nI (ix x) := by
  obtain ⟨j, hj, rfl⟩ := nI_of h
  rw [ix, nI_clamp hj]
theorem ix_lt (x : Int32) : ix x < 2 ^ 31 := by
  by_cases h : x < 0
  · have h1 := Int32.lt_iff_toInt_lt.mp h
    rw [Int32.toInt_zero] at h1
    have h2 : ix x = x.toInt.toNat := rfl
    omega
  · obtain ⟨j, hj, rfl⟩ := nI_of h
    rw [ix, nI_clamp hj]
    exact hj
theorem le_of_nlt {x y : Int32} (h : ¬ x < y) : y ≤ x := by
  rw [Int32.lt_iff_toInt_lt] at h
  rw [Int32.le_iff_toInt_le]
  omega
theorem lt_of_nle {x y : Int32} (h : ¬ x ≤ y) : y < x := by
  rw [Int32.le_iff_toInt_le] at h
  rw [Int32.lt_iff_toInt_lt]
  omega
theorem sw_out3 {x : Int32} (h0 : ¬ x = 0) (h1 : ¬ x = 1) (h2 : ¬ x = 2) : x.toInt < 0 ∨ 2 < x.toInt := by
  rw [← Int32.toInt_inj] at h0 h1 h2
  have e0 : (0 : Int32).toInt = 0 := by decide +kernel
  have e1 : (1 : Int32).toInt = 1 := by decide +kernel
  have e2 : (2 : Int32).toInt = 2 := by decide +kernel
  omega
theorem sw_out6 {x : Int32} (h0 : ¬ x = 0) (h1 : ¬ x = 1) (h2 : ¬ x = 2) (h3 : ¬ x = 3) (h4 : ¬ x = 4) (h5 : ¬ x = 5) : x.toInt < 0 ∨ 5 < x.toInt := by
  rw [← Int32.toInt_inj] at h0 h1 h2 h3 h4 h5
  have e0 : (0 : Int32).toInt = 0 := by decide +kernel
  have e1 : (1 : Int32).toInt = 1 := by decide +kernel
  have e2 : (2 : Int32).toInt = 2 := by decide +kernel
  have e3 : (3 : Int32).toInt = 3 := by decide +kernel
  have e4 : (4 : Int32).toInt = 4 := by decide +kernel
  have e5 : (5 : Int32).toInt = 5 := by decide +kernel
  omega
theorem sw_out7 {x : Int32} (h0 : ¬ x = 0) (h1 : ¬ x = 1) (h2 : ¬ x = 2) (h3 : ¬ x = 3) (h4 : ¬ x = 4) (h5 : ¬ x = 5) (h6 : ¬ x = 6) : x.toInt < 0 ∨ 6 < x.toInt := by
  have h := sw_out6 h0 h1 h2 h3 h4 h5
  rw [← Int32.toInt_inj] at h6
  have e6 : (6 : Int32).toInt = 6 := by decide +kernel
  omega
end
section
theorem hd_X8_within : yX8_within.cls ≠ "java/lang/invoke/MethodHandle" ∧ yX8_within.cls ≠ "java/lang/invoke/VarHandle" ∧ (parseMethodDescriptor yX8_within.desc).map (fun d => d.parameters.length) = some 3 := by decide +kernel
def x_X8_within (p0 : Int32) (p1 : Int32) (p2 : Int32) : Bool := (if p0 < p1 then false else (if p2 < p0 then false else true))
def rm_X8_within : Room := { frames := 0, cells := 0, slots := 0, locals := 0 }
set_option maxHeartbeats 4000000 in
set_option maxRecDepth 100000 in
theorem c_X8_within (l : Launch) (D : va_G) (cI cZ cR : ClassId) (H0 : Heap) (p0 : Int32) (p1 : Int32) (p2 : Int32) : Met l yX8_within wsX8_within rm_X8_within (po_P D cI cZ cR [.int p0, .int p1, .int p2] [] H0) (po_Q (some (.int (bI (x_X8_within p0 p1 p2)))) H0) 0 0 nF := by
  refine Met.ofW (cc := cX8_within) (maxL := 3) (ret := (some .boolean)) (by decide +kernel) rfl ?_
  intro p e s m args below meth c s₁ B hml hv
  obtain ⟨rfl, rfl, hAM, hP⟩ := hv
  have hx := B.exec
  have hb := B.bytes
  have hr := B.returns
  have hts := atoms_spec (ws := wsX8_within) B.pre
  have hown : s.vm.findClass RX8 = some m.cls := findClass_of_methodNamed B.named
  have hlocks := B.notSynchronized
  have hK := hAM.1
  generalize hE : (x_X8_within p0 p1 p2) = Rv
  rw [x_X8_within] at hE
  have hl := lv_entry ([.int p0, .int p1, .int p2]) (n := 3) (Nat.le_of_ble_eq_true rfl)
  rw [lg_entry_eq]
  generalize (lg_sl ([.int p0, .int p1, .int p2]) ++ List.replicate (3 - (lg_sl ([.int p0, .int p1, .int p2])).length) Slot.unset).toArray = ls at hl ⊢
  have hl : lv_has ls 3 [(0, .int p0), (1, .int p1), (2, .int p2)] := hl
  refine lv_iload_n hx hb dX8_within_0 rfl (lv_at hl 0 rfl) ?_
  refine lv_iload_n hx hb dX8_within_1 rfl (lv_at hl 1 rfl) ?_
  refine lv_icmp_lt (tgt := 14) hx hb dX8_within_2 (by decide) (fun c_2 => ?_) (fun c_2 => ?_)
  · have hE := itT hE c_2
    refine lv_iconst (v := 0) hx hb dX8_within_14 (by decide) ?_
    exact w_zret (v := false) hx hb hr hlocks hE dX8_within_15
  · have hE := itF hE c_2
    refine lv_iload_n hx hb dX8_within_5 rfl (lv_at hl 0 rfl) ?_
    refine lv_iload_n hx hb dX8_within_6 rfl (lv_at hl 2 rfl) ?_
    refine lv_icmp_gt (tgt := 14) hx hb dX8_within_7 (by decide) (fun c_7 => ?_) (fun c_7 => ?_)
    · have hE := itT hE c_7
      refine lv_iconst (v := 0) hx hb dX8_within_14 (by decide) ?_
      exact w_zret (v := false) hx hb hr hlocks hE dX8_within_15
    · have hE := itF hE c_7
      refine lv_iconst (v := 1) hx hb dX8_within_10 (by decide) ?_
      refine lv_goto (tgt := 15) hx hb dX8_within_11 (by decide) ?_
      exact w_zret (v := true) hx hb hr hlocks hE dX8_within_15

theorem hd_X8_isExponent : yX8_isExponent.cls ≠ "java/lang/invoke/MethodHandle" ∧ yX8_isExponent.cls ≠ "java/lang/invoke/VarHandle" ∧ (parseMethodDescriptor yX8_isExponent.desc).map (fun d => d.parameters.length) = some 1 := by decide +kernel
def x_X8_isExponent (p0 : Int32) : Bool := (x_X8_within p0 0 5002)
def rm_X8_isExponent : Room := { frames := 1, cells := 0, slots := 0, locals := 22 }
set_option maxHeartbeats 4000000 in
set_option maxRecDepth 100000 in
theorem c_X8_isExponent (l : Launch) (D : va_G) (cI cZ cR : ClassId) (H0 : Heap) (p0 : Int32) : Met l yX8_isExponent wsX8_isExponent rm_X8_isExponent (po_P D cI cZ cR [.int p0] [] H0) (po_Q (some (.int (bI (x_X8_isExponent p0)))) H0) 0 0 nF := by
  refine Met.ofW (cc := cX8_isExponent) (maxL := 1) (ret := (some .boolean)) (by decide +kernel) rfl ?_
  intro p e s m args below meth c s₁ B hml hv
  obtain ⟨rfl, rfl, hAM, hP⟩ := hv
  have hx := B.exec
  have hb := B.bytes
  have hr := B.returns
  have hts := atoms_spec (ws := wsX8_isExponent) B.pre
  have hown : s.vm.findClass RX8 = some m.cls := findClass_of_methodNamed B.named
  have hlocks := B.notSynchronized
  have hK := hAM.1
  generalize hE : (x_X8_isExponent p0) = Rv
  rw [x_X8_isExponent] at hE
  have hl := lv_entry ([.int p0]) (n := 1) (Nat.le_of_ble_eq_true rfl)
  rw [lg_entry_eq]
  generalize (lg_sl ([.int p0]) ++ List.replicate (1 - (lg_sl ([.int p0])).length) Slot.unset).toArray = ls at hl ⊢
  have hl : lv_has ls 1 [(0, .int p0)] := hl
  refine lv_iload_n hx hb dX8_isExponent_0 rfl (lv_at hl 0 rfl) ?_
  refine lv_iconst (v := 0) hx hb dX8_isExponent_1 (by decide) ?_
  refine lv_sipush (v := 5002) hx hb dX8_isExponent_2 (by decide +kernel) ?_
  refine ro_call (va_runS (As := [.int p0, .int 0, .int 5002]) (rest := []) ⟨hx, hb, hml, hown, hts⟩ (c_X8_within l D cI cZ cR _ p0 0 5002) (va_cwS 3 hts gX8_isExponent_X8_within rfl rfl rfl hd_X8_within ⟨(Nat.le_of_ble_eq_true rfl), (Nat.le_of_ble_eq_true rfl)⟩) (po_pre hAM va_P.nil) rfl rfl hl.1 rfl (lv_room (Nat.le_of_ble_eq_true rfl)) dX8_isExponent_5 ⟨(Nat.le_of_ble_eq_true rfl), (Nat.le_of_ble_eq_true rfl)⟩) ?_
  exact w_zret (v := (x_X8_within p0 0 5002)) hx hb hr hlocks hE dX8_isExponent_8

theorem hd_X8_areLots : yX8_areLots.cls ≠ "java/lang/invoke/MethodHandle" ∧ yX8_areLots.cls ≠ "java/lang/invoke/VarHandle" ∧ (parseMethodDescriptor yX8_areLots.desc).map (fun d => d.parameters.length) = some 4 := by decide +kernel
def x_X8_areLots (p0 : Int32) (p1 : Int32) (p2 : Int32) (p3 : Int32) : Bool := (if (x_X8_isExponent p0) = true then (if (x_X8_isExponent p1) = true then (if (x_X8_isExponent p2) = true then (if (x_X8_isExponent p3) = true then true else false) else false) else false) else false)
def rm_X8_areLots : Room := { frames := 2, cells := 0, slots := 0, locals := 42 }
set_option maxHeartbeats 4000000 in
set_option maxRecDepth 100000 in
theorem c_X8_areLots (l : Launch) (D : va_G) (cI cZ cR : ClassId) (H0 : Heap) (p0 : Int32) (p1 : Int32) (p2 : Int32) (p3 : Int32) : Met l yX8_areLots wsX8_areLots rm_X8_areLots (po_P D cI cZ cR [.int p0, .int p1, .int p2, .int p3] [] H0) (po_Q (some (.int (bI (x_X8_areLots p0 p1 p2 p3)))) H0) 0 0 nF := by
  refine Met.ofW (cc := cX8_areLots) (maxL := 4) (ret := (some .boolean)) (by decide +kernel) rfl ?_
  intro p e s m args below meth c s₁ B hml hv
  obtain ⟨rfl, rfl, hAM, hP⟩ := hv
  have hx := B.exec
  have hb := B.bytes
  have hr := B.returns
  have hts := atoms_spec (ws := wsX8_areLots) B.pre
  have hown : s.vm.findClass RX8 = some m.cls := findClass_of_methodNamed B.named
  have hlocks := B.notSynchronized
  have hK := hAM.1
  generalize hE : (x_X8_areLots p0 p1 p2 p3) = Rv
  rw [x_X8_areLots] at hE
  have hl := lv_entry ([.int p0, .int p1, .int p2, .int p3]) (n := 4) (Nat.le_of_ble_eq_true rfl)
  rw [lg_entry_eq]
  generalize (lg_sl ([.int p0, .int p1, .int p2, .int p3]) ++ List.replicate (4 - (lg_sl ([.int p0, .int p1, .int p2, .int p3])).length) Slot.unset).toArray = ls at hl ⊢
  have hl : lv_has ls 4 [(0, .int p0), (1, .int p1), (2, .int p2), (3, .int p3)] := hl
  refine lv_iload_n hx hb dX8_areLots_0 rfl (lv_at hl 0 rfl) ?_
  refine ro_call (va_runS (As := [.int p0]) (rest := []) ⟨hx, hb, hml, hown, hts⟩ (c_X8_isExponent l D cI cZ cR _ p0) (va_cwS 1 hts gX8_areLots_X8_isExponent rfl rfl rfl hd_X8_isExponent ⟨(Nat.le_of_ble_eq_true rfl), (Nat.le_of_ble_eq_true rfl)⟩) (po_pre hAM va_P.nil) rfl rfl hl.1 rfl (lv_room (Nat.le_of_ble_eq_true rfl)) dX8_areLots_1 ⟨(Nat.le_of_ble_eq_true rfl), (Nat.le_of_ble_eq_true rfl)⟩) ?_
  refine w_if_eqb (tgt := 32) hx hb dX8_areLots_4 (by decide) (fun c_4 => ?_) (fun c_4 => ?_)
  · have hE := itF hE c_4
    refine lv_iconst (v := 0) hx hb dX8_areLots_32 (by decide) ?_
    exact w_zret (v := false) hx hb hr hlocks hE dX8_areLots_33
  · have hE := itT hE c_4
    refine lv_iload_n hx hb dX8_areLots_7 rfl (lv_at hl 1 rfl) ?_
    refine ro_call (va_runS (As := [.int p1]) (rest := []) ⟨hx, hb, hml, hown, hts⟩ (c_X8_isExponent l D cI cZ cR _ p1) (va_cwS 1 hts gX8_areLots_X8_isExponent rfl rfl rfl hd_X8_isExponent ⟨(Nat.le_of_ble_eq_true rfl), (Nat.le_of_ble_eq_true rfl)⟩) (po_pre hAM va_P.nil) rfl rfl hl.1 rfl (lv_room (Nat.le_of_ble_eq_true rfl)) dX8_areLots_8 ⟨(Nat.le_of_ble_eq_true rfl), (Nat.le_of_ble_eq_true rfl)⟩) ?_
    refine w_if_eqb (tgt := 32) hx hb dX8_areLots_11 (by decide) (fun c_11 => ?_) (fun c_11 => ?_)
    · have hE := itF hE c_11
      refine lv_iconst (v := 0) hx hb dX8_areLots_32 (by decide) ?_
      exact w_zret (v := false) hx hb hr hlocks hE dX8_areLots_33
    · have hE := itT hE c_11
      refine lv_iload_n hx hb dX8_areLots_14 rfl (lv_at hl 2 rfl) ?_
      refine ro_call (va_runS (As := [.int p2]) (rest := []) ⟨hx, hb, hml, hown, hts⟩ (c_X8_isExponent l D cI cZ cR _ p2) (va_cwS 1 hts gX8_areLots_X8_isExponent rfl rfl rfl hd_X8_isExponent ⟨(Nat.le_of_ble_eq_true rfl), (Nat.le_of_ble_eq_true rfl)⟩) (po_pre hAM va_P.nil) rfl rfl hl.1 rfl (lv_room (Nat.le_of_ble_eq_true rfl)) dX8_areLots_15 ⟨(Nat.le_of_ble_eq_true rfl), (Nat.le_of_ble_eq_true rfl)⟩) ?_
      refine w_if_eqb (tgt := 32) hx hb dX8_areLots_18 (by decide) (fun c_18 => ?_) (fun c_18 => ?_)
      · have hE := itF hE c_18
        refine lv_iconst (v := 0) hx hb dX8_areLots_32 (by decide) ?_
        exact w_zret (v := false) hx hb hr hlocks hE dX8_areLots_33
      · have hE := itT hE c_18
        refine lv_iload_n hx hb dX8_areLots_21 rfl (lv_at hl 3 rfl) ?_
        refine ro_call (va_runS (As := [.int p3]) (rest := []) ⟨hx, hb, hml, hown, hts⟩ (c_X8_isExponent l D cI cZ cR _ p3) (va_cwS 1 hts gX8_areLots_X8_isExponent rfl rfl rfl hd_X8_isExponent ⟨(Nat.le_of_ble_eq_true rfl), (Nat.le_of_ble_eq_true rfl)⟩) (po_pre hAM va_P.nil) rfl rfl hl.1 rfl (lv_room (Nat.le_of_ble_eq_true rfl)) dX8_areLots_22 ⟨(Nat.le_of_ble_eq_true rfl), (Nat.le_of_ble_eq_true rfl)⟩) ?_
        refine w_if_eqb (tgt := 32) hx hb dX8_areLots_25 (by decide) (fun c_25 => ?_) (fun c_25 => ?_)
        · have hE := itF hE c_25
          refine lv_iconst (v := 0) hx hb dX8_areLots_32 (by decide) ?_
          exact w_zret (v := false) hx hb hr hlocks hE dX8_areLots_33
        · have hE := itT hE c_25
          refine lv_iconst (v := 1) hx hb dX8_areLots_28 (by decide) ?_
          refine lv_goto (tgt := 33) hx hb dX8_areLots_29 (by decide) ?_
          exact w_zret (v := true) hx hb hr hlocks hE dX8_areLots_33

theorem hd_X8_isResidue : yX8_isResidue.cls ≠ "java/lang/invoke/MethodHandle" ∧ yX8_isResidue.cls ≠ "java/lang/invoke/VarHandle" ∧ (parseMethodDescriptor yX8_isResidue.desc).map (fun d => d.parameters.length) = some 1 := by decide +kernel
def x_X8_isResidue (p0 : Int32) : Bool := (x_X8_within p0 1 10006)
def rm_X8_isResidue : Room := { frames := 1, cells := 0, slots := 0, locals := 22 }
set_option maxHeartbeats 4000000 in
set_option maxRecDepth 100000 in
theorem c_X8_isResidue (l : Launch) (D : va_G) (cI cZ cR : ClassId) (H0 : Heap) (p0 : Int32) : Met l yX8_isResidue wsX8_isResidue rm_X8_isResidue (po_P D cI cZ cR [.int p0] [] H0) (po_Q (some (.int (bI (x_X8_isResidue p0)))) H0) 0 0 nF := by
  refine Met.ofW (cc := cX8_isResidue) (maxL := 1) (ret := (some .boolean)) (by decide +kernel) rfl ?_
  intro p e s m args below meth c s₁ B hml hv
  obtain ⟨rfl, rfl, hAM, hP⟩ := hv
  have hx := B.exec
  have hb := B.bytes
  have hr := B.returns
  have hts := atoms_spec (ws := wsX8_isResidue) B.pre
  have hown : s.vm.findClass RX8 = some m.cls := findClass_of_methodNamed B.named
  have hlocks := B.notSynchronized
  have hK := hAM.1
  generalize hE : (x_X8_isResidue p0) = Rv
  rw [x_X8_isResidue] at hE
  have hl := lv_entry ([.int p0]) (n := 1) (Nat.le_of_ble_eq_true rfl)
  rw [lg_entry_eq]
  generalize (lg_sl ([.int p0]) ++ List.replicate (1 - (lg_sl ([.int p0])).length) Slot.unset).toArray = ls at hl ⊢
  have hl : lv_has ls 1 [(0, .int p0)] := hl
  refine lv_iload_n hx hb dX8_isResidue_0 rfl (lv_at hl 0 rfl) ?_
  refine lv_iconst (v := 1) hx hb dX8_isResidue_1 (by decide) ?_
  refine lv_sipush (v := 10006) hx hb dX8_isResidue_2 (by decide +kernel) ?_
  refine ro_call (va_runS (As := [.int p0, .int 1, .int 10006]) (rest := []) ⟨hx, hb, hml, hown, hts⟩ (c_X8_within l D cI cZ cR _ p0 1 10006) (va_cwS 3 hts gX8_isResidue_X8_within rfl rfl rfl hd_X8_within ⟨(Nat.le_of_ble_eq_true rfl), (Nat.le_of_ble_eq_true rfl)⟩) (po_pre hAM va_P.nil) rfl rfl hl.1 rfl (lv_room (Nat.le_of_ble_eq_true rfl)) dX8_isResidue_5 ⟨(Nat.le_of_ble_eq_true rfl), (Nat.le_of_ble_eq_true rfl)⟩) ?_
  exact w_zret (v := (x_X8_within p0 1 10006)) hx hb hr hlocks hE dX8_isResidue_8

theorem hd_X8_isHolder : yX8_isHolder.cls ≠ "java/lang/invoke/MethodHandle" ∧ yX8_isHolder.cls ≠ "java/lang/invoke/VarHandle" ∧ (parseMethodDescriptor yX8_isHolder.desc).map (fun d => d.parameters.length) = some 1 := by decide +kernel
def x_X8_isHolder (p0 : Int32) : Bool := (x_X8_within p0 1 5)
def rm_X8_isHolder : Room := { frames := 1, cells := 0, slots := 0, locals := 22 }
set_option maxHeartbeats 4000000 in
set_option maxRecDepth 100000 in
theorem c_X8_isHolder (l : Launch) (D : va_G) (cI cZ cR : ClassId) (H0 : Heap) (p0 : Int32) : Met l yX8_isHolder wsX8_isHolder rm_X8_isHolder (po_P D cI cZ cR [.int p0] [] H0) (po_Q (some (.int (bI (x_X8_isHolder p0)))) H0) 0 0 nF := by
  refine Met.ofW (cc := cX8_isHolder) (maxL := 1) (ret := (some .boolean)) (by decide +kernel) rfl ?_
  intro p e s m args below meth c s₁ B hml hv
  obtain ⟨rfl, rfl, hAM, hP⟩ := hv
  have hx := B.exec
  have hb := B.bytes
  have hr := B.returns
  have hts := atoms_spec (ws := wsX8_isHolder) B.pre
  have hown : s.vm.findClass RX8 = some m.cls := findClass_of_methodNamed B.named
  have hlocks := B.notSynchronized
  have hK := hAM.1
  generalize hE : (x_X8_isHolder p0) = Rv
  rw [x_X8_isHolder] at hE
  have hl := lv_entry ([.int p0]) (n := 1) (Nat.le_of_ble_eq_true rfl)
  rw [lg_entry_eq]
  generalize (lg_sl ([.int p0]) ++ List.replicate (1 - (lg_sl ([.int p0])).length) Slot.unset).toArray = ls at hl ⊢
  have hl : lv_has ls 1 [(0, .int p0)] := hl
  refine lv_iload_n hx hb dX8_isHolder_0 rfl (lv_at hl 0 rfl) ?_
  refine lv_iconst (v := 1) hx hb dX8_isHolder_1 (by decide) ?_
  refine lv_iconst (v := 5) hx hb dX8_isHolder_2 (by decide) ?_
  refine ro_call (va_runS (As := [.int p0, .int 1, .int 5]) (rest := []) ⟨hx, hb, hml, hown, hts⟩ (c_X8_within l D cI cZ cR _ p0 1 5) (va_cwS 3 hts gX8_isHolder_X8_within rfl rfl rfl hd_X8_within ⟨(Nat.le_of_ble_eq_true rfl), (Nat.le_of_ble_eq_true rfl)⟩) (po_pre hAM va_P.nil) rfl rfl hl.1 rfl (lv_room (Nat.le_of_ble_eq_true rfl)) dX8_isHolder_3 ⟨(Nat.le_of_ble_eq_true rfl), (Nat.le_of_ble_eq_true rfl)⟩) ?_
  exact w_zret (v := (x_X8_within p0 1 5)) hx hb hr hlocks hE dX8_isHolder_6

theorem hd_X8_isSet : yX8_isSet.cls ≠ "java/lang/invoke/MethodHandle" ∧ yX8_isSet.cls ≠ "java/lang/invoke/VarHandle" ∧ (parseMethodDescriptor yX8_isSet.desc).map (fun d => d.parameters.length) = some 1 := by decide +kernel
def x_X8_isSet (p0 : Int32) : Bool := (if (x_X8_within p0 2 62) = true then (if (p0 &&& 1) = 0 then true else false) else false)
def rm_X8_isSet : Room := { frames := 1, cells := 0, slots := 0, locals := 22 }
set_option maxHeartbeats 4000000 in
set_option maxRecDepth 100000 in
theorem c_X8_isSet (l : Launch) (D : va_G) (cI cZ cR : ClassId) (H0 : Heap) (p0 : Int32) : Met l yX8_isSet wsX8_isSet rm_X8_isSet (po_P D cI cZ cR [.int p0] [] H0) (po_Q (some (.int (bI (x_X8_isSet p0)))) H0) 0 0 nF := by
  refine Met.ofW (cc := cX8_isSet) (maxL := 1) (ret := (some .boolean)) (by decide +kernel) rfl ?_
  intro p e s m args below meth c s₁ B hml hv
  obtain ⟨rfl, rfl, hAM, hP⟩ := hv
  have hx := B.exec
  have hb := B.bytes
  have hr := B.returns
  have hts := atoms_spec (ws := wsX8_isSet) B.pre
  have hown : s.vm.findClass RX8 = some m.cls := findClass_of_methodNamed B.named
  have hlocks := B.notSynchronized
  have hK := hAM.1
  generalize hE : (x_X8_isSet p0) = Rv
  rw [x_X8_isSet] at hE
  have hl := lv_entry ([.int p0]) (n := 1) (Nat.le_of_ble_eq_true rfl)
  rw [lg_entry_eq]
  generalize (lg_sl ([.int p0]) ++ List.replicate (1 - (lg_sl ([.int p0])).length) Slot.unset).toArray = ls at hl ⊢
  have hl : lv_has ls 1 [(0, .int p0)] := hl
  refine lv_iload_n hx hb dX8_isSet_0 rfl (lv_at hl 0 rfl) ?_
  refine lv_iconst (v := 2) hx hb dX8_isSet_1 (by decide) ?_
  refine lv_bipush (v := 62) hx hb dX8_isSet_2 (by decide +kernel) ?_
  refine ro_call (va_runS (As := [.int p0, .int 2, .int 62]) (rest := []) ⟨hx, hb, hml, hown, hts⟩ (c_X8_within l D cI cZ cR _ p0 2 62) (va_cwS 3 hts gX8_isSet_X8_within rfl rfl rfl hd_X8_within ⟨(Nat.le_of_ble_eq_true rfl), (Nat.le_of_ble_eq_true rfl)⟩) (po_pre hAM va_P.nil) rfl rfl hl.1 rfl (lv_room (Nat.le_of_ble_eq_true rfl)) dX8_isSet_4 ⟨(Nat.le_of_ble_eq_true rfl), (Nat.le_of_ble_eq_true rfl)⟩) ?_
  refine w_if_eqb (tgt := 20) hx hb dX8_isSet_7 (by decide) (fun c_7 => ?_) (fun c_7 => ?_)
  · have hE := itF hE c_7
    refine lv_iconst (v := 0) hx hb dX8_isSet_20 (by decide) ?_
    exact w_zret (v := false) hx hb hr hlocks hE dX8_isSet_21
  · have hE := itT hE c_7
    refine lv_iload_n hx hb dX8_isSet_10 rfl (lv_at hl 0 rfl) ?_
    refine lv_iconst (v := 1) hx hb dX8_isSet_11 (by decide) ?_
    refine lv_iand hx hb dX8_isSet_12 ?_
    refine lv_if_ne (tgt := 20) hx hb dX8_isSet_13 (by decide) (fun c_13 => ?_) (fun c_13 => ?_)
    · have hE := itF hE c_13
      refine lv_iconst (v := 0) hx hb dX8_isSet_20 (by decide) ?_
      exact w_zret (v := false) hx hb hr hlocks hE dX8_isSet_21
    · have hE := itT hE c_13
      refine lv_iconst (v := 1) hx hb dX8_isSet_16 (by decide) ?_
      refine lv_goto (tgt := 21) hx hb dX8_isSet_17 (by decide) ?_
      exact w_zret (v := true) hx hb hr hlocks hE dX8_isSet_21

theorem hd_X8_isIn : yX8_isIn.cls ≠ "java/lang/invoke/MethodHandle" ∧ yX8_isIn.cls ≠ "java/lang/invoke/VarHandle" ∧ (parseMethodDescriptor yX8_isIn.desc).map (fun d => d.parameters.length) = some 2 := by decide +kernel
def x_X8_isIn (p0 : Int32) (p1 : Int32) : Bool := (if ((xShr p1 p0) &&& 1) = 1 then true else false)
def rm_X8_isIn : Room := { frames := 0, cells := 0, slots := 0, locals := 0 }
set_option maxHeartbeats 4000000 in
set_option maxRecDepth 100000 in
theorem c_X8_isIn (l : Launch) (D : va_G) (cI cZ cR : ClassId) (H0 : Heap) (p0 : Int32) (p1 : Int32) : Met l yX8_isIn wsX8_isIn rm_X8_isIn (po_P D cI cZ cR [.int p0, .int p1] [] H0) (po_Q (some (.int (bI (x_X8_isIn p0 p1)))) H0) 0 0 nF := by
  refine Met.ofW (cc := cX8_isIn) (maxL := 2) (ret := (some .boolean)) (by decide +kernel) rfl ?_
  intro p e s m args below meth c s₁ B hml hv
  obtain ⟨rfl, rfl, hAM, hP⟩ := hv
  have hx := B.exec
  have hb := B.bytes
  have hr := B.returns
  have hts := atoms_spec (ws := wsX8_isIn) B.pre
  have hown : s.vm.findClass RX8 = some m.cls := findClass_of_methodNamed B.named
  have hlocks := B.notSynchronized
  have hK := hAM.1
  generalize hE : (x_X8_isIn p0 p1) = Rv
  rw [x_X8_isIn] at hE
  have hl := lv_entry ([.int p0, .int p1]) (n := 2) (Nat.le_of_ble_eq_true rfl)
  rw [lg_entry_eq]
  generalize (lg_sl ([.int p0, .int p1]) ++ List.replicate (2 - (lg_sl ([.int p0, .int p1])).length) Slot.unset).toArray = ls at hl ⊢
  have hl : lv_has ls 2 [(0, .int p0), (1, .int p1)] := hl
  refine lv_iload_n hx hb dX8_isIn_0 rfl (lv_at hl 1 rfl) ?_
  refine lv_iload_n hx hb dX8_isIn_1 rfl (lv_at hl 0 rfl) ?_
  refine w_ishr hx hb dX8_isIn_2 ?_
  refine lv_iconst (v := 1) hx hb dX8_isIn_3 (by decide) ?_
  refine lv_iand hx hb dX8_isIn_4 ?_
  refine lv_iconst (v := 1) hx hb dX8_isIn_5 (by decide) ?_
  refine lv_icmp_ne (tgt := 13) hx hb dX8_isIn_6 (by decide) (fun c_6 => ?_) (fun c_6 => ?_)
  · have hE := itF hE c_6
    refine lv_iconst (v := 0) hx hb dX8_isIn_13 (by decide) ?_
    exact w_zret (v := false) hx hb hr hlocks hE dX8_isIn_14
  · have hE := itT hE c_6
    refine lv_iconst (v := 1) hx hb dX8_isIn_9 (by decide) ?_
    refine lv_goto (tgt := 14) hx hb dX8_isIn_10 (by decide) ?_
    exact w_zret (v := true) hx hb hr hlocks hE dX8_isIn_14

theorem hd_X8_isVoter : yX8_isVoter.cls ≠ "java/lang/invoke/MethodHandle" ∧ yX8_isVoter.cls ≠ "java/lang/invoke/VarHandle" ∧ (parseMethodDescriptor yX8_isVoter.desc).map (fun d => d.parameters.length) = some 1 := by decide +kernel
def x_X8_isVoter (p0 : Int32) : Bool := (x_X8_within p0 0 11)
def rm_X8_isVoter : Room := { frames := 1, cells := 0, slots := 0, locals := 22 }
set_option maxHeartbeats 4000000 in
set_option maxRecDepth 100000 in
theorem c_X8_isVoter (l : Launch) (D : va_G) (cI cZ cR : ClassId) (H0 : Heap) (p0 : Int32) : Met l yX8_isVoter wsX8_isVoter rm_X8_isVoter (po_P D cI cZ cR [.int p0] [] H0) (po_Q (some (.int (bI (x_X8_isVoter p0)))) H0) 0 0 nF := by
  refine Met.ofW (cc := cX8_isVoter) (maxL := 1) (ret := (some .boolean)) (by decide +kernel) rfl ?_
  intro p e s m args below meth c s₁ B hml hv
  obtain ⟨rfl, rfl, hAM, hP⟩ := hv
  have hx := B.exec
  have hb := B.bytes
  have hr := B.returns
  have hts := atoms_spec (ws := wsX8_isVoter) B.pre
  have hown : s.vm.findClass RX8 = some m.cls := findClass_of_methodNamed B.named
  have hlocks := B.notSynchronized
  have hK := hAM.1
  generalize hE : (x_X8_isVoter p0) = Rv
  rw [x_X8_isVoter] at hE
  have hl := lv_entry ([.int p0]) (n := 1) (Nat.le_of_ble_eq_true rfl)
  rw [lg_entry_eq]
  generalize (lg_sl ([.int p0]) ++ List.replicate (1 - (lg_sl ([.int p0])).length) Slot.unset).toArray = ls at hl ⊢
  have hl : lv_has ls 1 [(0, .int p0)] := hl
  refine lv_iload_n hx hb dX8_isVoter_0 rfl (lv_at hl 0 rfl) ?_
  refine lv_iconst (v := 0) hx hb dX8_isVoter_1 (by decide) ?_
  refine lv_bipush (v := 11) hx hb dX8_isVoter_2 (by decide +kernel) ?_
  refine ro_call (va_runS (As := [.int p0, .int 0, .int 11]) (rest := []) ⟨hx, hb, hml, hown, hts⟩ (c_X8_within l D cI cZ cR _ p0 0 11) (va_cwS 3 hts gX8_isVoter_X8_within rfl rfl rfl hd_X8_within ⟨(Nat.le_of_ble_eq_true rfl), (Nat.le_of_ble_eq_true rfl)⟩) (po_pre hAM va_P.nil) rfl rfl hl.1 rfl (lv_room (Nat.le_of_ble_eq_true rfl)) dX8_isVoter_4 ⟨(Nat.le_of_ble_eq_true rfl), (Nat.le_of_ble_eq_true rfl)⟩) ?_
  exact w_zret (v := (x_X8_within p0 0 11)) hx hb hr hlocks hE dX8_isVoter_7

theorem hd_X8_isRowNumber : yX8_isRowNumber.cls ≠ "java/lang/invoke/MethodHandle" ∧ yX8_isRowNumber.cls ≠ "java/lang/invoke/VarHandle" ∧ (parseMethodDescriptor yX8_isRowNumber.desc).map (fun d => d.parameters.length) = some 1 := by decide +kernel
def x_X8_isRowNumber (p0 : Int32) : Bool := (x_X8_within p0 0 1000000)
def rm_X8_isRowNumber : Room := { frames := 1, cells := 0, slots := 0, locals := 22 }
set_option maxHeartbeats 4000000 in
set_option maxRecDepth 100000 in
theorem c_X8_isRowNumber (l : Launch) (D : va_G) (cI cZ cR : ClassId) (H0 : Heap) (p0 : Int32) : Met l yX8_isRowNumber wsX8_isRowNumber rm_X8_isRowNumber (po_P D cI cZ cR [.int p0] [] H0) (po_Q (some (.int (bI (x_X8_isRowNumber p0)))) H0) 0 0 nF := by
  refine Met.ofW (cc := cX8_isRowNumber) (maxL := 1) (ret := (some .boolean)) (by decide +kernel) rfl ?_
  intro p e s m args below meth c s₁ B hml hv
  obtain ⟨rfl, rfl, hAM, hP⟩ := hv
  have hx := B.exec
  have hb := B.bytes
  have hr := B.returns
  have hts := atoms_spec (ws := wsX8_isRowNumber) B.pre
  have hown : s.vm.findClass RX8 = some m.cls := findClass_of_methodNamed B.named
  have hlocks := B.notSynchronized
  have hK := hAM.1
  generalize hE : (x_X8_isRowNumber p0) = Rv
  rw [x_X8_isRowNumber] at hE
  have hl := lv_entry ([.int p0]) (n := 1) (Nat.le_of_ble_eq_true rfl)
  rw [lg_entry_eq]
  generalize (lg_sl ([.int p0]) ++ List.replicate (1 - (lg_sl ([.int p0])).length) Slot.unset).toArray = ls at hl ⊢
  have hl : lv_has ls 1 [(0, .int p0)] := hl
  refine lv_iload_n hx hb dX8_isRowNumber_0 rfl (lv_at hl 0 rfl) ?_
  refine lv_iconst (v := 0) hx hb dX8_isRowNumber_1 (by decide) ?_
  refine lv_ldc hx hb hown (hts (.constant RX8 244 (1000000)) (List.mem_of_getElem? (i := 1) rfl)) dX8_isRowNumber_2 ?_
  refine ro_call (va_runS (As := [.int p0, .int 0, .int 1000000]) (rest := []) ⟨hx, hb, hml, hown, hts⟩ (c_X8_within l D cI cZ cR _ p0 0 1000000) (va_cwS 3 hts gX8_isRowNumber_X8_within rfl rfl rfl hd_X8_within ⟨(Nat.le_of_ble_eq_true rfl), (Nat.le_of_ble_eq_true rfl)⟩) (po_pre hAM va_P.nil) rfl rfl hl.1 rfl (lv_room (Nat.le_of_ble_eq_true rfl)) dX8_isRowNumber_4 ⟨(Nat.le_of_ble_eq_true rfl), (Nat.le_of_ble_eq_true rfl)⟩) ?_
  exact w_zret (v := (x_X8_within p0 0 1000000)) hx hb hr hlocks hE dX8_isRowNumber_7

theorem hd_X8_areBooth : yX8_areBooth.cls ≠ "java/lang/invoke/MethodHandle" ∧ yX8_areBooth.cls ≠ "java/lang/invoke/VarHandle" ∧ (parseMethodDescriptor yX8_areBooth.desc).map (fun d => d.parameters.length) = some 2 := by decide +kernel
def x_X8_areBooth (p0 : Int32) (p1 : Int32) : Bool := (if (x_X8_within p0 1 40) = true then (if (x_X8_within p1 0 p0) = true then true else false) else false)
def rm_X8_areBooth : Room := { frames := 1, cells := 0, slots := 0, locals := 22 }
set_option maxHeartbeats 4000000 in
set_option maxRecDepth 100000 in
theorem c_X8_areBooth (l : Launch) (D : va_G) (cI cZ cR : ClassId) (H0 : Heap) (p0 : Int32) (p1 : Int32) : Met l yX8_areBooth wsX8_areBooth rm_X8_areBooth (po_P D cI cZ cR [.int p0, .int p1] [] H0) (po_Q (some (.int (bI (x_X8_areBooth p0 p1)))) H0) 0 0 nF := by
  refine Met.ofW (cc := cX8_areBooth) (maxL := 2) (ret := (some .boolean)) (by decide +kernel) rfl ?_
  intro p e s m args below meth c s₁ B hml hv
  obtain ⟨rfl, rfl, hAM, hP⟩ := hv
  have hx := B.exec
  have hb := B.bytes
  have hr := B.returns
  have hts := atoms_spec (ws := wsX8_areBooth) B.pre
  have hown : s.vm.findClass RX8 = some m.cls := findClass_of_methodNamed B.named
  have hlocks := B.notSynchronized
  have hK := hAM.1
  generalize hE : (x_X8_areBooth p0 p1) = Rv
  rw [x_X8_areBooth] at hE
  have hl := lv_entry ([.int p0, .int p1]) (n := 2) (Nat.le_of_ble_eq_true rfl)
  rw [lg_entry_eq]
  generalize (lg_sl ([.int p0, .int p1]) ++ List.replicate (2 - (lg_sl ([.int p0, .int p1])).length) Slot.unset).toArray = ls at hl ⊢
  have hl : lv_has ls 2 [(0, .int p0), (1, .int p1)] := hl
  refine lv_iload_n hx hb dX8_areBooth_0 rfl (lv_at hl 0 rfl) ?_
  refine lv_iconst (v := 1) hx hb dX8_areBooth_1 (by decide) ?_
  refine lv_bipush (v := 40) hx hb dX8_areBooth_2 (by decide +kernel) ?_
  refine ro_call (va_runS (As := [.int p0, .int 1, .int 40]) (rest := []) ⟨hx, hb, hml, hown, hts⟩ (c_X8_within l D cI cZ cR _ p0 1 40) (va_cwS 3 hts gX8_areBooth_X8_within rfl rfl rfl hd_X8_within ⟨(Nat.le_of_ble_eq_true rfl), (Nat.le_of_ble_eq_true rfl)⟩) (po_pre hAM va_P.nil) rfl rfl hl.1 rfl (lv_room (Nat.le_of_ble_eq_true rfl)) dX8_areBooth_4 ⟨(Nat.le_of_ble_eq_true rfl), (Nat.le_of_ble_eq_true rfl)⟩) ?_
  refine w_if_eqb (tgt := 23) hx hb dX8_areBooth_7 (by decide) (fun c_7 => ?_) (fun c_7 => ?_)
  · have hE := itF hE c_7
    refine lv_iconst (v := 0) hx hb dX8_areBooth_23 (by decide) ?_
    exact w_zret (v := false) hx hb hr hlocks hE dX8_areBooth_24
  · have hE := itT hE c_7
    refine lv_iload_n hx hb dX8_areBooth_10 rfl (lv_at hl 1 rfl) ?_
    refine lv_iconst (v := 0) hx hb dX8_areBooth_11 (by decide) ?_
    refine lv_iload_n hx hb dX8_areBooth_12 rfl (lv_at hl 0 rfl) ?_
    refine ro_call (va_runS (As := [.int p1, .int 0, .int p0]) (rest := []) ⟨hx, hb, hml, hown, hts⟩ (c_X8_within l D cI cZ cR _ p1 0 p0) (va_cwS 3 hts gX8_areBooth_X8_within rfl rfl rfl hd_X8_within ⟨(Nat.le_of_ble_eq_true rfl), (Nat.le_of_ble_eq_true rfl)⟩) (po_pre hAM va_P.nil) rfl rfl hl.1 rfl (lv_room (Nat.le_of_ble_eq_true rfl)) dX8_areBooth_13 ⟨(Nat.le_of_ble_eq_true rfl), (Nat.le_of_ble_eq_true rfl)⟩) ?_
    refine w_if_eqb (tgt := 23) hx hb dX8_areBooth_16 (by decide) (fun c_16 => ?_) (fun c_16 => ?_)
    · have hE := itF hE c_16
      refine lv_iconst (v := 0) hx hb dX8_areBooth_23 (by decide) ?_
      exact w_zret (v := false) hx hb hr hlocks hE dX8_areBooth_24
    · have hE := itT hE c_16
      refine lv_iconst (v := 1) hx hb dX8_areBooth_19 (by decide) ?_
      refine lv_goto (tgt := 24) hx hb dX8_areBooth_20 (by decide) ?_
      exact w_zret (v := true) hx hb hr hlocks hE dX8_areBooth_24

theorem hd_X8_areSums : yX8_areSums.cls ≠ "java/lang/invoke/MethodHandle" ∧ yX8_areSums.cls ≠ "java/lang/invoke/VarHandle" ∧ (parseMethodDescriptor yX8_areSums.desc).map (fun d => d.parameters.length) = some 3 := by decide +kernel
def x_X8_areSums (p0 : Int32) (p1 : Int32) (p2 : Int32) : Bool := (if (x_X8_within p0 0 8) = true then (if (x_X8_within p1 0 8) = true then (if (x_X8_within p2 0 8) = true then (if (x_X8_within ((p0 + p1) + p2) 1 8) = true then true else false) else false) else false) else false)
def rm_X8_areSums : Room := { frames := 1, cells := 0, slots := 0, locals := 22 }
set_option maxHeartbeats 4000000 in
set_option maxRecDepth 100000 in
theorem c_X8_areSums (l : Launch) (D : va_G) (cI cZ cR : ClassId) (H0 : Heap) (p0 : Int32) (p1 : Int32) (p2 : Int32) : Met l yX8_areSums wsX8_areSums rm_X8_areSums (po_P D cI cZ cR [.int p0, .int p1, .int p2] [] H0) (po_Q (some (.int (bI (x_X8_areSums p0 p1 p2)))) H0) 0 0 nF := by
  refine Met.ofW (cc := cX8_areSums) (maxL := 3) (ret := (some .boolean)) (by decide +kernel) rfl ?_
  intro p e s m args below meth c s₁ B hml hv
  obtain ⟨rfl, rfl, hAM, hP⟩ := hv
  have hx := B.exec
  have hb := B.bytes
  have hr := B.returns
  have hts := atoms_spec (ws := wsX8_areSums) B.pre
  have hown : s.vm.findClass RX8 = some m.cls := findClass_of_methodNamed B.named
  have hlocks := B.notSynchronized
  have hK := hAM.1
  generalize hE : (x_X8_areSums p0 p1 p2) = Rv
  rw [x_X8_areSums] at hE
  have hl := lv_entry ([.int p0, .int p1, .int p2]) (n := 3) (Nat.le_of_ble_eq_true rfl)
  rw [lg_entry_eq]
  generalize (lg_sl ([.int p0, .int p1, .int p2]) ++ List.replicate (3 - (lg_sl ([.int p0, .int p1, .int p2])).length) Slot.unset).toArray = ls at hl ⊢
  have hl : lv_has ls 3 [(0, .int p0), (1, .int p1), (2, .int p2)] := hl
  refine lv_iload_n hx hb dX8_areSums_0 rfl (lv_at hl 0 rfl) ?_
  refine lv_iconst (v := 0) hx hb dX8_areSums_1 (by decide) ?_
  refine lv_bipush (v := 8) hx hb dX8_areSums_2 (by decide +kernel) ?_
  refine ro_call (va_runS (As := [.int p0, .int 0, .int 8]) (rest := []) ⟨hx, hb, hml, hown, hts⟩ (c_X8_within l D cI cZ cR _ p0 0 8) (va_cwS 3 hts gX8_areSums_X8_within rfl rfl rfl hd_X8_within ⟨(Nat.le_of_ble_eq_true rfl), (Nat.le_of_ble_eq_true rfl)⟩) (po_pre hAM va_P.nil) rfl rfl hl.1 rfl (lv_room (Nat.le_of_ble_eq_true rfl)) dX8_areSums_4 ⟨(Nat.le_of_ble_eq_true rfl), (Nat.le_of_ble_eq_true rfl)⟩) ?_
  refine w_if_eqb (tgt := 48) hx hb dX8_areSums_7 (by decide) (fun c_7 => ?_) (fun c_7 => ?_)
  · have hE := itF hE c_7
    refine lv_iconst (v := 0) hx hb dX8_areSums_48 (by decide) ?_
    exact w_zret (v := false) hx hb hr hlocks hE dX8_areSums_49
  · have hE := itT hE c_7
    refine lv_iload_n hx hb dX8_areSums_10 rfl (lv_at hl 1 rfl) ?_
    refine lv_iconst (v := 0) hx hb dX8_areSums_11 (by decide) ?_
    refine lv_bipush (v := 8) hx hb dX8_areSums_12 (by decide +kernel) ?_
    refine ro_call (va_runS (As := [.int p1, .int 0, .int 8]) (rest := []) ⟨hx, hb, hml, hown, hts⟩ (c_X8_within l D cI cZ cR _ p1 0 8) (va_cwS 3 hts gX8_areSums_X8_within rfl rfl rfl hd_X8_within ⟨(Nat.le_of_ble_eq_true rfl), (Nat.le_of_ble_eq_true rfl)⟩) (po_pre hAM va_P.nil) rfl rfl hl.1 rfl (lv_room (Nat.le_of_ble_eq_true rfl)) dX8_areSums_14 ⟨(Nat.le_of_ble_eq_true rfl), (Nat.le_of_ble_eq_true rfl)⟩) ?_
    refine w_if_eqb (tgt := 48) hx hb dX8_areSums_17 (by decide) (fun c_17 => ?_) (fun c_17 => ?_)
    · have hE := itF hE c_17
      refine lv_iconst (v := 0) hx hb dX8_areSums_48 (by decide) ?_
      exact w_zret (v := false) hx hb hr hlocks hE dX8_areSums_49
    · have hE := itT hE c_17
      refine lv_iload_n hx hb dX8_areSums_20 rfl (lv_at hl 2 rfl) ?_
      refine lv_iconst (v := 0) hx hb dX8_areSums_21 (by decide) ?_
      refine lv_bipush (v := 8) hx hb dX8_areSums_22 (by decide +kernel) ?_
      refine ro_call (va_runS (As := [.int p2, .int 0, .int 8]) (rest := []) ⟨hx, hb, hml, hown, hts⟩ (c_X8_within l D cI cZ cR _ p2 0 8) (va_cwS 3 hts gX8_areSums_X8_within rfl rfl rfl hd_X8_within ⟨(Nat.le_of_ble_eq_true rfl), (Nat.le_of_ble_eq_true rfl)⟩) (po_pre hAM va_P.nil) rfl rfl hl.1 rfl (lv_room (Nat.le_of_ble_eq_true rfl)) dX8_areSums_24 ⟨(Nat.le_of_ble_eq_true rfl), (Nat.le_of_ble_eq_true rfl)⟩) ?_
      refine w_if_eqb (tgt := 48) hx hb dX8_areSums_27 (by decide) (fun c_27 => ?_) (fun c_27 => ?_)
      · have hE := itF hE c_27
        refine lv_iconst (v := 0) hx hb dX8_areSums_48 (by decide) ?_
        exact w_zret (v := false) hx hb hr hlocks hE dX8_areSums_49
      · have hE := itT hE c_27
        refine lv_iload_n hx hb dX8_areSums_30 rfl (lv_at hl 0 rfl) ?_
        refine lv_iload_n hx hb dX8_areSums_31 rfl (lv_at hl 1 rfl) ?_
        refine lv_iadd hx hb dX8_areSums_32 ?_
        refine lv_iload_n hx hb dX8_areSums_33 rfl (lv_at hl 2 rfl) ?_
        refine lv_iadd hx hb dX8_areSums_34 ?_
        refine lv_iconst (v := 1) hx hb dX8_areSums_35 (by decide) ?_
        refine lv_bipush (v := 8) hx hb dX8_areSums_36 (by decide +kernel) ?_
        refine ro_call (va_runS (As := [.int ((p0 + p1) + p2), .int 1, .int 8]) (rest := []) ⟨hx, hb, hml, hown, hts⟩ (c_X8_within l D cI cZ cR _ ((p0 + p1) + p2) 1 8) (va_cwS 3 hts gX8_areSums_X8_within rfl rfl rfl hd_X8_within ⟨(Nat.le_of_ble_eq_true rfl), (Nat.le_of_ble_eq_true rfl)⟩) (po_pre hAM va_P.nil) rfl rfl hl.1 rfl (lv_room (Nat.le_of_ble_eq_true rfl)) dX8_areSums_38 ⟨(Nat.le_of_ble_eq_true rfl), (Nat.le_of_ble_eq_true rfl)⟩) ?_
        refine w_if_eqb (tgt := 48) hx hb dX8_areSums_41 (by decide) (fun c_41 => ?_) (fun c_41 => ?_)
        · have hE := itF hE c_41
          refine lv_iconst (v := 0) hx hb dX8_areSums_48 (by decide) ?_
          exact w_zret (v := false) hx hb hr hlocks hE dX8_areSums_49
        · have hE := itT hE c_41
          refine lv_iconst (v := 1) hx hb dX8_areSums_44 (by decide) ?_
          refine lv_goto (tgt := 49) hx hb dX8_areSums_45 (by decide) ?_
          exact w_zret (v := true) hx hb hr hlocks hE dX8_areSums_49

theorem hd_X8_areKnown : yX8_areKnown.cls ≠ "java/lang/invoke/MethodHandle" ∧ yX8_areKnown.cls ≠ "java/lang/invoke/VarHandle" ∧ (parseMethodDescriptor yX8_areKnown.desc).map (fun d => d.parameters.length) = some 6 := by decide +kernel
def x_X8_areKnown (p0 : Int32) (p1 : Int32) (p2 : Int32) (p3 : Int32) (p4 : Int32) (p5 : Int32) : Bool := (if (x_X8_within p3 0 p0) = true then (if (x_X8_within p4 0 p1) = true then (if (x_X8_within p5 0 p2) = true then true else false) else false) else false)
def rm_X8_areKnown : Room := { frames := 1, cells := 0, slots := 0, locals := 22 }
set_option maxHeartbeats 4000000 in
set_option maxRecDepth 100000 in
theorem c_X8_areKnown (l : Launch) (D : va_G) (cI cZ cR : ClassId) (H0 : Heap) (p0 : Int32) (p1 : Int32) (p2 : Int32) (p3 : Int32) (p4 : Int32) (p5 : Int32) : Met l yX8_areKnown wsX8_areKnown rm_X8_areKnown (po_P D cI cZ cR [.int p0, .int p1, .int p2, .int p3, .int p4, .int p5] [] H0) (po_Q (some (.int (bI (x_X8_areKnown p0 p1 p2 p3 p4 p5)))) H0) 0 0 nF := by
  refine Met.ofW (cc := cX8_areKnown) (maxL := 6) (ret := (some .boolean)) (by decide +kernel) rfl ?_
  intro p e s m args below meth c s₁ B hml hv
  obtain ⟨rfl, rfl, hAM, hP⟩ := hv
  have hx := B.exec
  have hb := B.bytes
  have hr := B.returns
  have hts := atoms_spec (ws := wsX8_areKnown) B.pre
  have hown : s.vm.findClass RX8 = some m.cls := findClass_of_methodNamed B.named
  have hlocks := B.notSynchronized
  have hK := hAM.1
  generalize hE : (x_X8_areKnown p0 p1 p2 p3 p4 p5) = Rv
  rw [x_X8_areKnown] at hE
  have hl := lv_entry ([.int p0, .int p1, .int p2, .int p3, .int p4, .int p5]) (n := 6) (Nat.le_of_ble_eq_true rfl)
  rw [lg_entry_eq]
  generalize (lg_sl ([.int p0, .int p1, .int p2, .int p3, .int p4, .int p5]) ++ List.replicate (6 - (lg_sl ([.int p0, .int p1, .int p2, .int p3, .int p4, .int p5])).length) Slot.unset).toArray = ls at hl ⊢
  have hl : lv_has ls 6 [(0, .int p0), (1, .int p1), (2, .int p2), (3, .int p3), (4, .int p4), (5, .int p5)] := hl
  refine lv_iload_n hx hb dX8_areKnown_0 rfl (lv_at hl 3 rfl) ?_
  refine lv_iconst (v := 0) hx hb dX8_areKnown_1 (by decide) ?_
  refine lv_iload_n hx hb dX8_areKnown_2 rfl (lv_at hl 0 rfl) ?_
  refine ro_call (va_runS (As := [.int p3, .int 0, .int p0]) (rest := []) ⟨hx, hb, hml, hown, hts⟩ (c_X8_within l D cI cZ cR _ p3 0 p0) (va_cwS 3 hts gX8_areKnown_X8_within rfl rfl rfl hd_X8_within ⟨(Nat.le_of_ble_eq_true rfl), (Nat.le_of_ble_eq_true rfl)⟩) (po_pre hAM va_P.nil) rfl rfl hl.1 rfl (lv_room (Nat.le_of_ble_eq_true rfl)) dX8_areKnown_3 ⟨(Nat.le_of_ble_eq_true rfl), (Nat.le_of_ble_eq_true rfl)⟩) ?_
  refine w_if_eqb (tgt := 33) hx hb dX8_areKnown_6 (by decide) (fun c_6 => ?_) (fun c_6 => ?_)
  · have hE := itF hE c_6
    refine lv_iconst (v := 0) hx hb dX8_areKnown_33 (by decide) ?_
    exact w_zret (v := false) hx hb hr hlocks hE dX8_areKnown_34
  · have hE := itT hE c_6
    refine lv_iload hx hb dX8_areKnown_9 (lv_at hl 4 rfl) ?_
    refine lv_iconst (v := 0) hx hb dX8_areKnown_11 (by decide) ?_
    refine lv_iload_n hx hb dX8_areKnown_12 rfl (lv_at hl 1 rfl) ?_
    refine ro_call (va_runS (As := [.int p4, .int 0, .int p1]) (rest := []) ⟨hx, hb, hml, hown, hts⟩ (c_X8_within l D cI cZ cR _ p4 0 p1) (va_cwS 3 hts gX8_areKnown_X8_within rfl rfl rfl hd_X8_within ⟨(Nat.le_of_ble_eq_true rfl), (Nat.le_of_ble_eq_true rfl)⟩) (po_pre hAM va_P.nil) rfl rfl hl.1 rfl (lv_room (Nat.le_of_ble_eq_true rfl)) dX8_areKnown_13 ⟨(Nat.le_of_ble_eq_true rfl), (Nat.le_of_ble_eq_true rfl)⟩) ?_
    refine w_if_eqb (tgt := 33) hx hb dX8_areKnown_16 (by decide) (fun c_16 => ?_) (fun c_16 => ?_)
    · have hE := itF hE c_16
      refine lv_iconst (v := 0) hx hb dX8_areKnown_33 (by decide) ?_
      exact w_zret (v := false) hx hb hr hlocks hE dX8_areKnown_34
    · have hE := itT hE c_16
      refine lv_iload hx hb dX8_areKnown_19 (lv_at hl 5 rfl) ?_
      refine lv_iconst (v := 0) hx hb dX8_areKnown_21 (by decide) ?_
      refine lv_iload_n hx hb dX8_areKnown_22 rfl (lv_at hl 2 rfl) ?_
      refine ro_call (va_runS (As := [.int p5, .int 0, .int p2]) (rest := []) ⟨hx, hb, hml, hown, hts⟩ (c_X8_within l D cI cZ cR _ p5 0 p2) (va_cwS 3 hts gX8_areKnown_X8_within rfl rfl rfl hd_X8_within ⟨(Nat.le_of_ble_eq_true rfl), (Nat.le_of_ble_eq_true rfl)⟩) (po_pre hAM va_P.nil) rfl rfl hl.1 rfl (lv_room (Nat.le_of_ble_eq_true rfl)) dX8_areKnown_23 ⟨(Nat.le_of_ble_eq_true rfl), (Nat.le_of_ble_eq_true rfl)⟩) ?_
      refine w_if_eqb (tgt := 33) hx hb dX8_areKnown_26 (by decide) (fun c_26 => ?_) (fun c_26 => ?_)
      · have hE := itF hE c_26
        refine lv_iconst (v := 0) hx hb dX8_areKnown_33 (by decide) ?_
        exact w_zret (v := false) hx hb hr hlocks hE dX8_areKnown_34
      · have hE := itT hE c_26
        refine lv_iconst (v := 1) hx hb dX8_areKnown_29 (by decide) ?_
        refine lv_goto (tgt := 34) hx hb dX8_areKnown_30 (by decide) ?_
        exact w_zret (v := true) hx hb hr hlocks hE dX8_areKnown_34

theorem hd_X6_isName : yX6_isName.cls ≠ "java/lang/invoke/MethodHandle" ∧ yX6_isName.cls ≠ "java/lang/invoke/VarHandle" ∧ (parseMethodDescriptor yX6_isName.desc).map (fun d => d.parameters.length) = some 1 := by decide +kernel
def x_X6_isName (p0 : Int32) : Bool := (if p0 = 97 then true else (if p0 = 121 then true else (if p0 = 98 then true else false)))
def rm_X6_isName : Room := { frames := 0, cells := 0, slots := 0, locals := 0 }
set_option maxHeartbeats 4000000 in
set_option maxRecDepth 100000 in
theorem c_X6_isName (l : Launch) (D : va_G) (cI cZ cR : ClassId) (H0 : Heap) (p0 : Int32) : Met l yX6_isName wsX6_isName rm_X6_isName (po_P D cI cZ cR [.int p0] [] H0) (po_Q (some (.int (bI (x_X6_isName p0)))) H0) 0 0 nF := by
  refine Met.ofW (cc := cX6_isName) (maxL := 1) (ret := (some .boolean)) (by decide +kernel) rfl ?_
  intro p e s m args below meth c s₁ B hml hv
  obtain ⟨rfl, rfl, hAM, hP⟩ := hv
  have hx := B.exec
  have hb := B.bytes
  have hr := B.returns
  have hts := atoms_spec (ws := wsX6_isName) B.pre
  have hown : s.vm.findClass RX6 = some m.cls := findClass_of_methodNamed B.named
  have hlocks := B.notSynchronized
  have hK := hAM.1
  generalize hE : (x_X6_isName p0) = Rv
  rw [x_X6_isName] at hE
  have hl := lv_entry ([.int p0]) (n := 1) (Nat.le_of_ble_eq_true rfl)
  rw [lg_entry_eq]
  generalize (lg_sl ([.int p0]) ++ List.replicate (1 - (lg_sl ([.int p0])).length) Slot.unset).toArray = ls at hl ⊢
  have hl : lv_has ls 1 [(0, .int p0)] := hl
  refine lv_iload_n hx hb dX6_isName_0 rfl (lv_at hl 0 rfl) ?_
  refine lv_bipush (v := 97) hx hb dX6_isName_1 (by decide +kernel) ?_
  refine lv_icmp_eq (tgt := 18) hx hb dX6_isName_3 (by decide) (fun c_3 => ?_) (fun c_3 => ?_)
  · have hE := itT hE c_3
    refine lv_iconst (v := 1) hx hb dX6_isName_18 (by decide) ?_
    refine lv_goto (tgt := 23) hx hb dX6_isName_19 (by decide) ?_
    exact w_zret (v := true) hx hb hr hlocks hE dX6_isName_23
  · have hE := itF hE c_3
    refine lv_iload_n hx hb dX6_isName_6 rfl (lv_at hl 0 rfl) ?_
    refine lv_bipush (v := 121) hx hb dX6_isName_7 (by decide +kernel) ?_
    refine lv_icmp_eq (tgt := 18) hx hb dX6_isName_9 (by decide) (fun c_9 => ?_) (fun c_9 => ?_)
    · have hE := itT hE c_9
      refine lv_iconst (v := 1) hx hb dX6_isName_18 (by decide) ?_
      refine lv_goto (tgt := 23) hx hb dX6_isName_19 (by decide) ?_
      exact w_zret (v := true) hx hb hr hlocks hE dX6_isName_23
    · have hE := itF hE c_9
      refine lv_iload_n hx hb dX6_isName_12 rfl (lv_at hl 0 rfl) ?_
      refine lv_bipush (v := 98) hx hb dX6_isName_13 (by decide +kernel) ?_
      refine lv_icmp_ne (tgt := 22) hx hb dX6_isName_15 (by decide) (fun c_15 => ?_) (fun c_15 => ?_)
      · have hE := itF hE c_15
        refine lv_iconst (v := 0) hx hb dX6_isName_22 (by decide) ?_
        exact w_zret (v := false) hx hb hr hlocks hE dX6_isName_23
      · have hE := itT hE c_15
        refine lv_iconst (v := 1) hx hb dX6_isName_18 (by decide) ?_
        refine lv_goto (tgt := 23) hx hb dX6_isName_19 (by decide) ?_
        exact w_zret (v := true) hx hb hr hlocks hE dX6_isName_23

theorem hd_X6_isCompare : yX6_isCompare.cls ≠ "java/lang/invoke/MethodHandle" ∧ yX6_isCompare.cls ≠ "java/lang/invoke/VarHandle" ∧ (parseMethodDescriptor yX6_isCompare.desc).map (fun d => d.parameters.length) = some 1 := by decide +kernel
def x_X6_isCompare (p0 : Int32) : Bool := (if p0 = 60 then true else (if p0 = 62 then true else (if p0 = 61 then true else false)))
def rm_X6_isCompare : Room := { frames := 0, cells := 0, slots := 0, locals := 0 }
set_option maxHeartbeats 4000000 in
set_option maxRecDepth 100000 in
theorem c_X6_isCompare (l : Launch) (D : va_G) (cI cZ cR : ClassId) (H0 : Heap) (p0 : Int32) : Met l yX6_isCompare wsX6_isCompare rm_X6_isCompare (po_P D cI cZ cR [.int p0] [] H0) (po_Q (some (.int (bI (x_X6_isCompare p0)))) H0) 0 0 nF := by
  refine Met.ofW (cc := cX6_isCompare) (maxL := 1) (ret := (some .boolean)) (by decide +kernel) rfl ?_
  intro p e s m args below meth c s₁ B hml hv
  obtain ⟨rfl, rfl, hAM, hP⟩ := hv
  have hx := B.exec
  have hb := B.bytes
  have hr := B.returns
  have hts := atoms_spec (ws := wsX6_isCompare) B.pre
  have hown : s.vm.findClass RX6 = some m.cls := findClass_of_methodNamed B.named
  have hlocks := B.notSynchronized
  have hK := hAM.1
  generalize hE : (x_X6_isCompare p0) = Rv
  rw [x_X6_isCompare] at hE
  have hl := lv_entry ([.int p0]) (n := 1) (Nat.le_of_ble_eq_true rfl)
  rw [lg_entry_eq]
  generalize (lg_sl ([.int p0]) ++ List.replicate (1 - (lg_sl ([.int p0])).length) Slot.unset).toArray = ls at hl ⊢
  have hl : lv_has ls 1 [(0, .int p0)] := hl
  refine lv_iload_n hx hb dX6_isCompare_0 rfl (lv_at hl 0 rfl) ?_
  refine lv_bipush (v := 60) hx hb dX6_isCompare_1 (by decide +kernel) ?_
  refine lv_icmp_eq (tgt := 18) hx hb dX6_isCompare_3 (by decide) (fun c_3 => ?_) (fun c_3 => ?_)
  · have hE := itT hE c_3
    refine lv_iconst (v := 1) hx hb dX6_isCompare_18 (by decide) ?_
    refine lv_goto (tgt := 23) hx hb dX6_isCompare_19 (by decide) ?_
    exact w_zret (v := true) hx hb hr hlocks hE dX6_isCompare_23
  · have hE := itF hE c_3
    refine lv_iload_n hx hb dX6_isCompare_6 rfl (lv_at hl 0 rfl) ?_
    refine lv_bipush (v := 62) hx hb dX6_isCompare_7 (by decide +kernel) ?_
    refine lv_icmp_eq (tgt := 18) hx hb dX6_isCompare_9 (by decide) (fun c_9 => ?_) (fun c_9 => ?_)
    · have hE := itT hE c_9
      refine lv_iconst (v := 1) hx hb dX6_isCompare_18 (by decide) ?_
      refine lv_goto (tgt := 23) hx hb dX6_isCompare_19 (by decide) ?_
      exact w_zret (v := true) hx hb hr hlocks hE dX6_isCompare_23
    · have hE := itF hE c_9
      refine lv_iload_n hx hb dX6_isCompare_12 rfl (lv_at hl 0 rfl) ?_
      refine lv_bipush (v := 61) hx hb dX6_isCompare_13 (by decide +kernel) ?_
      refine lv_icmp_ne (tgt := 22) hx hb dX6_isCompare_15 (by decide) (fun c_15 => ?_) (fun c_15 => ?_)
      · have hE := itF hE c_15
        refine lv_iconst (v := 0) hx hb dX6_isCompare_22 (by decide) ?_
        exact w_zret (v := false) hx hb hr hlocks hE dX6_isCompare_23
      · have hE := itT hE c_15
        refine lv_iconst (v := 1) hx hb dX6_isCompare_18 (by decide) ?_
        refine lv_goto (tgt := 23) hx hb dX6_isCompare_19 (by decide) ?_
        exact w_zret (v := true) hx hb hr hlocks hE dX6_isCompare_23

theorem hd_X6_isDigit : yX6_isDigit.cls ≠ "java/lang/invoke/MethodHandle" ∧ yX6_isDigit.cls ≠ "java/lang/invoke/VarHandle" ∧ (parseMethodDescriptor yX6_isDigit.desc).map (fun d => d.parameters.length) = some 1 := by decide +kernel
def x_X6_isDigit (p0 : Int32) : Bool := (if p0 < 48 then false else (if 57 < p0 then false else true))
def rm_X6_isDigit : Room := { frames := 0, cells := 0, slots := 0, locals := 0 }
set_option maxHeartbeats 4000000 in
set_option maxRecDepth 100000 in
theorem c_X6_isDigit (l : Launch) (D : va_G) (cI cZ cR : ClassId) (H0 : Heap) (p0 : Int32) : Met l yX6_isDigit wsX6_isDigit rm_X6_isDigit (po_P D cI cZ cR [.int p0] [] H0) (po_Q (some (.int (bI (x_X6_isDigit p0)))) H0) 0 0 nF := by
  refine Met.ofW (cc := cX6_isDigit) (maxL := 1) (ret := (some .boolean)) (by decide +kernel) rfl ?_
  intro p e s m args below meth c s₁ B hml hv
  obtain ⟨rfl, rfl, hAM, hP⟩ := hv
  have hx := B.exec
  have hb := B.bytes
  have hr := B.returns
  have hts := atoms_spec (ws := wsX6_isDigit) B.pre
  have hown : s.vm.findClass RX6 = some m.cls := findClass_of_methodNamed B.named
  have hlocks := B.notSynchronized
  have hK := hAM.1
  generalize hE : (x_X6_isDigit p0) = Rv
  rw [x_X6_isDigit] at hE
  have hl := lv_entry ([.int p0]) (n := 1) (Nat.le_of_ble_eq_true rfl)
  rw [lg_entry_eq]
  generalize (lg_sl ([.int p0]) ++ List.replicate (1 - (lg_sl ([.int p0])).length) Slot.unset).toArray = ls at hl ⊢
  have hl : lv_has ls 1 [(0, .int p0)] := hl
  refine lv_iload_n hx hb dX6_isDigit_0 rfl (lv_at hl 0 rfl) ?_
  refine lv_bipush (v := 48) hx hb dX6_isDigit_1 (by decide +kernel) ?_
  refine lv_icmp_lt (tgt := 16) hx hb dX6_isDigit_3 (by decide) (fun c_3 => ?_) (fun c_3 => ?_)
  · have hE := itT hE c_3
    refine lv_iconst (v := 0) hx hb dX6_isDigit_16 (by decide) ?_
    exact w_zret (v := false) hx hb hr hlocks hE dX6_isDigit_17
  · have hE := itF hE c_3
    refine lv_iload_n hx hb dX6_isDigit_6 rfl (lv_at hl 0 rfl) ?_
    refine lv_bipush (v := 57) hx hb dX6_isDigit_7 (by decide +kernel) ?_
    refine lv_icmp_gt (tgt := 16) hx hb dX6_isDigit_9 (by decide) (fun c_9 => ?_) (fun c_9 => ?_)
    · have hE := itT hE c_9
      refine lv_iconst (v := 0) hx hb dX6_isDigit_16 (by decide) ?_
      exact w_zret (v := false) hx hb hr hlocks hE dX6_isDigit_17
    · have hE := itF hE c_9
      refine lv_iconst (v := 1) hx hb dX6_isDigit_12 (by decide) ?_
      refine lv_goto (tgt := 17) hx hb dX6_isDigit_13 (by decide) ?_
      exact w_zret (v := true) hx hb hr hlocks hE dX6_isDigit_17

theorem hd_X6_isJoin : yX6_isJoin.cls ≠ "java/lang/invoke/MethodHandle" ∧ yX6_isJoin.cls ≠ "java/lang/invoke/VarHandle" ∧ (parseMethodDescriptor yX6_isJoin.desc).map (fun d => d.parameters.length) = some 1 := by decide +kernel
def x_X6_isJoin (p0 : Int32) : Bool := (if p0 = 38 then true else (if p0 = 124 then true else false))
def rm_X6_isJoin : Room := { frames := 0, cells := 0, slots := 0, locals := 0 }
set_option maxHeartbeats 4000000 in
set_option maxRecDepth 100000 in
theorem c_X6_isJoin (l : Launch) (D : va_G) (cI cZ cR : ClassId) (H0 : Heap) (p0 : Int32) : Met l yX6_isJoin wsX6_isJoin rm_X6_isJoin (po_P D cI cZ cR [.int p0] [] H0) (po_Q (some (.int (bI (x_X6_isJoin p0)))) H0) 0 0 nF := by
  refine Met.ofW (cc := cX6_isJoin) (maxL := 1) (ret := (some .boolean)) (by decide +kernel) rfl ?_
  intro p e s m args below meth c s₁ B hml hv
  obtain ⟨rfl, rfl, hAM, hP⟩ := hv
  have hx := B.exec
  have hb := B.bytes
  have hr := B.returns
  have hts := atoms_spec (ws := wsX6_isJoin) B.pre
  have hown : s.vm.findClass RX6 = some m.cls := findClass_of_methodNamed B.named
  have hlocks := B.notSynchronized
  have hK := hAM.1
  generalize hE : (x_X6_isJoin p0) = Rv
  rw [x_X6_isJoin] at hE
  have hl := lv_entry ([.int p0]) (n := 1) (Nat.le_of_ble_eq_true rfl)
  rw [lg_entry_eq]
  generalize (lg_sl ([.int p0]) ++ List.replicate (1 - (lg_sl ([.int p0])).length) Slot.unset).toArray = ls at hl ⊢
  have hl : lv_has ls 1 [(0, .int p0)] := hl
  refine lv_iload_n hx hb dX6_isJoin_0 rfl (lv_at hl 0 rfl) ?_
  refine lv_bipush (v := 38) hx hb dX6_isJoin_1 (by decide +kernel) ?_
  refine lv_icmp_eq (tgt := 12) hx hb dX6_isJoin_3 (by decide) (fun c_3 => ?_) (fun c_3 => ?_)
  · have hE := itT hE c_3
    refine lv_iconst (v := 1) hx hb dX6_isJoin_12 (by decide) ?_
    refine lv_goto (tgt := 17) hx hb dX6_isJoin_13 (by decide) ?_
    exact w_zret (v := true) hx hb hr hlocks hE dX6_isJoin_17
  · have hE := itF hE c_3
    refine lv_iload_n hx hb dX6_isJoin_6 rfl (lv_at hl 0 rfl) ?_
    refine lv_bipush (v := 124) hx hb dX6_isJoin_7 (by decide +kernel) ?_
    refine lv_icmp_ne (tgt := 16) hx hb dX6_isJoin_9 (by decide) (fun c_9 => ?_) (fun c_9 => ?_)
    · have hE := itF hE c_9
      refine lv_iconst (v := 0) hx hb dX6_isJoin_16 (by decide) ?_
      exact w_zret (v := false) hx hb hr hlocks hE dX6_isJoin_17
    · have hE := itT hE c_9
      refine lv_iconst (v := 1) hx hb dX6_isJoin_12 (by decide) ?_
      refine lv_goto (tgt := 17) hx hb dX6_isJoin_13 (by decide) ?_
      exact w_zret (v := true) hx hb hr hlocks hE dX6_isJoin_17

theorem hd_X6_passes : yX6_passes.cls ≠ "java/lang/invoke/MethodHandle" ∧ yX6_passes.cls ≠ "java/lang/invoke/VarHandle" ∧ (parseMethodDescriptor yX6_passes.desc).map (fun d => d.parameters.length) = some 3 := by decide +kernel
def x_X6_passes (p0 : Int32) (p1 : Int32) (p2 : Int32) : Bool := (if p1 = 60 then (if p2 ≤ p0 then false else true) else (if p1 = 62 then (if p0 ≤ p2 then false else true) else (if p0 = p2 then true else false)))
def rm_X6_passes : Room := { frames := 0, cells := 0, slots := 0, locals := 0 }
set_option maxHeartbeats 4000000 in
set_option maxRecDepth 100000 in
theorem c_X6_passes (l : Launch) (D : va_G) (cI cZ cR : ClassId) (H0 : Heap) (p0 : Int32) (p1 : Int32) (p2 : Int32) : Met l yX6_passes wsX6_passes rm_X6_passes (po_P D cI cZ cR [.int p0, .int p1, .int p2] [] H0) (po_Q (some (.int (bI (x_X6_passes p0 p1 p2)))) H0) 0 0 nF := by
  refine Met.ofW (cc := cX6_passes) (maxL := 3) (ret := (some .boolean)) (by decide +kernel) rfl ?_
  intro p e s m args below meth c s₁ B hml hv
  obtain ⟨rfl, rfl, hAM, hP⟩ := hv
  have hx := B.exec
  have hb := B.bytes
  have hr := B.returns
  have hts := atoms_spec (ws := wsX6_passes) B.pre
  have hown : s.vm.findClass RX6 = some m.cls := findClass_of_methodNamed B.named
  have hlocks := B.notSynchronized
  have hK := hAM.1
  generalize hE : (x_X6_passes p0 p1 p2) = Rv
  rw [x_X6_passes] at hE
  have hl := lv_entry ([.int p0, .int p1, .int p2]) (n := 3) (Nat.le_of_ble_eq_true rfl)
  rw [lg_entry_eq]
  generalize (lg_sl ([.int p0, .int p1, .int p2]) ++ List.replicate (3 - (lg_sl ([.int p0, .int p1, .int p2])).length) Slot.unset).toArray = ls at hl ⊢
  have hl : lv_has ls 3 [(0, .int p0), (1, .int p1), (2, .int p2)] := hl
  refine lv_iload_n hx hb dX6_passes_0 rfl (lv_at hl 1 rfl) ?_
  refine lv_bipush (v := 60) hx hb dX6_passes_1 (by decide +kernel) ?_
  refine lv_icmp_ne (tgt := 17) hx hb dX6_passes_3 (by decide) (fun c_3 => ?_) (fun c_3 => ?_)
  · have hE := itF hE c_3
    refine lv_iload_n hx hb dX6_passes_17 rfl (lv_at hl 1 rfl) ?_
    refine lv_bipush (v := 62) hx hb dX6_passes_18 (by decide +kernel) ?_
    refine lv_icmp_ne (tgt := 36) hx hb dX6_passes_20 (by decide) (fun c_20 => ?_) (fun c_20 => ?_)
    · have hE := itF hE c_20
      refine lv_iload_n hx hb dX6_passes_36 rfl (lv_at hl 0 rfl) ?_
      refine lv_iload_n hx hb dX6_passes_37 rfl (lv_at hl 2 rfl) ?_
      refine lv_icmp_ne (tgt := 45) hx hb dX6_passes_38 (by decide) (fun c_38 => ?_) (fun c_38 => ?_)
      · have hE := itF hE c_38
        refine lv_iconst (v := 0) hx hb dX6_passes_45 (by decide) ?_
        exact w_zret (v := false) hx hb hr hlocks hE dX6_passes_46
      · have hE := itT hE c_38
        refine lv_iconst (v := 1) hx hb dX6_passes_41 (by decide) ?_
        refine lv_goto (tgt := 46) hx hb dX6_passes_42 (by decide) ?_
        exact w_zret (v := true) hx hb hr hlocks hE dX6_passes_46
    · have hE := itT hE c_20
      refine lv_iload_n hx hb dX6_passes_23 rfl (lv_at hl 0 rfl) ?_
      refine lv_iload_n hx hb dX6_passes_24 rfl (lv_at hl 2 rfl) ?_
      refine lv_icmp_le (tgt := 32) hx hb dX6_passes_25 (by decide) (fun c_25 => ?_) (fun c_25 => ?_)
      · have hE := itT hE c_25
        refine lv_iconst (v := 0) hx hb dX6_passes_32 (by decide) ?_
        refine lv_goto (tgt := 46) hx hb dX6_passes_33 (by decide) ?_
        exact w_zret (v := false) hx hb hr hlocks hE dX6_passes_46
      · have hE := itF hE c_25
        refine lv_iconst (v := 1) hx hb dX6_passes_28 (by decide) ?_
        refine lv_goto (tgt := 46) hx hb dX6_passes_29 (by decide) ?_
        exact w_zret (v := true) hx hb hr hlocks hE dX6_passes_46
  · have hE := itT hE c_3
    refine lv_iload_n hx hb dX6_passes_6 rfl (lv_at hl 0 rfl) ?_
    refine lv_iload_n hx hb dX6_passes_7 rfl (lv_at hl 2 rfl) ?_
    refine lv_icmp_ge (tgt := 15) hx hb dX6_passes_8 (by decide) (fun c_8 => ?_) (fun c_8 => ?_)
    · have hE := itT hE c_8
      refine lv_iconst (v := 0) hx hb dX6_passes_15 (by decide) ?_
      exact w_zret (v := false) hx hb hr hlocks hE dX6_passes_16
    · have hE := itF hE c_8
      refine lv_iconst (v := 1) hx hb dX6_passes_11 (by decide) ?_
      refine lv_goto (tgt := 16) hx hb dX6_passes_12 (by decide) ?_
      exact w_zret (v := true) hx hb hr hlocks hE dX6_passes_16

theorem hd_X5_wordWith : yX5_wordWith.cls ≠ "java/lang/invoke/MethodHandle" ∧ yX5_wordWith.cls ≠ "java/lang/invoke/VarHandle" ∧ (parseMethodDescriptor yX5_wordWith.desc).map (fun d => d.parameters.length) = some 2 := by decide +kernel
def x_X5_wordWith (p0 : Int32) (p1 : Int32) : Int32 := (xRem ((p0 * 131) + p1) 9973)
def rm_X5_wordWith : Room := { frames := 0, cells := 0, slots := 0, locals := 0 }
set_option maxHeartbeats 4000000 in
set_option maxRecDepth 100000 in
theorem c_X5_wordWith (l : Launch) (D : va_G) (cI cZ cR : ClassId) (H0 : Heap) (p0 : Int32) (p1 : Int32) : Met l yX5_wordWith wsX5_wordWith rm_X5_wordWith (po_P D cI cZ cR [.int p0, .int p1] [] H0) (po_Q (some (.int (x_X5_wordWith p0 p1))) H0) 0 0 nF := by
  refine Met.ofW (cc := cX5_wordWith) (maxL := 2) (ret := (some .int)) (by decide +kernel) rfl ?_
  intro p e s m args below meth c s₁ B hml hv
  obtain ⟨rfl, rfl, hAM, hP⟩ := hv
  have hx := B.exec
  have hb := B.bytes
  have hr := B.returns
  have hts := atoms_spec (ws := wsX5_wordWith) B.pre
  have hown : s.vm.findClass RX5 = some m.cls := findClass_of_methodNamed B.named
  have hlocks := B.notSynchronized
  have hK := hAM.1
  generalize hE : (x_X5_wordWith p0 p1) = Rv
  rw [x_X5_wordWith] at hE
  have hl := lv_entry ([.int p0, .int p1]) (n := 2) (Nat.le_of_ble_eq_true rfl)
  rw [lg_entry_eq]
  generalize (lg_sl ([.int p0, .int p1]) ++ List.replicate (2 - (lg_sl ([.int p0, .int p1])).length) Slot.unset).toArray = ls at hl ⊢
  have hl : lv_has ls 2 [(0, .int p0), (1, .int p1)] := hl
  refine lv_iload_n hx hb dX5_wordWith_0 rfl (lv_at hl 0 rfl) ?_
  refine lv_sipush (v := 131) hx hb dX5_wordWith_1 (by decide +kernel) ?_
  refine lv_imul hx hb dX5_wordWith_4 ?_
  refine lv_iload_n hx hb dX5_wordWith_5 rfl (lv_at hl 1 rfl) ?_
  refine lv_iadd hx hb dX5_wordWith_6 ?_
  refine lv_sipush (v := 9973) hx hb dX5_wordWith_7 (by decide +kernel) ?_
  refine w_irem hx hb dX5_wordWith_10 (by decide +kernel) ?_
  exact w_iret hx hb hr hlocks hE dX5_wordWith_11

theorem hd_X3_mixedWith : yX3_mixedWith.cls ≠ "java/lang/invoke/MethodHandle" ∧ yX3_mixedWith.cls ≠ "java/lang/invoke/VarHandle" ∧ (parseMethodDescriptor yX3_mixedWith.desc).map (fun d => d.parameters.length) = some 2 := by decide +kernel
def x_X3_mixedWith (p0 : Int32) (p1 : Int32) : Int32 := (xRem ((p0 * 31) + p1) 5003)
def rm_X3_mixedWith : Room := { frames := 0, cells := 0, slots := 0, locals := 0 }
set_option maxHeartbeats 4000000 in
set_option maxRecDepth 100000 in
theorem c_X3_mixedWith (l : Launch) (D : va_G) (cI cZ cR : ClassId) (H0 : Heap) (p0 : Int32) (p1 : Int32) : Met l yX3_mixedWith wsX3_mixedWith rm_X3_mixedWith (po_P D cI cZ cR [.int p0, .int p1] [] H0) (po_Q (some (.int (x_X3_mixedWith p0 p1))) H0) 0 0 nF := by
  refine Met.ofW (cc := cX3_mixedWith) (maxL := 2) (ret := (some .int)) (by decide +kernel) rfl ?_
  intro p e s m args below meth c s₁ B hml hv
  obtain ⟨rfl, rfl, hAM, hP⟩ := hv
  have hx := B.exec
  have hb := B.bytes
  have hr := B.returns
  have hts := atoms_spec (ws := wsX3_mixedWith) B.pre
  have hown : s.vm.findClass RX3 = some m.cls := findClass_of_methodNamed B.named
  have hlocks := B.notSynchronized
  have hK := hAM.1
  generalize hE : (x_X3_mixedWith p0 p1) = Rv
  rw [x_X3_mixedWith] at hE
  have hl := lv_entry ([.int p0, .int p1]) (n := 2) (Nat.le_of_ble_eq_true rfl)
  rw [lg_entry_eq]
  generalize (lg_sl ([.int p0, .int p1]) ++ List.replicate (2 - (lg_sl ([.int p0, .int p1])).length) Slot.unset).toArray = ls at hl ⊢
  have hl : lv_has ls 2 [(0, .int p0), (1, .int p1)] := hl
  refine lv_iload_n hx hb dX3_mixedWith_0 rfl (lv_at hl 0 rfl) ?_
  refine lv_bipush (v := 31) hx hb dX3_mixedWith_1 (by decide +kernel) ?_
  refine lv_imul hx hb dX3_mixedWith_3 ?_
  refine lv_iload_n hx hb dX3_mixedWith_4 rfl (lv_at hl 1 rfl) ?_
  refine lv_iadd hx hb dX3_mixedWith_5 ?_
  refine lv_sipush (v := 5003) hx hb dX3_mixedWith_6 (by decide +kernel) ?_
  refine w_irem hx hb dX3_mixedWith_9 (by decide +kernel) ?_
  exact w_iret hx hb hr hlocks hE dX3_mixedWith_10

theorem hd_X1_forOne : yX1_forOne.cls ≠ "java/lang/invoke/MethodHandle" ∧ yX1_forOne.cls ≠ "java/lang/invoke/VarHandle" ∧ (parseMethodDescriptor yX1_forOne.desc).map (fun d => d.parameters.length) = some 1 := by decide +kernel
def x_X1_forOne (p0 : Int32) : Int32 := (p0 - (p0 / 2))
def rm_X1_forOne : Room := { frames := 0, cells := 0, slots := 0, locals := 0 }
set_option maxHeartbeats 4000000 in
set_option maxRecDepth 100000 in
theorem c_X1_forOne (l : Launch) (D : va_G) (cI cZ cR : ClassId) (H0 : Heap) (p0 : Int32) : Met l yX1_forOne wsX1_forOne rm_X1_forOne (po_P D cI cZ cR [.int p0] [] H0) (po_Q (some (.int (x_X1_forOne p0))) H0) 0 0 nF := by
  refine Met.ofW (cc := cX1_forOne) (maxL := 1) (ret := (some .int)) (by decide +kernel) rfl ?_
  intro p e s m args below meth c s₁ B hml hv
  obtain ⟨rfl, rfl, hAM, hP⟩ := hv
  have hx := B.exec
  have hb := B.bytes
  have hr := B.returns
  have hts := atoms_spec (ws := wsX1_forOne) B.pre
  have hown : s.vm.findClass RX1 = some m.cls := findClass_of_methodNamed B.named
  have hlocks := B.notSynchronized
  have hK := hAM.1
  generalize hE : (x_X1_forOne p0) = Rv
  rw [x_X1_forOne] at hE
  have hl := lv_entry ([.int p0]) (n := 1) (Nat.le_of_ble_eq_true rfl)
  rw [lg_entry_eq]
  generalize (lg_sl ([.int p0]) ++ List.replicate (1 - (lg_sl ([.int p0])).length) Slot.unset).toArray = ls at hl ⊢
  have hl : lv_has ls 1 [(0, .int p0)] := hl
  refine lv_iload_n hx hb dX1_forOne_0 rfl (lv_at hl 0 rfl) ?_
  refine lv_iload_n hx hb dX1_forOne_1 rfl (lv_at hl 0 rfl) ?_
  refine lv_iconst (v := 2) hx hb dX1_forOne_2 (by decide) ?_
  refine lv_idiv hx hb dX1_forOne_3 (by decide +kernel) ?_
  refine lv_isub hx hb dX1_forOne_4 ?_
  exact w_iret hx hb hr hlocks hE dX1_forOne_5

theorem hd_X2_power : yX2_power.cls ≠ "java/lang/invoke/MethodHandle" ∧ yX2_power.cls ≠ "java/lang/invoke/VarHandle" ∧ (parseMethodDescriptor yX2_power.desc).map (fun d => d.parameters.length) = some 3 := by decide +kernel
def x_X2_power_L16 (p0 : Int32) (p1 : Int32) (p2 : Int32) : Nat → Int32 → Int32 → Int32 → Int32
  | 0, _, _, _ => 0
  | n + 1, v3, v4, v5 => (if 14 ≤ v5 then v3 else (if ((xShr p1 v5) &&& 1) = 1 then (x_X2_power_L16 p0 p1 p2 n (xRem (v3 * v4) p2) (xRem (v4 * v4) p2) (v5 + 1)) else (x_X2_power_L16 p0 p1 p2 n v3 (xRem (v4 * v4) p2) (v5 + 1))))
def x_X2_power (p0 : Int32) (p1 : Int32) (p2 : Int32) : Int32 := (if 0 < p2 then (x_X2_power_L16 p0 p1 p2 (15) 1 (xRem p0 p2) 0) else 0)
def rm_X2_power : Room := { frames := 0, cells := 0, slots := 0, locals := 0 }
set_option maxHeartbeats 4000000 in
set_option maxRecDepth 100000 in
theorem c_X2_power (l : Launch) (D : va_G) (cI cZ cR : ClassId) (H0 : Heap) (p0 : Int32) (p1 : Int32) (p2 : Int32) : Met l yX2_power wsX2_power rm_X2_power (po_P D cI cZ cR [.int p0, .int p1, .int p2] [] H0) (po_Q (some (.int (x_X2_power p0 p1 p2))) H0) 0 0 nF := by
  refine Met.ofW (cc := cX2_power) (maxL := 6) (ret := (some .int)) (by decide +kernel) rfl ?_
  intro p e s m args below meth c s₁ B hml hv
  obtain ⟨rfl, rfl, hAM, hP⟩ := hv
  have hx := B.exec
  have hb := B.bytes
  have hr := B.returns
  have hts := atoms_spec (ws := wsX2_power) B.pre
  have hown : s.vm.findClass RX2 = some m.cls := findClass_of_methodNamed B.named
  have hlocks := B.notSynchronized
  have hK := hAM.1
  generalize hE : (x_X2_power p0 p1 p2) = Rv
  rw [x_X2_power] at hE
  have hl := lv_entry ([.int p0, .int p1, .int p2]) (n := 6) (Nat.le_of_ble_eq_true rfl)
  rw [lg_entry_eq]
  generalize (lg_sl ([.int p0, .int p1, .int p2]) ++ List.replicate (6 - (lg_sl ([.int p0, .int p1, .int p2])).length) Slot.unset).toArray = ls at hl ⊢
  have hl : lv_has ls 6 [(0, .int p0), (1, .int p1), (2, .int p2)] := hl
  refine lv_iload_n hx hb dX2_power_0 rfl (lv_at hl 2 rfl) ?_
  refine lv_if_gt (tgt := 6) hx hb dX2_power_1 (by decide) (fun c_1 => ?_) (fun c_1 => ?_)
  · have hE := itT hE c_1
    refine lv_iconst (v := 1) hx hb dX2_power_6 (by decide) ?_
    refine lv_istore_n (lv' := [(3, .int 1), (0, .int p0), (1, .int p1), (2, .int p2)]) hx hb dX2_power_7 rfl hl (by decide) rfl (fun ls hl => ?_)
    refine lv_iload_n hx hb dX2_power_8 rfl (lv_at hl 1 rfl) ?_
    refine lv_iload_n hx hb dX2_power_9 rfl (lv_at hl 3 rfl) ?_
    refine w_irem hx hb dX2_power_10 (ne_pos c_1) ?_
    refine lv_istore (lv' := [(4, .int (xRem p0 p2)), (3, .int 1), (0, .int p0), (1, .int p1), (2, .int p2)]) hx hb dX2_power_11 hl (by decide) rfl (fun ls hl => ?_)
    refine lv_iconst (v := 0) hx hb dX2_power_13 (by decide) ?_
    refine lv_istore (lv' := [(5, .int 0), (4, .int (xRem p0 p2)), (3, .int 1), (0, .int p0), (1, .int p1), (2, .int p2)]) hx hb dX2_power_14 hl (by decide) rfl (fun ls hl => ?_)
    suffices loop : ∀ (n : Nat) (v3 : Int32) (v4 : Int32) (v5 : Int32), (UP 0 14 n v5) → x_X2_power_L16 p0 p1 p2 n v3 v4 v5 = Rv → ∀ ls : Array Slot, lv_has ls 6 [(5, .int v5), (4, .int v4), (3, .int v3), (0, .int p0), (1, .int p1), (2, .int p2)] → W p l e (headSpec wsX2_power rm_X2_power).room s m ([.int p0, .int p1, .int p2] : List Value).toArray below meth c s.heap [] 0 0 (MQ below (po_Q (some (.int Rv)) s.heap) ([.int p0, .int p1, .int p2] : List Value).toArray s 0 0 nF) (F0 m 16 ls []) from
      loop (15) 1 (xRem p0 p2) 0 (UP.start 0 (by omega) (by omega)) hE ls (lv_sub hl [0, 1, 2, 3, 4, 5] rfl)
    clear hE hl ls
    intro n
    induction n with
    | zero =>
      intro v3 v4 v5 hI _ _ _
      exact absurd hI (UP.zero)
    | succ n ih =>
      intro v3 v4 v5 hI hE ls hl
      rw [x_X2_power_L16] at hE
      refine lv_iload hx hb dX2_power_16 (lv_at hl 0 rfl) ?_
      refine lv_bipush (v := 14) hx hb dX2_power_18 (by decide +kernel) ?_
      refine lv_icmp_ge (tgt := 55) hx hb dX2_power_20 (by decide) (fun c_20 => ?_) (fun c_20 => ?_)
      · have hE := itT hE c_20
        refine lv_iload_n hx hb dX2_power_55 rfl (lv_at hl 2 rfl) ?_
        exact w_iret hx hb hr hlocks hE dX2_power_56
      · have hE := itF hE c_20
        refine lv_iload_n hx hb dX2_power_23 rfl (lv_at hl 4 rfl) ?_
        refine lv_iload hx hb dX2_power_24 (lv_at hl 0 rfl) ?_
        refine w_ishr hx hb dX2_power_26 ?_
        refine lv_iconst (v := 1) hx hb dX2_power_27 (by decide) ?_
        refine lv_iand hx hb dX2_power_28 ?_
        refine lv_iconst (v := 1) hx hb dX2_power_29 (by decide) ?_
        refine lv_icmp_ne (tgt := 40) hx hb dX2_power_30 (by decide) (fun c_30 => ?_) (fun c_30 => ?_)
        · have hE := itF hE c_30
          refine lv_iload hx hb dX2_power_40 (lv_at hl 1 rfl) ?_
          refine lv_iload hx hb dX2_power_42 (lv_at hl 1 rfl) ?_
          refine lv_imul hx hb dX2_power_44 ?_
          refine lv_iload_n hx hb dX2_power_45 rfl (lv_at hl 5 rfl) ?_
          refine w_irem hx hb dX2_power_46 (ne_pos c_1) ?_
          refine lv_istore (lv' := [(4, .int (xRem (v4 * v4) p2)), (5, .int v5), (3, .int v3), (0, .int p0), (1, .int p1), (2, .int p2)]) hx hb dX2_power_47 hl (by decide) rfl (fun ls hl => ?_)
          refine lv_iinc (v := (v5 + 1)) (lv' := [(5, .int (v5 + 1)), (4, .int (xRem (v4 * v4) p2)), (3, .int v3), (0, .int p0), (1, .int p1), (2, .int p2)]) hx hb dX2_power_49 hl (k := 1) rfl rfl (by decide) rfl (fun ls hl => ?_)
          refine lv_goto (tgt := 16) hx hb dX2_power_52 (by decide) ?_
          exact ih v3 (xRem (v4 * v4) p2) (v5 + 1) ((hI.ge (by decide) rfl c_20).1) hE ls (lv_sub hl [0, 1, 2, 3, 4, 5] rfl)
        · have hE := itT hE c_30
          refine lv_iload_n hx hb dX2_power_33 rfl (lv_at hl 2 rfl) ?_
          refine lv_iload hx hb dX2_power_34 (lv_at hl 1 rfl) ?_
          refine lv_imul hx hb dX2_power_36 ?_
          refine lv_iload_n hx hb dX2_power_37 rfl (lv_at hl 5 rfl) ?_
          refine w_irem hx hb dX2_power_38 (ne_pos c_1) ?_
          refine lv_istore_n (lv' := [(3, .int (xRem (v3 * v4) p2)), (5, .int v5), (4, .int v4), (0, .int p0), (1, .int p1), (2, .int p2)]) hx hb dX2_power_39 rfl hl (by decide) rfl (fun ls hl => ?_)
          refine lv_iload hx hb dX2_power_40 (lv_at hl 2 rfl) ?_
          refine lv_iload hx hb dX2_power_42 (lv_at hl 2 rfl) ?_
          refine lv_imul hx hb dX2_power_44 ?_
          refine lv_iload_n hx hb dX2_power_45 rfl (lv_at hl 5 rfl) ?_
          refine w_irem hx hb dX2_power_46 (ne_pos c_1) ?_
          refine lv_istore (lv' := [(4, .int (xRem (v4 * v4) p2)), (3, .int (xRem (v3 * v4) p2)), (5, .int v5), (0, .int p0), (1, .int p1), (2, .int p2)]) hx hb dX2_power_47 hl (by decide) rfl (fun ls hl => ?_)
          refine lv_iinc (v := (v5 + 1)) (lv' := [(5, .int (v5 + 1)), (4, .int (xRem (v4 * v4) p2)), (3, .int (xRem (v3 * v4) p2)), (0, .int p0), (1, .int p1), (2, .int p2)]) hx hb dX2_power_49 hl (k := 2) rfl rfl (by decide) rfl (fun ls hl => ?_)
          refine lv_goto (tgt := 16) hx hb dX2_power_52 (by decide) ?_
          exact ih (xRem (v3 * v4) p2) (xRem (v4 * v4) p2) (v5 + 1) ((hI.ge (by decide) rfl c_20).1) hE ls (lv_sub hl [0, 1, 2, 3, 4, 5] rfl)
  · have hE := itF hE c_1
    refine lv_iconst (v := 0) hx hb dX2_power_4 (by decide) ?_
    exact w_iret hx hb hr hlocks hE dX2_power_5
end
