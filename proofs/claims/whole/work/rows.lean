section
-- ===== PART A: goes FIRST, ahead of the names: the tables' words, and 'selects' of the private methods out of them =====
/-- a private method of a class that the tables say can be made, by its rows of tables_1 -/
def lw_okq (q : MethodName × Nat) : Prop := (q.1.cls ≠ "java/lang/invoke/MethodHandle" ∧ q.1.cls ≠ "java/lang/invoke/VarHandle") ∧ Cond.instantiable q.1.cls q.2 ∈ tables_1 ∧ Cond.privateMethod q.1 ∈ tables_1 ∧ Cond.instanceMethod q.1 ∈ tables_1
theorem lw_p0 : lw_okq (⟨"SluiceRules", "isBasin", "(I)Z"⟩, 14) := ⟨⟨by decide +kernel, by decide +kernel⟩, List.mem_of_getElem? (i := 7) (by decide +kernel), List.mem_of_getElem? (i := 75) (by decide +kernel), List.mem_of_getElem? (i := 76) (by decide +kernel)⟩
theorem lw_p1 : lw_okq (⟨"SluiceRules", "hasKnownParts", "(IIII)Z"⟩, 14) := ⟨⟨by decide +kernel, by decide +kernel⟩, List.mem_of_getElem? (i := 7) (by decide +kernel), List.mem_of_getElem? (i := 87) (by decide +kernel), List.mem_of_getElem? (i := 88) (by decide +kernel)⟩
theorem lw_p2 : lw_okq (⟨"SluiceRules", "isRuleOrNone", "(I)Z"⟩, 14) := ⟨⟨by decide +kernel, by decide +kernel⟩, List.mem_of_getElem? (i := 7) (by decide +kernel), List.mem_of_getElem? (i := 91) (by decide +kernel), List.mem_of_getElem? (i := 92) (by decide +kernel)⟩
theorem lw_p3 : lw_okq (⟨"SluiceRules", "ruleAt", "(I)LSluiceRules$Rule;"⟩, 14) := ⟨⟨by decide +kernel, by decide +kernel⟩, List.mem_of_getElem? (i := 7) (by decide +kernel), List.mem_of_getElem? (i := 95) (by decide +kernel), List.mem_of_getElem? (i := 96) (by decide +kernel)⟩
theorem lw_p4 : lw_okq (⟨"SluiceRules", "countedAt", "(I)LSluiceRules$Rule;"⟩, 14) := ⟨⟨by decide +kernel, by decide +kernel⟩, List.mem_of_getElem? (i := 7) (by decide +kernel), List.mem_of_getElem? (i := 99) (by decide +kernel), List.mem_of_getElem? (i := 100) (by decide +kernel)⟩
theorem lw_p5 : lw_okq (⟨"SluiceRules", "isSlot", "(I)Z"⟩, 14) := ⟨⟨by decide +kernel, by decide +kernel⟩, List.mem_of_getElem? (i := 7) (by decide +kernel), List.mem_of_getElem? (i := 103) (by decide +kernel), List.mem_of_getElem? (i := 104) (by decide +kernel)⟩
theorem lw_p6 : lw_okq (⟨"SluiceRules", "askByCall", "(II)J"⟩, 14) := ⟨⟨by decide +kernel, by decide +kernel⟩, List.mem_of_getElem? (i := 7) (by decide +kernel), List.mem_of_getElem? (i := 110) (by decide +kernel), List.mem_of_getElem? (i := 111) (by decide +kernel)⟩
theorem lw_p7 : lw_okq (⟨"SluiceRules", "valueOf", "(II)J"⟩, 14) := ⟨⟨by decide +kernel, by decide +kernel⟩, List.mem_of_getElem? (i := 7) (by decide +kernel), List.mem_of_getElem? (i := 114) (by decide +kernel), List.mem_of_getElem? (i := 115) (by decide +kernel)⟩
theorem lw_p8 : lw_okq (⟨"SluiceRules", "stepTo", "(I)LSluiceRules$Rule;"⟩, 14) := ⟨⟨by decide +kernel, by decide +kernel⟩, List.mem_of_getElem? (i := 7) (by decide +kernel), List.mem_of_getElem? (i := 118) (by decide +kernel), List.mem_of_getElem? (i := 119) (by decide +kernel)⟩
theorem lw_p9 : lw_okq (⟨"SluiceRules", "ruleInSlot", "(I)I"⟩, 14) := ⟨⟨by decide +kernel, by decide +kernel⟩, List.mem_of_getElem? (i := 7) (by decide +kernel), List.mem_of_getElem? (i := 137) (by decide +kernel), List.mem_of_getElem? (i := 138) (by decide +kernel)⟩
theorem lw_p10 : lw_okq (⟨"SluiceRules", "valueOfLeaf", "(LSluiceRules$Rule;I)J"⟩, 14) := ⟨⟨by decide +kernel, by decide +kernel⟩, List.mem_of_getElem? (i := 7) (by decide +kernel), List.mem_of_getElem? (i := 141) (by decide +kernel), List.mem_of_getElem? (i := 142) (by decide +kernel)⟩
theorem lw_p11 : lw_okq (⟨"SluiceRules", "tide", "(I)J"⟩, 14) := ⟨⟨by decide +kernel, by decide +kernel⟩, List.mem_of_getElem? (i := 7) (by decide +kernel), List.mem_of_getElem? (i := 149) (by decide +kernel), List.mem_of_getElem? (i := 150) (by decide +kernel)⟩
theorem lw_p12 : lw_okq (⟨"SluiceRules", "goesWhole", "(I)Z"⟩, 14) := ⟨⟨by decide +kernel, by decide +kernel⟩, List.mem_of_getElem? (i := 7) (by decide +kernel), List.mem_of_getElem? (i := 241) (by decide +kernel), List.mem_of_getElem? (i := 242) (by decide +kernel)⟩
theorem lw_p13 : lw_okq (⟨"SluiceRules", "letOver", "(LSluiceRules$Sluice;J)I"⟩, 14) := ⟨⟨by decide +kernel, by decide +kernel⟩, List.mem_of_getElem? (i := 7) (by decide +kernel), List.mem_of_getElem? (i := 245) (by decide +kernel), List.mem_of_getElem? (i := 246) (by decide +kernel)⟩
theorem lw_p14 : lw_okq (⟨"SluiceRulesModel", "isBasin", "(I)Z"⟩, 25) := ⟨⟨by decide +kernel, by decide +kernel⟩, List.mem_of_getElem? (i := 263) (by decide +kernel), List.mem_of_getElem? (i := 358) (by decide +kernel), List.mem_of_getElem? (i := 359) (by decide +kernel)⟩
theorem lw_p15 : lw_okq (⟨"SluiceRulesModel", "areKnown", "(IIII)Z"⟩, 25) := ⟨⟨by decide +kernel, by decide +kernel⟩, List.mem_of_getElem? (i := 263) (by decide +kernel), List.mem_of_getElem? (i := 370) (by decide +kernel), List.mem_of_getElem? (i := 371) (by decide +kernel)⟩
def lw_privs_1 : List (MethodName × Nat) := [(⟨"SluiceRules", "isBasin", "(I)Z"⟩, 14), (⟨"SluiceRules", "hasKnownParts", "(IIII)Z"⟩, 14), (⟨"SluiceRules", "isRuleOrNone", "(I)Z"⟩, 14), (⟨"SluiceRules", "ruleAt", "(I)LSluiceRules$Rule;"⟩, 14), (⟨"SluiceRules", "countedAt", "(I)LSluiceRules$Rule;"⟩, 14), (⟨"SluiceRules", "isSlot", "(I)Z"⟩, 14), (⟨"SluiceRules", "askByCall", "(II)J"⟩, 14), (⟨"SluiceRules", "valueOf", "(II)J"⟩, 14), (⟨"SluiceRules", "stepTo", "(I)LSluiceRules$Rule;"⟩, 14), (⟨"SluiceRules", "ruleInSlot", "(I)I"⟩, 14), (⟨"SluiceRules", "valueOfLeaf", "(LSluiceRules$Rule;I)J"⟩, 14), (⟨"SluiceRules", "tide", "(I)J"⟩, 14), (⟨"SluiceRules", "goesWhole", "(I)Z"⟩, 14), (⟨"SluiceRules", "letOver", "(LSluiceRules$Sluice;J)I"⟩, 14), (⟨"SluiceRulesModel", "isBasin", "(I)Z"⟩, 25), (⟨"SluiceRulesModel", "areKnown", "(IIII)Z"⟩, 25)]
theorem lw_r1 : ∀ q ∈ lw_privs_1, lw_okq q := List.forall_mem_cons.mpr ⟨lw_p0, List.forall_mem_cons.mpr ⟨lw_p1, List.forall_mem_cons.mpr ⟨lw_p2, List.forall_mem_cons.mpr ⟨lw_p3, List.forall_mem_cons.mpr ⟨lw_p4, List.forall_mem_cons.mpr ⟨lw_p5, List.forall_mem_cons.mpr ⟨lw_p6, List.forall_mem_cons.mpr ⟨lw_p7, List.forall_mem_cons.mpr ⟨lw_p8, List.forall_mem_cons.mpr ⟨lw_p9, List.forall_mem_cons.mpr ⟨lw_p10, List.forall_mem_cons.mpr ⟨lw_p11, List.forall_mem_cons.mpr ⟨lw_p12, List.forall_mem_cons.mpr ⟨lw_p13, List.forall_mem_cons.mpr ⟨lw_p14, List.forall_mem_cons.mpr ⟨lw_p15, fun _ h => absurd h List.not_mem_nil⟩⟩⟩⟩⟩⟩⟩⟩⟩⟩⟩⟩⟩⟩⟩⟩
theorem lw_p16 : lw_okq (⟨"SluiceRulesModel", "isPart", "(I)Z"⟩, 25) := ⟨⟨by decide +kernel, by decide +kernel⟩, List.mem_of_getElem? (i := 263) (by decide +kernel), List.mem_of_getElem? (i := 374) (by decide +kernel), List.mem_of_getElem? (i := 375) (by decide +kernel)⟩
theorem lw_p17 : lw_okq (⟨"SluiceRulesModel", "isRule", "(I)Z"⟩, 25) := ⟨⟨by decide +kernel, by decide +kernel⟩, List.mem_of_getElem? (i := 263) (by decide +kernel), List.mem_of_getElem? (i := 378) (by decide +kernel), List.mem_of_getElem? (i := 379) (by decide +kernel)⟩
theorem lw_p18 : lw_okq (⟨"SluiceRulesModel", "asks", "(II)Z"⟩, 25) := ⟨⟨by decide +kernel, by decide +kernel⟩, List.mem_of_getElem? (i := 263) (by decide +kernel), List.mem_of_getElem? (i := 385) (by decide +kernel), List.mem_of_getElem? (i := 386) (by decide +kernel)⟩
theorem lw_p19 : lw_okq (⟨"SluiceRulesModel", "enter", "(II)V"⟩, 25) := ⟨⟨by decide +kernel, by decide +kernel⟩, List.mem_of_getElem? (i := 263) (by decide +kernel), List.mem_of_getElem? (i := 389) (by decide +kernel), List.mem_of_getElem? (i := 390) (by decide +kernel)⟩
theorem lw_p20 : lw_okq (⟨"SluiceRulesModel", "go", "()V"⟩, 25) := ⟨⟨by decide +kernel, by decide +kernel⟩, List.mem_of_getElem? (i := 263) (by decide +kernel), List.mem_of_getElem? (i := 393) (by decide +kernel), List.mem_of_getElem? (i := 394) (by decide +kernel)⟩
theorem lw_p21 : lw_okq (⟨"SluiceRulesModel", "plain", "(II)V"⟩, 25) := ⟨⟨by decide +kernel, by decide +kernel⟩, List.mem_of_getElem? (i := 263) (by decide +kernel), List.mem_of_getElem? (i := 397) (by decide +kernel), List.mem_of_getElem? (i := 398) (by decide +kernel)⟩
theorem lw_p22 : lw_okq (⟨"SluiceRulesModel", "gives", "(J)V"⟩, 25) := ⟨⟨by decide +kernel, by decide +kernel⟩, List.mem_of_getElem? (i := 263) (by decide +kernel), List.mem_of_getElem? (i := 401) (by decide +kernel), List.mem_of_getElem? (i := 402) (by decide +kernel)⟩
theorem lw_p23 : lw_okq (⟨"SluiceRulesModel", "tide", "(I)J"⟩, 25) := ⟨⟨by decide +kernel, by decide +kernel⟩, List.mem_of_getElem? (i := 263) (by decide +kernel), List.mem_of_getElem? (i := 405) (by decide +kernel), List.mem_of_getElem? (i := 406) (by decide +kernel)⟩
theorem lw_p24 : lw_okq (⟨"SluiceRulesModel", "slots", "(III)V"⟩, 25) := ⟨⟨by decide +kernel, by decide +kernel⟩, List.mem_of_getElem? (i := 263) (by decide +kernel), List.mem_of_getElem? (i := 411) (by decide +kernel), List.mem_of_getElem? (i := 412) (by decide +kernel)⟩
theorem lw_p25 : lw_okq (⟨"SluiceRulesModel", "pair", "(III)V"⟩, 25) := ⟨⟨by decide +kernel, by decide +kernel⟩, List.mem_of_getElem? (i := 263) (by decide +kernel), List.mem_of_getElem? (i := 415) (by decide +kernel), List.mem_of_getElem? (i := 416) (by decide +kernel)⟩
theorem lw_p26 : lw_okq (⟨"SluiceRulesModel", "choice", "(III)V"⟩, 25) := ⟨⟨by decide +kernel, by decide +kernel⟩, List.mem_of_getElem? (i := 263) (by decide +kernel), List.mem_of_getElem? (i := 422) (by decide +kernel), List.mem_of_getElem? (i := 423) (by decide +kernel)⟩
theorem lw_p27 : lw_okq (⟨"SluiceRulesModel", "behind", "(I)V"⟩, 25) := ⟨⟨by decide +kernel, by decide +kernel⟩, List.mem_of_getElem? (i := 263) (by decide +kernel), List.mem_of_getElem? (i := 426) (by decide +kernel), List.mem_of_getElem? (i := 427) (by decide +kernel)⟩
theorem lw_p28 : lw_okq (⟨"SluiceRulesModel", "flows", "(II)Z"⟩, 25) := ⟨⟨by decide +kernel, by decide +kernel⟩, List.mem_of_getElem? (i := 263) (by decide +kernel), List.mem_of_getElem? (i := 453) (by decide +kernel), List.mem_of_getElem? (i := 454) (by decide +kernel)⟩
def lw_privs_2 : List (MethodName × Nat) := [(⟨"SluiceRulesModel", "isPart", "(I)Z"⟩, 25), (⟨"SluiceRulesModel", "isRule", "(I)Z"⟩, 25), (⟨"SluiceRulesModel", "asks", "(II)Z"⟩, 25), (⟨"SluiceRulesModel", "enter", "(II)V"⟩, 25), (⟨"SluiceRulesModel", "go", "()V"⟩, 25), (⟨"SluiceRulesModel", "plain", "(II)V"⟩, 25), (⟨"SluiceRulesModel", "gives", "(J)V"⟩, 25), (⟨"SluiceRulesModel", "tide", "(I)J"⟩, 25), (⟨"SluiceRulesModel", "slots", "(III)V"⟩, 25), (⟨"SluiceRulesModel", "pair", "(III)V"⟩, 25), (⟨"SluiceRulesModel", "choice", "(III)V"⟩, 25), (⟨"SluiceRulesModel", "behind", "(I)V"⟩, 25), (⟨"SluiceRulesModel", "flows", "(II)Z"⟩, 25)]
theorem lw_r2 : ∀ q ∈ lw_privs_2, lw_okq q := List.forall_mem_cons.mpr ⟨lw_p16, List.forall_mem_cons.mpr ⟨lw_p17, List.forall_mem_cons.mpr ⟨lw_p18, List.forall_mem_cons.mpr ⟨lw_p19, List.forall_mem_cons.mpr ⟨lw_p20, List.forall_mem_cons.mpr ⟨lw_p21, List.forall_mem_cons.mpr ⟨lw_p22, List.forall_mem_cons.mpr ⟨lw_p23, List.forall_mem_cons.mpr ⟨lw_p24, List.forall_mem_cons.mpr ⟨lw_p25, List.forall_mem_cons.mpr ⟨lw_p26, List.forall_mem_cons.mpr ⟨lw_p27, List.forall_mem_cons.mpr ⟨lw_p28, fun _ h => absurd h List.not_mem_nil⟩⟩⟩⟩⟩⟩⟩⟩⟩⟩⟩⟩⟩
def lw_privs : List (MethodName × Nat) := lw_privs_1 ++ (lw_privs_2)
def lw_tbl : List Cond := k2_sels lw_privs ++ tables_1
theorem lw_privs_ok : ∀ q ∈ lw_privs, lw_okq q := by
  show ∀ q ∈ lw_privs_1 ++ (lw_privs_2), lw_okq q
  exact List.forall_mem_append.mpr ⟨lw_r1, lw_r2⟩
/-! ===== BEGIN words of one list among another's, by their places ===== -/
theorem goodIn_r {big : List Cond} (ws : List Cond) (ps : List Nat) (hp : ws = ps.filterMap (fun i => big[i]?)) (h : ws.all goodWord = true) : GoodIn big ws := by
  intro w hw
  have h1 := List.all_eq_true.mp h w hw
  rw [hp] at hw
  obtain ⟨i, -, hi⟩ := List.mem_filterMap.mp hw
  have hm : w ∈ big := by first | exact List.mem_of_getElem? hi | exact List.getElem?_mem hi
  exact ⟨hm, good_of_word h1⟩
theorem goodIn_app {big a b : List Cond} (ha : GoodIn big a) (hb : GoodIn big b) : GoodIn big (a ++ b) := fun w h => (List.mem_append.mp h).elim (ha w) (hb w)
theorem goodIn_ca {big a b : List Cond} {c : Cond} (ha : GoodIn big (c :: a)) (hb : GoodIn big b) : GoodIn big (c :: (a ++ b)) := fun w h => (List.mem_cons.mp h).elim (fun e => ha w (List.mem_cons.mpr (Or.inl e))) (fun h => (List.mem_append.mp h).elim (fun h => ha w (List.mem_cons.mpr (Or.inr h))) (hb w))
theorem goodIn_sub {big ws : List Cond} (hm : ∀ w ∈ ws, w ∈ big) (h : ws.all goodWord = true) : GoodIn big ws := fun w hw => ⟨hm w hw, good_of_word (List.all_eq_true.mp h w hw)⟩
/-! ===== END ===== -/

/-! ===== BEGIN printed: names, fields, word lists, decode rows ===== -/
def RX0 : String := "SluiceRules$Rule"
def TX0 : u_T := fun k => match k with
  | 0 => ("SluiceRules$Rule", "kind", "I", true)
  | 1 => ("SluiceRules$Rule", "a", "I", true)
  | 2 => ("SluiceRules$Rule", "b", "I", true)
  | 3 => ("SluiceRules$Rule", "c", "I", true)
  | 4 => ("SluiceRules$Rule", "d", "I", true)
  | 5 => ("SluiceRules$Rule", "e", "I", true)
  | 6 => ("SluiceRules$Rule", "held", "J", false)
  | _ => ("SluiceRules$Rule", "counter", "I", false)
def tyX0 : Nat → FieldType := fun k => match k with
  | 0 => .int
  | 1 => .int
  | 2 => .int
  | 3 => .int
  | 4 => .int
  | 5 => .int
  | 6 => .long
  | _ => .int
abbrev wsX00 : List Cond := u_ws RX0 TX0 8
theorem nmX0 : ∀ a, a < 8 → ∀ b, b < 8 → a ≠ b → (TX0 a).2.1 ≠ (TX0 b).2.1 := by decide +kernel
theorem tyX0_ok : ∀ k, k < 8 → parseFieldDescriptor (TX0 k).2.2.1 = some (tyX0 k) := by decide +kernel
abbrev cX0_init : ByteArray := prog_2_method_1_code
def yX0_init : MethodName := ⟨RX0, "<init>", "(IIIIII)V"⟩
def RX1 : String := "SluiceRules$Sluice"
def TX1 : u_T := fun k => match k with
  | 0 => ("SluiceRules$Sluice", "from", "I", true)
  | 1 => ("SluiceRules$Sluice", "to", "I", true)
  | _ => ("SluiceRules$Sluice", "rule", "I", true)
def tyX1 : Nat → FieldType := fun k => match k with
  | 0 => .int
  | 1 => .int
  | _ => .int
abbrev wsX10 : List Cond := u_ws RX1 TX1 3
theorem nmX1 : ∀ a, a < 3 → ∀ b, b < 3 → a ≠ b → (TX1 a).2.1 ≠ (TX1 b).2.1 := by decide +kernel
theorem tyX1_ok : ∀ k, k < 3 → parseFieldDescriptor (TX1 k).2.2.1 = some (tyX1 k) := by decide +kernel
abbrev cX1_init : ByteArray := prog_3_method_1_code
def yX1_init : MethodName := ⟨RX1, "<init>", "(III)V"⟩
def RX2 : String := "SluiceRules"
def TX2 : u_T := fun k => match k with
  | 0 => ("SluiceRules", "levels", "[I", true)
  | 1 => ("SluiceRules", "basinCount", "I", false)
  | 2 => ("SluiceRules", "moonNow", "I", false)
  | 3 => ("SluiceRules", "slots", "[I", true)
  | 4 => ("SluiceRules", "rules", "[LSluiceRules$Rule;", true)
  | 5 => ("SluiceRules", "ruleCount", "I", false)
  | 6 => ("SluiceRules", "sluices", "[LSluiceRules$Sluice;", true)
  | 7 => ("SluiceRules", "sluiceCount", "I", false)
  | 8 => ("SluiceRules", "steps", "I", false)
  | 9 => ("SluiceRules", "failure", "I", false)
  | 10 => ("SluiceRules", "latestGiven", "J", false)
  | 11 => ("SluiceRules", "failedSluice", "I", false)
  | 12 => ("SluiceRules", "failedBy", "I", false)
  | _ => ("SluiceRules", "wentOver", "I", false)
def tyX2 : Nat → FieldType := fun k => match k with
  | 0 => .array .int
  | 1 => .int
  | 2 => .int
  | 3 => .array .int
  | 4 => .array (.object "SluiceRules$Rule")
  | 5 => .int
  | 6 => .array (.object "SluiceRules$Sluice")
  | 7 => .int
  | 8 => .int
  | 9 => .int
  | 10 => .long
  | 11 => .int
  | 12 => .int
  | _ => .int
abbrev wsX20 : List Cond := u_ws RX2 TX2 14
theorem nmX2 : ∀ a, a < 14 → ∀ b, b < 14 → a ≠ b → (TX2 a).2.1 ≠ (TX2 b).2.1 := by decide +kernel
theorem tyX2_ok : ∀ k, k < 14 → parseFieldDescriptor (TX2 k).2.2.1 = some (tyX2 k) := by decide +kernel
abbrev cX2_init : ByteArray := prog_1_method_1_code
def yX2_init : MethodName := ⟨RX2, "<init>", "()V"⟩
abbrev cX2_basin : ByteArray := prog_1_method_2_code
def yX2_basin : MethodName := ⟨RX2, "basin", "(I)I"⟩
abbrev cX2_fill : ByteArray := prog_1_method_3_code
def yX2_fill : MethodName := ⟨RX2, "fill", "(II)I"⟩
abbrev cX2_moon : ByteArray := prog_1_method_4_code
def yX2_moon : MethodName := ⟨RX2, "moon", "(I)I"⟩
abbrev cX2_make : ByteArray := prog_1_method_5_code
def yX2_make : MethodName := ⟨RX2, "make", "(IIIIII)I"⟩
abbrev cX2_put : ByteArray := prog_1_method_6_code
def yX2_put : MethodName := ⟨RX2, "put", "(II)I"⟩
abbrev cX2_ask : ByteArray := prog_1_method_7_code
def yX2_ask : MethodName := ⟨RX2, "ask", "(II)I"⟩
abbrev cX2_given : ByteArray := prog_1_method_8_code
def yX2_given : MethodName := ⟨RX2, "given", "()J"⟩
abbrev cX2_sluice : ByteArray := prog_1_method_9_code
def yX2_sluice : MethodName := ⟨RX2, "sluice", "(III)I"⟩
abbrev cX2_run : ByteArray := prog_1_method_10_code
def yX2_run : MethodName := ⟨RX2, "run", "(II)I"⟩
abbrev cX2_told : ByteArray := prog_1_method_11_code
def yX2_told : MethodName := ⟨RX2, "told", "(I)I"⟩
abbrev cX2_level : ByteArray := prog_1_method_12_code
def yX2_level : MethodName := ⟨RX2, "level", "(I)I"⟩
abbrev cX2_counted : ByteArray := prog_1_method_13_code
def yX2_counted : MethodName := ⟨RX2, "counted", "(I)I"⟩
abbrev cX2_count : ByteArray := prog_1_method_14_code
def yX2_count : MethodName := ⟨RX2, "count", "(I)I"⟩
abbrev cX2_isLevel : ByteArray := prog_1_method_15_code
def yX2_isLevel : MethodName := ⟨RX2, "isLevel", "(I)Z"⟩
abbrev cX2_isBasin : ByteArray := prog_1_method_16_code
def yX2_isBasin : MethodName := ⟨RX2, "isBasin", "(I)Z"⟩
abbrev cX2_isSlot : ByteArray := prog_1_method_17_code
def yX2_isSlot : MethodName := ⟨RX2, "isSlot", "(I)Z"⟩
abbrev cX2_isRuleOrNone : ByteArray := prog_1_method_18_code
def yX2_isRuleOrNone : MethodName := ⟨RX2, "isRuleOrNone", "(I)Z"⟩
abbrev cX2_ruleAt : ByteArray := prog_1_method_19_code
def yX2_ruleAt : MethodName := ⟨RX2, "ruleAt", "(I)LSluiceRules$Rule;"⟩
abbrev cX2_countedAt : ByteArray := prog_1_method_20_code
def yX2_countedAt : MethodName := ⟨RX2, "countedAt", "(I)LSluiceRules$Rule;"⟩
abbrev cX2_ruleInSlot : ByteArray := prog_1_method_21_code
def yX2_ruleInSlot : MethodName := ⟨RX2, "ruleInSlot", "(I)I"⟩
abbrev cX2_hasKnownParts : ByteArray := prog_1_method_22_code
def yX2_hasKnownParts : MethodName := ⟨RX2, "hasKnownParts", "(IIII)Z"⟩
abbrev cX2_hasFitNumbers : ByteArray := prog_1_method_23_code
def yX2_hasFitNumbers : MethodName := ⟨RX2, "hasFitNumbers", "(IIIIII)Z"⟩
abbrev cX2_askByCall : ByteArray := prog_1_method_24_code
def yX2_askByCall : MethodName := ⟨RX2, "askByCall", "(II)J"⟩
abbrev cX2_valueOf : ByteArray := prog_1_method_25_code
def yX2_valueOf : MethodName := ⟨RX2, "valueOf", "(II)J"⟩
abbrev cX2_stepTo : ByteArray := prog_1_method_26_code
def yX2_stepTo : MethodName := ⟨RX2, "stepTo", "(I)LSluiceRules$Rule;"⟩
abbrev cX2_valueOfLeaf : ByteArray := prog_1_method_27_code
def yX2_valueOfLeaf : MethodName := ⟨RX2, "valueOfLeaf", "(LSluiceRules$Rule;I)J"⟩
abbrev cX2_tide : ByteArray := prog_1_method_28_code
def yX2_tide : MethodName := ⟨RX2, "tide", "(I)J"⟩
abbrev cX2_scaled : ByteArray := prog_1_method_29_code
def yX2_scaled : MethodName := ⟨RX2, "scaled", "(JII)J"⟩
abbrev cX2_banded : ByteArray := prog_1_method_30_code
def yX2_banded : MethodName := ⟨RX2, "banded", "(JLSluiceRules$Rule;)J"⟩
abbrev cX2_goesWhole : ByteArray := prog_1_method_31_code
def yX2_goesWhole : MethodName := ⟨RX2, "goesWhole", "(I)Z"⟩
abbrev cX2_letOver : ByteArray := prog_1_method_32_code
def yX2_letOver : MethodName := ⟨RX2, "letOver", "(LSluiceRules$Sluice;J)I"⟩
def RX3 : String := "SluiceRulesModel"
def TX3 : u_T := fun k => match k with
  | 0 => ("SluiceRulesModel", "basins", "I", false)
  | 1 => ("SluiceRulesModel", "levels", "[I", true)
  | 2 => ("SluiceRulesModel", "moon", "I", false)
  | 3 => ("SluiceRulesModel", "slot", "[I", true)
  | 4 => ("SluiceRulesModel", "rules", "I", false)
  | 5 => ("SluiceRulesModel", "kindOf", "[I", true)
  | 6 => ("SluiceRulesModel", "parts", "[I", true)
  | 7 => ("SluiceRulesModel", "held", "[J", true)
  | 8 => ("SluiceRulesModel", "counter", "[I", true)
  | 9 => ("SluiceRulesModel", "sluices", "I", false)
  | 10 => ("SluiceRulesModel", "fromOf", "[I", true)
  | 11 => ("SluiceRulesModel", "toOf", "[I", true)
  | 12 => ("SluiceRulesModel", "ruleOf", "[I", true)
  | 13 => ("SluiceRulesModel", "steps", "I", false)
  | 14 => ("SluiceRulesModel", "failure", "I", false)
  | 15 => ("SluiceRulesModel", "value", "J", false)
  | 16 => ("SluiceRulesModel", "top", "I", false)
  | 17 => ("SluiceRulesModel", "pile", "[I", true)
  | 18 => ("SluiceRulesModel", "pileHour", "[I", true)
  | 19 => ("SluiceRulesModel", "pileState", "[I", true)
  | 20 => ("SluiceRulesModel", "pileSum", "[J", true)
  | 21 => ("SluiceRulesModel", "given", "J", false)
  | 22 => ("SluiceRulesModel", "toldSluice", "I", false)
  | 23 => ("SluiceRulesModel", "toldWhy", "I", false)
  | _ => ("SluiceRulesModel", "toldMuch", "I", false)
def tyX3 : Nat → FieldType := fun k => match k with
  | 0 => .int
  | 1 => .array .int
  | 2 => .int
  | 3 => .array .int
  | 4 => .int
  | 5 => .array .int
  | 6 => .array .int
  | 7 => .array .long
  | 8 => .array .int
  | 9 => .int
  | 10 => .array .int
  | 11 => .array .int
  | 12 => .array .int
  | 13 => .int
  | 14 => .int
  | 15 => .long
  | 16 => .int
  | 17 => .array .int
  | 18 => .array .int
  | 19 => .array .int
  | 20 => .array .long
  | 21 => .long
  | 22 => .int
  | 23 => .int
  | _ => .int
abbrev wsX30 : List Cond := u_ws RX3 TX3 25
theorem nmX3 : ∀ a, a < 25 → ∀ b, b < 25 → a ≠ b → (TX3 a).2.1 ≠ (TX3 b).2.1 := by decide +kernel
theorem tyX3_ok : ∀ k, k < 25 → parseFieldDescriptor (TX3 k).2.2.1 = some (tyX3 k) := by decide +kernel
abbrev cX3_init : ByteArray := prog_5_method_1_code
def yX3_init : MethodName := ⟨RX3, "<init>", "()V"⟩
abbrev cX3_in : ByteArray := prog_5_method_2_code
def yX3_in : MethodName := ⟨RX3, "in", "(III)Z"⟩
abbrev cX3_isBasin : ByteArray := prog_5_method_3_code
def yX3_isBasin : MethodName := ⟨RX3, "isBasin", "(I)Z"⟩
abbrev cX3_isRule : ByteArray := prog_5_method_4_code
def yX3_isRule : MethodName := ⟨RX3, "isRule", "(I)Z"⟩
abbrev cX3_isPart : ByteArray := prog_5_method_5_code
def yX3_isPart : MethodName := ⟨RX3, "isPart", "(I)Z"⟩
abbrev cX3_isSlot : ByteArray := prog_5_method_6_code
def yX3_isSlot : MethodName := ⟨RX3, "isSlot", "(I)Z"⟩
abbrev cX3_basin : ByteArray := prog_5_method_7_code
def yX3_basin : MethodName := ⟨RX3, "basin", "(I)I"⟩
abbrev cX3_fill : ByteArray := prog_5_method_8_code
def yX3_fill : MethodName := ⟨RX3, "fill", "(II)I"⟩
abbrev cX3_moon : ByteArray := prog_5_method_9_code
def yX3_moon : MethodName := ⟨RX3, "moon", "(I)I"⟩
abbrev cX3_areKnown : ByteArray := prog_5_method_10_code
def yX3_areKnown : MethodName := ⟨RX3, "areKnown", "(IIII)Z"⟩
abbrev cX3_make : ByteArray := prog_5_method_11_code
def yX3_make : MethodName := ⟨RX3, "make", "(IIIIII)I"⟩
abbrev cX3_put : ByteArray := prog_5_method_12_code
def yX3_put : MethodName := ⟨RX3, "put", "(II)I"⟩
abbrev cX3_enter : ByteArray := prog_5_method_13_code
def yX3_enter : MethodName := ⟨RX3, "enter", "(II)V"⟩
abbrev cX3_gives : ByteArray := prog_5_method_14_code
def yX3_gives : MethodName := ⟨RX3, "gives", "(J)V"⟩
abbrev cX3_downward : ByteArray := prog_5_method_15_code
def yX3_downward : MethodName := ⟨RX3, "downward", "(JJ)J"⟩
abbrev cX3_tide : ByteArray := prog_5_method_16_code
def yX3_tide : MethodName := ⟨RX3, "tide", "(I)J"⟩
abbrev cX3_joined : ByteArray := prog_5_method_17_code
def yX3_joined : MethodName := ⟨RX3, "joined", "(IJJ)J"⟩
abbrev cX3_plain : ByteArray := prog_5_method_18_code
def yX3_plain : MethodName := ⟨RX3, "plain", "(II)V"⟩
abbrev cX3_behind : ByteArray := prog_5_method_19_code
def yX3_behind : MethodName := ⟨RX3, "behind", "(I)V"⟩
abbrev cX3_pair : ByteArray := prog_5_method_20_code
def yX3_pair : MethodName := ⟨RX3, "pair", "(III)V"⟩
abbrev cX3_choice : ByteArray := prog_5_method_21_code
def yX3_choice : MethodName := ⟨RX3, "choice", "(III)V"⟩
abbrev cX3_slots : ByteArray := prog_5_method_22_code
def yX3_slots : MethodName := ⟨RX3, "slots", "(III)V"⟩
abbrev cX3_go : ByteArray := prog_5_method_23_code
def yX3_go : MethodName := ⟨RX3, "go", "()V"⟩
abbrev cX3_asks : ByteArray := prog_5_method_24_code
def yX3_asks : MethodName := ⟨RX3, "asks", "(II)Z"⟩
abbrev cX3_ask : ByteArray := prog_5_method_25_code
def yX3_ask : MethodName := ⟨RX3, "ask", "(II)I"⟩
abbrev cX3_given : ByteArray := prog_5_method_26_code
def yX3_given : MethodName := ⟨RX3, "given", "()J"⟩
abbrev cX3_sluice : ByteArray := prog_5_method_27_code
def yX3_sluice : MethodName := ⟨RX3, "sluice", "(III)I"⟩
abbrev cX3_flows : ByteArray := prog_5_method_28_code
def yX3_flows : MethodName := ⟨RX3, "flows", "(II)Z"⟩
abbrev cX3_run : ByteArray := prog_5_method_29_code
def yX3_run : MethodName := ⟨RX3, "run", "(II)I"⟩
abbrev cX3_told : ByteArray := prog_5_method_30_code
def yX3_told : MethodName := ⟨RX3, "told", "(I)I"⟩
abbrev cX3_level : ByteArray := prog_5_method_31_code
def yX3_level : MethodName := ⟨RX3, "level", "(I)I"⟩
abbrev cX3_counted : ByteArray := prog_5_method_32_code
def yX3_counted : MethodName := ⟨RX3, "counted", "(I)I"⟩
abbrev cX3_count : ByteArray := prog_5_method_33_code
def yX3_count : MethodName := ⟨RX3, "count", "(I)I"⟩
def RJ9 : String := "java/lang/Math"
def TJ9 : u_T := fun k => match k with
  | _ => ("", "", "", false)
def tyJ9 : Nat → FieldType := fun k => match k with
  | _ => .int
abbrev wsJ90 : List Cond := u_ws RJ9 TJ9 0
theorem nmJ9 : ∀ a, a < 0 → ∀ b, b < 0 → a ≠ b → (TJ9 a).2.1 ≠ (TJ9 b).2.1 := by decide +kernel
theorem tyJ9_ok : ∀ k, k < 0 → parseFieldDescriptor (TJ9 k).2.2.1 = some (tyJ9 k) := by decide +kernel
abbrev cJ9_floorDiv_f86c9 : ByteArray := prog_6_method_49_code
def yJ9_floorDiv_f86c9 : MethodName := ⟨RJ9, "floorDiv", "(JJ)J"⟩
abbrev cJ9_floorMod_f86c9 : ByteArray := prog_6_method_52_code
def yJ9_floorMod_f86c9 : MethodName := ⟨RJ9, "floorMod", "(JJ)J"⟩
abbrev cJ9_abs_067f4 : ByteArray := prog_6_method_61_code
def yJ9_abs_067f4 : MethodName := ⟨RJ9, "abs", "(J)J"⟩
abbrev cJ9_max_f86c9 : ByteArray := prog_6_method_66_code
def yJ9_max_f86c9 : MethodName := ⟨RJ9, "max", "(JJ)J"⟩
abbrev cJ9_min_7cf53 : ByteArray := prog_6_method_69_code
def yJ9_min_7cf53 : MethodName := ⟨RJ9, "min", "(II)I"⟩
abbrev cJ9_min_f86c9 : ByteArray := prog_6_method_70_code
def yJ9_min_f86c9 : MethodName := ⟨RJ9, "min", "(JJ)J"⟩
def RL : String := "SluiceRulesLaw"
abbrev cL_law : ByteArray := code
def yL_law : MethodName := ⟨RL, "law", "([I)Z"⟩
def wsX0_init : List Cond := .code yX0_init cX0_init 7 none :: ([.methodLink RX0 1 objectInit, .instanceMethod objectInit, .code objectInit ⟨#[0xb1]⟩ 1 none, .fieldLink RX0 7 "SluiceRules$Rule" "held" "J", .fieldLink RX0 13 "SluiceRules$Rule" "counter" "I", .fieldLink RX0 17 "SluiceRules$Rule" "kind" "I", .fieldLink RX0 20 "SluiceRules$Rule" "a" "I", .fieldLink RX0 23 "SluiceRules$Rule" "b" "I", .fieldLink RX0 26 "SluiceRules$Rule" "c" "I", .fieldLink RX0 29 "SluiceRules$Rule" "d" "I", .fieldLink RX0 32 "SluiceRules$Rule" "e" "I"] ++ wsX00)
def wsX1_init : List Cond := .code yX1_init cX1_init 4 none :: ([.methodLink RX1 1 objectInit, .instanceMethod objectInit, .code objectInit ⟨#[0xb1]⟩ 1 none, .fieldLink RX1 7 "SluiceRules$Sluice" "from" "I", .fieldLink RX1 13 "SluiceRules$Sluice" "to" "I", .fieldLink RX1 16 "SluiceRules$Sluice" "rule" "I"] ++ wsX10)
def wsX2_init : List Cond := .code yX2_init cX2_init 2 none :: ([.methodLink RX2 1 objectInit, .instanceMethod objectInit, .code objectInit ⟨#[0xb1]⟩ 1 none, .arrayClass .int, .fieldLink RX2 9 "SluiceRules" "levels" "[I", .fieldLink RX2 13 "SluiceRules" "basinCount" "I", .fieldLink RX2 17 "SluiceRules" "moonNow" "I", .fieldLink RX2 20 "SluiceRules" "slots" "[I", .classLink RX2 23 RX0, .fieldLink RX2 25 "SluiceRules" "rules" "[LSluiceRules$Rule;", .fieldLink RX2 29 "SluiceRules" "ruleCount" "I", .classLink RX2 32 RX1, .fieldLink RX2 34 "SluiceRules" "sluices" "[LSluiceRules$Sluice;", .fieldLink RX2 38 "SluiceRules" "sluiceCount" "I", .fieldLink RX2 41 "SluiceRules" "steps" "I", .fieldLink RX2 44 "SluiceRules" "failure" "I", .fieldLink RX2 47 "SluiceRules" "latestGiven" "J", .fieldLink RX2 51 "SluiceRules" "failedSluice" "I", .fieldLink RX2 54 "SluiceRules" "failedBy" "I", .fieldLink RX2 57 "SluiceRules" "wentOver" "I"] ++ wsX20)
def wsX2_isLevel : List Cond := .code yX2_isLevel cX2_isLevel 1 (some .boolean) :: ([.constant RX2 107 (1000000000)])
def wsX2_basin : List Cond := .code yX2_basin cX2_basin 2 (some .int) :: ([.fieldLink RX2 13 "SluiceRules" "basinCount" "I", .fieldLink RX2 9 "SluiceRules" "levels" "[I", .methodLink RX2 60 yX2_isLevel, .static yX2_isLevel, .initialized RX2, .code yX2_isLevel cX2_isLevel 1 (some .boolean), .constant RX2 107 (1000000000)] ++ wsX20)
def wsX2_isBasin : List Cond := .code yX2_isBasin cX2_isBasin 2 (some .boolean) :: ([.fieldLink RX2 13 "SluiceRules" "basinCount" "I", .fieldLink RX2 9 "SluiceRules" "levels" "[I"] ++ wsX20)
def wsX2_fill : List Cond := .code yX2_fill cX2_fill 4 (some .int) :: ([.fieldLink RX2 9 "SluiceRules" "levels" "[I", .methodLink RX2 64 yX2_isBasin, .instanceMethod yX2_isBasin, .selects RX2 yX2_isBasin yX2_isBasin, .initialized RX2, .code yX2_isBasin cX2_isBasin 2 (some .boolean), .fieldLink RX2 13 "SluiceRules" "basinCount" "I", .methodLink RX2 60 yX2_isLevel, .static yX2_isLevel, .code yX2_isLevel cX2_isLevel 1 (some .boolean), .constant RX2 107 (1000000000)] ++ wsX20)
def wsX2_moon : List Cond := .code yX2_moon cX2_moon 3 (some .int) :: ([.fieldLink RX2 17 "SluiceRules" "moonNow" "I"] ++ wsX20)
def wsX2_ruleAt : List Cond := .code yX2_ruleAt cX2_ruleAt 2 (some (.object "SluiceRules$Rule")) :: ([.fieldLink RX2 25 "SluiceRules" "rules" "[LSluiceRules$Rule;"] ++ wsX20)
def wsX2_isRuleOrNone : List Cond := .code yX2_isRuleOrNone cX2_isRuleOrNone 2 (some .boolean) :: ([.methodLink RX2 91 yX2_ruleAt, .instanceMethod yX2_ruleAt, .selects RX2 yX2_ruleAt yX2_ruleAt, .initialized RX2, .code yX2_ruleAt cX2_ruleAt 2 (some (.object "SluiceRules$Rule")), .fieldLink RX2 25 "SluiceRules" "rules" "[LSluiceRules$Rule;"] ++ wsX20)
def wsX2_countedAt : List Cond := .code yX2_countedAt cX2_countedAt 3 (some (.object "SluiceRules$Rule")) :: ([.methodLink RX2 91 yX2_ruleAt, .instanceMethod yX2_ruleAt, .selects RX2 yX2_ruleAt yX2_ruleAt, .initialized RX2, .code yX2_ruleAt cX2_ruleAt 2 (some (.object "SluiceRules$Rule")), .fieldLink RX2 25 "SluiceRules" "rules" "[LSluiceRules$Rule;"] ++ wsX00 ++ wsX20)
def wsX2_isSlot : List Cond := .code yX2_isSlot cX2_isSlot 2 (some .boolean) :: ([.fieldLink RX2 20 "SluiceRules" "slots" "[I"] ++ wsX20)
def wsX2_hasKnownParts_r1 : List Cond := [Cond.methodLink RX2 64 yX2_isBasin, Cond.instanceMethod yX2_isBasin, Cond.selects RX2 yX2_isBasin yX2_isBasin, Cond.initialized RX2, Cond.code yX2_isBasin cX2_isBasin 2 (some .boolean), Cond.fieldLink RX2 13 "SluiceRules" "basinCount" "I", Cond.fieldLink RX2 9 "SluiceRules" "levels" "[I", Cond.methodLink RX2 88 yX2_isRuleOrNone, Cond.instanceMethod yX2_isRuleOrNone, Cond.selects RX2 yX2_isRuleOrNone yX2_isRuleOrNone, Cond.code yX2_isRuleOrNone cX2_isRuleOrNone 2 (some .boolean), Cond.methodLink RX2 91 yX2_ruleAt, Cond.instanceMethod yX2_ruleAt, Cond.selects RX2 yX2_ruleAt yX2_ruleAt, Cond.code yX2_ruleAt cX2_ruleAt 2 (some (.object "SluiceRules$Rule")), Cond.fieldLink RX2 25 "SluiceRules" "rules" "[LSluiceRules$Rule;", Cond.methodLink RX2 101 yX2_countedAt, Cond.instanceMethod yX2_countedAt, Cond.selects RX2 yX2_countedAt yX2_countedAt, Cond.code yX2_countedAt cX2_countedAt 3 (some (.object "SluiceRules$Rule")), Cond.methodLink RX2 85 yX2_isSlot, Cond.instanceMethod yX2_isSlot, Cond.selects RX2 yX2_isSlot yX2_isSlot, Cond.code yX2_isSlot cX2_isSlot 2 (some .boolean)]
def wsX2_hasKnownParts_r2 : List Cond := [Cond.fieldLink RX2 20 "SluiceRules" "slots" "[I"]
def wsX2_hasKnownParts : List Cond := .code yX2_hasKnownParts cX2_hasKnownParts 5 (some .boolean) :: ((wsX2_hasKnownParts_r1 ++ wsX2_hasKnownParts_r2) ++ wsX20 ++ wsX00)
def wsX2_hasFitNumbers : List Cond := .code yX2_hasFitNumbers cX2_hasFitNumbers 6 (some .boolean) :: ([])
def wsX2_stepTo : List Cond := .code yX2_stepTo cX2_stepTo 3 (some (.object "SluiceRules$Rule")) :: ([.fieldLink RX2 44 "SluiceRules" "failure" "I", .fieldLink RX2 41 "SluiceRules" "steps" "I", .methodLink RX2 91 yX2_ruleAt, .instanceMethod yX2_ruleAt, .selects RX2 yX2_ruleAt yX2_ruleAt, .initialized RX2, .code yX2_ruleAt cX2_ruleAt 2 (some (.object "SluiceRules$Rule")), .fieldLink RX2 25 "SluiceRules" "rules" "[LSluiceRules$Rule;"] ++ wsX20)
def wsJ9_floorDiv_f86c9 : List Cond := .code yJ9_floorDiv_f86c9 cJ9_floorDiv_f86c9 6 (some .long) :: ([])
def wsX2_scaled : List Cond := .code yX2_scaled cX2_scaled 4 (some .long) :: ([.methodLink RX2 172 yJ9_floorDiv_f86c9, .static yJ9_floorDiv_f86c9, .initialized RJ9, .code yJ9_floorDiv_f86c9 cJ9_floorDiv_f86c9 6 (some .long)])
def wsX2_banded : List Cond := .code yX2_banded cX2_banded 3 (some .long) :: ([] ++ wsX00)
def wsX2_ruleInSlot : List Cond := .code yX2_ruleInSlot cX2_ruleInSlot 2 (some .int) :: ([.fieldLink RX2 20 "SluiceRules" "slots" "[I", .methodLink RX2 85 yX2_isSlot, .instanceMethod yX2_isSlot, .selects RX2 yX2_isSlot yX2_isSlot, .initialized RX2, .code yX2_isSlot cX2_isSlot 2 (some .boolean)] ++ wsX20)
def wsX2_level : List Cond := .code yX2_level cX2_level 2 (some .int) :: ([.fieldLink RX2 9 "SluiceRules" "levels" "[I", .methodLink RX2 64 yX2_isBasin, .instanceMethod yX2_isBasin, .selects RX2 yX2_isBasin yX2_isBasin, .initialized RX2, .code yX2_isBasin cX2_isBasin 2 (some .boolean), .fieldLink RX2 13 "SluiceRules" "basinCount" "I"] ++ wsX20)
def wsJ9_floorMod_f86c9 : List Cond := .code yJ9_floorMod_f86c9 cJ9_floorMod_f86c9 6 (some .long) :: ([])
def wsX2_tide : List Cond := .code yX2_tide cX2_tide 4 (some .long) :: ([.fieldLink RX2 17 "SluiceRules" "moonNow" "I", .constantLong RX2 161 (12), .constantLong RX2 166 (6), .methodLink RX2 168 Lib.MathLoose.abs_long.x, .static Lib.MathLoose.abs_long.x, .initialized "java/lang/Math", .code Lib.MathLoose.abs_long.x Lib.MathLoose.abs_long.code 2 (some .long), .methodLink RX2 163 yJ9_floorMod_f86c9, .static yJ9_floorMod_f86c9, .initialized RJ9, .code yJ9_floorMod_f86c9 cJ9_floorMod_f86c9 6 (some .long)] ++ wsX20)
def wsX2_counted : List Cond := .code yX2_counted cX2_counted 3 (some .int) :: ([.methodLink RX2 101 yX2_countedAt, .instanceMethod yX2_countedAt, .selects RX2 yX2_countedAt yX2_countedAt, .initialized RX2, .code yX2_countedAt cX2_countedAt 3 (some (.object "SluiceRules$Rule")), .methodLink RX2 91 yX2_ruleAt, .instanceMethod yX2_ruleAt, .selects RX2 yX2_ruleAt yX2_ruleAt, .code yX2_ruleAt cX2_ruleAt 2 (some (.object "SluiceRules$Rule")), .fieldLink RX2 25 "SluiceRules" "rules" "[LSluiceRules$Rule;"] ++ wsX00 ++ wsX20)
def wsX2_valueOfLeaf_r1 : List Cond := [Cond.methodLink RX2 151 yX2_level, Cond.instanceMethod yX2_level, Cond.selects RX2 yX2_level yX2_level, Cond.initialized RX2, Cond.code yX2_level cX2_level 2 (some .int), Cond.fieldLink RX2 9 "SluiceRules" "levels" "[I", Cond.methodLink RX2 64 yX2_isBasin, Cond.instanceMethod yX2_isBasin, Cond.selects RX2 yX2_isBasin yX2_isBasin, Cond.code yX2_isBasin cX2_isBasin 2 (some .boolean), Cond.fieldLink RX2 13 "SluiceRules" "basinCount" "I", Cond.methodLink RX2 154 yX2_tide, Cond.instanceMethod yX2_tide, Cond.selects RX2 yX2_tide yX2_tide, Cond.code yX2_tide cX2_tide 4 (some .long), Cond.fieldLink RX2 17 "SluiceRules" "moonNow" "I", Cond.constantLong RX2 161 (12), Cond.constantLong RX2 166 (6), Cond.methodLink RX2 168 Lib.MathLoose.abs_long.x, Cond.static Lib.MathLoose.abs_long.x, Cond.initialized "java/lang/Math", Cond.code Lib.MathLoose.abs_long.x Lib.MathLoose.abs_long.code 2 (some .long), Cond.methodLink RX2 163 yJ9_floorMod_f86c9, Cond.static yJ9_floorMod_f86c9]
def wsX2_valueOfLeaf_r2 : List Cond := [Cond.initialized RJ9, Cond.code yJ9_floorMod_f86c9 cJ9_floorMod_f86c9 6 (some .long), Cond.methodLink RX2 158 yX2_counted, Cond.instanceMethod yX2_counted, Cond.selects RX2 yX2_counted yX2_counted, Cond.code yX2_counted cX2_counted 3 (some .int), Cond.methodLink RX2 101 yX2_countedAt, Cond.instanceMethod yX2_countedAt, Cond.selects RX2 yX2_countedAt yX2_countedAt, Cond.code yX2_countedAt cX2_countedAt 3 (some (.object "SluiceRules$Rule")), Cond.methodLink RX2 91 yX2_ruleAt, Cond.instanceMethod yX2_ruleAt, Cond.selects RX2 yX2_ruleAt yX2_ruleAt, Cond.code yX2_ruleAt cX2_ruleAt 2 (some (.object "SluiceRules$Rule")), Cond.fieldLink RX2 25 "SluiceRules" "rules" "[LSluiceRules$Rule;"]
def wsX2_valueOfLeaf : List Cond := .code yX2_valueOfLeaf cX2_valueOfLeaf 3 (some .long) :: ((wsX2_valueOfLeaf_r1 ++ wsX2_valueOfLeaf_r2) ++ wsX00 ++ wsX20)
def wsX2_valueOf_r1 : List Cond := [Cond.methodLink RX2 123 Lib.MathLoose.min_long.x, Cond.static Lib.MathLoose.min_long.x, Cond.initialized "java/lang/Math", Cond.code Lib.MathLoose.min_long.x Lib.MathLoose.min_long.code 4 (some .long), Cond.methodLink RX2 129 Lib.MathLoose.max_long.x, Cond.static Lib.MathLoose.max_long.x, Cond.code Lib.MathLoose.max_long.x Lib.MathLoose.max_long.code 4 (some .long), Cond.methodLink RX2 114 yX2_stepTo, Cond.instanceMethod yX2_stepTo, Cond.selects RX2 yX2_stepTo yX2_stepTo, Cond.initialized RX2, Cond.code yX2_stepTo cX2_stepTo 3 (some (.object "SluiceRules$Rule")), Cond.fieldLink RX2 44 "SluiceRules" "failure" "I", Cond.fieldLink RX2 41 "SluiceRules" "steps" "I", Cond.methodLink RX2 91 yX2_ruleAt, Cond.instanceMethod yX2_ruleAt, Cond.selects RX2 yX2_ruleAt yX2_ruleAt, Cond.code yX2_ruleAt cX2_ruleAt 2 (some (.object "SluiceRules$Rule")), Cond.fieldLink RX2 25 "SluiceRules" "rules" "[LSluiceRules$Rule;", Cond.methodLink RX2 111 yX2_valueOf, Cond.instanceMethod yX2_valueOf, Cond.selects RX2 yX2_valueOf yX2_valueOf, Cond.methodLink RX2 135 yX2_scaled, Cond.static yX2_scaled]
def wsX2_valueOf_r2 : List Cond := [Cond.code yX2_scaled cX2_scaled 4 (some .long), Cond.methodLink RX2 172 yJ9_floorDiv_f86c9, Cond.static yJ9_floorDiv_f86c9, Cond.initialized RJ9, Cond.code yJ9_floorDiv_f86c9 cJ9_floorDiv_f86c9 6 (some .long), Cond.methodLink RX2 139 yX2_banded, Cond.static yX2_banded, Cond.code yX2_banded cX2_banded 3 (some .long), Cond.methodLink RX2 143 yX2_ruleInSlot, Cond.instanceMethod yX2_ruleInSlot, Cond.selects RX2 yX2_ruleInSlot yX2_ruleInSlot, Cond.code yX2_ruleInSlot cX2_ruleInSlot 2 (some .int), Cond.fieldLink RX2 20 "SluiceRules" "slots" "[I", Cond.methodLink RX2 85 yX2_isSlot, Cond.instanceMethod yX2_isSlot, Cond.selects RX2 yX2_isSlot yX2_isSlot, Cond.code yX2_isSlot cX2_isSlot 2 (some .boolean), Cond.methodLink RX2 147 yX2_valueOfLeaf, Cond.instanceMethod yX2_valueOfLeaf, Cond.selects RX2 yX2_valueOfLeaf yX2_valueOfLeaf, Cond.code yX2_valueOfLeaf cX2_valueOfLeaf 3 (some .long), Cond.methodLink RX2 151 yX2_level, Cond.instanceMethod yX2_level, Cond.selects RX2 yX2_level yX2_level]
def wsX2_valueOf_r3 : List Cond := [Cond.code yX2_level cX2_level 2 (some .int), Cond.fieldLink RX2 9 "SluiceRules" "levels" "[I", Cond.methodLink RX2 64 yX2_isBasin, Cond.instanceMethod yX2_isBasin, Cond.selects RX2 yX2_isBasin yX2_isBasin, Cond.code yX2_isBasin cX2_isBasin 2 (some .boolean), Cond.fieldLink RX2 13 "SluiceRules" "basinCount" "I", Cond.methodLink RX2 154 yX2_tide, Cond.instanceMethod yX2_tide, Cond.selects RX2 yX2_tide yX2_tide, Cond.code yX2_tide cX2_tide 4 (some .long), Cond.fieldLink RX2 17 "SluiceRules" "moonNow" "I", Cond.constantLong RX2 161 (12), Cond.constantLong RX2 166 (6), Cond.methodLink RX2 168 Lib.MathLoose.abs_long.x, Cond.static Lib.MathLoose.abs_long.x, Cond.code Lib.MathLoose.abs_long.x Lib.MathLoose.abs_long.code 2 (some .long), Cond.methodLink RX2 163 yJ9_floorMod_f86c9, Cond.static yJ9_floorMod_f86c9, Cond.code yJ9_floorMod_f86c9 cJ9_floorMod_f86c9 6 (some .long), Cond.methodLink RX2 158 yX2_counted, Cond.instanceMethod yX2_counted, Cond.selects RX2 yX2_counted yX2_counted, Cond.code yX2_counted cX2_counted 3 (some .int)]
def wsX2_valueOf_r4 : List Cond := [Cond.methodLink RX2 101 yX2_countedAt, Cond.instanceMethod yX2_countedAt, Cond.selects RX2 yX2_countedAt yX2_countedAt, Cond.code yX2_countedAt cX2_countedAt 3 (some (.object "SluiceRules$Rule"))]
def wsX2_valueOf : List Cond := .code yX2_valueOf cX2_valueOf 7 (some .long) :: ((wsX2_valueOf_r1 ++ (wsX2_valueOf_r2 ++ (wsX2_valueOf_r3 ++ wsX2_valueOf_r4))) ++ wsX00 ++ wsX20)
def wsX2_askByCall_r1 : List Cond := [Cond.fieldLink RX2 41 "SluiceRules" "steps" "I", Cond.fieldLink RX2 44 "SluiceRules" "failure" "I", Cond.methodLink RX2 111 yX2_valueOf, Cond.instanceMethod yX2_valueOf, Cond.selects RX2 yX2_valueOf yX2_valueOf, Cond.initialized RX2, Cond.code yX2_valueOf cX2_valueOf 7 (some .long), Cond.methodLink RX2 123 Lib.MathLoose.min_long.x, Cond.static Lib.MathLoose.min_long.x, Cond.initialized "java/lang/Math", Cond.code Lib.MathLoose.min_long.x Lib.MathLoose.min_long.code 4 (some .long), Cond.methodLink RX2 129 Lib.MathLoose.max_long.x, Cond.static Lib.MathLoose.max_long.x, Cond.code Lib.MathLoose.max_long.x Lib.MathLoose.max_long.code 4 (some .long), Cond.methodLink RX2 114 yX2_stepTo, Cond.instanceMethod yX2_stepTo, Cond.selects RX2 yX2_stepTo yX2_stepTo, Cond.code yX2_stepTo cX2_stepTo 3 (some (.object "SluiceRules$Rule")), Cond.methodLink RX2 91 yX2_ruleAt, Cond.instanceMethod yX2_ruleAt, Cond.selects RX2 yX2_ruleAt yX2_ruleAt, Cond.code yX2_ruleAt cX2_ruleAt 2 (some (.object "SluiceRules$Rule")), Cond.fieldLink RX2 25 "SluiceRules" "rules" "[LSluiceRules$Rule;", Cond.methodLink RX2 135 yX2_scaled]
def wsX2_askByCall_r2 : List Cond := [Cond.static yX2_scaled, Cond.code yX2_scaled cX2_scaled 4 (some .long), Cond.methodLink RX2 172 yJ9_floorDiv_f86c9, Cond.static yJ9_floorDiv_f86c9, Cond.initialized RJ9, Cond.code yJ9_floorDiv_f86c9 cJ9_floorDiv_f86c9 6 (some .long), Cond.methodLink RX2 139 yX2_banded, Cond.static yX2_banded, Cond.code yX2_banded cX2_banded 3 (some .long), Cond.methodLink RX2 143 yX2_ruleInSlot, Cond.instanceMethod yX2_ruleInSlot, Cond.selects RX2 yX2_ruleInSlot yX2_ruleInSlot, Cond.code yX2_ruleInSlot cX2_ruleInSlot 2 (some .int), Cond.fieldLink RX2 20 "SluiceRules" "slots" "[I", Cond.methodLink RX2 85 yX2_isSlot, Cond.instanceMethod yX2_isSlot, Cond.selects RX2 yX2_isSlot yX2_isSlot, Cond.code yX2_isSlot cX2_isSlot 2 (some .boolean), Cond.methodLink RX2 147 yX2_valueOfLeaf, Cond.instanceMethod yX2_valueOfLeaf, Cond.selects RX2 yX2_valueOfLeaf yX2_valueOfLeaf, Cond.code yX2_valueOfLeaf cX2_valueOfLeaf 3 (some .long), Cond.methodLink RX2 151 yX2_level, Cond.instanceMethod yX2_level]
def wsX2_askByCall_r3 : List Cond := [Cond.selects RX2 yX2_level yX2_level, Cond.code yX2_level cX2_level 2 (some .int), Cond.fieldLink RX2 9 "SluiceRules" "levels" "[I", Cond.methodLink RX2 64 yX2_isBasin, Cond.instanceMethod yX2_isBasin, Cond.selects RX2 yX2_isBasin yX2_isBasin, Cond.code yX2_isBasin cX2_isBasin 2 (some .boolean), Cond.fieldLink RX2 13 "SluiceRules" "basinCount" "I", Cond.methodLink RX2 154 yX2_tide, Cond.instanceMethod yX2_tide, Cond.selects RX2 yX2_tide yX2_tide, Cond.code yX2_tide cX2_tide 4 (some .long), Cond.fieldLink RX2 17 "SluiceRules" "moonNow" "I", Cond.constantLong RX2 161 (12), Cond.constantLong RX2 166 (6), Cond.methodLink RX2 168 Lib.MathLoose.abs_long.x, Cond.static Lib.MathLoose.abs_long.x, Cond.code Lib.MathLoose.abs_long.x Lib.MathLoose.abs_long.code 2 (some .long), Cond.methodLink RX2 163 yJ9_floorMod_f86c9, Cond.static yJ9_floorMod_f86c9, Cond.code yJ9_floorMod_f86c9 cJ9_floorMod_f86c9 6 (some .long), Cond.methodLink RX2 158 yX2_counted, Cond.instanceMethod yX2_counted, Cond.selects RX2 yX2_counted yX2_counted]
def wsX2_askByCall_r4 : List Cond := [Cond.code yX2_counted cX2_counted 3 (some .int), Cond.methodLink RX2 101 yX2_countedAt, Cond.instanceMethod yX2_countedAt, Cond.selects RX2 yX2_countedAt yX2_countedAt, Cond.code yX2_countedAt cX2_countedAt 3 (some (.object "SluiceRules$Rule"))]
def wsX2_askByCall : List Cond := .code yX2_askByCall cX2_askByCall 3 (some .long) :: ((wsX2_askByCall_r1 ++ (wsX2_askByCall_r2 ++ (wsX2_askByCall_r3 ++ wsX2_askByCall_r4))) ++ wsX20 ++ wsX00)
def wsX2_make_r1 : List Cond := [Cond.fieldLink RX2 29 "SluiceRules" "ruleCount" "I", Cond.fieldLink RX2 25 "SluiceRules" "rules" "[LSluiceRules$Rule;", Cond.fieldLink RX2 44 "SluiceRules" "failure" "I", Cond.classLink RX2 23 RX0, Cond.instantiable RX0 8, Cond.initialized RX0, Cond.methodLink RX2 67 yX2_hasKnownParts, Cond.instanceMethod yX2_hasKnownParts, Cond.selects RX2 yX2_hasKnownParts yX2_hasKnownParts, Cond.initialized RX2, Cond.code yX2_hasKnownParts cX2_hasKnownParts 5 (some .boolean), Cond.methodLink RX2 64 yX2_isBasin, Cond.instanceMethod yX2_isBasin, Cond.selects RX2 yX2_isBasin yX2_isBasin, Cond.code yX2_isBasin cX2_isBasin 2 (some .boolean), Cond.fieldLink RX2 13 "SluiceRules" "basinCount" "I", Cond.fieldLink RX2 9 "SluiceRules" "levels" "[I", Cond.methodLink RX2 88 yX2_isRuleOrNone, Cond.instanceMethod yX2_isRuleOrNone, Cond.selects RX2 yX2_isRuleOrNone yX2_isRuleOrNone, Cond.code yX2_isRuleOrNone cX2_isRuleOrNone 2 (some .boolean), Cond.methodLink RX2 91 yX2_ruleAt, Cond.instanceMethod yX2_ruleAt, Cond.selects RX2 yX2_ruleAt yX2_ruleAt]
def wsX2_make_r2 : List Cond := [Cond.code yX2_ruleAt cX2_ruleAt 2 (some (.object "SluiceRules$Rule")), Cond.methodLink RX2 101 yX2_countedAt, Cond.instanceMethod yX2_countedAt, Cond.selects RX2 yX2_countedAt yX2_countedAt, Cond.code yX2_countedAt cX2_countedAt 3 (some (.object "SluiceRules$Rule")), Cond.methodLink RX2 85 yX2_isSlot, Cond.instanceMethod yX2_isSlot, Cond.selects RX2 yX2_isSlot yX2_isSlot, Cond.code yX2_isSlot cX2_isSlot 2 (some .boolean), Cond.fieldLink RX2 20 "SluiceRules" "slots" "[I", Cond.methodLink RX2 71 yX2_hasFitNumbers, Cond.static yX2_hasFitNumbers, Cond.code yX2_hasFitNumbers cX2_hasFitNumbers 6 (some .boolean), Cond.methodLink RX2 75 yX2_askByCall, Cond.instanceMethod yX2_askByCall, Cond.selects RX2 yX2_askByCall yX2_askByCall, Cond.code yX2_askByCall cX2_askByCall 3 (some .long), Cond.fieldLink RX2 41 "SluiceRules" "steps" "I", Cond.methodLink RX2 111 yX2_valueOf, Cond.instanceMethod yX2_valueOf, Cond.selects RX2 yX2_valueOf yX2_valueOf, Cond.code yX2_valueOf cX2_valueOf 7 (some .long), Cond.methodLink RX2 123 Lib.MathLoose.min_long.x, Cond.static Lib.MathLoose.min_long.x]
def wsX2_make_r3 : List Cond := [Cond.initialized "java/lang/Math", Cond.code Lib.MathLoose.min_long.x Lib.MathLoose.min_long.code 4 (some .long), Cond.methodLink RX2 129 Lib.MathLoose.max_long.x, Cond.static Lib.MathLoose.max_long.x, Cond.code Lib.MathLoose.max_long.x Lib.MathLoose.max_long.code 4 (some .long), Cond.methodLink RX2 114 yX2_stepTo, Cond.instanceMethod yX2_stepTo, Cond.selects RX2 yX2_stepTo yX2_stepTo, Cond.code yX2_stepTo cX2_stepTo 3 (some (.object "SluiceRules$Rule")), Cond.methodLink RX2 135 yX2_scaled, Cond.static yX2_scaled, Cond.code yX2_scaled cX2_scaled 4 (some .long), Cond.methodLink RX2 172 yJ9_floorDiv_f86c9, Cond.static yJ9_floorDiv_f86c9, Cond.initialized RJ9, Cond.code yJ9_floorDiv_f86c9 cJ9_floorDiv_f86c9 6 (some .long), Cond.methodLink RX2 139 yX2_banded, Cond.static yX2_banded, Cond.code yX2_banded cX2_banded 3 (some .long), Cond.methodLink RX2 143 yX2_ruleInSlot, Cond.instanceMethod yX2_ruleInSlot, Cond.selects RX2 yX2_ruleInSlot yX2_ruleInSlot, Cond.code yX2_ruleInSlot cX2_ruleInSlot 2 (some .int), Cond.methodLink RX2 147 yX2_valueOfLeaf]
def wsX2_make_r4 : List Cond := [Cond.instanceMethod yX2_valueOfLeaf, Cond.selects RX2 yX2_valueOfLeaf yX2_valueOfLeaf, Cond.code yX2_valueOfLeaf cX2_valueOfLeaf 3 (some .long), Cond.methodLink RX2 151 yX2_level, Cond.instanceMethod yX2_level, Cond.selects RX2 yX2_level yX2_level, Cond.code yX2_level cX2_level 2 (some .int), Cond.methodLink RX2 154 yX2_tide, Cond.instanceMethod yX2_tide, Cond.selects RX2 yX2_tide yX2_tide, Cond.code yX2_tide cX2_tide 4 (some .long), Cond.fieldLink RX2 17 "SluiceRules" "moonNow" "I", Cond.constantLong RX2 161 (12), Cond.constantLong RX2 166 (6), Cond.methodLink RX2 168 Lib.MathLoose.abs_long.x, Cond.static Lib.MathLoose.abs_long.x, Cond.code Lib.MathLoose.abs_long.x Lib.MathLoose.abs_long.code 2 (some .long), Cond.methodLink RX2 163 yJ9_floorMod_f86c9, Cond.static yJ9_floorMod_f86c9, Cond.code yJ9_floorMod_f86c9 cJ9_floorMod_f86c9 6 (some .long), Cond.methodLink RX2 158 yX2_counted, Cond.instanceMethod yX2_counted, Cond.selects RX2 yX2_counted yX2_counted, Cond.code yX2_counted cX2_counted 3 (some .int)]
def wsX2_make_r5 : List Cond := [Cond.instanceMethod yX0_init, Cond.code yX0_init cX0_init 7 none, Cond.methodLink RX0 1 objectInit, Cond.instanceMethod objectInit, Cond.code objectInit ⟨#[0xb1]⟩ 1 none, Cond.fieldLink RX0 7 "SluiceRules$Rule" "held" "J", Cond.fieldLink RX0 13 "SluiceRules$Rule" "counter" "I", Cond.fieldLink RX0 17 "SluiceRules$Rule" "kind" "I", Cond.fieldLink RX0 20 "SluiceRules$Rule" "a" "I", Cond.fieldLink RX0 23 "SluiceRules$Rule" "b" "I", Cond.fieldLink RX0 26 "SluiceRules$Rule" "c" "I", Cond.fieldLink RX0 29 "SluiceRules$Rule" "d" "I", Cond.fieldLink RX0 32 "SluiceRules$Rule" "e" "I"]
def wsX2_make : List Cond := .code yX2_make cX2_make 10 (some .int) :: ((wsX2_make_r1 ++ (wsX2_make_r2 ++ (wsX2_make_r3 ++ (wsX2_make_r4 ++ wsX2_make_r5)))) ++ wsX20 ++ wsX00)
def wsX2_put : List Cond := .code yX2_put cX2_put 4 (some .int) :: ([.fieldLink RX2 20 "SluiceRules" "slots" "[I", .methodLink RX2 85 yX2_isSlot, .instanceMethod yX2_isSlot, .selects RX2 yX2_isSlot yX2_isSlot, .initialized RX2, .code yX2_isSlot cX2_isSlot 2 (some .boolean), .methodLink RX2 88 yX2_isRuleOrNone, .instanceMethod yX2_isRuleOrNone, .selects RX2 yX2_isRuleOrNone yX2_isRuleOrNone, .code yX2_isRuleOrNone cX2_isRuleOrNone 2 (some .boolean), .methodLink RX2 91 yX2_ruleAt, .instanceMethod yX2_ruleAt, .selects RX2 yX2_ruleAt yX2_ruleAt, .code yX2_ruleAt cX2_ruleAt 2 (some (.object "SluiceRules$Rule")), .fieldLink RX2 25 "SluiceRules" "rules" "[LSluiceRules$Rule;"] ++ wsX20)
def wsX2_ask_r1 : List Cond := [Cond.fieldLink RX2 44 "SluiceRules" "failure" "I", Cond.fieldLink RX2 47 "SluiceRules" "latestGiven" "J", Cond.methodLink RX2 91 yX2_ruleAt, Cond.instanceMethod yX2_ruleAt, Cond.selects RX2 yX2_ruleAt yX2_ruleAt, Cond.initialized RX2, Cond.code yX2_ruleAt cX2_ruleAt 2 (some (.object "SluiceRules$Rule")), Cond.fieldLink RX2 25 "SluiceRules" "rules" "[LSluiceRules$Rule;", Cond.methodLink RX2 75 yX2_askByCall, Cond.instanceMethod yX2_askByCall, Cond.selects RX2 yX2_askByCall yX2_askByCall, Cond.code yX2_askByCall cX2_askByCall 3 (some .long), Cond.fieldLink RX2 41 "SluiceRules" "steps" "I", Cond.methodLink RX2 111 yX2_valueOf, Cond.instanceMethod yX2_valueOf, Cond.selects RX2 yX2_valueOf yX2_valueOf, Cond.code yX2_valueOf cX2_valueOf 7 (some .long), Cond.methodLink RX2 123 Lib.MathLoose.min_long.x, Cond.static Lib.MathLoose.min_long.x, Cond.initialized "java/lang/Math", Cond.code Lib.MathLoose.min_long.x Lib.MathLoose.min_long.code 4 (some .long), Cond.methodLink RX2 129 Lib.MathLoose.max_long.x, Cond.static Lib.MathLoose.max_long.x, Cond.code Lib.MathLoose.max_long.x Lib.MathLoose.max_long.code 4 (some .long)]
def wsX2_ask_r2 : List Cond := [Cond.methodLink RX2 114 yX2_stepTo, Cond.instanceMethod yX2_stepTo, Cond.selects RX2 yX2_stepTo yX2_stepTo, Cond.code yX2_stepTo cX2_stepTo 3 (some (.object "SluiceRules$Rule")), Cond.methodLink RX2 135 yX2_scaled, Cond.static yX2_scaled, Cond.code yX2_scaled cX2_scaled 4 (some .long), Cond.methodLink RX2 172 yJ9_floorDiv_f86c9, Cond.static yJ9_floorDiv_f86c9, Cond.initialized RJ9, Cond.code yJ9_floorDiv_f86c9 cJ9_floorDiv_f86c9 6 (some .long), Cond.methodLink RX2 139 yX2_banded, Cond.static yX2_banded, Cond.code yX2_banded cX2_banded 3 (some .long), Cond.methodLink RX2 143 yX2_ruleInSlot, Cond.instanceMethod yX2_ruleInSlot, Cond.selects RX2 yX2_ruleInSlot yX2_ruleInSlot, Cond.code yX2_ruleInSlot cX2_ruleInSlot 2 (some .int), Cond.fieldLink RX2 20 "SluiceRules" "slots" "[I", Cond.methodLink RX2 85 yX2_isSlot, Cond.instanceMethod yX2_isSlot, Cond.selects RX2 yX2_isSlot yX2_isSlot, Cond.code yX2_isSlot cX2_isSlot 2 (some .boolean), Cond.methodLink RX2 147 yX2_valueOfLeaf]
def wsX2_ask_r3 : List Cond := [Cond.instanceMethod yX2_valueOfLeaf, Cond.selects RX2 yX2_valueOfLeaf yX2_valueOfLeaf, Cond.code yX2_valueOfLeaf cX2_valueOfLeaf 3 (some .long), Cond.methodLink RX2 151 yX2_level, Cond.instanceMethod yX2_level, Cond.selects RX2 yX2_level yX2_level, Cond.code yX2_level cX2_level 2 (some .int), Cond.fieldLink RX2 9 "SluiceRules" "levels" "[I", Cond.methodLink RX2 64 yX2_isBasin, Cond.instanceMethod yX2_isBasin, Cond.selects RX2 yX2_isBasin yX2_isBasin, Cond.code yX2_isBasin cX2_isBasin 2 (some .boolean), Cond.fieldLink RX2 13 "SluiceRules" "basinCount" "I", Cond.methodLink RX2 154 yX2_tide, Cond.instanceMethod yX2_tide, Cond.selects RX2 yX2_tide yX2_tide, Cond.code yX2_tide cX2_tide 4 (some .long), Cond.fieldLink RX2 17 "SluiceRules" "moonNow" "I", Cond.constantLong RX2 161 (12), Cond.constantLong RX2 166 (6), Cond.methodLink RX2 168 Lib.MathLoose.abs_long.x, Cond.static Lib.MathLoose.abs_long.x, Cond.code Lib.MathLoose.abs_long.x Lib.MathLoose.abs_long.code 2 (some .long), Cond.methodLink RX2 163 yJ9_floorMod_f86c9]
def wsX2_ask_r4 : List Cond := [Cond.static yJ9_floorMod_f86c9, Cond.code yJ9_floorMod_f86c9 cJ9_floorMod_f86c9 6 (some .long), Cond.methodLink RX2 158 yX2_counted, Cond.instanceMethod yX2_counted, Cond.selects RX2 yX2_counted yX2_counted, Cond.code yX2_counted cX2_counted 3 (some .int), Cond.methodLink RX2 101 yX2_countedAt, Cond.instanceMethod yX2_countedAt, Cond.selects RX2 yX2_countedAt yX2_countedAt, Cond.code yX2_countedAt cX2_countedAt 3 (some (.object "SluiceRules$Rule"))]
def wsX2_ask : List Cond := .code yX2_ask cX2_ask 5 (some .int) :: ((wsX2_ask_r1 ++ (wsX2_ask_r2 ++ (wsX2_ask_r3 ++ wsX2_ask_r4))) ++ wsX20 ++ wsX00)
def wsX2_given : List Cond := .code yX2_given cX2_given 1 (some .long) :: ([.fieldLink RX2 47 "SluiceRules" "latestGiven" "J"] ++ wsX20)
def wsX2_sluice_r1 : List Cond := [Cond.fieldLink RX2 38 "SluiceRules" "sluiceCount" "I", Cond.fieldLink RX2 34 "SluiceRules" "sluices" "[LSluiceRules$Sluice;", Cond.classLink RX2 32 RX1, Cond.instantiable RX1 3, Cond.initialized RX1, Cond.methodLink RX2 64 yX2_isBasin, Cond.instanceMethod yX2_isBasin, Cond.selects RX2 yX2_isBasin yX2_isBasin, Cond.initialized RX2, Cond.code yX2_isBasin cX2_isBasin 2 (some .boolean), Cond.fieldLink RX2 13 "SluiceRules" "basinCount" "I", Cond.fieldLink RX2 9 "SluiceRules" "levels" "[I", Cond.methodLink RX2 91 yX2_ruleAt, Cond.instanceMethod yX2_ruleAt, Cond.selects RX2 yX2_ruleAt yX2_ruleAt, Cond.code yX2_ruleAt cX2_ruleAt 2 (some (.object "SluiceRules$Rule")), Cond.fieldLink RX2 25 "SluiceRules" "rules" "[LSluiceRules$Rule;", Cond.instanceMethod yX1_init, Cond.code yX1_init cX1_init 4 none, Cond.methodLink RX1 1 objectInit, Cond.instanceMethod objectInit, Cond.code objectInit ⟨#[0xb1]⟩ 1 none, Cond.fieldLink RX1 7 "SluiceRules$Sluice" "from" "I", Cond.fieldLink RX1 13 "SluiceRules$Sluice" "to" "I"]
def wsX2_sluice_r2 : List Cond := [Cond.fieldLink RX1 16 "SluiceRules$Sluice" "rule" "I"]
def wsX2_sluice : List Cond := .code yX2_sluice cX2_sluice 4 (some .int) :: ((wsX2_sluice_r1 ++ wsX2_sluice_r2) ++ wsX20 ++ wsX10)
def wsX2_letOver_r1 : List Cond := [Cond.constant RX2 107 (1000000000), Cond.methodLink RX2 194 Lib.Math.min.name, Cond.static Lib.Math.min.name, Cond.initialized "java/lang/Math", Cond.code Lib.Math.min.name Lib.Math.min.code 2 (some .int), Cond.methodLink RX2 123 Lib.MathLoose.min_long.x, Cond.static Lib.MathLoose.min_long.x, Cond.code Lib.MathLoose.min_long.x Lib.MathLoose.min_long.code 4 (some .long), Cond.methodLink RX2 129 Lib.MathLoose.max_long.x, Cond.static Lib.MathLoose.max_long.x, Cond.code Lib.MathLoose.max_long.x Lib.MathLoose.max_long.code 4 (some .long), Cond.methodLink RX2 151 yX2_level, Cond.instanceMethod yX2_level, Cond.selects RX2 yX2_level yX2_level, Cond.initialized RX2, Cond.code yX2_level cX2_level 2 (some .int), Cond.fieldLink RX2 9 "SluiceRules" "levels" "[I", Cond.methodLink RX2 64 yX2_isBasin, Cond.instanceMethod yX2_isBasin, Cond.selects RX2 yX2_isBasin yX2_isBasin, Cond.code yX2_isBasin cX2_isBasin 2 (some .boolean), Cond.fieldLink RX2 13 "SluiceRules" "basinCount" "I", Cond.methodLink RX2 197 yX2_fill, Cond.instanceMethod yX2_fill]
def wsX2_letOver_r2 : List Cond := [Cond.selects RX2 yX2_fill yX2_fill, Cond.code yX2_fill cX2_fill 4 (some .int), Cond.methodLink RX2 60 yX2_isLevel, Cond.static yX2_isLevel, Cond.code yX2_isLevel cX2_isLevel 1 (some .boolean)]
def wsX2_letOver : List Cond := .code yX2_letOver cX2_letOver 7 (some .int) :: ((wsX2_letOver_r1 ++ wsX2_letOver_r2) ++ wsX10 ++ wsX20)
def wsX2_goesWhole_r1 : List Cond := [Cond.fieldLink RX2 34 "SluiceRules" "sluices" "[LSluiceRules$Sluice;", Cond.fieldLink RX2 44 "SluiceRules" "failure" "I", Cond.fieldLink RX2 51 "SluiceRules" "failedSluice" "I", Cond.fieldLink RX2 54 "SluiceRules" "failedBy" "I", Cond.fieldLink RX2 57 "SluiceRules" "wentOver" "I", Cond.methodLink RX2 75 yX2_askByCall, Cond.instanceMethod yX2_askByCall, Cond.selects RX2 yX2_askByCall yX2_askByCall, Cond.initialized RX2, Cond.code yX2_askByCall cX2_askByCall 3 (some .long), Cond.fieldLink RX2 41 "SluiceRules" "steps" "I", Cond.methodLink RX2 111 yX2_valueOf, Cond.instanceMethod yX2_valueOf, Cond.selects RX2 yX2_valueOf yX2_valueOf, Cond.code yX2_valueOf cX2_valueOf 7 (some .long), Cond.methodLink RX2 123 Lib.MathLoose.min_long.x, Cond.static Lib.MathLoose.min_long.x, Cond.initialized "java/lang/Math", Cond.code Lib.MathLoose.min_long.x Lib.MathLoose.min_long.code 4 (some .long), Cond.methodLink RX2 129 Lib.MathLoose.max_long.x, Cond.static Lib.MathLoose.max_long.x, Cond.code Lib.MathLoose.max_long.x Lib.MathLoose.max_long.code 4 (some .long), Cond.methodLink RX2 114 yX2_stepTo, Cond.instanceMethod yX2_stepTo]
def wsX2_goesWhole_r2 : List Cond := [Cond.selects RX2 yX2_stepTo yX2_stepTo, Cond.code yX2_stepTo cX2_stepTo 3 (some (.object "SluiceRules$Rule")), Cond.methodLink RX2 91 yX2_ruleAt, Cond.instanceMethod yX2_ruleAt, Cond.selects RX2 yX2_ruleAt yX2_ruleAt, Cond.code yX2_ruleAt cX2_ruleAt 2 (some (.object "SluiceRules$Rule")), Cond.fieldLink RX2 25 "SluiceRules" "rules" "[LSluiceRules$Rule;", Cond.methodLink RX2 135 yX2_scaled, Cond.static yX2_scaled, Cond.code yX2_scaled cX2_scaled 4 (some .long), Cond.methodLink RX2 172 yJ9_floorDiv_f86c9, Cond.static yJ9_floorDiv_f86c9, Cond.initialized RJ9, Cond.code yJ9_floorDiv_f86c9 cJ9_floorDiv_f86c9 6 (some .long), Cond.methodLink RX2 139 yX2_banded, Cond.static yX2_banded, Cond.code yX2_banded cX2_banded 3 (some .long), Cond.methodLink RX2 143 yX2_ruleInSlot, Cond.instanceMethod yX2_ruleInSlot, Cond.selects RX2 yX2_ruleInSlot yX2_ruleInSlot, Cond.code yX2_ruleInSlot cX2_ruleInSlot 2 (some .int), Cond.fieldLink RX2 20 "SluiceRules" "slots" "[I", Cond.methodLink RX2 85 yX2_isSlot, Cond.instanceMethod yX2_isSlot]
def wsX2_goesWhole_r3 : List Cond := [Cond.selects RX2 yX2_isSlot yX2_isSlot, Cond.code yX2_isSlot cX2_isSlot 2 (some .boolean), Cond.methodLink RX2 147 yX2_valueOfLeaf, Cond.instanceMethod yX2_valueOfLeaf, Cond.selects RX2 yX2_valueOfLeaf yX2_valueOfLeaf, Cond.code yX2_valueOfLeaf cX2_valueOfLeaf 3 (some .long), Cond.methodLink RX2 151 yX2_level, Cond.instanceMethod yX2_level, Cond.selects RX2 yX2_level yX2_level, Cond.code yX2_level cX2_level 2 (some .int), Cond.fieldLink RX2 9 "SluiceRules" "levels" "[I", Cond.methodLink RX2 64 yX2_isBasin, Cond.instanceMethod yX2_isBasin, Cond.selects RX2 yX2_isBasin yX2_isBasin, Cond.code yX2_isBasin cX2_isBasin 2 (some .boolean), Cond.fieldLink RX2 13 "SluiceRules" "basinCount" "I", Cond.methodLink RX2 154 yX2_tide, Cond.instanceMethod yX2_tide, Cond.selects RX2 yX2_tide yX2_tide, Cond.code yX2_tide cX2_tide 4 (some .long), Cond.fieldLink RX2 17 "SluiceRules" "moonNow" "I", Cond.constantLong RX2 161 (12), Cond.constantLong RX2 166 (6), Cond.methodLink RX2 168 Lib.MathLoose.abs_long.x]
def wsX2_goesWhole_r4 : List Cond := [Cond.static Lib.MathLoose.abs_long.x, Cond.code Lib.MathLoose.abs_long.x Lib.MathLoose.abs_long.code 2 (some .long), Cond.methodLink RX2 163 yJ9_floorMod_f86c9, Cond.static yJ9_floorMod_f86c9, Cond.code yJ9_floorMod_f86c9 cJ9_floorMod_f86c9 6 (some .long), Cond.methodLink RX2 158 yX2_counted, Cond.instanceMethod yX2_counted, Cond.selects RX2 yX2_counted yX2_counted, Cond.code yX2_counted cX2_counted 3 (some .int), Cond.methodLink RX2 101 yX2_countedAt, Cond.instanceMethod yX2_countedAt, Cond.selects RX2 yX2_countedAt yX2_countedAt, Cond.code yX2_countedAt cX2_countedAt 3 (some (.object "SluiceRules$Rule")), Cond.methodLink RX2 184 yX2_letOver, Cond.instanceMethod yX2_letOver, Cond.selects RX2 yX2_letOver yX2_letOver, Cond.code yX2_letOver cX2_letOver 7 (some .int), Cond.constant RX2 107 (1000000000), Cond.methodLink RX2 194 Lib.Math.min.name, Cond.static Lib.Math.min.name, Cond.code Lib.Math.min.name Lib.Math.min.code 2 (some .int), Cond.methodLink RX2 197 yX2_fill, Cond.instanceMethod yX2_fill, Cond.selects RX2 yX2_fill yX2_fill]
def wsX2_goesWhole_r5 : List Cond := [Cond.code yX2_fill cX2_fill 4 (some .int), Cond.methodLink RX2 60 yX2_isLevel, Cond.static yX2_isLevel, Cond.code yX2_isLevel cX2_isLevel 1 (some .boolean)]
def wsX2_goesWhole : List Cond := .code yX2_goesWhole cX2_goesWhole 6 (some .boolean) :: ((wsX2_goesWhole_r1 ++ (wsX2_goesWhole_r2 ++ (wsX2_goesWhole_r3 ++ (wsX2_goesWhole_r4 ++ wsX2_goesWhole_r5)))) ++ wsX20 ++ wsX10 ++ wsX00)
def wsX2_run_r1 : List Cond := [Cond.fieldLink RX2 51 "SluiceRules" "failedSluice" "I", Cond.fieldLink RX2 54 "SluiceRules" "failedBy" "I", Cond.fieldLink RX2 57 "SluiceRules" "wentOver" "I", Cond.methodLink RX2 98 yX2_goesWhole, Cond.instanceMethod yX2_goesWhole, Cond.selects RX2 yX2_goesWhole yX2_goesWhole, Cond.initialized RX2, Cond.code yX2_goesWhole cX2_goesWhole 6 (some .boolean), Cond.fieldLink RX2 34 "SluiceRules" "sluices" "[LSluiceRules$Sluice;", Cond.fieldLink RX2 44 "SluiceRules" "failure" "I", Cond.methodLink RX2 75 yX2_askByCall, Cond.instanceMethod yX2_askByCall, Cond.selects RX2 yX2_askByCall yX2_askByCall, Cond.code yX2_askByCall cX2_askByCall 3 (some .long), Cond.fieldLink RX2 41 "SluiceRules" "steps" "I", Cond.methodLink RX2 111 yX2_valueOf, Cond.instanceMethod yX2_valueOf, Cond.selects RX2 yX2_valueOf yX2_valueOf, Cond.code yX2_valueOf cX2_valueOf 7 (some .long), Cond.methodLink RX2 123 Lib.MathLoose.min_long.x, Cond.static Lib.MathLoose.min_long.x, Cond.initialized "java/lang/Math", Cond.code Lib.MathLoose.min_long.x Lib.MathLoose.min_long.code 4 (some .long), Cond.methodLink RX2 129 Lib.MathLoose.max_long.x]
def wsX2_run_r2 : List Cond := [Cond.static Lib.MathLoose.max_long.x, Cond.code Lib.MathLoose.max_long.x Lib.MathLoose.max_long.code 4 (some .long), Cond.methodLink RX2 114 yX2_stepTo, Cond.instanceMethod yX2_stepTo, Cond.selects RX2 yX2_stepTo yX2_stepTo, Cond.code yX2_stepTo cX2_stepTo 3 (some (.object "SluiceRules$Rule")), Cond.methodLink RX2 91 yX2_ruleAt, Cond.instanceMethod yX2_ruleAt, Cond.selects RX2 yX2_ruleAt yX2_ruleAt, Cond.code yX2_ruleAt cX2_ruleAt 2 (some (.object "SluiceRules$Rule")), Cond.fieldLink RX2 25 "SluiceRules" "rules" "[LSluiceRules$Rule;", Cond.methodLink RX2 135 yX2_scaled, Cond.static yX2_scaled, Cond.code yX2_scaled cX2_scaled 4 (some .long), Cond.methodLink RX2 172 yJ9_floorDiv_f86c9, Cond.static yJ9_floorDiv_f86c9, Cond.initialized RJ9, Cond.code yJ9_floorDiv_f86c9 cJ9_floorDiv_f86c9 6 (some .long), Cond.methodLink RX2 139 yX2_banded, Cond.static yX2_banded, Cond.code yX2_banded cX2_banded 3 (some .long), Cond.methodLink RX2 143 yX2_ruleInSlot, Cond.instanceMethod yX2_ruleInSlot, Cond.selects RX2 yX2_ruleInSlot yX2_ruleInSlot]
def wsX2_run_r3 : List Cond := [Cond.code yX2_ruleInSlot cX2_ruleInSlot 2 (some .int), Cond.fieldLink RX2 20 "SluiceRules" "slots" "[I", Cond.methodLink RX2 85 yX2_isSlot, Cond.instanceMethod yX2_isSlot, Cond.selects RX2 yX2_isSlot yX2_isSlot, Cond.code yX2_isSlot cX2_isSlot 2 (some .boolean), Cond.methodLink RX2 147 yX2_valueOfLeaf, Cond.instanceMethod yX2_valueOfLeaf, Cond.selects RX2 yX2_valueOfLeaf yX2_valueOfLeaf, Cond.code yX2_valueOfLeaf cX2_valueOfLeaf 3 (some .long), Cond.methodLink RX2 151 yX2_level, Cond.instanceMethod yX2_level, Cond.selects RX2 yX2_level yX2_level, Cond.code yX2_level cX2_level 2 (some .int), Cond.fieldLink RX2 9 "SluiceRules" "levels" "[I", Cond.methodLink RX2 64 yX2_isBasin, Cond.instanceMethod yX2_isBasin, Cond.selects RX2 yX2_isBasin yX2_isBasin, Cond.code yX2_isBasin cX2_isBasin 2 (some .boolean), Cond.fieldLink RX2 13 "SluiceRules" "basinCount" "I", Cond.methodLink RX2 154 yX2_tide, Cond.instanceMethod yX2_tide, Cond.selects RX2 yX2_tide yX2_tide, Cond.code yX2_tide cX2_tide 4 (some .long)]
def wsX2_run_r4 : List Cond := [Cond.fieldLink RX2 17 "SluiceRules" "moonNow" "I", Cond.constantLong RX2 161 (12), Cond.constantLong RX2 166 (6), Cond.methodLink RX2 168 Lib.MathLoose.abs_long.x, Cond.static Lib.MathLoose.abs_long.x, Cond.code Lib.MathLoose.abs_long.x Lib.MathLoose.abs_long.code 2 (some .long), Cond.methodLink RX2 163 yJ9_floorMod_f86c9, Cond.static yJ9_floorMod_f86c9, Cond.code yJ9_floorMod_f86c9 cJ9_floorMod_f86c9 6 (some .long), Cond.methodLink RX2 158 yX2_counted, Cond.instanceMethod yX2_counted, Cond.selects RX2 yX2_counted yX2_counted, Cond.code yX2_counted cX2_counted 3 (some .int), Cond.methodLink RX2 101 yX2_countedAt, Cond.instanceMethod yX2_countedAt, Cond.selects RX2 yX2_countedAt yX2_countedAt, Cond.code yX2_countedAt cX2_countedAt 3 (some (.object "SluiceRules$Rule")), Cond.methodLink RX2 184 yX2_letOver, Cond.instanceMethod yX2_letOver, Cond.selects RX2 yX2_letOver yX2_letOver, Cond.code yX2_letOver cX2_letOver 7 (some .int), Cond.constant RX2 107 (1000000000), Cond.methodLink RX2 194 Lib.Math.min.name, Cond.static Lib.Math.min.name]
def wsX2_run_r5 : List Cond := [Cond.code Lib.Math.min.name Lib.Math.min.code 2 (some .int), Cond.methodLink RX2 197 yX2_fill, Cond.instanceMethod yX2_fill, Cond.selects RX2 yX2_fill yX2_fill, Cond.code yX2_fill cX2_fill 4 (some .int), Cond.methodLink RX2 60 yX2_isLevel, Cond.static yX2_isLevel, Cond.code yX2_isLevel cX2_isLevel 1 (some .boolean)]
def wsX2_run : List Cond := .code yX2_run cX2_run 4 (some .int) :: ((wsX2_run_r1 ++ (wsX2_run_r2 ++ (wsX2_run_r3 ++ (wsX2_run_r4 ++ wsX2_run_r5)))) ++ wsX20 ++ wsX10 ++ wsX00)
def wsX2_told : List Cond := .code yX2_told cX2_told 2 (some .int) :: ([.fieldLink RX2 51 "SluiceRules" "failedSluice" "I", .fieldLink RX2 54 "SluiceRules" "failedBy" "I", .fieldLink RX2 57 "SluiceRules" "wentOver" "I"] ++ wsX20)
def wsX2_count : List Cond := .code yX2_count cX2_count 3 (some .int) :: ([.fieldLink RX2 13 "SluiceRules" "basinCount" "I", .fieldLink RX2 29 "SluiceRules" "ruleCount" "I", .fieldLink RX2 38 "SluiceRules" "sluiceCount" "I", .fieldLink RX2 41 "SluiceRules" "steps" "I", .fieldLink RX2 20 "SluiceRules" "slots" "[I", .methodLink RX2 85 yX2_isSlot, .instanceMethod yX2_isSlot, .selects RX2 yX2_isSlot yX2_isSlot, .initialized RX2, .code yX2_isSlot cX2_isSlot 2 (some .boolean)] ++ wsX20)
def wsX3_init : List Cond := .code yX3_init cX3_init 2 none :: ([.methodLink RX3 1 objectInit, .instanceMethod objectInit, .code objectInit ⟨#[0xb1]⟩ 1 none, .arrayClass .int, .fieldLink RX3 7 "SluiceRulesModel" "levels" "[I", .fieldLink RX3 13 "SluiceRulesModel" "moon" "I", .fieldLink RX3 17 "SluiceRulesModel" "slot" "[I", .fieldLink RX3 20 "SluiceRulesModel" "kindOf" "[I", .fieldLink RX3 23 "SluiceRulesModel" "parts" "[I", .arrayClass .long, .fieldLink RX3 26 "SluiceRulesModel" "held" "[J", .fieldLink RX3 30 "SluiceRulesModel" "counter" "[I", .fieldLink RX3 33 "SluiceRulesModel" "fromOf" "[I", .fieldLink RX3 36 "SluiceRulesModel" "toOf" "[I", .fieldLink RX3 39 "SluiceRulesModel" "ruleOf" "[I", .fieldLink RX3 42 "SluiceRulesModel" "pile" "[I", .fieldLink RX3 45 "SluiceRulesModel" "pileHour" "[I", .fieldLink RX3 48 "SluiceRulesModel" "pileState" "[I", .fieldLink RX3 51 "SluiceRulesModel" "pileSum" "[J", .fieldLink RX3 54 "SluiceRulesModel" "toldSluice" "I"] ++ wsX30)
def wsX3_in : List Cond := .code yX3_in cX3_in 3 (some .boolean) :: ([])
def wsX3_isBasin : List Cond := .code yX3_isBasin cX3_isBasin 2 (some .boolean) :: ([.fieldLink RX3 57 "SluiceRulesModel" "basins" "I", .methodLink RX3 60 yX3_in, .static yX3_in, .initialized RX3, .code yX3_in cX3_in 3 (some .boolean)] ++ wsX30)
def wsX3_isRule : List Cond := .code yX3_isRule cX3_isRule 2 (some .boolean) :: ([.fieldLink RX3 64 "SluiceRulesModel" "rules" "I", .methodLink RX3 60 yX3_in, .static yX3_in, .initialized RX3, .code yX3_in cX3_in 3 (some .boolean)] ++ wsX30)
def wsX3_isPart : List Cond := .code yX3_isPart cX3_isPart 2 (some .boolean) :: ([.methodLink RX3 67 yX3_isRule, .instanceMethod yX3_isRule, .selects RX3 yX3_isRule yX3_isRule, .initialized RX3, .code yX3_isRule cX3_isRule 2 (some .boolean), .fieldLink RX3 64 "SluiceRulesModel" "rules" "I", .methodLink RX3 60 yX3_in, .static yX3_in, .code yX3_in cX3_in 3 (some .boolean)] ++ wsX30)
def wsX3_isSlot : List Cond := .code yX3_isSlot cX3_isSlot 1 (some .boolean) :: ([.methodLink RX3 60 yX3_in, .static yX3_in, .initialized RX3, .code yX3_in cX3_in 3 (some .boolean)])
def wsX3_basin : List Cond := .code yX3_basin cX3_basin 2 (some .int) :: ([.constant RX3 71 (1000000000), .fieldLink RX3 57 "SluiceRulesModel" "basins" "I", .fieldLink RX3 7 "SluiceRulesModel" "levels" "[I", .methodLink RX3 60 yX3_in, .static yX3_in, .initialized RX3, .code yX3_in cX3_in 3 (some .boolean)] ++ wsX30)
def wsX3_fill : List Cond := .code yX3_fill cX3_fill 4 (some .int) :: ([.constant RX3 71 (1000000000), .fieldLink RX3 7 "SluiceRulesModel" "levels" "[I", .methodLink RX3 72 yX3_isBasin, .instanceMethod yX3_isBasin, .selects RX3 yX3_isBasin yX3_isBasin, .initialized RX3, .code yX3_isBasin cX3_isBasin 2 (some .boolean), .fieldLink RX3 57 "SluiceRulesModel" "basins" "I", .methodLink RX3 60 yX3_in, .static yX3_in, .code yX3_in cX3_in 3 (some .boolean)] ++ wsX30)
def wsX3_moon : List Cond := .code yX3_moon cX3_moon 3 (some .int) :: ([.fieldLink RX3 13 "SluiceRulesModel" "moon" "I", .methodLink RX3 60 yX3_in, .static yX3_in, .initialized RX3, .code yX3_in cX3_in 3 (some .boolean)] ++ wsX30)
def wsX3_areKnown : List Cond := .code yX3_areKnown cX3_areKnown 5 (some .boolean) :: ([.fieldLink RX3 20 "SluiceRulesModel" "kindOf" "[I", .methodLink RX3 72 yX3_isBasin, .instanceMethod yX3_isBasin, .selects RX3 yX3_isBasin yX3_isBasin, .initialized RX3, .code yX3_isBasin cX3_isBasin 2 (some .boolean), .fieldLink RX3 57 "SluiceRulesModel" "basins" "I", .methodLink RX3 60 yX3_in, .static yX3_in, .code yX3_in cX3_in 3 (some .boolean), .methodLink RX3 75 yX3_isPart, .instanceMethod yX3_isPart, .selects RX3 yX3_isPart yX3_isPart, .code yX3_isPart cX3_isPart 2 (some .boolean), .methodLink RX3 67 yX3_isRule, .instanceMethod yX3_isRule, .selects RX3 yX3_isRule yX3_isRule, .code yX3_isRule cX3_isRule 2 (some .boolean), .fieldLink RX3 64 "SluiceRulesModel" "rules" "I", .methodLink RX3 78 yX3_isSlot, .static yX3_isSlot, .code yX3_isSlot cX3_isSlot 1 (some .boolean)] ++ wsX30)
def wsX3_enter : List Cond := .code yX3_enter cX3_enter 3 none :: ([.fieldLink RX3 89 "SluiceRulesModel" "failure" "I", .fieldLink RX3 96 "SluiceRulesModel" "steps" "I", .fieldLink RX3 99 "SluiceRulesModel" "top" "I", .fieldLink RX3 42 "SluiceRulesModel" "pile" "[I", .fieldLink RX3 45 "SluiceRulesModel" "pileHour" "[I", .fieldLink RX3 48 "SluiceRulesModel" "pileState" "[I", .fieldLink RX3 51 "SluiceRulesModel" "pileSum" "[J"] ++ wsX30)
def wsX3_gives : List Cond := .code yX3_gives cX3_gives 3 none :: ([.fieldLink RX3 92 "SluiceRulesModel" "value" "J", .fieldLink RX3 99 "SluiceRulesModel" "top" "I"] ++ wsX30)
def wsX3_tide : List Cond := .code yX3_tide cX3_tide 4 (some .long) :: ([.fieldLink RX3 13 "SluiceRulesModel" "moon" "I", .constantLong RX3 102 (12), .constantLong RX3 104 (6)] ++ wsX30)
def wsX3_plain : List Cond := .code yX3_plain cX3_plain 4 none :: ([.fieldLink RX3 23 "SluiceRulesModel" "parts" "[I", .fieldLink RX3 20 "SluiceRulesModel" "kindOf" "[I", .fieldLink RX3 7 "SluiceRulesModel" "levels" "[I", .fieldLink RX3 26 "SluiceRulesModel" "held" "[J", .fieldLink RX3 30 "SluiceRulesModel" "counter" "[I", .methodLink RX3 106 yX3_gives, .instanceMethod yX3_gives, .selects RX3 yX3_gives yX3_gives, .initialized RX3, .code yX3_gives cX3_gives 3 none, .fieldLink RX3 92 "SluiceRulesModel" "value" "J", .fieldLink RX3 99 "SluiceRulesModel" "top" "I", .methodLink RX3 110 yX3_tide, .instanceMethod yX3_tide, .selects RX3 yX3_tide yX3_tide, .code yX3_tide cX3_tide 4 (some .long), .fieldLink RX3 13 "SluiceRulesModel" "moon" "I", .constantLong RX3 102 (12), .constantLong RX3 104 (6)] ++ wsX30)
def wsX3_slots : List Cond := .code yX3_slots cX3_slots 5 none :: ([.fieldLink RX3 51 "SluiceRulesModel" "pileSum" "[J", .fieldLink RX3 99 "SluiceRulesModel" "top" "I", .fieldLink RX3 92 "SluiceRulesModel" "value" "J", .fieldLink RX3 23 "SluiceRulesModel" "parts" "[I", .fieldLink RX3 17 "SluiceRulesModel" "slot" "[I", .methodLink RX3 106 yX3_gives, .instanceMethod yX3_gives, .selects RX3 yX3_gives yX3_gives, .initialized RX3, .code yX3_gives cX3_gives 3 none, .methodLink RX3 118 yX3_enter, .instanceMethod yX3_enter, .selects RX3 yX3_enter yX3_enter, .code yX3_enter cX3_enter 3 none, .fieldLink RX3 89 "SluiceRulesModel" "failure" "I", .fieldLink RX3 96 "SluiceRulesModel" "steps" "I", .fieldLink RX3 42 "SluiceRulesModel" "pile" "[I", .fieldLink RX3 45 "SluiceRulesModel" "pileHour" "[I", .fieldLink RX3 48 "SluiceRulesModel" "pileState" "[I"] ++ wsX30)
def wsX3_joined : List Cond := .code yX3_joined cX3_joined 5 (some .long) :: ([])
def wsX3_pair : List Cond := .code yX3_pair cX3_pair 4 none :: ([.fieldLink RX3 51 "SluiceRulesModel" "pileSum" "[J", .fieldLink RX3 99 "SluiceRulesModel" "top" "I", .fieldLink RX3 92 "SluiceRulesModel" "value" "J", .fieldLink RX3 23 "SluiceRulesModel" "parts" "[I", .fieldLink RX3 20 "SluiceRulesModel" "kindOf" "[I", .methodLink RX3 118 yX3_enter, .instanceMethod yX3_enter, .selects RX3 yX3_enter yX3_enter, .initialized RX3, .code yX3_enter cX3_enter 3 none, .fieldLink RX3 89 "SluiceRulesModel" "failure" "I", .fieldLink RX3 96 "SluiceRulesModel" "steps" "I", .fieldLink RX3 42 "SluiceRulesModel" "pile" "[I", .fieldLink RX3 45 "SluiceRulesModel" "pileHour" "[I", .fieldLink RX3 48 "SluiceRulesModel" "pileState" "[I", .methodLink RX3 122 yX3_joined, .static yX3_joined, .code yX3_joined cX3_joined 5 (some .long), .methodLink RX3 106 yX3_gives, .instanceMethod yX3_gives, .selects RX3 yX3_gives yX3_gives, .code yX3_gives cX3_gives 3 none] ++ wsX30)
def wsX3_choice : List Cond := .code yX3_choice cX3_choice 4 none :: ([.fieldLink RX3 92 "SluiceRulesModel" "value" "J", .fieldLink RX3 23 "SluiceRulesModel" "parts" "[I", .methodLink RX3 118 yX3_enter, .instanceMethod yX3_enter, .selects RX3 yX3_enter yX3_enter, .initialized RX3, .code yX3_enter cX3_enter 3 none, .fieldLink RX3 89 "SluiceRulesModel" "failure" "I", .fieldLink RX3 96 "SluiceRulesModel" "steps" "I", .fieldLink RX3 99 "SluiceRulesModel" "top" "I", .fieldLink RX3 42 "SluiceRulesModel" "pile" "[I", .fieldLink RX3 45 "SluiceRulesModel" "pileHour" "[I", .fieldLink RX3 48 "SluiceRulesModel" "pileState" "[I", .fieldLink RX3 51 "SluiceRulesModel" "pileSum" "[J", .methodLink RX3 106 yX3_gives, .instanceMethod yX3_gives, .selects RX3 yX3_gives yX3_gives, .code yX3_gives cX3_gives 3 none] ++ wsX30)
def wsX3_downward : List Cond := .code yX3_downward cX3_downward 6 (some .long) :: ([])
def wsX3_behind : List Cond := .code yX3_behind cX3_behind 4 none :: ([.fieldLink RX3 23 "SluiceRulesModel" "parts" "[I", .fieldLink RX3 20 "SluiceRulesModel" "kindOf" "[I", .fieldLink RX3 92 "SluiceRulesModel" "value" "J", .methodLink RX3 114 yX3_downward, .static yX3_downward, .initialized RX3, .code yX3_downward cX3_downward 6 (some .long), .methodLink RX3 106 yX3_gives, .instanceMethod yX3_gives, .selects RX3 yX3_gives yX3_gives, .code yX3_gives cX3_gives 3 none, .fieldLink RX3 99 "SluiceRulesModel" "top" "I"] ++ wsX30)
def wsX3_go_r1 : List Cond := [Cond.fieldLink RX3 42 "SluiceRulesModel" "pile" "[I", Cond.fieldLink RX3 99 "SluiceRulesModel" "top" "I", Cond.fieldLink RX3 45 "SluiceRulesModel" "pileHour" "[I", Cond.fieldLink RX3 48 "SluiceRulesModel" "pileState" "[I", Cond.fieldLink RX3 20 "SluiceRulesModel" "kindOf" "[I", Cond.fieldLink RX3 30 "SluiceRulesModel" "counter" "[I", Cond.fieldLink RX3 17 "SluiceRulesModel" "slot" "[I", Cond.fieldLink RX3 23 "SluiceRulesModel" "parts" "[I", Cond.methodLink RX3 126 yX3_plain, Cond.instanceMethod yX3_plain, Cond.selects RX3 yX3_plain yX3_plain, Cond.initialized RX3, Cond.code yX3_plain cX3_plain 4 none, Cond.fieldLink RX3 7 "SluiceRulesModel" "levels" "[I", Cond.fieldLink RX3 26 "SluiceRulesModel" "held" "[J", Cond.methodLink RX3 106 yX3_gives, Cond.instanceMethod yX3_gives, Cond.selects RX3 yX3_gives yX3_gives, Cond.code yX3_gives cX3_gives 3 none, Cond.fieldLink RX3 92 "SluiceRulesModel" "value" "J", Cond.methodLink RX3 110 yX3_tide, Cond.instanceMethod yX3_tide, Cond.selects RX3 yX3_tide yX3_tide, Cond.code yX3_tide cX3_tide 4 (some .long)]
def wsX3_go_r2 : List Cond := [Cond.fieldLink RX3 13 "SluiceRulesModel" "moon" "I", Cond.constantLong RX3 102 (12), Cond.constantLong RX3 104 (6), Cond.methodLink RX3 129 yX3_slots, Cond.instanceMethod yX3_slots, Cond.selects RX3 yX3_slots yX3_slots, Cond.code yX3_slots cX3_slots 5 none, Cond.fieldLink RX3 51 "SluiceRulesModel" "pileSum" "[J", Cond.methodLink RX3 118 yX3_enter, Cond.instanceMethod yX3_enter, Cond.selects RX3 yX3_enter yX3_enter, Cond.code yX3_enter cX3_enter 3 none, Cond.fieldLink RX3 89 "SluiceRulesModel" "failure" "I", Cond.fieldLink RX3 96 "SluiceRulesModel" "steps" "I", Cond.methodLink RX3 133 yX3_pair, Cond.instanceMethod yX3_pair, Cond.selects RX3 yX3_pair yX3_pair, Cond.code yX3_pair cX3_pair 4 none, Cond.methodLink RX3 122 yX3_joined, Cond.static yX3_joined, Cond.code yX3_joined cX3_joined 5 (some .long), Cond.methodLink RX3 136 yX3_choice, Cond.instanceMethod yX3_choice, Cond.selects RX3 yX3_choice yX3_choice]
def wsX3_go_r3 : List Cond := [Cond.code yX3_choice cX3_choice 4 none, Cond.methodLink RX3 139 yX3_behind, Cond.instanceMethod yX3_behind, Cond.selects RX3 yX3_behind yX3_behind, Cond.code yX3_behind cX3_behind 4 none, Cond.methodLink RX3 114 yX3_downward, Cond.static yX3_downward, Cond.code yX3_downward cX3_downward 6 (some .long)]
def wsX3_go : List Cond := .code yX3_go cX3_go 5 none :: ((wsX3_go_r1 ++ (wsX3_go_r2 ++ wsX3_go_r3)) ++ wsX30)
def wsX3_asks_r1 : List Cond := [Cond.fieldLink RX3 96 "SluiceRulesModel" "steps" "I", Cond.fieldLink RX3 89 "SluiceRulesModel" "failure" "I", Cond.fieldLink RX3 99 "SluiceRulesModel" "top" "I", Cond.methodLink RX3 118 yX3_enter, Cond.instanceMethod yX3_enter, Cond.selects RX3 yX3_enter yX3_enter, Cond.initialized RX3, Cond.code yX3_enter cX3_enter 3 none, Cond.fieldLink RX3 42 "SluiceRulesModel" "pile" "[I", Cond.fieldLink RX3 45 "SluiceRulesModel" "pileHour" "[I", Cond.fieldLink RX3 48 "SluiceRulesModel" "pileState" "[I", Cond.fieldLink RX3 51 "SluiceRulesModel" "pileSum" "[J", Cond.methodLink RX3 143 yX3_go, Cond.instanceMethod yX3_go, Cond.selects RX3 yX3_go yX3_go, Cond.code yX3_go cX3_go 5 none, Cond.fieldLink RX3 20 "SluiceRulesModel" "kindOf" "[I", Cond.fieldLink RX3 30 "SluiceRulesModel" "counter" "[I", Cond.fieldLink RX3 17 "SluiceRulesModel" "slot" "[I", Cond.fieldLink RX3 23 "SluiceRulesModel" "parts" "[I", Cond.methodLink RX3 126 yX3_plain, Cond.instanceMethod yX3_plain, Cond.selects RX3 yX3_plain yX3_plain, Cond.code yX3_plain cX3_plain 4 none]
def wsX3_asks_r2 : List Cond := [Cond.fieldLink RX3 7 "SluiceRulesModel" "levels" "[I", Cond.fieldLink RX3 26 "SluiceRulesModel" "held" "[J", Cond.methodLink RX3 106 yX3_gives, Cond.instanceMethod yX3_gives, Cond.selects RX3 yX3_gives yX3_gives, Cond.code yX3_gives cX3_gives 3 none, Cond.fieldLink RX3 92 "SluiceRulesModel" "value" "J", Cond.methodLink RX3 110 yX3_tide, Cond.instanceMethod yX3_tide, Cond.selects RX3 yX3_tide yX3_tide, Cond.code yX3_tide cX3_tide 4 (some .long), Cond.fieldLink RX3 13 "SluiceRulesModel" "moon" "I", Cond.constantLong RX3 102 (12), Cond.constantLong RX3 104 (6), Cond.methodLink RX3 129 yX3_slots, Cond.instanceMethod yX3_slots, Cond.selects RX3 yX3_slots yX3_slots, Cond.code yX3_slots cX3_slots 5 none, Cond.methodLink RX3 133 yX3_pair, Cond.instanceMethod yX3_pair, Cond.selects RX3 yX3_pair yX3_pair, Cond.code yX3_pair cX3_pair 4 none, Cond.methodLink RX3 122 yX3_joined, Cond.static yX3_joined]
def wsX3_asks_r3 : List Cond := [Cond.code yX3_joined cX3_joined 5 (some .long), Cond.methodLink RX3 136 yX3_choice, Cond.instanceMethod yX3_choice, Cond.selects RX3 yX3_choice yX3_choice, Cond.code yX3_choice cX3_choice 4 none, Cond.methodLink RX3 139 yX3_behind, Cond.instanceMethod yX3_behind, Cond.selects RX3 yX3_behind yX3_behind, Cond.code yX3_behind cX3_behind 4 none, Cond.methodLink RX3 114 yX3_downward, Cond.static yX3_downward, Cond.code yX3_downward cX3_downward 6 (some .long)]
def wsX3_asks : List Cond := .code yX3_asks cX3_asks 3 (some .boolean) :: ((wsX3_asks_r1 ++ (wsX3_asks_r2 ++ wsX3_asks_r3)) ++ wsX30)
def wsX3_make_r1 : List Cond := [Cond.fieldLink RX3 64 "SluiceRulesModel" "rules" "I", Cond.fieldLink RX3 89 "SluiceRulesModel" "failure" "I", Cond.fieldLink RX3 20 "SluiceRulesModel" "kindOf" "[I", Cond.fieldLink RX3 23 "SluiceRulesModel" "parts" "[I", Cond.fieldLink RX3 26 "SluiceRulesModel" "held" "[J", Cond.fieldLink RX3 92 "SluiceRulesModel" "value" "J", Cond.fieldLink RX3 30 "SluiceRulesModel" "counter" "[I", Cond.methodLink RX3 81 yX3_areKnown, Cond.instanceMethod yX3_areKnown, Cond.selects RX3 yX3_areKnown yX3_areKnown, Cond.initialized RX3, Cond.code yX3_areKnown cX3_areKnown 5 (some .boolean), Cond.methodLink RX3 72 yX3_isBasin, Cond.instanceMethod yX3_isBasin, Cond.selects RX3 yX3_isBasin yX3_isBasin, Cond.code yX3_isBasin cX3_isBasin 2 (some .boolean), Cond.fieldLink RX3 57 "SluiceRulesModel" "basins" "I", Cond.methodLink RX3 60 yX3_in, Cond.static yX3_in, Cond.code yX3_in cX3_in 3 (some .boolean), Cond.methodLink RX3 75 yX3_isPart, Cond.instanceMethod yX3_isPart, Cond.selects RX3 yX3_isPart yX3_isPart, Cond.code yX3_isPart cX3_isPart 2 (some .boolean)]
def wsX3_make_r2 : List Cond := [Cond.methodLink RX3 67 yX3_isRule, Cond.instanceMethod yX3_isRule, Cond.selects RX3 yX3_isRule yX3_isRule, Cond.code yX3_isRule cX3_isRule 2 (some .boolean), Cond.methodLink RX3 78 yX3_isSlot, Cond.static yX3_isSlot, Cond.code yX3_isSlot cX3_isSlot 1 (some .boolean), Cond.methodLink RX3 85 yX3_asks, Cond.instanceMethod yX3_asks, Cond.selects RX3 yX3_asks yX3_asks, Cond.code yX3_asks cX3_asks 3 (some .boolean), Cond.fieldLink RX3 96 "SluiceRulesModel" "steps" "I", Cond.fieldLink RX3 99 "SluiceRulesModel" "top" "I", Cond.methodLink RX3 118 yX3_enter, Cond.instanceMethod yX3_enter, Cond.selects RX3 yX3_enter yX3_enter, Cond.code yX3_enter cX3_enter 3 none, Cond.fieldLink RX3 42 "SluiceRulesModel" "pile" "[I", Cond.fieldLink RX3 45 "SluiceRulesModel" "pileHour" "[I", Cond.fieldLink RX3 48 "SluiceRulesModel" "pileState" "[I", Cond.fieldLink RX3 51 "SluiceRulesModel" "pileSum" "[J", Cond.methodLink RX3 143 yX3_go, Cond.instanceMethod yX3_go, Cond.selects RX3 yX3_go yX3_go]
def wsX3_make_r3 : List Cond := [Cond.code yX3_go cX3_go 5 none, Cond.fieldLink RX3 17 "SluiceRulesModel" "slot" "[I", Cond.methodLink RX3 126 yX3_plain, Cond.instanceMethod yX3_plain, Cond.selects RX3 yX3_plain yX3_plain, Cond.code yX3_plain cX3_plain 4 none, Cond.fieldLink RX3 7 "SluiceRulesModel" "levels" "[I", Cond.methodLink RX3 106 yX3_gives, Cond.instanceMethod yX3_gives, Cond.selects RX3 yX3_gives yX3_gives, Cond.code yX3_gives cX3_gives 3 none, Cond.methodLink RX3 110 yX3_tide, Cond.instanceMethod yX3_tide, Cond.selects RX3 yX3_tide yX3_tide, Cond.code yX3_tide cX3_tide 4 (some .long), Cond.fieldLink RX3 13 "SluiceRulesModel" "moon" "I", Cond.constantLong RX3 102 (12), Cond.constantLong RX3 104 (6), Cond.methodLink RX3 129 yX3_slots, Cond.instanceMethod yX3_slots, Cond.selects RX3 yX3_slots yX3_slots, Cond.code yX3_slots cX3_slots 5 none, Cond.methodLink RX3 133 yX3_pair, Cond.instanceMethod yX3_pair]
def wsX3_make_r4 : List Cond := [Cond.selects RX3 yX3_pair yX3_pair, Cond.code yX3_pair cX3_pair 4 none, Cond.methodLink RX3 122 yX3_joined, Cond.static yX3_joined, Cond.code yX3_joined cX3_joined 5 (some .long), Cond.methodLink RX3 136 yX3_choice, Cond.instanceMethod yX3_choice, Cond.selects RX3 yX3_choice yX3_choice, Cond.code yX3_choice cX3_choice 4 none, Cond.methodLink RX3 139 yX3_behind, Cond.instanceMethod yX3_behind, Cond.selects RX3 yX3_behind yX3_behind, Cond.code yX3_behind cX3_behind 4 none, Cond.methodLink RX3 114 yX3_downward, Cond.static yX3_downward, Cond.code yX3_downward cX3_downward 6 (some .long)]
def wsX3_make : List Cond := .code yX3_make cX3_make 7 (some .int) :: ((wsX3_make_r1 ++ (wsX3_make_r2 ++ (wsX3_make_r3 ++ wsX3_make_r4))) ++ wsX30)
def wsX3_put : List Cond := .code yX3_put cX3_put 4 (some .int) :: ([.fieldLink RX3 17 "SluiceRulesModel" "slot" "[I", .methodLink RX3 78 yX3_isSlot, .static yX3_isSlot, .initialized RX3, .code yX3_isSlot cX3_isSlot 1 (some .boolean), .methodLink RX3 60 yX3_in, .static yX3_in, .code yX3_in cX3_in 3 (some .boolean), .methodLink RX3 75 yX3_isPart, .instanceMethod yX3_isPart, .selects RX3 yX3_isPart yX3_isPart, .code yX3_isPart cX3_isPart 2 (some .boolean), .methodLink RX3 67 yX3_isRule, .instanceMethod yX3_isRule, .selects RX3 yX3_isRule yX3_isRule, .code yX3_isRule cX3_isRule 2 (some .boolean), .fieldLink RX3 64 "SluiceRulesModel" "rules" "I"] ++ wsX30)
def wsX3_ask_r1 : List Cond := [Cond.fieldLink RX3 89 "SluiceRulesModel" "failure" "I", Cond.fieldLink RX3 92 "SluiceRulesModel" "value" "J", Cond.fieldLink RX3 146 "SluiceRulesModel" "given" "J", Cond.methodLink RX3 67 yX3_isRule, Cond.instanceMethod yX3_isRule, Cond.selects RX3 yX3_isRule yX3_isRule, Cond.initialized RX3, Cond.code yX3_isRule cX3_isRule 2 (some .boolean), Cond.fieldLink RX3 64 "SluiceRulesModel" "rules" "I", Cond.methodLink RX3 60 yX3_in, Cond.static yX3_in, Cond.code yX3_in cX3_in 3 (some .boolean), Cond.methodLink RX3 85 yX3_asks, Cond.instanceMethod yX3_asks, Cond.selects RX3 yX3_asks yX3_asks, Cond.code yX3_asks cX3_asks 3 (some .boolean), Cond.fieldLink RX3 96 "SluiceRulesModel" "steps" "I", Cond.fieldLink RX3 99 "SluiceRulesModel" "top" "I", Cond.methodLink RX3 118 yX3_enter, Cond.instanceMethod yX3_enter, Cond.selects RX3 yX3_enter yX3_enter, Cond.code yX3_enter cX3_enter 3 none, Cond.fieldLink RX3 42 "SluiceRulesModel" "pile" "[I", Cond.fieldLink RX3 45 "SluiceRulesModel" "pileHour" "[I"]
def wsX3_ask_r2 : List Cond := [Cond.fieldLink RX3 48 "SluiceRulesModel" "pileState" "[I", Cond.fieldLink RX3 51 "SluiceRulesModel" "pileSum" "[J", Cond.methodLink RX3 143 yX3_go, Cond.instanceMethod yX3_go, Cond.selects RX3 yX3_go yX3_go, Cond.code yX3_go cX3_go 5 none, Cond.fieldLink RX3 20 "SluiceRulesModel" "kindOf" "[I", Cond.fieldLink RX3 30 "SluiceRulesModel" "counter" "[I", Cond.fieldLink RX3 17 "SluiceRulesModel" "slot" "[I", Cond.fieldLink RX3 23 "SluiceRulesModel" "parts" "[I", Cond.methodLink RX3 126 yX3_plain, Cond.instanceMethod yX3_plain, Cond.selects RX3 yX3_plain yX3_plain, Cond.code yX3_plain cX3_plain 4 none, Cond.fieldLink RX3 7 "SluiceRulesModel" "levels" "[I", Cond.fieldLink RX3 26 "SluiceRulesModel" "held" "[J", Cond.methodLink RX3 106 yX3_gives, Cond.instanceMethod yX3_gives, Cond.selects RX3 yX3_gives yX3_gives, Cond.code yX3_gives cX3_gives 3 none, Cond.methodLink RX3 110 yX3_tide, Cond.instanceMethod yX3_tide, Cond.selects RX3 yX3_tide yX3_tide, Cond.code yX3_tide cX3_tide 4 (some .long)]
def wsX3_ask_r3 : List Cond := [Cond.fieldLink RX3 13 "SluiceRulesModel" "moon" "I", Cond.constantLong RX3 102 (12), Cond.constantLong RX3 104 (6), Cond.methodLink RX3 129 yX3_slots, Cond.instanceMethod yX3_slots, Cond.selects RX3 yX3_slots yX3_slots, Cond.code yX3_slots cX3_slots 5 none, Cond.methodLink RX3 133 yX3_pair, Cond.instanceMethod yX3_pair, Cond.selects RX3 yX3_pair yX3_pair, Cond.code yX3_pair cX3_pair 4 none, Cond.methodLink RX3 122 yX3_joined, Cond.static yX3_joined, Cond.code yX3_joined cX3_joined 5 (some .long), Cond.methodLink RX3 136 yX3_choice, Cond.instanceMethod yX3_choice, Cond.selects RX3 yX3_choice yX3_choice, Cond.code yX3_choice cX3_choice 4 none, Cond.methodLink RX3 139 yX3_behind, Cond.instanceMethod yX3_behind, Cond.selects RX3 yX3_behind yX3_behind, Cond.code yX3_behind cX3_behind 4 none, Cond.methodLink RX3 114 yX3_downward, Cond.static yX3_downward]
def wsX3_ask_r4 : List Cond := [Cond.code yX3_downward cX3_downward 6 (some .long)]
def wsX3_ask : List Cond := .code yX3_ask cX3_ask 3 (some .int) :: ((wsX3_ask_r1 ++ (wsX3_ask_r2 ++ (wsX3_ask_r3 ++ wsX3_ask_r4))) ++ wsX30)
def wsX3_given : List Cond := .code yX3_given cX3_given 1 (some .long) :: ([.fieldLink RX3 146 "SluiceRulesModel" "given" "J"] ++ wsX30)
def wsX3_sluice : List Cond := .code yX3_sluice cX3_sluice 4 (some .int) :: ([.fieldLink RX3 149 "SluiceRulesModel" "sluices" "I", .fieldLink RX3 33 "SluiceRulesModel" "fromOf" "[I", .fieldLink RX3 36 "SluiceRulesModel" "toOf" "[I", .fieldLink RX3 39 "SluiceRulesModel" "ruleOf" "[I", .methodLink RX3 72 yX3_isBasin, .instanceMethod yX3_isBasin, .selects RX3 yX3_isBasin yX3_isBasin, .initialized RX3, .code yX3_isBasin cX3_isBasin 2 (some .boolean), .fieldLink RX3 57 "SluiceRulesModel" "basins" "I", .methodLink RX3 60 yX3_in, .static yX3_in, .code yX3_in cX3_in 3 (some .boolean), .methodLink RX3 67 yX3_isRule, .instanceMethod yX3_isRule, .selects RX3 yX3_isRule yX3_isRule, .code yX3_isRule cX3_isRule 2 (some .boolean), .fieldLink RX3 64 "SluiceRulesModel" "rules" "I"] ++ wsX30)
def wsX3_flows_r1 : List Cond := [Cond.fieldLink RX3 39 "SluiceRulesModel" "ruleOf" "[I", Cond.fieldLink RX3 54 "SluiceRulesModel" "toldSluice" "I", Cond.fieldLink RX3 89 "SluiceRulesModel" "failure" "I", Cond.fieldLink RX3 152 "SluiceRulesModel" "toldWhy" "I", Cond.constant RX3 71 (1000000000), Cond.fieldLink RX3 7 "SluiceRulesModel" "levels" "[I", Cond.fieldLink RX3 36 "SluiceRulesModel" "toOf" "[I", Cond.fieldLink RX3 33 "SluiceRulesModel" "fromOf" "[I", Cond.fieldLink RX3 92 "SluiceRulesModel" "value" "J", Cond.fieldLink RX3 155 "SluiceRulesModel" "toldMuch" "I", Cond.methodLink RX3 85 yX3_asks, Cond.instanceMethod yX3_asks, Cond.selects RX3 yX3_asks yX3_asks, Cond.initialized RX3, Cond.code yX3_asks cX3_asks 3 (some .boolean), Cond.fieldLink RX3 96 "SluiceRulesModel" "steps" "I", Cond.fieldLink RX3 99 "SluiceRulesModel" "top" "I", Cond.methodLink RX3 118 yX3_enter, Cond.instanceMethod yX3_enter, Cond.selects RX3 yX3_enter yX3_enter, Cond.code yX3_enter cX3_enter 3 none, Cond.fieldLink RX3 42 "SluiceRulesModel" "pile" "[I", Cond.fieldLink RX3 45 "SluiceRulesModel" "pileHour" "[I", Cond.fieldLink RX3 48 "SluiceRulesModel" "pileState" "[I"]
def wsX3_flows_r2 : List Cond := [Cond.fieldLink RX3 51 "SluiceRulesModel" "pileSum" "[J", Cond.methodLink RX3 143 yX3_go, Cond.instanceMethod yX3_go, Cond.selects RX3 yX3_go yX3_go, Cond.code yX3_go cX3_go 5 none, Cond.fieldLink RX3 20 "SluiceRulesModel" "kindOf" "[I", Cond.fieldLink RX3 30 "SluiceRulesModel" "counter" "[I", Cond.fieldLink RX3 17 "SluiceRulesModel" "slot" "[I", Cond.fieldLink RX3 23 "SluiceRulesModel" "parts" "[I", Cond.methodLink RX3 126 yX3_plain, Cond.instanceMethod yX3_plain, Cond.selects RX3 yX3_plain yX3_plain, Cond.code yX3_plain cX3_plain 4 none, Cond.fieldLink RX3 26 "SluiceRulesModel" "held" "[J", Cond.methodLink RX3 106 yX3_gives, Cond.instanceMethod yX3_gives, Cond.selects RX3 yX3_gives yX3_gives, Cond.code yX3_gives cX3_gives 3 none, Cond.methodLink RX3 110 yX3_tide, Cond.instanceMethod yX3_tide, Cond.selects RX3 yX3_tide yX3_tide, Cond.code yX3_tide cX3_tide 4 (some .long), Cond.fieldLink RX3 13 "SluiceRulesModel" "moon" "I", Cond.constantLong RX3 102 (12)]
def wsX3_flows_r3 : List Cond := [Cond.constantLong RX3 104 (6), Cond.methodLink RX3 129 yX3_slots, Cond.instanceMethod yX3_slots, Cond.selects RX3 yX3_slots yX3_slots, Cond.code yX3_slots cX3_slots 5 none, Cond.methodLink RX3 133 yX3_pair, Cond.instanceMethod yX3_pair, Cond.selects RX3 yX3_pair yX3_pair, Cond.code yX3_pair cX3_pair 4 none, Cond.methodLink RX3 122 yX3_joined, Cond.static yX3_joined, Cond.code yX3_joined cX3_joined 5 (some .long), Cond.methodLink RX3 136 yX3_choice, Cond.instanceMethod yX3_choice, Cond.selects RX3 yX3_choice yX3_choice, Cond.code yX3_choice cX3_choice 4 none, Cond.methodLink RX3 139 yX3_behind, Cond.instanceMethod yX3_behind, Cond.selects RX3 yX3_behind yX3_behind, Cond.code yX3_behind cX3_behind 4 none, Cond.methodLink RX3 114 yX3_downward, Cond.static yX3_downward, Cond.code yX3_downward cX3_downward 6 (some .long)]
def wsX3_flows : List Cond := .code yX3_flows cX3_flows 6 (some .boolean) :: ((wsX3_flows_r1 ++ (wsX3_flows_r2 ++ wsX3_flows_r3)) ++ wsX30)
def wsX3_run_r1 : List Cond := [Cond.fieldLink RX3 54 "SluiceRulesModel" "toldSluice" "I", Cond.fieldLink RX3 152 "SluiceRulesModel" "toldWhy" "I", Cond.fieldLink RX3 155 "SluiceRulesModel" "toldMuch" "I", Cond.fieldLink RX3 149 "SluiceRulesModel" "sluices" "I", Cond.methodLink RX3 60 yX3_in, Cond.static yX3_in, Cond.initialized RX3, Cond.code yX3_in cX3_in 3 (some .boolean), Cond.methodLink RX3 158 yX3_flows, Cond.instanceMethod yX3_flows, Cond.selects RX3 yX3_flows yX3_flows, Cond.code yX3_flows cX3_flows 6 (some .boolean), Cond.fieldLink RX3 39 "SluiceRulesModel" "ruleOf" "[I", Cond.fieldLink RX3 89 "SluiceRulesModel" "failure" "I", Cond.constant RX3 71 (1000000000), Cond.fieldLink RX3 7 "SluiceRulesModel" "levels" "[I", Cond.fieldLink RX3 36 "SluiceRulesModel" "toOf" "[I", Cond.fieldLink RX3 33 "SluiceRulesModel" "fromOf" "[I", Cond.fieldLink RX3 92 "SluiceRulesModel" "value" "J", Cond.methodLink RX3 85 yX3_asks, Cond.instanceMethod yX3_asks, Cond.selects RX3 yX3_asks yX3_asks, Cond.code yX3_asks cX3_asks 3 (some .boolean), Cond.fieldLink RX3 96 "SluiceRulesModel" "steps" "I"]
def wsX3_run_r2 : List Cond := [Cond.fieldLink RX3 99 "SluiceRulesModel" "top" "I", Cond.methodLink RX3 118 yX3_enter, Cond.instanceMethod yX3_enter, Cond.selects RX3 yX3_enter yX3_enter, Cond.code yX3_enter cX3_enter 3 none, Cond.fieldLink RX3 42 "SluiceRulesModel" "pile" "[I", Cond.fieldLink RX3 45 "SluiceRulesModel" "pileHour" "[I", Cond.fieldLink RX3 48 "SluiceRulesModel" "pileState" "[I", Cond.fieldLink RX3 51 "SluiceRulesModel" "pileSum" "[J", Cond.methodLink RX3 143 yX3_go, Cond.instanceMethod yX3_go, Cond.selects RX3 yX3_go yX3_go, Cond.code yX3_go cX3_go 5 none, Cond.fieldLink RX3 20 "SluiceRulesModel" "kindOf" "[I", Cond.fieldLink RX3 30 "SluiceRulesModel" "counter" "[I", Cond.fieldLink RX3 17 "SluiceRulesModel" "slot" "[I", Cond.fieldLink RX3 23 "SluiceRulesModel" "parts" "[I", Cond.methodLink RX3 126 yX3_plain, Cond.instanceMethod yX3_plain, Cond.selects RX3 yX3_plain yX3_plain, Cond.code yX3_plain cX3_plain 4 none, Cond.fieldLink RX3 26 "SluiceRulesModel" "held" "[J", Cond.methodLink RX3 106 yX3_gives, Cond.instanceMethod yX3_gives]
def wsX3_run_r3 : List Cond := [Cond.selects RX3 yX3_gives yX3_gives, Cond.code yX3_gives cX3_gives 3 none, Cond.methodLink RX3 110 yX3_tide, Cond.instanceMethod yX3_tide, Cond.selects RX3 yX3_tide yX3_tide, Cond.code yX3_tide cX3_tide 4 (some .long), Cond.fieldLink RX3 13 "SluiceRulesModel" "moon" "I", Cond.constantLong RX3 102 (12), Cond.constantLong RX3 104 (6), Cond.methodLink RX3 129 yX3_slots, Cond.instanceMethod yX3_slots, Cond.selects RX3 yX3_slots yX3_slots, Cond.code yX3_slots cX3_slots 5 none, Cond.methodLink RX3 133 yX3_pair, Cond.instanceMethod yX3_pair, Cond.selects RX3 yX3_pair yX3_pair, Cond.code yX3_pair cX3_pair 4 none, Cond.methodLink RX3 122 yX3_joined, Cond.static yX3_joined, Cond.code yX3_joined cX3_joined 5 (some .long), Cond.methodLink RX3 136 yX3_choice, Cond.instanceMethod yX3_choice, Cond.selects RX3 yX3_choice yX3_choice, Cond.code yX3_choice cX3_choice 4 none]
def wsX3_run_r4 : List Cond := [Cond.methodLink RX3 139 yX3_behind, Cond.instanceMethod yX3_behind, Cond.selects RX3 yX3_behind yX3_behind, Cond.code yX3_behind cX3_behind 4 none, Cond.methodLink RX3 114 yX3_downward, Cond.static yX3_downward, Cond.code yX3_downward cX3_downward 6 (some .long)]
def wsX3_run : List Cond := .code yX3_run cX3_run 6 (some .int) :: ((wsX3_run_r1 ++ (wsX3_run_r2 ++ (wsX3_run_r3 ++ wsX3_run_r4))) ++ wsX30)
def wsX3_told : List Cond := .code yX3_told cX3_told 2 (some .int) :: ([.fieldLink RX3 54 "SluiceRulesModel" "toldSluice" "I", .fieldLink RX3 152 "SluiceRulesModel" "toldWhy" "I", .fieldLink RX3 155 "SluiceRulesModel" "toldMuch" "I"] ++ wsX30)
def wsX3_level : List Cond := .code yX3_level cX3_level 2 (some .int) :: ([.fieldLink RX3 7 "SluiceRulesModel" "levels" "[I", .methodLink RX3 72 yX3_isBasin, .instanceMethod yX3_isBasin, .selects RX3 yX3_isBasin yX3_isBasin, .initialized RX3, .code yX3_isBasin cX3_isBasin 2 (some .boolean), .fieldLink RX3 57 "SluiceRulesModel" "basins" "I", .methodLink RX3 60 yX3_in, .static yX3_in, .code yX3_in cX3_in 3 (some .boolean)] ++ wsX30)
def wsX3_counted : List Cond := .code yX3_counted cX3_counted 2 (some .int) :: ([.fieldLink RX3 20 "SluiceRulesModel" "kindOf" "[I", .fieldLink RX3 30 "SluiceRulesModel" "counter" "[I", .methodLink RX3 67 yX3_isRule, .instanceMethod yX3_isRule, .selects RX3 yX3_isRule yX3_isRule, .initialized RX3, .code yX3_isRule cX3_isRule 2 (some .boolean), .fieldLink RX3 64 "SluiceRulesModel" "rules" "I", .methodLink RX3 60 yX3_in, .static yX3_in, .code yX3_in cX3_in 3 (some .boolean)] ++ wsX30)
def wsX3_count : List Cond := .code yX3_count cX3_count 2 (some .int) :: ([.fieldLink RX3 17 "SluiceRulesModel" "slot" "[I", .fieldLink RX3 57 "SluiceRulesModel" "basins" "I", .fieldLink RX3 64 "SluiceRulesModel" "rules" "I", .fieldLink RX3 149 "SluiceRulesModel" "sluices" "I", .fieldLink RX3 96 "SluiceRulesModel" "steps" "I", .methodLink RX3 60 yX3_in, .static yX3_in, .initialized RX3, .code yX3_in cX3_in 3 (some .boolean)] ++ wsX30)
def wsJ9_abs_067f4 : List Cond := .code yJ9_abs_067f4 cJ9_abs_067f4 2 (some .long) :: ([])
def wsJ9_max_f86c9 : List Cond := .code yJ9_max_f86c9 cJ9_max_f86c9 4 (some .long) :: ([])
def wsJ9_min_7cf53 : List Cond := .code yJ9_min_7cf53 cJ9_min_7cf53 2 (some .int) :: ([])
def wsJ9_min_f86c9 : List Cond := .code yJ9_min_f86c9 cJ9_min_f86c9 4 (some .long) :: ([])
def wsL_law_r1 : List Cond := [Cond.classLink RL 7 RX2, Cond.instantiable RX2 14, Cond.initialized RX2, Cond.classLink RL 10 RX3, Cond.instantiable RX3 25, Cond.initialized RX3, Cond.methodLink RL 9 yX2_init, Cond.instanceMethod yX2_init, Cond.code yX2_init cX2_init 2 none, Cond.methodLink RX2 1 objectInit, Cond.instanceMethod objectInit, Cond.code objectInit ⟨#[0xb1]⟩ 1 none, Cond.arrayClass .int, Cond.fieldLink RX2 9 "SluiceRules" "levels" "[I", Cond.fieldLink RX2 13 "SluiceRules" "basinCount" "I", Cond.fieldLink RX2 17 "SluiceRules" "moonNow" "I", Cond.fieldLink RX2 20 "SluiceRules" "slots" "[I", Cond.classLink RX2 23 RX0, Cond.fieldLink RX2 25 "SluiceRules" "rules" "[LSluiceRules$Rule;", Cond.fieldLink RX2 29 "SluiceRules" "ruleCount" "I", Cond.classLink RX2 32 RX1, Cond.fieldLink RX2 34 "SluiceRules" "sluices" "[LSluiceRules$Sluice;", Cond.fieldLink RX2 38 "SluiceRules" "sluiceCount" "I", Cond.fieldLink RX2 41 "SluiceRules" "steps" "I"]
def wsL_law_r2 : List Cond := [Cond.fieldLink RX2 44 "SluiceRules" "failure" "I", Cond.fieldLink RX2 47 "SluiceRules" "latestGiven" "J", Cond.fieldLink RX2 51 "SluiceRules" "failedSluice" "I", Cond.fieldLink RX2 54 "SluiceRules" "failedBy" "I", Cond.fieldLink RX2 57 "SluiceRules" "wentOver" "I", Cond.methodLink RL 12 yX3_init, Cond.instanceMethod yX3_init, Cond.code yX3_init cX3_init 2 none, Cond.methodLink RX3 1 objectInit, Cond.fieldLink RX3 7 "SluiceRulesModel" "levels" "[I", Cond.fieldLink RX3 13 "SluiceRulesModel" "moon" "I", Cond.fieldLink RX3 17 "SluiceRulesModel" "slot" "[I", Cond.fieldLink RX3 20 "SluiceRulesModel" "kindOf" "[I", Cond.fieldLink RX3 23 "SluiceRulesModel" "parts" "[I", Cond.arrayClass .long, Cond.fieldLink RX3 26 "SluiceRulesModel" "held" "[J", Cond.fieldLink RX3 30 "SluiceRulesModel" "counter" "[I", Cond.fieldLink RX3 33 "SluiceRulesModel" "fromOf" "[I", Cond.fieldLink RX3 36 "SluiceRulesModel" "toOf" "[I", Cond.fieldLink RX3 39 "SluiceRulesModel" "ruleOf" "[I", Cond.fieldLink RX3 42 "SluiceRulesModel" "pile" "[I", Cond.fieldLink RX3 45 "SluiceRulesModel" "pileHour" "[I", Cond.fieldLink RX3 48 "SluiceRulesModel" "pileState" "[I", Cond.fieldLink RX3 51 "SluiceRulesModel" "pileSum" "[J"]
def wsL_law_r3 : List Cond := [Cond.fieldLink RX3 54 "SluiceRulesModel" "toldSluice" "I", Cond.methodLink RL 13 yX2_basin, Cond.instanceMethod yX2_basin, Cond.selects RX2 yX2_basin yX2_basin, Cond.code yX2_basin cX2_basin 2 (some .int), Cond.methodLink RX2 60 yX2_isLevel, Cond.static yX2_isLevel, Cond.code yX2_isLevel cX2_isLevel 1 (some .boolean), Cond.constant RX2 107 (1000000000), Cond.methodLink RL 17 yX3_basin, Cond.instanceMethod yX3_basin, Cond.selects RX3 yX3_basin yX3_basin, Cond.code yX3_basin cX3_basin 2 (some .int), Cond.constant RX3 71 (1000000000), Cond.fieldLink RX3 57 "SluiceRulesModel" "basins" "I", Cond.methodLink RX3 60 yX3_in, Cond.static yX3_in, Cond.code yX3_in cX3_in 3 (some .boolean), Cond.methodLink RL 18 yX2_fill, Cond.instanceMethod yX2_fill, Cond.selects RX2 yX2_fill yX2_fill, Cond.code yX2_fill cX2_fill 4 (some .int), Cond.methodLink RX2 64 yX2_isBasin, Cond.instanceMethod yX2_isBasin]
def wsL_law_r4 : List Cond := [Cond.selects RX2 yX2_isBasin yX2_isBasin, Cond.code yX2_isBasin cX2_isBasin 2 (some .boolean), Cond.methodLink RL 22 yX3_fill, Cond.instanceMethod yX3_fill, Cond.selects RX3 yX3_fill yX3_fill, Cond.code yX3_fill cX3_fill 4 (some .int), Cond.methodLink RX3 72 yX3_isBasin, Cond.instanceMethod yX3_isBasin, Cond.selects RX3 yX3_isBasin yX3_isBasin, Cond.code yX3_isBasin cX3_isBasin 2 (some .boolean), Cond.methodLink RL 23 yX2_moon, Cond.instanceMethod yX2_moon, Cond.selects RX2 yX2_moon yX2_moon, Cond.code yX2_moon cX2_moon 3 (some .int), Cond.methodLink RL 26 yX3_moon, Cond.instanceMethod yX3_moon, Cond.selects RX3 yX3_moon yX3_moon, Cond.code yX3_moon cX3_moon 3 (some .int), Cond.methodLink RL 27 yX2_make, Cond.instanceMethod yX2_make, Cond.selects RX2 yX2_make yX2_make, Cond.code yX2_make cX2_make 10 (some .int), Cond.instantiable RX0 8, Cond.initialized RX0]
def wsL_law_r5 : List Cond := [Cond.methodLink RX2 67 yX2_hasKnownParts, Cond.instanceMethod yX2_hasKnownParts, Cond.selects RX2 yX2_hasKnownParts yX2_hasKnownParts, Cond.code yX2_hasKnownParts cX2_hasKnownParts 5 (some .boolean), Cond.methodLink RX2 88 yX2_isRuleOrNone, Cond.instanceMethod yX2_isRuleOrNone, Cond.selects RX2 yX2_isRuleOrNone yX2_isRuleOrNone, Cond.code yX2_isRuleOrNone cX2_isRuleOrNone 2 (some .boolean), Cond.methodLink RX2 91 yX2_ruleAt, Cond.instanceMethod yX2_ruleAt, Cond.selects RX2 yX2_ruleAt yX2_ruleAt, Cond.code yX2_ruleAt cX2_ruleAt 2 (some (.object "SluiceRules$Rule")), Cond.methodLink RX2 101 yX2_countedAt, Cond.instanceMethod yX2_countedAt, Cond.selects RX2 yX2_countedAt yX2_countedAt, Cond.code yX2_countedAt cX2_countedAt 3 (some (.object "SluiceRules$Rule")), Cond.methodLink RX2 85 yX2_isSlot, Cond.instanceMethod yX2_isSlot, Cond.selects RX2 yX2_isSlot yX2_isSlot, Cond.code yX2_isSlot cX2_isSlot 2 (some .boolean), Cond.methodLink RX2 71 yX2_hasFitNumbers, Cond.static yX2_hasFitNumbers, Cond.code yX2_hasFitNumbers cX2_hasFitNumbers 6 (some .boolean), Cond.methodLink RX2 75 yX2_askByCall]
def wsL_law_r6 : List Cond := [Cond.instanceMethod yX2_askByCall, Cond.selects RX2 yX2_askByCall yX2_askByCall, Cond.code yX2_askByCall cX2_askByCall 3 (some .long), Cond.methodLink RX2 111 yX2_valueOf, Cond.instanceMethod yX2_valueOf, Cond.selects RX2 yX2_valueOf yX2_valueOf, Cond.code yX2_valueOf cX2_valueOf 7 (some .long), Cond.methodLink RX2 123 Lib.MathLoose.min_long.x, Cond.static Lib.MathLoose.min_long.x, Cond.initialized "java/lang/Math", Cond.code Lib.MathLoose.min_long.x Lib.MathLoose.min_long.code 4 (some .long), Cond.methodLink RX2 129 Lib.MathLoose.max_long.x, Cond.static Lib.MathLoose.max_long.x, Cond.code Lib.MathLoose.max_long.x Lib.MathLoose.max_long.code 4 (some .long), Cond.methodLink RX2 114 yX2_stepTo, Cond.instanceMethod yX2_stepTo, Cond.selects RX2 yX2_stepTo yX2_stepTo, Cond.code yX2_stepTo cX2_stepTo 3 (some (.object "SluiceRules$Rule")), Cond.methodLink RX2 135 yX2_scaled, Cond.static yX2_scaled, Cond.code yX2_scaled cX2_scaled 4 (some .long), Cond.methodLink RX2 172 yJ9_floorDiv_f86c9, Cond.static yJ9_floorDiv_f86c9, Cond.initialized RJ9]
def wsL_law_r7 : List Cond := [Cond.code yJ9_floorDiv_f86c9 cJ9_floorDiv_f86c9 6 (some .long), Cond.methodLink RX2 139 yX2_banded, Cond.static yX2_banded, Cond.code yX2_banded cX2_banded 3 (some .long), Cond.methodLink RX2 143 yX2_ruleInSlot, Cond.instanceMethod yX2_ruleInSlot, Cond.selects RX2 yX2_ruleInSlot yX2_ruleInSlot, Cond.code yX2_ruleInSlot cX2_ruleInSlot 2 (some .int), Cond.methodLink RX2 147 yX2_valueOfLeaf, Cond.instanceMethod yX2_valueOfLeaf, Cond.selects RX2 yX2_valueOfLeaf yX2_valueOfLeaf, Cond.code yX2_valueOfLeaf cX2_valueOfLeaf 3 (some .long), Cond.methodLink RX2 151 yX2_level, Cond.instanceMethod yX2_level, Cond.selects RX2 yX2_level yX2_level, Cond.code yX2_level cX2_level 2 (some .int), Cond.methodLink RX2 154 yX2_tide, Cond.instanceMethod yX2_tide, Cond.selects RX2 yX2_tide yX2_tide, Cond.code yX2_tide cX2_tide 4 (some .long), Cond.constantLong RX2 161 (12), Cond.constantLong RX2 166 (6), Cond.methodLink RX2 168 Lib.MathLoose.abs_long.x, Cond.static Lib.MathLoose.abs_long.x]
def wsL_law_r8 : List Cond := [Cond.code Lib.MathLoose.abs_long.x Lib.MathLoose.abs_long.code 2 (some .long), Cond.methodLink RX2 163 yJ9_floorMod_f86c9, Cond.static yJ9_floorMod_f86c9, Cond.code yJ9_floorMod_f86c9 cJ9_floorMod_f86c9 6 (some .long), Cond.methodLink RX2 158 yX2_counted, Cond.instanceMethod yX2_counted, Cond.selects RX2 yX2_counted yX2_counted, Cond.code yX2_counted cX2_counted 3 (some .int), Cond.instanceMethod yX0_init, Cond.code yX0_init cX0_init 7 none, Cond.methodLink RX0 1 objectInit, Cond.fieldLink RX0 7 "SluiceRules$Rule" "held" "J", Cond.fieldLink RX0 13 "SluiceRules$Rule" "counter" "I", Cond.fieldLink RX0 17 "SluiceRules$Rule" "kind" "I", Cond.fieldLink RX0 20 "SluiceRules$Rule" "a" "I", Cond.fieldLink RX0 23 "SluiceRules$Rule" "b" "I", Cond.fieldLink RX0 26 "SluiceRules$Rule" "c" "I", Cond.fieldLink RX0 29 "SluiceRules$Rule" "d" "I", Cond.fieldLink RX0 32 "SluiceRules$Rule" "e" "I", Cond.methodLink RL 31 yX3_make, Cond.instanceMethod yX3_make, Cond.selects RX3 yX3_make yX3_make, Cond.code yX3_make cX3_make 7 (some .int), Cond.fieldLink RX3 64 "SluiceRulesModel" "rules" "I"]
def wsL_law_r9 : List Cond := [Cond.fieldLink RX3 89 "SluiceRulesModel" "failure" "I", Cond.fieldLink RX3 92 "SluiceRulesModel" "value" "J", Cond.methodLink RX3 81 yX3_areKnown, Cond.instanceMethod yX3_areKnown, Cond.selects RX3 yX3_areKnown yX3_areKnown, Cond.code yX3_areKnown cX3_areKnown 5 (some .boolean), Cond.methodLink RX3 75 yX3_isPart, Cond.instanceMethod yX3_isPart, Cond.selects RX3 yX3_isPart yX3_isPart, Cond.code yX3_isPart cX3_isPart 2 (some .boolean), Cond.methodLink RX3 67 yX3_isRule, Cond.instanceMethod yX3_isRule, Cond.selects RX3 yX3_isRule yX3_isRule, Cond.code yX3_isRule cX3_isRule 2 (some .boolean), Cond.methodLink RX3 78 yX3_isSlot, Cond.static yX3_isSlot, Cond.code yX3_isSlot cX3_isSlot 1 (some .boolean), Cond.methodLink RX3 85 yX3_asks, Cond.instanceMethod yX3_asks, Cond.selects RX3 yX3_asks yX3_asks, Cond.code yX3_asks cX3_asks 3 (some .boolean), Cond.fieldLink RX3 96 "SluiceRulesModel" "steps" "I", Cond.fieldLink RX3 99 "SluiceRulesModel" "top" "I", Cond.methodLink RX3 118 yX3_enter]
def wsL_law_r10 : List Cond := [Cond.instanceMethod yX3_enter, Cond.selects RX3 yX3_enter yX3_enter, Cond.code yX3_enter cX3_enter 3 none, Cond.methodLink RX3 143 yX3_go, Cond.instanceMethod yX3_go, Cond.selects RX3 yX3_go yX3_go, Cond.code yX3_go cX3_go 5 none, Cond.methodLink RX3 126 yX3_plain, Cond.instanceMethod yX3_plain, Cond.selects RX3 yX3_plain yX3_plain, Cond.code yX3_plain cX3_plain 4 none, Cond.methodLink RX3 106 yX3_gives, Cond.instanceMethod yX3_gives, Cond.selects RX3 yX3_gives yX3_gives, Cond.code yX3_gives cX3_gives 3 none, Cond.methodLink RX3 110 yX3_tide, Cond.instanceMethod yX3_tide, Cond.selects RX3 yX3_tide yX3_tide, Cond.code yX3_tide cX3_tide 4 (some .long), Cond.constantLong RX3 102 (12), Cond.constantLong RX3 104 (6), Cond.methodLink RX3 129 yX3_slots, Cond.instanceMethod yX3_slots, Cond.selects RX3 yX3_slots yX3_slots]
def wsL_law_r11 : List Cond := [Cond.code yX3_slots cX3_slots 5 none, Cond.methodLink RX3 133 yX3_pair, Cond.instanceMethod yX3_pair, Cond.selects RX3 yX3_pair yX3_pair, Cond.code yX3_pair cX3_pair 4 none, Cond.methodLink RX3 122 yX3_joined, Cond.static yX3_joined, Cond.code yX3_joined cX3_joined 5 (some .long), Cond.methodLink RX3 136 yX3_choice, Cond.instanceMethod yX3_choice, Cond.selects RX3 yX3_choice yX3_choice, Cond.code yX3_choice cX3_choice 4 none, Cond.methodLink RX3 139 yX3_behind, Cond.instanceMethod yX3_behind, Cond.selects RX3 yX3_behind yX3_behind, Cond.code yX3_behind cX3_behind 4 none, Cond.methodLink RX3 114 yX3_downward, Cond.static yX3_downward, Cond.code yX3_downward cX3_downward 6 (some .long), Cond.methodLink RL 32 yX2_put, Cond.instanceMethod yX2_put, Cond.selects RX2 yX2_put yX2_put, Cond.code yX2_put cX2_put 4 (some .int), Cond.methodLink RL 35 yX3_put]
def wsL_law_r12 : List Cond := [Cond.instanceMethod yX3_put, Cond.selects RX3 yX3_put yX3_put, Cond.code yX3_put cX3_put 4 (some .int), Cond.methodLink RL 36 yX2_ask, Cond.instanceMethod yX2_ask, Cond.selects RX2 yX2_ask yX2_ask, Cond.code yX2_ask cX2_ask 5 (some .int), Cond.methodLink RL 39 yX3_ask, Cond.instanceMethod yX3_ask, Cond.selects RX3 yX3_ask yX3_ask, Cond.code yX3_ask cX3_ask 3 (some .int), Cond.fieldLink RX3 146 "SluiceRulesModel" "given" "J", Cond.methodLink RL 40 yX2_given, Cond.instanceMethod yX2_given, Cond.selects RX2 yX2_given yX2_given, Cond.code yX2_given cX2_given 1 (some .long), Cond.methodLink RL 44 yX3_given, Cond.instanceMethod yX3_given, Cond.selects RX3 yX3_given yX3_given, Cond.code yX3_given cX3_given 1 (some .long), Cond.methodLink RL 45 yX2_sluice, Cond.instanceMethod yX2_sluice, Cond.selects RX2 yX2_sluice yX2_sluice, Cond.code yX2_sluice cX2_sluice 4 (some .int)]
def wsL_law_r13 : List Cond := [Cond.instantiable RX1 3, Cond.initialized RX1, Cond.instanceMethod yX1_init, Cond.code yX1_init cX1_init 4 none, Cond.methodLink RX1 1 objectInit, Cond.fieldLink RX1 7 "SluiceRules$Sluice" "from" "I", Cond.fieldLink RX1 13 "SluiceRules$Sluice" "to" "I", Cond.fieldLink RX1 16 "SluiceRules$Sluice" "rule" "I", Cond.methodLink RL 49 yX3_sluice, Cond.instanceMethod yX3_sluice, Cond.selects RX3 yX3_sluice yX3_sluice, Cond.code yX3_sluice cX3_sluice 4 (some .int), Cond.fieldLink RX3 149 "SluiceRulesModel" "sluices" "I", Cond.methodLink RL 50 yX2_run, Cond.instanceMethod yX2_run, Cond.selects RX2 yX2_run yX2_run, Cond.code yX2_run cX2_run 4 (some .int), Cond.methodLink RX2 98 yX2_goesWhole, Cond.instanceMethod yX2_goesWhole, Cond.selects RX2 yX2_goesWhole yX2_goesWhole, Cond.code yX2_goesWhole cX2_goesWhole 6 (some .boolean), Cond.methodLink RX2 184 yX2_letOver, Cond.instanceMethod yX2_letOver, Cond.selects RX2 yX2_letOver yX2_letOver]
def wsL_law_r14 : List Cond := [Cond.code yX2_letOver cX2_letOver 7 (some .int), Cond.methodLink RX2 194 Lib.Math.min.name, Cond.static Lib.Math.min.name, Cond.code Lib.Math.min.name Lib.Math.min.code 2 (some .int), Cond.methodLink RX2 197 yX2_fill, Cond.methodLink RL 53 yX3_run, Cond.instanceMethod yX3_run, Cond.selects RX3 yX3_run yX3_run, Cond.code yX3_run cX3_run 6 (some .int), Cond.fieldLink RX3 152 "SluiceRulesModel" "toldWhy" "I", Cond.fieldLink RX3 155 "SluiceRulesModel" "toldMuch" "I", Cond.methodLink RX3 158 yX3_flows, Cond.instanceMethod yX3_flows, Cond.selects RX3 yX3_flows yX3_flows, Cond.code yX3_flows cX3_flows 6 (some .boolean), Cond.methodLink RL 54 yX2_told, Cond.instanceMethod yX2_told, Cond.selects RX2 yX2_told yX2_told, Cond.code yX2_told cX2_told 2 (some .int), Cond.methodLink RL 57 yX3_told, Cond.instanceMethod yX3_told, Cond.selects RX3 yX3_told yX3_told, Cond.code yX3_told cX3_told 2 (some .int), Cond.methodLink RL 58 yX2_level]
def wsL_law_r15 : List Cond := [Cond.methodLink RL 61 yX3_level, Cond.instanceMethod yX3_level, Cond.selects RX3 yX3_level yX3_level, Cond.code yX3_level cX3_level 2 (some .int), Cond.methodLink RL 62 yX2_counted, Cond.methodLink RL 65 yX3_counted, Cond.instanceMethod yX3_counted, Cond.selects RX3 yX3_counted yX3_counted, Cond.code yX3_counted cX3_counted 2 (some .int), Cond.methodLink RL 66 yX2_count, Cond.instanceMethod yX2_count, Cond.selects RX2 yX2_count yX2_count, Cond.code yX2_count cX2_count 3 (some .int), Cond.methodLink RL 69 yX3_count, Cond.instanceMethod yX3_count, Cond.selects RX3 yX3_count yX3_count, Cond.code yX3_count cX3_count 2 (some .int)]
def wsL_law : List Cond := (wsL_law_r1 ++ (wsL_law_r2 ++ (wsL_law_r3 ++ (wsL_law_r4 ++ (wsL_law_r5 ++ (wsL_law_r6 ++ (wsL_law_r7 ++ (wsL_law_r8 ++ (wsL_law_r9 ++ (wsL_law_r10 ++ (wsL_law_r11 ++ (wsL_law_r12 ++ (wsL_law_r13 ++ (wsL_law_r14 ++ wsL_law_r15)))))))))))))) ++ wsX20 ++ wsX30 ++ wsX00 ++ wsX10 ++ ([] : List Cond)
end
section
theorem mem_pl {big ws : List Cond} (ps : List Nat) (h : ps.map (fun i => big[i]?) = ws.map some) : ∀ w ∈ ws, w ∈ big := by
  intro w hw
  have h1 : some w ∈ ws.map some := List.mem_map.mpr ⟨w, hw, rfl⟩
  rw [← h] at h1
  obtain ⟨i, -, hi⟩ := List.mem_map.mp h1
  exact List.mem_of_getElem? hi
set_option maxRecDepth 20000 in
theorem in_wsL_law_r1 : ∀ w ∈ wsL_law_r1, w ∈ lw_tbl := mem_pl [35, 36, 30, 291, 292, 31, 37, 38, 39, 40, 41, 42, 90, 47, 48, 49, 50, 43, 51, 52, 45, 53, 54, 55] rfl
set_option maxRecDepth 20000 in
theorem in_wsL_law_r2 : ∀ w ∈ wsL_law_r2, w ∈ lw_tbl := mem_pl [56, 57, 58, 59, 60, 293, 294, 295, 296, 298, 299, 300, 302, 303, 373, 304, 305, 307, 308, 309, 314, 315, 316, 317] rfl
set_option maxRecDepth 20000 in
theorem in_wsL_law_r3 : ∀ w ∈ wsL_law_r3, w ∈ lw_tbl := mem_pl [319, 91, 92, 93, 94, 95, 96, 97, 98, 374, 375, 376, 377, 378, 297, 379, 380, 381, 99, 100, 101, 102, 103, 105] rfl
set_option maxRecDepth 20000 in
theorem in_wsL_law_r4 : ∀ w ∈ wsL_law_r4, w ∈ lw_tbl := mem_pl [0, 106, 382, 383, 384, 385, 386, 388, 14, 389, 107, 108, 109, 110, 390, 391, 392, 393, 111, 112, 113, 114, 193, 33] rfl
set_option maxRecDepth 20000 in
theorem in_wsL_law_r5 : ∀ w ∈ wsL_law_r5, w ∈ lw_tbl := mem_pl [115, 117, 1, 118, 119, 121, 2, 122, 123, 125, 3, 126, 127, 129, 4, 130, 131, 133, 5, 134, 135, 136, 137, 138] rfl
set_option maxRecDepth 20000 in
theorem in_wsL_law_r6 : ∀ w ∈ wsL_law_r6, w ∈ lw_tbl := mem_pl [140, 6, 141, 142, 144, 7, 145, 150, 151, 32, 152, 153, 154, 155, 146, 148, 8, 149, 156, 157, 158, 159, 160, 32] rfl
set_option maxRecDepth 20000 in
theorem in_wsL_law_r7 : ∀ w ∈ wsL_law_r7, w ∈ lw_tbl := mem_pl [161, 162, 163, 164, 165, 167, 9, 168, 169, 171, 10, 172, 173, 174, 175, 176, 177, 179, 11, 180, 181, 185, 186, 187] rfl
set_option maxRecDepth 20000 in
theorem in_wsL_law_r8 : ∀ w ∈ wsL_law_r8, w ∈ lw_tbl := mem_pl [188, 182, 183, 184, 189, 190, 191, 192, 195, 196, 197, 210, 212, 198, 200, 202, 204, 206, 208, 394, 395, 396, 397, 301] rfl
set_option maxRecDepth 20000 in
theorem in_wsL_law_r9 : ∀ w ∈ wsL_law_r9, w ∈ lw_tbl := mem_pl [311, 312, 398, 400, 15, 401, 402, 404, 16, 405, 406, 408, 17, 409, 410, 411, 412, 413, 415, 18, 416, 310, 313, 417] rfl
set_option maxRecDepth 20000 in
theorem in_wsL_law_r10 : ∀ w ∈ wsL_law_r10, w ∈ lw_tbl := mem_pl [419, 19, 420, 421, 423, 20, 424, 425, 427, 21, 428, 429, 431, 22, 432, 433, 435, 23, 436, 437, 438, 439, 441, 24] rfl
set_option maxRecDepth 20000 in
theorem in_wsL_law_r11 : ∀ w ∈ wsL_law_r11, w ∈ lw_tbl := mem_pl [442, 443, 445, 25, 446, 447, 448, 449, 450, 452, 26, 453, 454, 456, 27, 457, 458, 459, 460, 231, 232, 233, 234, 461] rfl
set_option maxRecDepth 20000 in
theorem in_wsL_law_r12 : ∀ w ∈ wsL_law_r12, w ∈ lw_tbl := mem_pl [462, 463, 464, 235, 236, 237, 238, 465, 466, 467, 468, 318, 239, 240, 241, 242, 469, 470, 471, 472, 243, 244, 245, 246] rfl
set_option maxRecDepth 20000 in
theorem in_wsL_law_r13 : ∀ w ∈ wsL_law_r13, w ∈ lw_tbl := mem_pl [247, 34, 249, 250, 251, 252, 254, 256, 473, 474, 475, 476, 306, 265, 266, 267, 268, 269, 271, 12, 272, 273, 275, 13] rfl
set_option maxRecDepth 20000 in
theorem in_wsL_law_r14 : ∀ w ∈ wsL_law_r14, w ∈ lw_tbl := mem_pl [276, 277, 278, 279, 280, 477, 478, 479, 480, 320, 321, 481, 483, 28, 484, 281, 282, 283, 284, 485, 486, 487, 488, 285] rfl
set_option maxRecDepth 20000 in
theorem in_wsL_law_r15 : ∀ w ∈ wsL_law_r15, w ∈ lw_tbl := mem_pl [489, 490, 491, 492, 286, 493, 494, 495, 496, 287, 288, 289, 290, 497, 498, 499, 500] rfl
set_option maxRecDepth 20000 in
theorem in_wsX20 : ∀ w ∈ wsX20, w ∈ lw_tbl := mem_pl [61, 63, 65, 67, 69, 71, 73, 75, 77, 79, 81, 83, 85, 87] rfl
set_option maxRecDepth 20000 in
theorem in_wsX30 : ∀ w ∈ wsX30, w ∈ lw_tbl := mem_pl [322, 324, 326, 328, 330, 332, 334, 336, 338, 340, 342, 344, 346, 348, 350, 352, 354, 356, 358, 360, 362, 364, 366, 368, 370] rfl
set_option maxRecDepth 20000 in
theorem in_wsX00 : ∀ w ∈ wsX00, w ∈ lw_tbl := mem_pl [214, 216, 218, 220, 222, 224, 226, 228] rfl
set_option maxRecDepth 20000 in
theorem in_wsX10 : ∀ w ∈ wsX10, w ∈ lw_tbl := mem_pl [258, 260, 262] rfl
theorem wsL_law_in : ∀ w ∈ wsL_law, w ∈ lw_tbl := by
  intro w h
  rcases List.mem_append.mp h with h | h
  · rcases List.mem_append.mp h with h | h
    · rcases List.mem_append.mp h with h | h
      · rcases List.mem_append.mp h with h | h
        · rcases List.mem_append.mp h with h | h
          · rcases List.mem_append.mp h with h | h
            · exact in_wsL_law_r1 w h
            rcases List.mem_append.mp h with h | h
            · exact in_wsL_law_r2 w h
            rcases List.mem_append.mp h with h | h
            · exact in_wsL_law_r3 w h
            rcases List.mem_append.mp h with h | h
            · exact in_wsL_law_r4 w h
            rcases List.mem_append.mp h with h | h
            · exact in_wsL_law_r5 w h
            rcases List.mem_append.mp h with h | h
            · exact in_wsL_law_r6 w h
            rcases List.mem_append.mp h with h | h
            · exact in_wsL_law_r7 w h
            rcases List.mem_append.mp h with h | h
            · exact in_wsL_law_r8 w h
            rcases List.mem_append.mp h with h | h
            · exact in_wsL_law_r9 w h
            rcases List.mem_append.mp h with h | h
            · exact in_wsL_law_r10 w h
            rcases List.mem_append.mp h with h | h
            · exact in_wsL_law_r11 w h
            rcases List.mem_append.mp h with h | h
            · exact in_wsL_law_r12 w h
            rcases List.mem_append.mp h with h | h
            · exact in_wsL_law_r13 w h
            rcases List.mem_append.mp h with h | h
            · exact in_wsL_law_r14 w h
            exact in_wsL_law_r15 w h
          · exact in_wsX20 w h
        · exact in_wsX30 w h
      · exact in_wsX00 w h
    · exact in_wsX10 w h
  · cases h
theorem inlX0 : ∀ w ∈ wsX00, w ∈ wsL_law := fun _ h => List.mem_append_left _ (List.mem_append_left _ (List.mem_append_right _ h))
theorem inX0 : ∀ w ∈ wsX00, w ∈ lw_tbl := fun w h => wsL_law_in w (inlX0 w h)
theorem inlX1 : ∀ w ∈ wsX10, w ∈ wsL_law := fun _ h => List.mem_append_left _ (List.mem_append_right _ h)
theorem inX1 : ∀ w ∈ wsX10, w ∈ lw_tbl := fun w h => wsL_law_in w (inlX1 w h)
theorem inlX2 : ∀ w ∈ wsX20, w ∈ wsL_law := fun _ h => List.mem_append_left _ (List.mem_append_left _ (List.mem_append_left _ (List.mem_append_left _ (List.mem_append_right _ h))))
theorem inX2 : ∀ w ∈ wsX20, w ∈ lw_tbl := fun w h => wsL_law_in w (inlX2 w h)
theorem inlX3 : ∀ w ∈ wsX30, w ∈ wsL_law := fun _ h => List.mem_append_left _ (List.mem_append_left _ (List.mem_append_left _ (List.mem_append_right _ h)))
theorem inX3 : ∀ w ∈ wsX30, w ∈ lw_tbl := fun w h => wsL_law_in w (inlX3 w h)
theorem inJ9 : ∀ w ∈ wsJ90, w ∈ lw_tbl := by decide +kernel
end
section
theorem dX0_init_0 : decode cX0_init 0 = .ok (.aload_n 0, 1) := by decide +kernel
theorem dX0_init_1 : decode cX0_init 1 = .ok (.invokespecial 1, 3) := by decide +kernel
theorem dX0_init_4 : decode cX0_init 4 = .ok (.aload_n 0, 1) := by decide +kernel
theorem dX0_init_5 : decode cX0_init 5 = .ok (.lconst 0, 1) := by decide +kernel
theorem dX0_init_6 : decode cX0_init 6 = .ok (.putfield 7, 3) := by decide +kernel
theorem dX0_init_9 : decode cX0_init 9 = .ok (.aload_n 0, 1) := by decide +kernel
theorem dX0_init_10 : decode cX0_init 10 = .ok (.iconst 0, 1) := by decide +kernel
theorem dX0_init_11 : decode cX0_init 11 = .ok (.putfield 13, 3) := by decide +kernel
theorem dX0_init_14 : decode cX0_init 14 = .ok (.aload_n 0, 1) := by decide +kernel
theorem dX0_init_15 : decode cX0_init 15 = .ok (.iload_n 1, 1) := by decide +kernel
theorem dX0_init_16 : decode cX0_init 16 = .ok (.putfield 17, 3) := by decide +kernel
theorem dX0_init_19 : decode cX0_init 19 = .ok (.aload_n 0, 1) := by decide +kernel
theorem dX0_init_20 : decode cX0_init 20 = .ok (.iload_n 2, 1) := by decide +kernel
theorem dX0_init_21 : decode cX0_init 21 = .ok (.putfield 20, 3) := by decide +kernel
theorem dX0_init_24 : decode cX0_init 24 = .ok (.aload_n 0, 1) := by decide +kernel
theorem dX0_init_25 : decode cX0_init 25 = .ok (.iload_n 3, 1) := by decide +kernel
theorem dX0_init_26 : decode cX0_init 26 = .ok (.putfield 23, 3) := by decide +kernel
theorem dX0_init_29 : decode cX0_init 29 = .ok (.aload_n 0, 1) := by decide +kernel
theorem dX0_init_30 : decode cX0_init 30 = .ok (.iload 4, 2) := by decide +kernel
theorem dX0_init_32 : decode cX0_init 32 = .ok (.putfield 26, 3) := by decide +kernel
theorem dX0_init_35 : decode cX0_init 35 = .ok (.aload_n 0, 1) := by decide +kernel
theorem dX0_init_36 : decode cX0_init 36 = .ok (.iload 5, 2) := by decide +kernel
theorem dX0_init_38 : decode cX0_init 38 = .ok (.putfield 29, 3) := by decide +kernel
theorem dX0_init_41 : decode cX0_init 41 = .ok (.aload_n 0, 1) := by decide +kernel
theorem dX0_init_42 : decode cX0_init 42 = .ok (.iload 6, 2) := by decide +kernel
theorem dX0_init_44 : decode cX0_init 44 = .ok (.putfield 32, 3) := by decide +kernel
theorem dX0_init_47 : decode cX0_init 47 = .ok (.return_, 1) := by decide +kernel
theorem dX1_init_0 : decode cX1_init 0 = .ok (.aload_n 0, 1) := by decide +kernel
theorem dX1_init_1 : decode cX1_init 1 = .ok (.invokespecial 1, 3) := by decide +kernel
theorem dX1_init_4 : decode cX1_init 4 = .ok (.aload_n 0, 1) := by decide +kernel
theorem dX1_init_5 : decode cX1_init 5 = .ok (.iload_n 1, 1) := by decide +kernel
theorem dX1_init_6 : decode cX1_init 6 = .ok (.putfield 7, 3) := by decide +kernel
theorem dX1_init_9 : decode cX1_init 9 = .ok (.aload_n 0, 1) := by decide +kernel
theorem dX1_init_10 : decode cX1_init 10 = .ok (.iload_n 2, 1) := by decide +kernel
theorem dX1_init_11 : decode cX1_init 11 = .ok (.putfield 13, 3) := by decide +kernel
theorem dX1_init_14 : decode cX1_init 14 = .ok (.aload_n 0, 1) := by decide +kernel
theorem dX1_init_15 : decode cX1_init 15 = .ok (.iload_n 3, 1) := by decide +kernel
theorem dX1_init_16 : decode cX1_init 16 = .ok (.putfield 16, 3) := by decide +kernel
theorem dX1_init_19 : decode cX1_init 19 = .ok (.return_, 1) := by decide +kernel
theorem dX2_init_0 : decode cX2_init 0 = .ok (.aload_n 0, 1) := by decide +kernel
theorem dX2_init_1 : decode cX2_init 1 = .ok (.invokespecial 1, 3) := by decide +kernel
theorem dX2_init_4 : decode cX2_init 4 = .ok (.aload_n 0, 1) := by decide +kernel
theorem dX2_init_5 : decode cX2_init 5 = .ok (.bipush 8, 2) := by decide +kernel
theorem dX2_init_7 : decode cX2_init 7 = .ok (.newarray .int, 2) := by decide +kernel
theorem dX2_init_9 : decode cX2_init 9 = .ok (.putfield 9, 3) := by decide +kernel
theorem dX2_init_12 : decode cX2_init 12 = .ok (.aload_n 0, 1) := by decide +kernel
theorem dX2_init_13 : decode cX2_init 13 = .ok (.iconst 0, 1) := by decide +kernel
theorem dX2_init_14 : decode cX2_init 14 = .ok (.putfield 13, 3) := by decide +kernel
theorem dX2_init_17 : decode cX2_init 17 = .ok (.aload_n 0, 1) := by decide +kernel
theorem dX2_init_18 : decode cX2_init 18 = .ok (.iconst 1, 1) := by decide +kernel
theorem dX2_init_19 : decode cX2_init 19 = .ok (.putfield 17, 3) := by decide +kernel
theorem dX2_init_22 : decode cX2_init 22 = .ok (.aload_n 0, 1) := by decide +kernel
theorem dX2_init_23 : decode cX2_init 23 = .ok (.bipush 8, 2) := by decide +kernel
theorem dX2_init_25 : decode cX2_init 25 = .ok (.newarray .int, 2) := by decide +kernel
theorem dX2_init_27 : decode cX2_init 27 = .ok (.putfield 20, 3) := by decide +kernel
theorem dX2_init_30 : decode cX2_init 30 = .ok (.aload_n 0, 1) := by decide +kernel
theorem dX2_init_31 : decode cX2_init 31 = .ok (.bipush 40, 2) := by decide +kernel
theorem dX2_init_33 : decode cX2_init 33 = .ok (.anewarray 23, 3) := by decide +kernel
theorem dX2_init_36 : decode cX2_init 36 = .ok (.putfield 25, 3) := by decide +kernel
theorem dX2_init_39 : decode cX2_init 39 = .ok (.aload_n 0, 1) := by decide +kernel
theorem dX2_init_40 : decode cX2_init 40 = .ok (.iconst 0, 1) := by decide +kernel
theorem dX2_init_41 : decode cX2_init 41 = .ok (.putfield 29, 3) := by decide +kernel
theorem dX2_init_44 : decode cX2_init 44 = .ok (.aload_n 0, 1) := by decide +kernel
theorem dX2_init_45 : decode cX2_init 45 = .ok (.bipush 8, 2) := by decide +kernel
theorem dX2_init_47 : decode cX2_init 47 = .ok (.anewarray 32, 3) := by decide +kernel
theorem dX2_init_50 : decode cX2_init 50 = .ok (.putfield 34, 3) := by decide +kernel
theorem dX2_init_53 : decode cX2_init 53 = .ok (.aload_n 0, 1) := by decide +kernel
theorem dX2_init_54 : decode cX2_init 54 = .ok (.iconst 0, 1) := by decide +kernel
theorem dX2_init_55 : decode cX2_init 55 = .ok (.putfield 38, 3) := by decide +kernel
theorem dX2_init_58 : decode cX2_init 58 = .ok (.aload_n 0, 1) := by decide +kernel
theorem dX2_init_59 : decode cX2_init 59 = .ok (.iconst 0, 1) := by decide +kernel
theorem dX2_init_60 : decode cX2_init 60 = .ok (.putfield 41, 3) := by decide +kernel
theorem dX2_init_63 : decode cX2_init 63 = .ok (.aload_n 0, 1) := by decide +kernel
theorem dX2_init_64 : decode cX2_init 64 = .ok (.iconst 0, 1) := by decide +kernel
theorem dX2_init_65 : decode cX2_init 65 = .ok (.putfield 44, 3) := by decide +kernel
theorem dX2_init_68 : decode cX2_init 68 = .ok (.aload_n 0, 1) := by decide +kernel
theorem dX2_init_69 : decode cX2_init 69 = .ok (.lconst 0, 1) := by decide +kernel
theorem dX2_init_70 : decode cX2_init 70 = .ok (.putfield 47, 3) := by decide +kernel
theorem dX2_init_73 : decode cX2_init 73 = .ok (.aload_n 0, 1) := by decide +kernel
theorem dX2_init_74 : decode cX2_init 74 = .ok (.iconst (-1), 1) := by decide +kernel
theorem dX2_init_75 : decode cX2_init 75 = .ok (.putfield 51, 3) := by decide +kernel
theorem dX2_init_78 : decode cX2_init 78 = .ok (.aload_n 0, 1) := by decide +kernel
theorem dX2_init_79 : decode cX2_init 79 = .ok (.iconst 0, 1) := by decide +kernel
theorem dX2_init_80 : decode cX2_init 80 = .ok (.putfield 54, 3) := by decide +kernel
theorem dX2_init_83 : decode cX2_init 83 = .ok (.aload_n 0, 1) := by decide +kernel
theorem dX2_init_84 : decode cX2_init 84 = .ok (.iconst 0, 1) := by decide +kernel
theorem dX2_init_85 : decode cX2_init 85 = .ok (.putfield 57, 3) := by decide +kernel
theorem dX2_init_88 : decode cX2_init 88 = .ok (.iconst 0, 1) := by decide +kernel
theorem dX2_init_89 : decode cX2_init 89 = .ok (.istore_n 1, 1) := by decide +kernel
theorem dX2_init_90 : decode cX2_init 90 = .ok (.iload_n 1, 1) := by decide +kernel
theorem dX2_init_91 : decode cX2_init 91 = .ok (.aload_n 0, 1) := by decide +kernel
theorem dX2_init_92 : decode cX2_init 92 = .ok (.getfield 20, 3) := by decide +kernel
theorem dX2_init_95 : decode cX2_init 95 = .ok (.arraylength, 1) := by decide +kernel
theorem dX2_init_96 : decode cX2_init 96 = .ok (.if_icmp .ge 16, 3) := by decide +kernel
theorem dX2_init_99 : decode cX2_init 99 = .ok (.aload_n 0, 1) := by decide +kernel
theorem dX2_init_100 : decode cX2_init 100 = .ok (.getfield 20, 3) := by decide +kernel
theorem dX2_init_103 : decode cX2_init 103 = .ok (.iload_n 1, 1) := by decide +kernel
theorem dX2_init_104 : decode cX2_init 104 = .ok (.iconst (-1), 1) := by decide +kernel
theorem dX2_init_105 : decode cX2_init 105 = .ok (.iastore, 1) := by decide +kernel
theorem dX2_init_106 : decode cX2_init 106 = .ok (.iinc 1 1, 3) := by decide +kernel
theorem dX2_init_109 : decode cX2_init 109 = .ok (.goto (-19), 3) := by decide +kernel
theorem dX2_init_112 : decode cX2_init 112 = .ok (.return_, 1) := by decide +kernel
theorem dX2_basin_0 : decode cX2_basin 0 = .ok (.iload_n 1, 1) := by decide +kernel
theorem dX2_basin_1 : decode cX2_basin 1 = .ok (.invokestatic 60, 3) := by decide +kernel
theorem dX2_basin_4 : decode cX2_basin 4 = .ok (.ifCond .ne 6, 3) := by decide +kernel
theorem dX2_basin_7 : decode cX2_basin 7 = .ok (.bipush (-102), 2) := by decide +kernel
theorem dX2_basin_9 : decode cX2_basin 9 = .ok (.ireturn, 1) := by decide +kernel
theorem dX2_basin_10 : decode cX2_basin 10 = .ok (.aload_n 0, 1) := by decide +kernel
theorem dX2_basin_11 : decode cX2_basin 11 = .ok (.getfield 13, 3) := by decide +kernel
theorem dX2_basin_14 : decode cX2_basin 14 = .ok (.aload_n 0, 1) := by decide +kernel
theorem dX2_basin_15 : decode cX2_basin 15 = .ok (.getfield 9, 3) := by decide +kernel
theorem dX2_basin_18 : decode cX2_basin 18 = .ok (.arraylength, 1) := by decide +kernel
theorem dX2_basin_19 : decode cX2_basin 19 = .ok (.if_icmp .lt 6, 3) := by decide +kernel
theorem dX2_basin_22 : decode cX2_basin 22 = .ok (.bipush (-103), 2) := by decide +kernel
theorem dX2_basin_24 : decode cX2_basin 24 = .ok (.ireturn, 1) := by decide +kernel
theorem dX2_basin_25 : decode cX2_basin 25 = .ok (.aload_n 0, 1) := by decide +kernel
theorem dX2_basin_26 : decode cX2_basin 26 = .ok (.getfield 9, 3) := by decide +kernel
theorem dX2_basin_29 : decode cX2_basin 29 = .ok (.aload_n 0, 1) := by decide +kernel
theorem dX2_basin_30 : decode cX2_basin 30 = .ok (.getfield 13, 3) := by decide +kernel
theorem dX2_basin_33 : decode cX2_basin 33 = .ok (.iload_n 1, 1) := by decide +kernel
theorem dX2_basin_34 : decode cX2_basin 34 = .ok (.iastore, 1) := by decide +kernel
theorem dX2_basin_35 : decode cX2_basin 35 = .ok (.aload_n 0, 1) := by decide +kernel
theorem dX2_basin_36 : decode cX2_basin 36 = .ok (.dup, 1) := by decide +kernel
theorem dX2_basin_37 : decode cX2_basin 37 = .ok (.getfield 13, 3) := by decide +kernel
theorem dX2_basin_40 : decode cX2_basin 40 = .ok (.iconst 1, 1) := by decide +kernel
theorem dX2_basin_41 : decode cX2_basin 41 = .ok (.iadd, 1) := by decide +kernel
theorem dX2_basin_42 : decode cX2_basin 42 = .ok (.putfield 13, 3) := by decide +kernel
theorem dX2_basin_45 : decode cX2_basin 45 = .ok (.aload_n 0, 1) := by decide +kernel
theorem dX2_basin_46 : decode cX2_basin 46 = .ok (.getfield 13, 3) := by decide +kernel
theorem dX2_basin_49 : decode cX2_basin 49 = .ok (.iconst 1, 1) := by decide +kernel
theorem dX2_basin_50 : decode cX2_basin 50 = .ok (.isub, 1) := by decide +kernel
theorem dX2_basin_51 : decode cX2_basin 51 = .ok (.ireturn, 1) := by decide +kernel
theorem dX2_fill_0 : decode cX2_fill 0 = .ok (.aload_n 0, 1) := by decide +kernel
theorem dX2_fill_1 : decode cX2_fill 1 = .ok (.iload_n 1, 1) := by decide +kernel
theorem dX2_fill_2 : decode cX2_fill 2 = .ok (.invokevirtual 64, 3) := by decide +kernel
theorem dX2_fill_5 : decode cX2_fill 5 = .ok (.ifCond .ne 6, 3) := by decide +kernel
theorem dX2_fill_8 : decode cX2_fill 8 = .ok (.bipush (-101), 2) := by decide +kernel
theorem dX2_fill_10 : decode cX2_fill 10 = .ok (.ireturn, 1) := by decide +kernel
theorem dX2_fill_11 : decode cX2_fill 11 = .ok (.iload_n 2, 1) := by decide +kernel
theorem dX2_fill_12 : decode cX2_fill 12 = .ok (.invokestatic 60, 3) := by decide +kernel
theorem dX2_fill_15 : decode cX2_fill 15 = .ok (.ifCond .ne 6, 3) := by decide +kernel
theorem dX2_fill_18 : decode cX2_fill 18 = .ok (.bipush (-102), 2) := by decide +kernel
theorem dX2_fill_20 : decode cX2_fill 20 = .ok (.ireturn, 1) := by decide +kernel
theorem dX2_fill_21 : decode cX2_fill 21 = .ok (.aload_n 0, 1) := by decide +kernel
theorem dX2_fill_22 : decode cX2_fill 22 = .ok (.getfield 9, 3) := by decide +kernel
theorem dX2_fill_25 : decode cX2_fill 25 = .ok (.iload_n 1, 1) := by decide +kernel
theorem dX2_fill_26 : decode cX2_fill 26 = .ok (.iaload, 1) := by decide +kernel
theorem dX2_fill_27 : decode cX2_fill 27 = .ok (.istore_n 3, 1) := by decide +kernel
theorem dX2_fill_28 : decode cX2_fill 28 = .ok (.aload_n 0, 1) := by decide +kernel
theorem dX2_fill_29 : decode cX2_fill 29 = .ok (.getfield 9, 3) := by decide +kernel
theorem dX2_fill_32 : decode cX2_fill 32 = .ok (.iload_n 1, 1) := by decide +kernel
theorem dX2_fill_33 : decode cX2_fill 33 = .ok (.iload_n 2, 1) := by decide +kernel
theorem dX2_fill_34 : decode cX2_fill 34 = .ok (.iastore, 1) := by decide +kernel
theorem dX2_fill_35 : decode cX2_fill 35 = .ok (.iload_n 3, 1) := by decide +kernel
theorem dX2_fill_36 : decode cX2_fill 36 = .ok (.ireturn, 1) := by decide +kernel
theorem dX2_moon_0 : decode cX2_moon 0 = .ok (.iload_n 1, 1) := by decide +kernel
theorem dX2_moon_1 : decode cX2_moon 1 = .ok (.ifCond .lt 9, 3) := by decide +kernel
theorem dX2_moon_4 : decode cX2_moon 4 = .ok (.iload_n 1, 1) := by decide +kernel
theorem dX2_moon_5 : decode cX2_moon 5 = .ok (.bipush 12, 2) := by decide +kernel
theorem dX2_moon_7 : decode cX2_moon 7 = .ok (.if_icmp .lt 6, 3) := by decide +kernel
theorem dX2_moon_10 : decode cX2_moon 10 = .ok (.bipush (-102), 2) := by decide +kernel
theorem dX2_moon_12 : decode cX2_moon 12 = .ok (.ireturn, 1) := by decide +kernel
theorem dX2_moon_13 : decode cX2_moon 13 = .ok (.aload_n 0, 1) := by decide +kernel
theorem dX2_moon_14 : decode cX2_moon 14 = .ok (.getfield 17, 3) := by decide +kernel
theorem dX2_moon_17 : decode cX2_moon 17 = .ok (.istore_n 2, 1) := by decide +kernel
theorem dX2_moon_18 : decode cX2_moon 18 = .ok (.aload_n 0, 1) := by decide +kernel
theorem dX2_moon_19 : decode cX2_moon 19 = .ok (.iload_n 1, 1) := by decide +kernel
theorem dX2_moon_20 : decode cX2_moon 20 = .ok (.putfield 17, 3) := by decide +kernel
theorem dX2_moon_23 : decode cX2_moon 23 = .ok (.iload_n 2, 1) := by decide +kernel
theorem dX2_moon_24 : decode cX2_moon 24 = .ok (.ireturn, 1) := by decide +kernel
theorem dX2_make_0 : decode cX2_make 0 = .ok (.aload_n 0, 1) := by decide +kernel
theorem dX2_make_1 : decode cX2_make 1 = .ok (.iload_n 1, 1) := by decide +kernel
theorem dX2_make_2 : decode cX2_make 2 = .ok (.iload_n 2, 1) := by decide +kernel
theorem dX2_make_3 : decode cX2_make 3 = .ok (.iload_n 3, 1) := by decide +kernel
theorem dX2_make_4 : decode cX2_make 4 = .ok (.iload 4, 2) := by decide +kernel
theorem dX2_make_6 : decode cX2_make 6 = .ok (.invokevirtual 67, 3) := by decide +kernel
theorem dX2_make_9 : decode cX2_make 9 = .ok (.ifCond .ne 6, 3) := by decide +kernel
theorem dX2_make_12 : decode cX2_make 12 = .ok (.bipush (-101), 2) := by decide +kernel
theorem dX2_make_14 : decode cX2_make 14 = .ok (.ireturn, 1) := by decide +kernel
theorem dX2_make_15 : decode cX2_make 15 = .ok (.iload_n 1, 1) := by decide +kernel
theorem dX2_make_16 : decode cX2_make 16 = .ok (.iload_n 2, 1) := by decide +kernel
theorem dX2_make_17 : decode cX2_make 17 = .ok (.iload_n 3, 1) := by decide +kernel
theorem dX2_make_18 : decode cX2_make 18 = .ok (.iload 4, 2) := by decide +kernel
theorem dX2_make_20 : decode cX2_make 20 = .ok (.iload 5, 2) := by decide +kernel
theorem dX2_make_22 : decode cX2_make 22 = .ok (.iload 6, 2) := by decide +kernel
theorem dX2_make_24 : decode cX2_make 24 = .ok (.invokestatic 71, 3) := by decide +kernel
theorem dX2_make_27 : decode cX2_make 27 = .ok (.ifCond .ne 6, 3) := by decide +kernel
theorem dX2_make_30 : decode cX2_make 30 = .ok (.bipush (-102), 2) := by decide +kernel
theorem dX2_make_32 : decode cX2_make 32 = .ok (.ireturn, 1) := by decide +kernel
theorem dX2_make_33 : decode cX2_make 33 = .ok (.aload_n 0, 1) := by decide +kernel
theorem dX2_make_34 : decode cX2_make 34 = .ok (.getfield 29, 3) := by decide +kernel
theorem dX2_make_37 : decode cX2_make 37 = .ok (.aload_n 0, 1) := by decide +kernel
theorem dX2_make_38 : decode cX2_make 38 = .ok (.getfield 25, 3) := by decide +kernel
theorem dX2_make_41 : decode cX2_make 41 = .ok (.arraylength, 1) := by decide +kernel
theorem dX2_make_42 : decode cX2_make 42 = .ok (.if_icmp .lt 6, 3) := by decide +kernel
theorem dX2_make_45 : decode cX2_make 45 = .ok (.bipush (-103), 2) := by decide +kernel
theorem dX2_make_47 : decode cX2_make 47 = .ok (.ireturn, 1) := by decide +kernel
theorem dX2_make_48 : decode cX2_make 48 = .ok (.lconst 0, 1) := by decide +kernel
theorem dX2_make_49 : decode cX2_make 49 = .ok (.lstore 7, 2) := by decide +kernel
theorem dX2_make_51 : decode cX2_make 51 = .ok (.iload_n 1, 1) := by decide +kernel
theorem dX2_make_52 : decode cX2_make 52 = .ok (.bipush 12, 2) := by decide +kernel
theorem dX2_make_54 : decode cX2_make 54 = .ok (.if_icmp .ne 23, 3) := by decide +kernel
theorem dX2_make_57 : decode cX2_make 57 = .ok (.aload_n 0, 1) := by decide +kernel
theorem dX2_make_58 : decode cX2_make 58 = .ok (.iload_n 2, 1) := by decide +kernel
theorem dX2_make_59 : decode cX2_make 59 = .ok (.iload_n 3, 1) := by decide +kernel
theorem dX2_make_60 : decode cX2_make 60 = .ok (.invokevirtual 75, 3) := by decide +kernel
theorem dX2_make_63 : decode cX2_make 63 = .ok (.lstore 7, 2) := by decide +kernel
theorem dX2_make_65 : decode cX2_make 65 = .ok (.aload_n 0, 1) := by decide +kernel
theorem dX2_make_66 : decode cX2_make 66 = .ok (.getfield 44, 3) := by decide +kernel
theorem dX2_make_69 : decode cX2_make 69 = .ok (.ifCond .eq 8, 3) := by decide +kernel
theorem dX2_make_72 : decode cX2_make 72 = .ok (.aload_n 0, 1) := by decide +kernel
theorem dX2_make_73 : decode cX2_make 73 = .ok (.getfield 44, 3) := by decide +kernel
theorem dX2_make_76 : decode cX2_make 76 = .ok (.ireturn, 1) := by decide +kernel
theorem dX2_make_77 : decode cX2_make 77 = .ok (.new 23, 3) := by decide +kernel
theorem dX2_make_80 : decode cX2_make 80 = .ok (.dup, 1) := by decide +kernel
theorem dX2_make_81 : decode cX2_make 81 = .ok (.iload_n 1, 1) := by decide +kernel
theorem dX2_make_82 : decode cX2_make 82 = .ok (.iload_n 2, 1) := by decide +kernel
theorem dX2_make_83 : decode cX2_make 83 = .ok (.iload_n 3, 1) := by decide +kernel
theorem dX2_make_84 : decode cX2_make 84 = .ok (.iload 4, 2) := by decide +kernel
theorem dX2_make_86 : decode cX2_make 86 = .ok (.iload 5, 2) := by decide +kernel
theorem dX2_make_88 : decode cX2_make 88 = .ok (.iload 6, 2) := by decide +kernel
theorem dX2_make_90 : decode cX2_make 90 = .ok (.invokespecial 79, 3) := by decide +kernel
theorem dX2_make_93 : decode cX2_make 93 = .ok (.astore 9, 2) := by decide +kernel
theorem dX2_make_95 : decode cX2_make 95 = .ok (.aload 9, 2) := by decide +kernel
theorem dX2_make_97 : decode cX2_make 97 = .ok (.lload 7, 2) := by decide +kernel
theorem dX2_make_99 : decode cX2_make 99 = .ok (.putfield 82, 3) := by decide +kernel
theorem dX2_make_102 : decode cX2_make 102 = .ok (.aload_n 0, 1) := by decide +kernel
theorem dX2_make_103 : decode cX2_make 103 = .ok (.getfield 25, 3) := by decide +kernel
theorem dX2_make_106 : decode cX2_make 106 = .ok (.aload_n 0, 1) := by decide +kernel
theorem dX2_make_107 : decode cX2_make 107 = .ok (.getfield 29, 3) := by decide +kernel
theorem dX2_make_110 : decode cX2_make 110 = .ok (.aload 9, 2) := by decide +kernel
theorem dX2_make_112 : decode cX2_make 112 = .ok (.aastore, 1) := by decide +kernel
theorem dX2_make_113 : decode cX2_make 113 = .ok (.aload_n 0, 1) := by decide +kernel
theorem dX2_make_114 : decode cX2_make 114 = .ok (.dup, 1) := by decide +kernel
theorem dX2_make_115 : decode cX2_make 115 = .ok (.getfield 29, 3) := by decide +kernel
theorem dX2_make_118 : decode cX2_make 118 = .ok (.iconst 1, 1) := by decide +kernel
theorem dX2_make_119 : decode cX2_make 119 = .ok (.iadd, 1) := by decide +kernel
theorem dX2_make_120 : decode cX2_make 120 = .ok (.putfield 29, 3) := by decide +kernel
theorem dX2_make_123 : decode cX2_make 123 = .ok (.aload_n 0, 1) := by decide +kernel
theorem dX2_make_124 : decode cX2_make 124 = .ok (.getfield 29, 3) := by decide +kernel
theorem dX2_make_127 : decode cX2_make 127 = .ok (.iconst 1, 1) := by decide +kernel
theorem dX2_make_128 : decode cX2_make 128 = .ok (.isub, 1) := by decide +kernel
theorem dX2_make_129 : decode cX2_make 129 = .ok (.ireturn, 1) := by decide +kernel
theorem dX2_put_0 : decode cX2_put 0 = .ok (.aload_n 0, 1) := by decide +kernel
theorem dX2_put_1 : decode cX2_put 1 = .ok (.iload_n 1, 1) := by decide +kernel
theorem dX2_put_2 : decode cX2_put 2 = .ok (.invokevirtual 85, 3) := by decide +kernel
theorem dX2_put_5 : decode cX2_put 5 = .ok (.ifCond .eq 11, 3) := by decide +kernel
theorem dX2_put_8 : decode cX2_put 8 = .ok (.aload_n 0, 1) := by decide +kernel
theorem dX2_put_9 : decode cX2_put 9 = .ok (.iload_n 2, 1) := by decide +kernel
theorem dX2_put_10 : decode cX2_put 10 = .ok (.invokevirtual 88, 3) := by decide +kernel
theorem dX2_put_13 : decode cX2_put 13 = .ok (.ifCond .ne 6, 3) := by decide +kernel
theorem dX2_put_16 : decode cX2_put 16 = .ok (.bipush (-101), 2) := by decide +kernel
theorem dX2_put_18 : decode cX2_put 18 = .ok (.ireturn, 1) := by decide +kernel
theorem dX2_put_19 : decode cX2_put 19 = .ok (.aload_n 0, 1) := by decide +kernel
theorem dX2_put_20 : decode cX2_put 20 = .ok (.getfield 20, 3) := by decide +kernel
theorem dX2_put_23 : decode cX2_put 23 = .ok (.iload_n 1, 1) := by decide +kernel
theorem dX2_put_24 : decode cX2_put 24 = .ok (.iaload, 1) := by decide +kernel
theorem dX2_put_25 : decode cX2_put 25 = .ok (.istore_n 3, 1) := by decide +kernel
theorem dX2_put_26 : decode cX2_put 26 = .ok (.aload_n 0, 1) := by decide +kernel
theorem dX2_put_27 : decode cX2_put 27 = .ok (.getfield 20, 3) := by decide +kernel
theorem dX2_put_30 : decode cX2_put 30 = .ok (.iload_n 1, 1) := by decide +kernel
theorem dX2_put_31 : decode cX2_put 31 = .ok (.iload_n 2, 1) := by decide +kernel
theorem dX2_put_32 : decode cX2_put 32 = .ok (.iastore, 1) := by decide +kernel
theorem dX2_put_33 : decode cX2_put 33 = .ok (.iload_n 3, 1) := by decide +kernel
theorem dX2_put_34 : decode cX2_put 34 = .ok (.ireturn, 1) := by decide +kernel
theorem dX2_ask_0 : decode cX2_ask 0 = .ok (.aload_n 0, 1) := by decide +kernel
theorem dX2_ask_1 : decode cX2_ask 1 = .ok (.iload_n 1, 1) := by decide +kernel
theorem dX2_ask_2 : decode cX2_ask 2 = .ok (.invokevirtual 91, 3) := by decide +kernel
theorem dX2_ask_5 : decode cX2_ask 5 = .ok (.ifnonnull 6, 3) := by decide +kernel
theorem dX2_ask_8 : decode cX2_ask 8 = .ok (.bipush (-101), 2) := by decide +kernel
theorem dX2_ask_10 : decode cX2_ask 10 = .ok (.ireturn, 1) := by decide +kernel
theorem dX2_ask_11 : decode cX2_ask 11 = .ok (.aload_n 0, 1) := by decide +kernel
theorem dX2_ask_12 : decode cX2_ask 12 = .ok (.iload_n 1, 1) := by decide +kernel
theorem dX2_ask_13 : decode cX2_ask 13 = .ok (.iload_n 2, 1) := by decide +kernel
theorem dX2_ask_14 : decode cX2_ask 14 = .ok (.invokevirtual 75, 3) := by decide +kernel
theorem dX2_ask_17 : decode cX2_ask 17 = .ok (.lstore_n 3, 1) := by decide +kernel
theorem dX2_ask_18 : decode cX2_ask 18 = .ok (.aload_n 0, 1) := by decide +kernel
theorem dX2_ask_19 : decode cX2_ask 19 = .ok (.getfield 44, 3) := by decide +kernel
theorem dX2_ask_22 : decode cX2_ask 22 = .ok (.ifCond .eq 8, 3) := by decide +kernel
theorem dX2_ask_25 : decode cX2_ask 25 = .ok (.aload_n 0, 1) := by decide +kernel
theorem dX2_ask_26 : decode cX2_ask 26 = .ok (.getfield 44, 3) := by decide +kernel
theorem dX2_ask_29 : decode cX2_ask 29 = .ok (.ireturn, 1) := by decide +kernel
theorem dX2_ask_30 : decode cX2_ask 30 = .ok (.aload_n 0, 1) := by decide +kernel
theorem dX2_ask_31 : decode cX2_ask 31 = .ok (.lload_n 3, 1) := by decide +kernel
theorem dX2_ask_32 : decode cX2_ask 32 = .ok (.putfield 47, 3) := by decide +kernel
theorem dX2_ask_35 : decode cX2_ask 35 = .ok (.iconst 1, 1) := by decide +kernel
theorem dX2_ask_36 : decode cX2_ask 36 = .ok (.ireturn, 1) := by decide +kernel
theorem dX2_given_0 : decode cX2_given 0 = .ok (.aload_n 0, 1) := by decide +kernel
theorem dX2_given_1 : decode cX2_given 1 = .ok (.getfield 47, 3) := by decide +kernel
theorem dX2_given_4 : decode cX2_given 4 = .ok (.lreturn, 1) := by decide +kernel
theorem dX2_sluice_0 : decode cX2_sluice 0 = .ok (.aload_n 0, 1) := by decide +kernel
theorem dX2_sluice_1 : decode cX2_sluice 1 = .ok (.iload_n 1, 1) := by decide +kernel
theorem dX2_sluice_2 : decode cX2_sluice 2 = .ok (.invokevirtual 64, 3) := by decide +kernel
theorem dX2_sluice_5 : decode cX2_sluice 5 = .ok (.ifCond .eq 19, 3) := by decide +kernel
theorem dX2_sluice_8 : decode cX2_sluice 8 = .ok (.aload_n 0, 1) := by decide +kernel
theorem dX2_sluice_9 : decode cX2_sluice 9 = .ok (.iload_n 2, 1) := by decide +kernel
theorem dX2_sluice_10 : decode cX2_sluice 10 = .ok (.invokevirtual 64, 3) := by decide +kernel
theorem dX2_sluice_13 : decode cX2_sluice 13 = .ok (.ifCond .eq 11, 3) := by decide +kernel
theorem dX2_sluice_16 : decode cX2_sluice 16 = .ok (.aload_n 0, 1) := by decide +kernel
theorem dX2_sluice_17 : decode cX2_sluice 17 = .ok (.iload_n 3, 1) := by decide +kernel
theorem dX2_sluice_18 : decode cX2_sluice 18 = .ok (.invokevirtual 91, 3) := by decide +kernel
theorem dX2_sluice_21 : decode cX2_sluice 21 = .ok (.ifnonnull 6, 3) := by decide +kernel
theorem dX2_sluice_24 : decode cX2_sluice 24 = .ok (.bipush (-101), 2) := by decide +kernel
theorem dX2_sluice_26 : decode cX2_sluice 26 = .ok (.ireturn, 1) := by decide +kernel
theorem dX2_sluice_27 : decode cX2_sluice 27 = .ok (.iload_n 1, 1) := by decide +kernel
theorem dX2_sluice_28 : decode cX2_sluice 28 = .ok (.iload_n 2, 1) := by decide +kernel
theorem dX2_sluice_29 : decode cX2_sluice 29 = .ok (.if_icmp .ne 6, 3) := by decide +kernel
theorem dX2_sluice_32 : decode cX2_sluice 32 = .ok (.bipush (-102), 2) := by decide +kernel
theorem dX2_sluice_34 : decode cX2_sluice 34 = .ok (.ireturn, 1) := by decide +kernel
theorem dX2_sluice_35 : decode cX2_sluice 35 = .ok (.aload_n 0, 1) := by decide +kernel
theorem dX2_sluice_36 : decode cX2_sluice 36 = .ok (.getfield 38, 3) := by decide +kernel
theorem dX2_sluice_39 : decode cX2_sluice 39 = .ok (.aload_n 0, 1) := by decide +kernel
theorem dX2_sluice_40 : decode cX2_sluice 40 = .ok (.getfield 34, 3) := by decide +kernel
theorem dX2_sluice_43 : decode cX2_sluice 43 = .ok (.arraylength, 1) := by decide +kernel
theorem dX2_sluice_44 : decode cX2_sluice 44 = .ok (.if_icmp .lt 6, 3) := by decide +kernel
theorem dX2_sluice_47 : decode cX2_sluice 47 = .ok (.bipush (-103), 2) := by decide +kernel
theorem dX2_sluice_49 : decode cX2_sluice 49 = .ok (.ireturn, 1) := by decide +kernel
theorem dX2_sluice_50 : decode cX2_sluice 50 = .ok (.aload_n 0, 1) := by decide +kernel
theorem dX2_sluice_51 : decode cX2_sluice 51 = .ok (.getfield 34, 3) := by decide +kernel
theorem dX2_sluice_54 : decode cX2_sluice 54 = .ok (.aload_n 0, 1) := by decide +kernel
theorem dX2_sluice_55 : decode cX2_sluice 55 = .ok (.getfield 38, 3) := by decide +kernel
theorem dX2_sluice_58 : decode cX2_sluice 58 = .ok (.new 32, 3) := by decide +kernel
theorem dX2_sluice_61 : decode cX2_sluice 61 = .ok (.dup, 1) := by decide +kernel
theorem dX2_sluice_62 : decode cX2_sluice 62 = .ok (.iload_n 1, 1) := by decide +kernel
theorem dX2_sluice_63 : decode cX2_sluice 63 = .ok (.iload_n 2, 1) := by decide +kernel
theorem dX2_sluice_64 : decode cX2_sluice 64 = .ok (.iload_n 3, 1) := by decide +kernel
theorem dX2_sluice_65 : decode cX2_sluice 65 = .ok (.invokespecial 95, 3) := by decide +kernel
theorem dX2_sluice_68 : decode cX2_sluice 68 = .ok (.aastore, 1) := by decide +kernel
theorem dX2_sluice_69 : decode cX2_sluice 69 = .ok (.aload_n 0, 1) := by decide +kernel
theorem dX2_sluice_70 : decode cX2_sluice 70 = .ok (.dup, 1) := by decide +kernel
theorem dX2_sluice_71 : decode cX2_sluice 71 = .ok (.getfield 38, 3) := by decide +kernel
theorem dX2_sluice_74 : decode cX2_sluice 74 = .ok (.iconst 1, 1) := by decide +kernel
theorem dX2_sluice_75 : decode cX2_sluice 75 = .ok (.iadd, 1) := by decide +kernel
theorem dX2_sluice_76 : decode cX2_sluice 76 = .ok (.putfield 38, 3) := by decide +kernel
theorem dX2_sluice_79 : decode cX2_sluice 79 = .ok (.aload_n 0, 1) := by decide +kernel
theorem dX2_sluice_80 : decode cX2_sluice 80 = .ok (.getfield 38, 3) := by decide +kernel
theorem dX2_sluice_83 : decode cX2_sluice 83 = .ok (.iconst 1, 1) := by decide +kernel
theorem dX2_sluice_84 : decode cX2_sluice 84 = .ok (.isub, 1) := by decide +kernel
theorem dX2_sluice_85 : decode cX2_sluice 85 = .ok (.ireturn, 1) := by decide +kernel
theorem dX2_run_0 : decode cX2_run 0 = .ok (.iload_n 2, 1) := by decide +kernel
theorem dX2_run_1 : decode cX2_run 1 = .ok (.ifCond .lt 9, 3) := by decide +kernel
theorem dX2_run_4 : decode cX2_run 4 = .ok (.iload_n 2, 1) := by decide +kernel
theorem dX2_run_5 : decode cX2_run 5 = .ok (.bipush 100, 2) := by decide +kernel
theorem dX2_run_7 : decode cX2_run 7 = .ok (.if_icmp .le 6, 3) := by decide +kernel
theorem dX2_run_10 : decode cX2_run 10 = .ok (.bipush (-102), 2) := by decide +kernel
theorem dX2_run_12 : decode cX2_run 12 = .ok (.ireturn, 1) := by decide +kernel
theorem dX2_run_13 : decode cX2_run 13 = .ok (.aload_n 0, 1) := by decide +kernel
theorem dX2_run_14 : decode cX2_run 14 = .ok (.iconst (-1), 1) := by decide +kernel
theorem dX2_run_15 : decode cX2_run 15 = .ok (.putfield 51, 3) := by decide +kernel
theorem dX2_run_18 : decode cX2_run 18 = .ok (.aload_n 0, 1) := by decide +kernel
theorem dX2_run_19 : decode cX2_run 19 = .ok (.iconst 0, 1) := by decide +kernel
theorem dX2_run_20 : decode cX2_run 20 = .ok (.putfield 54, 3) := by decide +kernel
theorem dX2_run_23 : decode cX2_run 23 = .ok (.aload_n 0, 1) := by decide +kernel
theorem dX2_run_24 : decode cX2_run 24 = .ok (.iconst 0, 1) := by decide +kernel
theorem dX2_run_25 : decode cX2_run 25 = .ok (.putfield 57, 3) := by decide +kernel
theorem dX2_run_28 : decode cX2_run 28 = .ok (.iconst 0, 1) := by decide +kernel
theorem dX2_run_29 : decode cX2_run 29 = .ok (.istore_n 3, 1) := by decide +kernel
theorem dX2_run_30 : decode cX2_run 30 = .ok (.iload_n 3, 1) := by decide +kernel
theorem dX2_run_31 : decode cX2_run 31 = .ok (.iload_n 2, 1) := by decide +kernel
theorem dX2_run_32 : decode cX2_run 32 = .ok (.if_icmp .ge 21, 3) := by decide +kernel
theorem dX2_run_35 : decode cX2_run 35 = .ok (.aload_n 0, 1) := by decide +kernel
theorem dX2_run_36 : decode cX2_run 36 = .ok (.iload_n 1, 1) := by decide +kernel
theorem dX2_run_37 : decode cX2_run 37 = .ok (.iload_n 3, 1) := by decide +kernel
theorem dX2_run_38 : decode cX2_run 38 = .ok (.iadd, 1) := by decide +kernel
theorem dX2_run_39 : decode cX2_run 39 = .ok (.invokevirtual 98, 3) := by decide +kernel
theorem dX2_run_42 : decode cX2_run 42 = .ok (.ifCond .ne 5, 3) := by decide +kernel
theorem dX2_run_45 : decode cX2_run 45 = .ok (.iload_n 3, 1) := by decide +kernel
theorem dX2_run_46 : decode cX2_run 46 = .ok (.ireturn, 1) := by decide +kernel
theorem dX2_run_47 : decode cX2_run 47 = .ok (.iinc 3 1, 3) := by decide +kernel
theorem dX2_run_50 : decode cX2_run 50 = .ok (.goto (-20), 3) := by decide +kernel
theorem dX2_run_53 : decode cX2_run 53 = .ok (.iload_n 2, 1) := by decide +kernel
theorem dX2_run_54 : decode cX2_run 54 = .ok (.ireturn, 1) := by decide +kernel
theorem dX2_told_0 : decode cX2_told 0 = .ok (.iload_n 1, 1) := by decide +kernel
theorem dX2_told_1 : decode cX2_told 1 = .ok (.tableswitch 42 0 2 #[27, 32, 37], 27) := by decide +kernel
theorem dX2_told_28 : decode cX2_told 28 = .ok (.aload_n 0, 1) := by decide +kernel
theorem dX2_told_29 : decode cX2_told 29 = .ok (.getfield 51, 3) := by decide +kernel
theorem dX2_told_32 : decode cX2_told 32 = .ok (.ireturn, 1) := by decide +kernel
theorem dX2_told_33 : decode cX2_told 33 = .ok (.aload_n 0, 1) := by decide +kernel
theorem dX2_told_34 : decode cX2_told 34 = .ok (.getfield 54, 3) := by decide +kernel
theorem dX2_told_37 : decode cX2_told 37 = .ok (.ireturn, 1) := by decide +kernel
theorem dX2_told_38 : decode cX2_told 38 = .ok (.aload_n 0, 1) := by decide +kernel
theorem dX2_told_39 : decode cX2_told 39 = .ok (.getfield 57, 3) := by decide +kernel
theorem dX2_told_42 : decode cX2_told 42 = .ok (.ireturn, 1) := by decide +kernel
theorem dX2_told_43 : decode cX2_told 43 = .ok (.bipush (-101), 2) := by decide +kernel
theorem dX2_told_45 : decode cX2_told 45 = .ok (.ireturn, 1) := by decide +kernel
theorem dX2_level_0 : decode cX2_level 0 = .ok (.aload_n 0, 1) := by decide +kernel
theorem dX2_level_1 : decode cX2_level 1 = .ok (.iload_n 1, 1) := by decide +kernel
theorem dX2_level_2 : decode cX2_level 2 = .ok (.invokevirtual 64, 3) := by decide +kernel
theorem dX2_level_5 : decode cX2_level 5 = .ok (.ifCond .eq 12, 3) := by decide +kernel
theorem dX2_level_8 : decode cX2_level 8 = .ok (.aload_n 0, 1) := by decide +kernel
theorem dX2_level_9 : decode cX2_level 9 = .ok (.getfield 9, 3) := by decide +kernel
theorem dX2_level_12 : decode cX2_level 12 = .ok (.iload_n 1, 1) := by decide +kernel
theorem dX2_level_13 : decode cX2_level 13 = .ok (.iaload, 1) := by decide +kernel
theorem dX2_level_14 : decode cX2_level 14 = .ok (.goto 5, 3) := by decide +kernel
theorem dX2_level_17 : decode cX2_level 17 = .ok (.bipush (-101), 2) := by decide +kernel
theorem dX2_level_19 : decode cX2_level 19 = .ok (.ireturn, 1) := by decide +kernel
theorem dX2_counted_0 : decode cX2_counted 0 = .ok (.aload_n 0, 1) := by decide +kernel
theorem dX2_counted_1 : decode cX2_counted 1 = .ok (.iload_n 1, 1) := by decide +kernel
theorem dX2_counted_2 : decode cX2_counted 2 = .ok (.invokevirtual 101, 3) := by decide +kernel
theorem dX2_counted_5 : decode cX2_counted 5 = .ok (.astore_n 2, 1) := by decide +kernel
theorem dX2_counted_6 : decode cX2_counted 6 = .ok (.aload_n 2, 1) := by decide +kernel
theorem dX2_counted_7 : decode cX2_counted 7 = .ok (.ifnull 10, 3) := by decide +kernel
theorem dX2_counted_10 : decode cX2_counted 10 = .ok (.aload_n 2, 1) := by decide +kernel
theorem dX2_counted_11 : decode cX2_counted 11 = .ok (.getfield 104, 3) := by decide +kernel
theorem dX2_counted_14 : decode cX2_counted 14 = .ok (.goto 5, 3) := by decide +kernel
theorem dX2_counted_17 : decode cX2_counted 17 = .ok (.bipush (-101), 2) := by decide +kernel
theorem dX2_counted_19 : decode cX2_counted 19 = .ok (.ireturn, 1) := by decide +kernel
theorem dX2_count_0 : decode cX2_count 0 = .ok (.iload_n 1, 1) := by decide +kernel
theorem dX2_count_1 : decode cX2_count 1 = .ok (.tableswitch 51 0 3 #[31, 36, 41, 46], 31) := by decide +kernel
theorem dX2_count_32 : decode cX2_count 32 = .ok (.aload_n 0, 1) := by decide +kernel
theorem dX2_count_33 : decode cX2_count 33 = .ok (.getfield 13, 3) := by decide +kernel
theorem dX2_count_36 : decode cX2_count 36 = .ok (.ireturn, 1) := by decide +kernel
theorem dX2_count_37 : decode cX2_count 37 = .ok (.aload_n 0, 1) := by decide +kernel
theorem dX2_count_38 : decode cX2_count 38 = .ok (.getfield 29, 3) := by decide +kernel
theorem dX2_count_41 : decode cX2_count 41 = .ok (.ireturn, 1) := by decide +kernel
theorem dX2_count_42 : decode cX2_count 42 = .ok (.aload_n 0, 1) := by decide +kernel
theorem dX2_count_43 : decode cX2_count 43 = .ok (.getfield 38, 3) := by decide +kernel
theorem dX2_count_46 : decode cX2_count 46 = .ok (.ireturn, 1) := by decide +kernel
theorem dX2_count_47 : decode cX2_count 47 = .ok (.aload_n 0, 1) := by decide +kernel
theorem dX2_count_48 : decode cX2_count 48 = .ok (.getfield 41, 3) := by decide +kernel
theorem dX2_count_51 : decode cX2_count 51 = .ok (.ireturn, 1) := by decide +kernel
theorem dX2_count_52 : decode cX2_count 52 = .ok (.iload_n 1, 1) := by decide +kernel
theorem dX2_count_53 : decode cX2_count 53 = .ok (.bipush 8, 2) := by decide +kernel
theorem dX2_count_55 : decode cX2_count 55 = .ok (.isub, 1) := by decide +kernel
theorem dX2_count_56 : decode cX2_count 56 = .ok (.istore_n 2, 1) := by decide +kernel
theorem dX2_count_57 : decode cX2_count 57 = .ok (.aload_n 0, 1) := by decide +kernel
theorem dX2_count_58 : decode cX2_count 58 = .ok (.iload_n 2, 1) := by decide +kernel
theorem dX2_count_59 : decode cX2_count 59 = .ok (.invokevirtual 85, 3) := by decide +kernel
theorem dX2_count_62 : decode cX2_count 62 = .ok (.ifCond .eq 12, 3) := by decide +kernel
theorem dX2_count_65 : decode cX2_count 65 = .ok (.aload_n 0, 1) := by decide +kernel
theorem dX2_count_66 : decode cX2_count 66 = .ok (.getfield 20, 3) := by decide +kernel
theorem dX2_count_69 : decode cX2_count 69 = .ok (.iload_n 2, 1) := by decide +kernel
theorem dX2_count_70 : decode cX2_count 70 = .ok (.iaload, 1) := by decide +kernel
theorem dX2_count_71 : decode cX2_count 71 = .ok (.goto 5, 3) := by decide +kernel
theorem dX2_count_74 : decode cX2_count 74 = .ok (.bipush (-101), 2) := by decide +kernel
theorem dX2_count_76 : decode cX2_count 76 = .ok (.ireturn, 1) := by decide +kernel
theorem dX2_isLevel_0 : decode cX2_isLevel 0 = .ok (.iload_n 0, 1) := by decide +kernel
theorem dX2_isLevel_1 : decode cX2_isLevel 1 = .ok (.ifCond .lt 13, 3) := by decide +kernel
theorem dX2_isLevel_4 : decode cX2_isLevel 4 = .ok (.iload_n 0, 1) := by decide +kernel
theorem dX2_isLevel_5 : decode cX2_isLevel 5 = .ok (.ldc 107, 2) := by decide +kernel
theorem dX2_isLevel_7 : decode cX2_isLevel 7 = .ok (.if_icmp .gt 7, 3) := by decide +kernel
theorem dX2_isLevel_10 : decode cX2_isLevel 10 = .ok (.iconst 1, 1) := by decide +kernel
theorem dX2_isLevel_11 : decode cX2_isLevel 11 = .ok (.goto 4, 3) := by decide +kernel
theorem dX2_isLevel_14 : decode cX2_isLevel 14 = .ok (.iconst 0, 1) := by decide +kernel
theorem dX2_isLevel_15 : decode cX2_isLevel 15 = .ok (.ireturn, 1) := by decide +kernel
theorem dX2_isBasin_0 : decode cX2_isBasin 0 = .ok (.iload_n 1, 1) := by decide +kernel
theorem dX2_isBasin_1 : decode cX2_isBasin 1 = .ok (.ifCond .lt 24, 3) := by decide +kernel
theorem dX2_isBasin_4 : decode cX2_isBasin 4 = .ok (.iload_n 1, 1) := by decide +kernel
theorem dX2_isBasin_5 : decode cX2_isBasin 5 = .ok (.aload_n 0, 1) := by decide +kernel
theorem dX2_isBasin_6 : decode cX2_isBasin 6 = .ok (.getfield 13, 3) := by decide +kernel
theorem dX2_isBasin_9 : decode cX2_isBasin 9 = .ok (.if_icmp .ge 16, 3) := by decide +kernel
theorem dX2_isBasin_12 : decode cX2_isBasin 12 = .ok (.iload_n 1, 1) := by decide +kernel
theorem dX2_isBasin_13 : decode cX2_isBasin 13 = .ok (.aload_n 0, 1) := by decide +kernel
theorem dX2_isBasin_14 : decode cX2_isBasin 14 = .ok (.getfield 9, 3) := by decide +kernel
theorem dX2_isBasin_17 : decode cX2_isBasin 17 = .ok (.arraylength, 1) := by decide +kernel
theorem dX2_isBasin_18 : decode cX2_isBasin 18 = .ok (.if_icmp .ge 7, 3) := by decide +kernel
theorem dX2_isBasin_21 : decode cX2_isBasin 21 = .ok (.iconst 1, 1) := by decide +kernel
theorem dX2_isBasin_22 : decode cX2_isBasin 22 = .ok (.goto 4, 3) := by decide +kernel
theorem dX2_isBasin_25 : decode cX2_isBasin 25 = .ok (.iconst 0, 1) := by decide +kernel
theorem dX2_isBasin_26 : decode cX2_isBasin 26 = .ok (.ireturn, 1) := by decide +kernel
theorem dX2_isSlot_0 : decode cX2_isSlot 0 = .ok (.iload_n 1, 1) := by decide +kernel
theorem dX2_isSlot_1 : decode cX2_isSlot 1 = .ok (.ifCond .lt 16, 3) := by decide +kernel
theorem dX2_isSlot_4 : decode cX2_isSlot 4 = .ok (.iload_n 1, 1) := by decide +kernel
theorem dX2_isSlot_5 : decode cX2_isSlot 5 = .ok (.aload_n 0, 1) := by decide +kernel
theorem dX2_isSlot_6 : decode cX2_isSlot 6 = .ok (.getfield 20, 3) := by decide +kernel
theorem dX2_isSlot_9 : decode cX2_isSlot 9 = .ok (.arraylength, 1) := by decide +kernel
theorem dX2_isSlot_10 : decode cX2_isSlot 10 = .ok (.if_icmp .ge 7, 3) := by decide +kernel
theorem dX2_isSlot_13 : decode cX2_isSlot 13 = .ok (.iconst 1, 1) := by decide +kernel
theorem dX2_isSlot_14 : decode cX2_isSlot 14 = .ok (.goto 4, 3) := by decide +kernel
theorem dX2_isSlot_17 : decode cX2_isSlot 17 = .ok (.iconst 0, 1) := by decide +kernel
theorem dX2_isSlot_18 : decode cX2_isSlot 18 = .ok (.ireturn, 1) := by decide +kernel
theorem dX2_isRuleOrNone_0 : decode cX2_isRuleOrNone 0 = .ok (.iload_n 1, 1) := by decide +kernel
theorem dX2_isRuleOrNone_1 : decode cX2_isRuleOrNone 1 = .ok (.iconst (-1), 1) := by decide +kernel
theorem dX2_isRuleOrNone_2 : decode cX2_isRuleOrNone 2 = .ok (.if_icmp .eq 11, 3) := by decide +kernel
theorem dX2_isRuleOrNone_5 : decode cX2_isRuleOrNone 5 = .ok (.aload_n 0, 1) := by decide +kernel
theorem dX2_isRuleOrNone_6 : decode cX2_isRuleOrNone 6 = .ok (.iload_n 1, 1) := by decide +kernel
theorem dX2_isRuleOrNone_7 : decode cX2_isRuleOrNone 7 = .ok (.invokevirtual 91, 3) := by decide +kernel
theorem dX2_isRuleOrNone_10 : decode cX2_isRuleOrNone 10 = .ok (.ifnull 7, 3) := by decide +kernel
theorem dX2_isRuleOrNone_13 : decode cX2_isRuleOrNone 13 = .ok (.iconst 1, 1) := by decide +kernel
theorem dX2_isRuleOrNone_14 : decode cX2_isRuleOrNone 14 = .ok (.goto 4, 3) := by decide +kernel
theorem dX2_isRuleOrNone_17 : decode cX2_isRuleOrNone 17 = .ok (.iconst 0, 1) := by decide +kernel
theorem dX2_isRuleOrNone_18 : decode cX2_isRuleOrNone 18 = .ok (.ireturn, 1) := by decide +kernel
theorem dX2_ruleAt_0 : decode cX2_ruleAt 0 = .ok (.iload_n 1, 1) := by decide +kernel
theorem dX2_ruleAt_1 : decode cX2_ruleAt 1 = .ok (.ifCond .lt 21, 3) := by decide +kernel
theorem dX2_ruleAt_4 : decode cX2_ruleAt 4 = .ok (.iload_n 1, 1) := by decide +kernel
theorem dX2_ruleAt_5 : decode cX2_ruleAt 5 = .ok (.aload_n 0, 1) := by decide +kernel
theorem dX2_ruleAt_6 : decode cX2_ruleAt 6 = .ok (.getfield 25, 3) := by decide +kernel
theorem dX2_ruleAt_9 : decode cX2_ruleAt 9 = .ok (.arraylength, 1) := by decide +kernel
theorem dX2_ruleAt_10 : decode cX2_ruleAt 10 = .ok (.if_icmp .ge 12, 3) := by decide +kernel
theorem dX2_ruleAt_13 : decode cX2_ruleAt 13 = .ok (.aload_n 0, 1) := by decide +kernel
theorem dX2_ruleAt_14 : decode cX2_ruleAt 14 = .ok (.getfield 25, 3) := by decide +kernel
theorem dX2_ruleAt_17 : decode cX2_ruleAt 17 = .ok (.iload_n 1, 1) := by decide +kernel
theorem dX2_ruleAt_18 : decode cX2_ruleAt 18 = .ok (.aaload, 1) := by decide +kernel
theorem dX2_ruleAt_19 : decode cX2_ruleAt 19 = .ok (.goto 4, 3) := by decide +kernel
theorem dX2_ruleAt_22 : decode cX2_ruleAt 22 = .ok (.aconst_null, 1) := by decide +kernel
theorem dX2_ruleAt_23 : decode cX2_ruleAt 23 = .ok (.areturn, 1) := by decide +kernel
theorem dX2_countedAt_0 : decode cX2_countedAt 0 = .ok (.aload_n 0, 1) := by decide +kernel
theorem dX2_countedAt_1 : decode cX2_countedAt 1 = .ok (.iload_n 1, 1) := by decide +kernel
theorem dX2_countedAt_2 : decode cX2_countedAt 2 = .ok (.invokevirtual 91, 3) := by decide +kernel
theorem dX2_countedAt_5 : decode cX2_countedAt 5 = .ok (.astore_n 2, 1) := by decide +kernel
theorem dX2_countedAt_6 : decode cX2_countedAt 6 = .ok (.aload_n 2, 1) := by decide +kernel
theorem dX2_countedAt_7 : decode cX2_countedAt 7 = .ok (.ifnull 16, 3) := by decide +kernel
theorem dX2_countedAt_10 : decode cX2_countedAt 10 = .ok (.aload_n 2, 1) := by decide +kernel
theorem dX2_countedAt_11 : decode cX2_countedAt 11 = .ok (.getfield 108, 3) := by decide +kernel
theorem dX2_countedAt_14 : decode cX2_countedAt 14 = .ok (.bipush 13, 2) := by decide +kernel
theorem dX2_countedAt_16 : decode cX2_countedAt 16 = .ok (.if_icmp .ne 7, 3) := by decide +kernel
theorem dX2_countedAt_19 : decode cX2_countedAt 19 = .ok (.aload_n 2, 1) := by decide +kernel
theorem dX2_countedAt_20 : decode cX2_countedAt 20 = .ok (.goto 4, 3) := by decide +kernel
theorem dX2_countedAt_23 : decode cX2_countedAt 23 = .ok (.aconst_null, 1) := by decide +kernel
theorem dX2_countedAt_24 : decode cX2_countedAt 24 = .ok (.areturn, 1) := by decide +kernel
theorem dX2_ruleInSlot_0 : decode cX2_ruleInSlot 0 = .ok (.aload_n 0, 1) := by decide +kernel
theorem dX2_ruleInSlot_1 : decode cX2_ruleInSlot 1 = .ok (.iload_n 1, 1) := by decide +kernel
theorem dX2_ruleInSlot_2 : decode cX2_ruleInSlot 2 = .ok (.invokevirtual 85, 3) := by decide +kernel
theorem dX2_ruleInSlot_5 : decode cX2_ruleInSlot 5 = .ok (.ifCond .eq 12, 3) := by decide +kernel
theorem dX2_ruleInSlot_8 : decode cX2_ruleInSlot 8 = .ok (.aload_n 0, 1) := by decide +kernel
theorem dX2_ruleInSlot_9 : decode cX2_ruleInSlot 9 = .ok (.getfield 20, 3) := by decide +kernel
theorem dX2_ruleInSlot_12 : decode cX2_ruleInSlot 12 = .ok (.iload_n 1, 1) := by decide +kernel
theorem dX2_ruleInSlot_13 : decode cX2_ruleInSlot 13 = .ok (.iaload, 1) := by decide +kernel
theorem dX2_ruleInSlot_14 : decode cX2_ruleInSlot 14 = .ok (.goto 4, 3) := by decide +kernel
theorem dX2_ruleInSlot_17 : decode cX2_ruleInSlot 17 = .ok (.iconst (-1), 1) := by decide +kernel
theorem dX2_ruleInSlot_18 : decode cX2_ruleInSlot 18 = .ok (.ireturn, 1) := by decide +kernel
theorem dX2_hasKnownParts_0 : decode cX2_hasKnownParts 0 = .ok (.iload_n 1, 1) := by decide +kernel
theorem dX2_hasKnownParts_1 : decode cX2_hasKnownParts 1 = .ok (.tableswitch 192 0 16 #[83, 85, 83, 83, 91, 91, 91, 91, 144, 113, 144, 144, 144, 144, 150, 164, 170], 83) := by decide +kernel
theorem dX2_hasKnownParts_84 : decode cX2_hasKnownParts 84 = .ok (.iconst 1, 1) := by decide +kernel
theorem dX2_hasKnownParts_85 : decode cX2_hasKnownParts 85 = .ok (.ireturn, 1) := by decide +kernel
theorem dX2_hasKnownParts_86 : decode cX2_hasKnownParts 86 = .ok (.aload_n 0, 1) := by decide +kernel
theorem dX2_hasKnownParts_87 : decode cX2_hasKnownParts 87 = .ok (.iload_n 2, 1) := by decide +kernel
theorem dX2_hasKnownParts_88 : decode cX2_hasKnownParts 88 = .ok (.invokevirtual 64, 3) := by decide +kernel
theorem dX2_hasKnownParts_91 : decode cX2_hasKnownParts 91 = .ok (.ireturn, 1) := by decide +kernel
theorem dX2_hasKnownParts_92 : decode cX2_hasKnownParts 92 = .ok (.aload_n 0, 1) := by decide +kernel
theorem dX2_hasKnownParts_93 : decode cX2_hasKnownParts 93 = .ok (.iload_n 2, 1) := by decide +kernel
theorem dX2_hasKnownParts_94 : decode cX2_hasKnownParts 94 = .ok (.invokevirtual 88, 3) := by decide +kernel
theorem dX2_hasKnownParts_97 : decode cX2_hasKnownParts 97 = .ok (.ifCond .eq 15, 3) := by decide +kernel
theorem dX2_hasKnownParts_100 : decode cX2_hasKnownParts 100 = .ok (.aload_n 0, 1) := by decide +kernel
theorem dX2_hasKnownParts_101 : decode cX2_hasKnownParts 101 = .ok (.iload_n 3, 1) := by decide +kernel
theorem dX2_hasKnownParts_102 : decode cX2_hasKnownParts 102 = .ok (.invokevirtual 88, 3) := by decide +kernel
theorem dX2_hasKnownParts_105 : decode cX2_hasKnownParts 105 = .ok (.ifCond .eq 7, 3) := by decide +kernel
theorem dX2_hasKnownParts_108 : decode cX2_hasKnownParts 108 = .ok (.iconst 1, 1) := by decide +kernel
theorem dX2_hasKnownParts_109 : decode cX2_hasKnownParts 109 = .ok (.goto 4, 3) := by decide +kernel
theorem dX2_hasKnownParts_112 : decode cX2_hasKnownParts 112 = .ok (.iconst 0, 1) := by decide +kernel
theorem dX2_hasKnownParts_113 : decode cX2_hasKnownParts 113 = .ok (.ireturn, 1) := by decide +kernel
theorem dX2_hasKnownParts_114 : decode cX2_hasKnownParts 114 = .ok (.aload_n 0, 1) := by decide +kernel
theorem dX2_hasKnownParts_115 : decode cX2_hasKnownParts 115 = .ok (.iload_n 2, 1) := by decide +kernel
theorem dX2_hasKnownParts_116 : decode cX2_hasKnownParts 116 = .ok (.invokevirtual 88, 3) := by decide +kernel
theorem dX2_hasKnownParts_119 : decode cX2_hasKnownParts 119 = .ok (.ifCond .eq 24, 3) := by decide +kernel
theorem dX2_hasKnownParts_122 : decode cX2_hasKnownParts 122 = .ok (.aload_n 0, 1) := by decide +kernel
theorem dX2_hasKnownParts_123 : decode cX2_hasKnownParts 123 = .ok (.iload_n 3, 1) := by decide +kernel
theorem dX2_hasKnownParts_124 : decode cX2_hasKnownParts 124 = .ok (.invokevirtual 88, 3) := by decide +kernel
theorem dX2_hasKnownParts_127 : decode cX2_hasKnownParts 127 = .ok (.ifCond .eq 16, 3) := by decide +kernel
theorem dX2_hasKnownParts_130 : decode cX2_hasKnownParts 130 = .ok (.aload_n 0, 1) := by decide +kernel
theorem dX2_hasKnownParts_131 : decode cX2_hasKnownParts 131 = .ok (.iload 4, 2) := by decide +kernel
theorem dX2_hasKnownParts_133 : decode cX2_hasKnownParts 133 = .ok (.invokevirtual 88, 3) := by decide +kernel
theorem dX2_hasKnownParts_136 : decode cX2_hasKnownParts 136 = .ok (.ifCond .eq 7, 3) := by decide +kernel
theorem dX2_hasKnownParts_139 : decode cX2_hasKnownParts 139 = .ok (.iconst 1, 1) := by decide +kernel
theorem dX2_hasKnownParts_140 : decode cX2_hasKnownParts 140 = .ok (.goto 4, 3) := by decide +kernel
theorem dX2_hasKnownParts_143 : decode cX2_hasKnownParts 143 = .ok (.iconst 0, 1) := by decide +kernel
theorem dX2_hasKnownParts_144 : decode cX2_hasKnownParts 144 = .ok (.ireturn, 1) := by decide +kernel
theorem dX2_hasKnownParts_145 : decode cX2_hasKnownParts 145 = .ok (.aload_n 0, 1) := by decide +kernel
theorem dX2_hasKnownParts_146 : decode cX2_hasKnownParts 146 = .ok (.iload_n 2, 1) := by decide +kernel
theorem dX2_hasKnownParts_147 : decode cX2_hasKnownParts 147 = .ok (.invokevirtual 88, 3) := by decide +kernel
theorem dX2_hasKnownParts_150 : decode cX2_hasKnownParts 150 = .ok (.ireturn, 1) := by decide +kernel
theorem dX2_hasKnownParts_151 : decode cX2_hasKnownParts 151 = .ok (.aload_n 0, 1) := by decide +kernel
theorem dX2_hasKnownParts_152 : decode cX2_hasKnownParts 152 = .ok (.iload_n 2, 1) := by decide +kernel
theorem dX2_hasKnownParts_153 : decode cX2_hasKnownParts 153 = .ok (.invokevirtual 101, 3) := by decide +kernel
theorem dX2_hasKnownParts_156 : decode cX2_hasKnownParts 156 = .ok (.ifnull 7, 3) := by decide +kernel
theorem dX2_hasKnownParts_159 : decode cX2_hasKnownParts 159 = .ok (.iconst 1, 1) := by decide +kernel
theorem dX2_hasKnownParts_160 : decode cX2_hasKnownParts 160 = .ok (.goto 4, 3) := by decide +kernel
theorem dX2_hasKnownParts_163 : decode cX2_hasKnownParts 163 = .ok (.iconst 0, 1) := by decide +kernel
theorem dX2_hasKnownParts_164 : decode cX2_hasKnownParts 164 = .ok (.ireturn, 1) := by decide +kernel
theorem dX2_hasKnownParts_165 : decode cX2_hasKnownParts 165 = .ok (.aload_n 0, 1) := by decide +kernel
theorem dX2_hasKnownParts_166 : decode cX2_hasKnownParts 166 = .ok (.iload_n 2, 1) := by decide +kernel
theorem dX2_hasKnownParts_167 : decode cX2_hasKnownParts 167 = .ok (.invokevirtual 85, 3) := by decide +kernel
theorem dX2_hasKnownParts_170 : decode cX2_hasKnownParts 170 = .ok (.ireturn, 1) := by decide +kernel
theorem dX2_hasKnownParts_171 : decode cX2_hasKnownParts 171 = .ok (.aload_n 0, 1) := by decide +kernel
theorem dX2_hasKnownParts_172 : decode cX2_hasKnownParts 172 = .ok (.iload_n 2, 1) := by decide +kernel
theorem dX2_hasKnownParts_173 : decode cX2_hasKnownParts 173 = .ok (.invokevirtual 85, 3) := by decide +kernel
theorem dX2_hasKnownParts_176 : decode cX2_hasKnownParts 176 = .ok (.ifCond .eq 15, 3) := by decide +kernel
theorem dX2_hasKnownParts_179 : decode cX2_hasKnownParts 179 = .ok (.aload_n 0, 1) := by decide +kernel
theorem dX2_hasKnownParts_180 : decode cX2_hasKnownParts 180 = .ok (.iload_n 3, 1) := by decide +kernel
theorem dX2_hasKnownParts_181 : decode cX2_hasKnownParts 181 = .ok (.invokevirtual 85, 3) := by decide +kernel
theorem dX2_hasKnownParts_184 : decode cX2_hasKnownParts 184 = .ok (.ifCond .eq 7, 3) := by decide +kernel
theorem dX2_hasKnownParts_187 : decode cX2_hasKnownParts 187 = .ok (.iconst 1, 1) := by decide +kernel
theorem dX2_hasKnownParts_188 : decode cX2_hasKnownParts 188 = .ok (.goto 4, 3) := by decide +kernel
theorem dX2_hasKnownParts_191 : decode cX2_hasKnownParts 191 = .ok (.iconst 0, 1) := by decide +kernel
theorem dX2_hasKnownParts_192 : decode cX2_hasKnownParts 192 = .ok (.ireturn, 1) := by decide +kernel
theorem dX2_hasKnownParts_193 : decode cX2_hasKnownParts 193 = .ok (.iconst 0, 1) := by decide +kernel
theorem dX2_hasKnownParts_194 : decode cX2_hasKnownParts 194 = .ok (.ireturn, 1) := by decide +kernel
theorem dX2_hasFitNumbers_0 : decode cX2_hasFitNumbers 0 = .ok (.iload_n 0, 1) := by decide +kernel
theorem dX2_hasFitNumbers_1 : decode cX2_hasFitNumbers 1 = .ok (.lookupswitch 77 #[(8, 35), (11, 53), (16, 66)], 35) := by decide +kernel
theorem dX2_hasFitNumbers_36 : decode cX2_hasFitNumbers 36 = .ok (.iload_n 3, 1) := by decide +kernel
theorem dX2_hasFitNumbers_37 : decode cX2_hasFitNumbers 37 = .ok (.iconst 1, 1) := by decide +kernel
theorem dX2_hasFitNumbers_38 : decode cX2_hasFitNumbers 38 = .ok (.if_icmp .lt 14, 3) := by decide +kernel
theorem dX2_hasFitNumbers_41 : decode cX2_hasFitNumbers 41 = .ok (.iload_n 3, 1) := by decide +kernel
theorem dX2_hasFitNumbers_42 : decode cX2_hasFitNumbers 42 = .ok (.sipush 1000, 3) := by decide +kernel
theorem dX2_hasFitNumbers_45 : decode cX2_hasFitNumbers 45 = .ok (.if_icmp .gt 7, 3) := by decide +kernel
theorem dX2_hasFitNumbers_48 : decode cX2_hasFitNumbers 48 = .ok (.iconst 1, 1) := by decide +kernel
theorem dX2_hasFitNumbers_49 : decode cX2_hasFitNumbers 49 = .ok (.goto 4, 3) := by decide +kernel
theorem dX2_hasFitNumbers_52 : decode cX2_hasFitNumbers 52 = .ok (.iconst 0, 1) := by decide +kernel
theorem dX2_hasFitNumbers_53 : decode cX2_hasFitNumbers 53 = .ok (.ireturn, 1) := by decide +kernel
theorem dX2_hasFitNumbers_54 : decode cX2_hasFitNumbers 54 = .ok (.iload 4, 2) := by decide +kernel
theorem dX2_hasFitNumbers_56 : decode cX2_hasFitNumbers 56 = .ok (.iload 5, 2) := by decide +kernel
theorem dX2_hasFitNumbers_58 : decode cX2_hasFitNumbers 58 = .ok (.if_icmp .gt 7, 3) := by decide +kernel
theorem dX2_hasFitNumbers_61 : decode cX2_hasFitNumbers 61 = .ok (.iconst 1, 1) := by decide +kernel
theorem dX2_hasFitNumbers_62 : decode cX2_hasFitNumbers 62 = .ok (.goto 4, 3) := by decide +kernel
theorem dX2_hasFitNumbers_65 : decode cX2_hasFitNumbers 65 = .ok (.iconst 0, 1) := by decide +kernel
theorem dX2_hasFitNumbers_66 : decode cX2_hasFitNumbers 66 = .ok (.ireturn, 1) := by decide +kernel
theorem dX2_hasFitNumbers_67 : decode cX2_hasFitNumbers 67 = .ok (.iload_n 1, 1) := by decide +kernel
theorem dX2_hasFitNumbers_68 : decode cX2_hasFitNumbers 68 = .ok (.iload_n 2, 1) := by decide +kernel
theorem dX2_hasFitNumbers_69 : decode cX2_hasFitNumbers 69 = .ok (.if_icmp .gt 7, 3) := by decide +kernel
theorem dX2_hasFitNumbers_72 : decode cX2_hasFitNumbers 72 = .ok (.iconst 1, 1) := by decide +kernel
theorem dX2_hasFitNumbers_73 : decode cX2_hasFitNumbers 73 = .ok (.goto 4, 3) := by decide +kernel
theorem dX2_hasFitNumbers_76 : decode cX2_hasFitNumbers 76 = .ok (.iconst 0, 1) := by decide +kernel
theorem dX2_hasFitNumbers_77 : decode cX2_hasFitNumbers 77 = .ok (.ireturn, 1) := by decide +kernel
theorem dX2_hasFitNumbers_78 : decode cX2_hasFitNumbers 78 = .ok (.iconst 1, 1) := by decide +kernel
theorem dX2_hasFitNumbers_79 : decode cX2_hasFitNumbers 79 = .ok (.ireturn, 1) := by decide +kernel
theorem dX2_askByCall_0 : decode cX2_askByCall 0 = .ok (.aload_n 0, 1) := by decide +kernel
theorem dX2_askByCall_1 : decode cX2_askByCall 1 = .ok (.iconst 0, 1) := by decide +kernel
theorem dX2_askByCall_2 : decode cX2_askByCall 2 = .ok (.putfield 41, 3) := by decide +kernel
theorem dX2_askByCall_5 : decode cX2_askByCall 5 = .ok (.aload_n 0, 1) := by decide +kernel
theorem dX2_askByCall_6 : decode cX2_askByCall 6 = .ok (.iconst 0, 1) := by decide +kernel
theorem dX2_askByCall_7 : decode cX2_askByCall 7 = .ok (.putfield 44, 3) := by decide +kernel
theorem dX2_askByCall_10 : decode cX2_askByCall 10 = .ok (.aload_n 0, 1) := by decide +kernel
theorem dX2_askByCall_11 : decode cX2_askByCall 11 = .ok (.iload_n 1, 1) := by decide +kernel
theorem dX2_askByCall_12 : decode cX2_askByCall 12 = .ok (.iload_n 2, 1) := by decide +kernel
theorem dX2_askByCall_13 : decode cX2_askByCall 13 = .ok (.invokevirtual 111, 3) := by decide +kernel
theorem dX2_askByCall_16 : decode cX2_askByCall 16 = .ok (.lreturn, 1) := by decide +kernel
theorem dX2_valueOf_0 : decode cX2_valueOf 0 = .ok (.aload_n 0, 1) := by decide +kernel
theorem dX2_valueOf_1 : decode cX2_valueOf 1 = .ok (.iload_n 1, 1) := by decide +kernel
theorem dX2_valueOf_2 : decode cX2_valueOf 2 = .ok (.invokevirtual 114, 3) := by decide +kernel
theorem dX2_valueOf_5 : decode cX2_valueOf 5 = .ok (.astore_n 3, 1) := by decide +kernel
theorem dX2_valueOf_6 : decode cX2_valueOf 6 = .ok (.aload_n 3, 1) := by decide +kernel
theorem dX2_valueOf_7 : decode cX2_valueOf 7 = .ok (.ifnonnull 5, 3) := by decide +kernel
theorem dX2_valueOf_10 : decode cX2_valueOf 10 = .ok (.lconst 0, 1) := by decide +kernel
theorem dX2_valueOf_11 : decode cX2_valueOf 11 = .ok (.lreturn, 1) := by decide +kernel
theorem dX2_valueOf_12 : decode cX2_valueOf 12 = .ok (.aload_n 3, 1) := by decide +kernel
theorem dX2_valueOf_13 : decode cX2_valueOf 13 = .ok (.getfield 108, 3) := by decide +kernel
theorem dX2_valueOf_16 : decode cX2_valueOf 16 = .ok (.tableswitch 317 4 16 #[68, 88, 108, 130, 152, 173, 204, 219, 317, 233, 317, 253, 267], 68) := by decide +kernel
theorem dX2_valueOf_84 : decode cX2_valueOf 84 = .ok (.aload_n 0, 1) := by decide +kernel
theorem dX2_valueOf_85 : decode cX2_valueOf 85 = .ok (.aload_n 3, 1) := by decide +kernel
theorem dX2_valueOf_86 : decode cX2_valueOf 86 = .ok (.getfield 117, 3) := by decide +kernel
theorem dX2_valueOf_89 : decode cX2_valueOf 89 = .ok (.iload_n 2, 1) := by decide +kernel
theorem dX2_valueOf_90 : decode cX2_valueOf 90 = .ok (.invokevirtual 111, 3) := by decide +kernel
theorem dX2_valueOf_93 : decode cX2_valueOf 93 = .ok (.aload_n 0, 1) := by decide +kernel
theorem dX2_valueOf_94 : decode cX2_valueOf 94 = .ok (.aload_n 3, 1) := by decide +kernel
theorem dX2_valueOf_95 : decode cX2_valueOf 95 = .ok (.getfield 120, 3) := by decide +kernel
theorem dX2_valueOf_98 : decode cX2_valueOf 98 = .ok (.iload_n 2, 1) := by decide +kernel
theorem dX2_valueOf_99 : decode cX2_valueOf 99 = .ok (.invokevirtual 111, 3) := by decide +kernel
theorem dX2_valueOf_102 : decode cX2_valueOf 102 = .ok (.ladd, 1) := by decide +kernel
theorem dX2_valueOf_103 : decode cX2_valueOf 103 = .ok (.lreturn, 1) := by decide +kernel
theorem dX2_valueOf_104 : decode cX2_valueOf 104 = .ok (.aload_n 0, 1) := by decide +kernel
theorem dX2_valueOf_105 : decode cX2_valueOf 105 = .ok (.aload_n 3, 1) := by decide +kernel
theorem dX2_valueOf_106 : decode cX2_valueOf 106 = .ok (.getfield 117, 3) := by decide +kernel
theorem dX2_valueOf_109 : decode cX2_valueOf 109 = .ok (.iload_n 2, 1) := by decide +kernel
theorem dX2_valueOf_110 : decode cX2_valueOf 110 = .ok (.invokevirtual 111, 3) := by decide +kernel
theorem dX2_valueOf_113 : decode cX2_valueOf 113 = .ok (.aload_n 0, 1) := by decide +kernel
theorem dX2_valueOf_114 : decode cX2_valueOf 114 = .ok (.aload_n 3, 1) := by decide +kernel
theorem dX2_valueOf_115 : decode cX2_valueOf 115 = .ok (.getfield 120, 3) := by decide +kernel
theorem dX2_valueOf_118 : decode cX2_valueOf 118 = .ok (.iload_n 2, 1) := by decide +kernel
theorem dX2_valueOf_119 : decode cX2_valueOf 119 = .ok (.invokevirtual 111, 3) := by decide +kernel
theorem dX2_valueOf_122 : decode cX2_valueOf 122 = .ok (.lsub, 1) := by decide +kernel
theorem dX2_valueOf_123 : decode cX2_valueOf 123 = .ok (.lreturn, 1) := by decide +kernel
theorem dX2_valueOf_124 : decode cX2_valueOf 124 = .ok (.aload_n 0, 1) := by decide +kernel
theorem dX2_valueOf_125 : decode cX2_valueOf 125 = .ok (.aload_n 3, 1) := by decide +kernel
theorem dX2_valueOf_126 : decode cX2_valueOf 126 = .ok (.getfield 117, 3) := by decide +kernel
theorem dX2_valueOf_129 : decode cX2_valueOf 129 = .ok (.iload_n 2, 1) := by decide +kernel
theorem dX2_valueOf_130 : decode cX2_valueOf 130 = .ok (.invokevirtual 111, 3) := by decide +kernel
theorem dX2_valueOf_133 : decode cX2_valueOf 133 = .ok (.aload_n 0, 1) := by decide +kernel
theorem dX2_valueOf_134 : decode cX2_valueOf 134 = .ok (.aload_n 3, 1) := by decide +kernel
theorem dX2_valueOf_135 : decode cX2_valueOf 135 = .ok (.getfield 120, 3) := by decide +kernel
theorem dX2_valueOf_138 : decode cX2_valueOf 138 = .ok (.iload_n 2, 1) := by decide +kernel
theorem dX2_valueOf_139 : decode cX2_valueOf 139 = .ok (.invokevirtual 111, 3) := by decide +kernel
theorem dX2_valueOf_142 : decode cX2_valueOf 142 = .ok (.invokestatic 123, 3) := by decide +kernel
theorem dX2_valueOf_145 : decode cX2_valueOf 145 = .ok (.lreturn, 1) := by decide +kernel
theorem dX2_valueOf_146 : decode cX2_valueOf 146 = .ok (.aload_n 0, 1) := by decide +kernel
theorem dX2_valueOf_147 : decode cX2_valueOf 147 = .ok (.aload_n 3, 1) := by decide +kernel
theorem dX2_valueOf_148 : decode cX2_valueOf 148 = .ok (.getfield 117, 3) := by decide +kernel
theorem dX2_valueOf_151 : decode cX2_valueOf 151 = .ok (.iload_n 2, 1) := by decide +kernel
theorem dX2_valueOf_152 : decode cX2_valueOf 152 = .ok (.invokevirtual 111, 3) := by decide +kernel
theorem dX2_valueOf_155 : decode cX2_valueOf 155 = .ok (.aload_n 0, 1) := by decide +kernel
theorem dX2_valueOf_156 : decode cX2_valueOf 156 = .ok (.aload_n 3, 1) := by decide +kernel
theorem dX2_valueOf_157 : decode cX2_valueOf 157 = .ok (.getfield 120, 3) := by decide +kernel
theorem dX2_valueOf_160 : decode cX2_valueOf 160 = .ok (.iload_n 2, 1) := by decide +kernel
theorem dX2_valueOf_161 : decode cX2_valueOf 161 = .ok (.invokevirtual 111, 3) := by decide +kernel
theorem dX2_valueOf_164 : decode cX2_valueOf 164 = .ok (.invokestatic 129, 3) := by decide +kernel
theorem dX2_valueOf_167 : decode cX2_valueOf 167 = .ok (.lreturn, 1) := by decide +kernel
theorem dX2_valueOf_168 : decode cX2_valueOf 168 = .ok (.aload_n 0, 1) := by decide +kernel
theorem dX2_valueOf_169 : decode cX2_valueOf 169 = .ok (.aload_n 3, 1) := by decide +kernel
theorem dX2_valueOf_170 : decode cX2_valueOf 170 = .ok (.getfield 117, 3) := by decide +kernel
theorem dX2_valueOf_173 : decode cX2_valueOf 173 = .ok (.iload_n 2, 1) := by decide +kernel
theorem dX2_valueOf_174 : decode cX2_valueOf 174 = .ok (.invokevirtual 111, 3) := by decide +kernel
theorem dX2_valueOf_177 : decode cX2_valueOf 177 = .ok (.aload_n 3, 1) := by decide +kernel
theorem dX2_valueOf_178 : decode cX2_valueOf 178 = .ok (.getfield 120, 3) := by decide +kernel
theorem dX2_valueOf_181 : decode cX2_valueOf 181 = .ok (.aload_n 3, 1) := by decide +kernel
theorem dX2_valueOf_182 : decode cX2_valueOf 182 = .ok (.getfield 132, 3) := by decide +kernel
theorem dX2_valueOf_185 : decode cX2_valueOf 185 = .ok (.invokestatic 135, 3) := by decide +kernel
theorem dX2_valueOf_188 : decode cX2_valueOf 188 = .ok (.lreturn, 1) := by decide +kernel
theorem dX2_valueOf_189 : decode cX2_valueOf 189 = .ok (.aload_n 0, 1) := by decide +kernel
theorem dX2_valueOf_190 : decode cX2_valueOf 190 = .ok (.aload_n 0, 1) := by decide +kernel
theorem dX2_valueOf_191 : decode cX2_valueOf 191 = .ok (.aload_n 3, 1) := by decide +kernel
theorem dX2_valueOf_192 : decode cX2_valueOf 192 = .ok (.getfield 117, 3) := by decide +kernel
theorem dX2_valueOf_195 : decode cX2_valueOf 195 = .ok (.iload_n 2, 1) := by decide +kernel
theorem dX2_valueOf_196 : decode cX2_valueOf 196 = .ok (.invokevirtual 111, 3) := by decide +kernel
theorem dX2_valueOf_199 : decode cX2_valueOf 199 = .ok (.lconst 0, 1) := by decide +kernel
theorem dX2_valueOf_200 : decode cX2_valueOf 200 = .ok (.lcmp, 1) := by decide +kernel
theorem dX2_valueOf_201 : decode cX2_valueOf 201 = .ok (.ifCond .le 10, 3) := by decide +kernel
theorem dX2_valueOf_204 : decode cX2_valueOf 204 = .ok (.aload_n 3, 1) := by decide +kernel
theorem dX2_valueOf_205 : decode cX2_valueOf 205 = .ok (.getfield 120, 3) := by decide +kernel
theorem dX2_valueOf_208 : decode cX2_valueOf 208 = .ok (.goto 7, 3) := by decide +kernel
theorem dX2_valueOf_211 : decode cX2_valueOf 211 = .ok (.aload_n 3, 1) := by decide +kernel
theorem dX2_valueOf_212 : decode cX2_valueOf 212 = .ok (.getfield 132, 3) := by decide +kernel
theorem dX2_valueOf_215 : decode cX2_valueOf 215 = .ok (.iload_n 2, 1) := by decide +kernel
theorem dX2_valueOf_216 : decode cX2_valueOf 216 = .ok (.invokevirtual 111, 3) := by decide +kernel
theorem dX2_valueOf_219 : decode cX2_valueOf 219 = .ok (.lreturn, 1) := by decide +kernel
theorem dX2_valueOf_220 : decode cX2_valueOf 220 = .ok (.aload_n 0, 1) := by decide +kernel
theorem dX2_valueOf_221 : decode cX2_valueOf 221 = .ok (.aload_n 3, 1) := by decide +kernel
theorem dX2_valueOf_222 : decode cX2_valueOf 222 = .ok (.getfield 117, 3) := by decide +kernel
theorem dX2_valueOf_225 : decode cX2_valueOf 225 = .ok (.iload_n 2, 1) := by decide +kernel
theorem dX2_valueOf_226 : decode cX2_valueOf 226 = .ok (.aload_n 3, 1) := by decide +kernel
theorem dX2_valueOf_227 : decode cX2_valueOf 227 = .ok (.getfield 120, 3) := by decide +kernel
theorem dX2_valueOf_230 : decode cX2_valueOf 230 = .ok (.iadd, 1) := by decide +kernel
theorem dX2_valueOf_231 : decode cX2_valueOf 231 = .ok (.invokevirtual 111, 3) := by decide +kernel
theorem dX2_valueOf_234 : decode cX2_valueOf 234 = .ok (.lreturn, 1) := by decide +kernel
theorem dX2_valueOf_235 : decode cX2_valueOf 235 = .ok (.aload_n 0, 1) := by decide +kernel
theorem dX2_valueOf_236 : decode cX2_valueOf 236 = .ok (.aload_n 3, 1) := by decide +kernel
theorem dX2_valueOf_237 : decode cX2_valueOf 237 = .ok (.getfield 117, 3) := by decide +kernel
theorem dX2_valueOf_240 : decode cX2_valueOf 240 = .ok (.iload_n 2, 1) := by decide +kernel
theorem dX2_valueOf_241 : decode cX2_valueOf 241 = .ok (.invokevirtual 111, 3) := by decide +kernel
theorem dX2_valueOf_244 : decode cX2_valueOf 244 = .ok (.aload_n 3, 1) := by decide +kernel
theorem dX2_valueOf_245 : decode cX2_valueOf 245 = .ok (.invokestatic 139, 3) := by decide +kernel
theorem dX2_valueOf_248 : decode cX2_valueOf 248 = .ok (.lreturn, 1) := by decide +kernel
theorem dX2_valueOf_249 : decode cX2_valueOf 249 = .ok (.aload_n 3, 1) := by decide +kernel
theorem dX2_valueOf_250 : decode cX2_valueOf 250 = .ok (.dup, 1) := by decide +kernel
theorem dX2_valueOf_251 : decode cX2_valueOf 251 = .ok (.getfield 104, 3) := by decide +kernel
theorem dX2_valueOf_254 : decode cX2_valueOf 254 = .ok (.iconst 1, 1) := by decide +kernel
theorem dX2_valueOf_255 : decode cX2_valueOf 255 = .ok (.iadd, 1) := by decide +kernel
theorem dX2_valueOf_256 : decode cX2_valueOf 256 = .ok (.putfield 104, 3) := by decide +kernel
theorem dX2_valueOf_259 : decode cX2_valueOf 259 = .ok (.aload_n 0, 1) := by decide +kernel
theorem dX2_valueOf_260 : decode cX2_valueOf 260 = .ok (.aload_n 3, 1) := by decide +kernel
theorem dX2_valueOf_261 : decode cX2_valueOf 261 = .ok (.getfield 117, 3) := by decide +kernel
theorem dX2_valueOf_264 : decode cX2_valueOf 264 = .ok (.iload_n 2, 1) := by decide +kernel
theorem dX2_valueOf_265 : decode cX2_valueOf 265 = .ok (.invokevirtual 111, 3) := by decide +kernel
theorem dX2_valueOf_268 : decode cX2_valueOf 268 = .ok (.lreturn, 1) := by decide +kernel
theorem dX2_valueOf_269 : decode cX2_valueOf 269 = .ok (.aload_n 0, 1) := by decide +kernel
theorem dX2_valueOf_270 : decode cX2_valueOf 270 = .ok (.aload_n 0, 1) := by decide +kernel
theorem dX2_valueOf_271 : decode cX2_valueOf 271 = .ok (.aload_n 3, 1) := by decide +kernel
theorem dX2_valueOf_272 : decode cX2_valueOf 272 = .ok (.getfield 117, 3) := by decide +kernel
theorem dX2_valueOf_275 : decode cX2_valueOf 275 = .ok (.invokevirtual 143, 3) := by decide +kernel
theorem dX2_valueOf_278 : decode cX2_valueOf 278 = .ok (.iload_n 2, 1) := by decide +kernel
theorem dX2_valueOf_279 : decode cX2_valueOf 279 = .ok (.invokevirtual 111, 3) := by decide +kernel
theorem dX2_valueOf_282 : decode cX2_valueOf 282 = .ok (.lreturn, 1) := by decide +kernel
theorem dX2_valueOf_283 : decode cX2_valueOf 283 = .ok (.lconst 0, 1) := by decide +kernel
theorem dX2_valueOf_284 : decode cX2_valueOf 284 = .ok (.lstore 4, 2) := by decide +kernel
theorem dX2_valueOf_286 : decode cX2_valueOf 286 = .ok (.aload_n 3, 1) := by decide +kernel
theorem dX2_valueOf_287 : decode cX2_valueOf 287 = .ok (.getfield 117, 3) := by decide +kernel
theorem dX2_valueOf_290 : decode cX2_valueOf 290 = .ok (.istore 6, 2) := by decide +kernel
theorem dX2_valueOf_292 : decode cX2_valueOf 292 = .ok (.iload 6, 2) := by decide +kernel
theorem dX2_valueOf_294 : decode cX2_valueOf 294 = .ok (.aload_n 3, 1) := by decide +kernel
theorem dX2_valueOf_295 : decode cX2_valueOf 295 = .ok (.getfield 120, 3) := by decide +kernel
theorem dX2_valueOf_298 : decode cX2_valueOf 298 = .ok (.if_icmp .gt 32, 3) := by decide +kernel
theorem dX2_valueOf_301 : decode cX2_valueOf 301 = .ok (.iload 6, 2) := by decide +kernel
theorem dX2_valueOf_303 : decode cX2_valueOf 303 = .ok (.bipush 8, 2) := by decide +kernel
theorem dX2_valueOf_305 : decode cX2_valueOf 305 = .ok (.if_icmp .ge 25, 3) := by decide +kernel
theorem dX2_valueOf_308 : decode cX2_valueOf 308 = .ok (.lload 4, 2) := by decide +kernel
theorem dX2_valueOf_310 : decode cX2_valueOf 310 = .ok (.aload_n 0, 1) := by decide +kernel
theorem dX2_valueOf_311 : decode cX2_valueOf 311 = .ok (.aload_n 0, 1) := by decide +kernel
theorem dX2_valueOf_312 : decode cX2_valueOf 312 = .ok (.iload 6, 2) := by decide +kernel
theorem dX2_valueOf_314 : decode cX2_valueOf 314 = .ok (.invokevirtual 143, 3) := by decide +kernel
theorem dX2_valueOf_317 : decode cX2_valueOf 317 = .ok (.iload_n 2, 1) := by decide +kernel
theorem dX2_valueOf_318 : decode cX2_valueOf 318 = .ok (.invokevirtual 111, 3) := by decide +kernel
theorem dX2_valueOf_321 : decode cX2_valueOf 321 = .ok (.ladd, 1) := by decide +kernel
theorem dX2_valueOf_322 : decode cX2_valueOf 322 = .ok (.lstore 4, 2) := by decide +kernel
theorem dX2_valueOf_324 : decode cX2_valueOf 324 = .ok (.iinc 6 1, 3) := by decide +kernel
theorem dX2_valueOf_327 : decode cX2_valueOf 327 = .ok (.goto (-35), 3) := by decide +kernel
theorem dX2_valueOf_330 : decode cX2_valueOf 330 = .ok (.lload 4, 2) := by decide +kernel
theorem dX2_valueOf_332 : decode cX2_valueOf 332 = .ok (.lreturn, 1) := by decide +kernel
theorem dX2_valueOf_333 : decode cX2_valueOf 333 = .ok (.aload_n 0, 1) := by decide +kernel
theorem dX2_valueOf_334 : decode cX2_valueOf 334 = .ok (.aload_n 3, 1) := by decide +kernel
theorem dX2_valueOf_335 : decode cX2_valueOf 335 = .ok (.iload_n 2, 1) := by decide +kernel
theorem dX2_valueOf_336 : decode cX2_valueOf 336 = .ok (.invokevirtual 147, 3) := by decide +kernel
theorem dX2_valueOf_339 : decode cX2_valueOf 339 = .ok (.lreturn, 1) := by decide +kernel
theorem dX2_stepTo_0 : decode cX2_stepTo 0 = .ok (.aload_n 0, 1) := by decide +kernel
theorem dX2_stepTo_1 : decode cX2_stepTo 1 = .ok (.getfield 44, 3) := by decide +kernel
theorem dX2_stepTo_4 : decode cX2_stepTo 4 = .ok (.ifCond .eq 5, 3) := by decide +kernel
theorem dX2_stepTo_7 : decode cX2_stepTo 7 = .ok (.aconst_null, 1) := by decide +kernel
theorem dX2_stepTo_8 : decode cX2_stepTo 8 = .ok (.areturn, 1) := by decide +kernel
theorem dX2_stepTo_9 : decode cX2_stepTo 9 = .ok (.aload_n 0, 1) := by decide +kernel
theorem dX2_stepTo_10 : decode cX2_stepTo 10 = .ok (.iload_n 1, 1) := by decide +kernel
theorem dX2_stepTo_11 : decode cX2_stepTo 11 = .ok (.invokevirtual 91, 3) := by decide +kernel
theorem dX2_stepTo_14 : decode cX2_stepTo 14 = .ok (.astore_n 2, 1) := by decide +kernel
theorem dX2_stepTo_15 : decode cX2_stepTo 15 = .ok (.aload_n 2, 1) := by decide +kernel
theorem dX2_stepTo_16 : decode cX2_stepTo 16 = .ok (.ifnonnull 12, 3) := by decide +kernel
theorem dX2_stepTo_19 : decode cX2_stepTo 19 = .ok (.aload_n 0, 1) := by decide +kernel
theorem dX2_stepTo_20 : decode cX2_stepTo 20 = .ok (.sipush (-201), 3) := by decide +kernel
theorem dX2_stepTo_23 : decode cX2_stepTo 23 = .ok (.putfield 44, 3) := by decide +kernel
theorem dX2_stepTo_26 : decode cX2_stepTo 26 = .ok (.aconst_null, 1) := by decide +kernel
theorem dX2_stepTo_27 : decode cX2_stepTo 27 = .ok (.areturn, 1) := by decide +kernel
theorem dX2_stepTo_28 : decode cX2_stepTo 28 = .ok (.aload_n 0, 1) := by decide +kernel
theorem dX2_stepTo_29 : decode cX2_stepTo 29 = .ok (.getfield 41, 3) := by decide +kernel
theorem dX2_stepTo_32 : decode cX2_stepTo 32 = .ok (.bipush 120, 2) := by decide +kernel
theorem dX2_stepTo_34 : decode cX2_stepTo 34 = .ok (.if_icmp .lt 12, 3) := by decide +kernel
theorem dX2_stepTo_37 : decode cX2_stepTo 37 = .ok (.aload_n 0, 1) := by decide +kernel
theorem dX2_stepTo_38 : decode cX2_stepTo 38 = .ok (.sipush (-202), 3) := by decide +kernel
theorem dX2_stepTo_41 : decode cX2_stepTo 41 = .ok (.putfield 44, 3) := by decide +kernel
theorem dX2_stepTo_44 : decode cX2_stepTo 44 = .ok (.aconst_null, 1) := by decide +kernel
theorem dX2_stepTo_45 : decode cX2_stepTo 45 = .ok (.areturn, 1) := by decide +kernel
theorem dX2_stepTo_46 : decode cX2_stepTo 46 = .ok (.aload_n 0, 1) := by decide +kernel
theorem dX2_stepTo_47 : decode cX2_stepTo 47 = .ok (.dup, 1) := by decide +kernel
theorem dX2_stepTo_48 : decode cX2_stepTo 48 = .ok (.getfield 41, 3) := by decide +kernel
theorem dX2_stepTo_51 : decode cX2_stepTo 51 = .ok (.iconst 1, 1) := by decide +kernel
theorem dX2_stepTo_52 : decode cX2_stepTo 52 = .ok (.iadd, 1) := by decide +kernel
theorem dX2_stepTo_53 : decode cX2_stepTo 53 = .ok (.putfield 41, 3) := by decide +kernel
theorem dX2_stepTo_56 : decode cX2_stepTo 56 = .ok (.aload_n 2, 1) := by decide +kernel
theorem dX2_stepTo_57 : decode cX2_stepTo 57 = .ok (.areturn, 1) := by decide +kernel
theorem dX2_valueOfLeaf_0 : decode cX2_valueOfLeaf 0 = .ok (.aload_n 1, 1) := by decide +kernel
theorem dX2_valueOfLeaf_1 : decode cX2_valueOfLeaf 1 = .ok (.getfield 108, 3) := by decide +kernel
theorem dX2_valueOfLeaf_4 : decode cX2_valueOfLeaf 4 = .ok (.tableswitch 116 0 14 #[76, 82, 92, 98, 116, 116, 116, 116, 116, 116, 116, 116, 101, 116, 106], 76) := by decide +kernel
theorem dX2_valueOfLeaf_80 : decode cX2_valueOfLeaf 80 = .ok (.aload_n 1, 1) := by decide +kernel
theorem dX2_valueOfLeaf_81 : decode cX2_valueOfLeaf 81 = .ok (.getfield 117, 3) := by decide +kernel
theorem dX2_valueOfLeaf_84 : decode cX2_valueOfLeaf 84 = .ok (.i2l, 1) := by decide +kernel
theorem dX2_valueOfLeaf_85 : decode cX2_valueOfLeaf 85 = .ok (.lreturn, 1) := by decide +kernel
theorem dX2_valueOfLeaf_86 : decode cX2_valueOfLeaf 86 = .ok (.aload_n 0, 1) := by decide +kernel
theorem dX2_valueOfLeaf_87 : decode cX2_valueOfLeaf 87 = .ok (.aload_n 1, 1) := by decide +kernel
theorem dX2_valueOfLeaf_88 : decode cX2_valueOfLeaf 88 = .ok (.getfield 117, 3) := by decide +kernel
theorem dX2_valueOfLeaf_91 : decode cX2_valueOfLeaf 91 = .ok (.invokevirtual 151, 3) := by decide +kernel
theorem dX2_valueOfLeaf_94 : decode cX2_valueOfLeaf 94 = .ok (.i2l, 1) := by decide +kernel
theorem dX2_valueOfLeaf_95 : decode cX2_valueOfLeaf 95 = .ok (.lreturn, 1) := by decide +kernel
theorem dX2_valueOfLeaf_96 : decode cX2_valueOfLeaf 96 = .ok (.aload_n 0, 1) := by decide +kernel
theorem dX2_valueOfLeaf_97 : decode cX2_valueOfLeaf 97 = .ok (.iload_n 2, 1) := by decide +kernel
theorem dX2_valueOfLeaf_98 : decode cX2_valueOfLeaf 98 = .ok (.invokevirtual 154, 3) := by decide +kernel
theorem dX2_valueOfLeaf_101 : decode cX2_valueOfLeaf 101 = .ok (.lreturn, 1) := by decide +kernel
theorem dX2_valueOfLeaf_102 : decode cX2_valueOfLeaf 102 = .ok (.iload_n 2, 1) := by decide +kernel
theorem dX2_valueOfLeaf_103 : decode cX2_valueOfLeaf 103 = .ok (.i2l, 1) := by decide +kernel
theorem dX2_valueOfLeaf_104 : decode cX2_valueOfLeaf 104 = .ok (.lreturn, 1) := by decide +kernel
theorem dX2_valueOfLeaf_105 : decode cX2_valueOfLeaf 105 = .ok (.aload_n 1, 1) := by decide +kernel
theorem dX2_valueOfLeaf_106 : decode cX2_valueOfLeaf 106 = .ok (.getfield 82, 3) := by decide +kernel
theorem dX2_valueOfLeaf_109 : decode cX2_valueOfLeaf 109 = .ok (.lreturn, 1) := by decide +kernel
theorem dX2_valueOfLeaf_110 : decode cX2_valueOfLeaf 110 = .ok (.aload_n 0, 1) := by decide +kernel
theorem dX2_valueOfLeaf_111 : decode cX2_valueOfLeaf 111 = .ok (.aload_n 1, 1) := by decide +kernel
theorem dX2_valueOfLeaf_112 : decode cX2_valueOfLeaf 112 = .ok (.getfield 117, 3) := by decide +kernel
theorem dX2_valueOfLeaf_115 : decode cX2_valueOfLeaf 115 = .ok (.invokevirtual 158, 3) := by decide +kernel
theorem dX2_valueOfLeaf_118 : decode cX2_valueOfLeaf 118 = .ok (.i2l, 1) := by decide +kernel
theorem dX2_valueOfLeaf_119 : decode cX2_valueOfLeaf 119 = .ok (.lreturn, 1) := by decide +kernel
theorem dX2_valueOfLeaf_120 : decode cX2_valueOfLeaf 120 = .ok (.lconst 0, 1) := by decide +kernel
theorem dX2_valueOfLeaf_121 : decode cX2_valueOfLeaf 121 = .ok (.lreturn, 1) := by decide +kernel
theorem dX2_tide_0 : decode cX2_tide 0 = .ok (.iload_n 1, 1) := by decide +kernel
theorem dX2_tide_1 : decode cX2_tide 1 = .ok (.i2l, 1) := by decide +kernel
theorem dX2_tide_2 : decode cX2_tide 2 = .ok (.aload_n 0, 1) := by decide +kernel
theorem dX2_tide_3 : decode cX2_tide 3 = .ok (.getfield 17, 3) := by decide +kernel
theorem dX2_tide_6 : decode cX2_tide 6 = .ok (.i2l, 1) := by decide +kernel
theorem dX2_tide_7 : decode cX2_tide 7 = .ok (.lmul, 1) := by decide +kernel
theorem dX2_tide_8 : decode cX2_tide 8 = .ok (.ldc2_w 161, 3) := by decide +kernel
theorem dX2_tide_11 : decode cX2_tide 11 = .ok (.invokestatic 163, 3) := by decide +kernel
theorem dX2_tide_14 : decode cX2_tide 14 = .ok (.lstore_n 2, 1) := by decide +kernel
theorem dX2_tide_15 : decode cX2_tide 15 = .ok (.ldc2_w 166, 3) := by decide +kernel
theorem dX2_tide_18 : decode cX2_tide 18 = .ok (.lload_n 2, 1) := by decide +kernel
theorem dX2_tide_19 : decode cX2_tide 19 = .ok (.ldc2_w 166, 3) := by decide +kernel
theorem dX2_tide_22 : decode cX2_tide 22 = .ok (.lsub, 1) := by decide +kernel
theorem dX2_tide_23 : decode cX2_tide 23 = .ok (.invokestatic 168, 3) := by decide +kernel
theorem dX2_tide_26 : decode cX2_tide 26 = .ok (.lsub, 1) := by decide +kernel
theorem dX2_tide_27 : decode cX2_tide 27 = .ok (.lreturn, 1) := by decide +kernel
theorem dX2_scaled_0 : decode cX2_scaled 0 = .ok (.iload_n 3, 1) := by decide +kernel
theorem dX2_scaled_1 : decode cX2_scaled 1 = .ok (.iconst 1, 1) := by decide +kernel
theorem dX2_scaled_2 : decode cX2_scaled 2 = .ok (.if_icmp .ge 7, 3) := by decide +kernel
theorem dX2_scaled_5 : decode cX2_scaled 5 = .ok (.lconst 0, 1) := by decide +kernel
theorem dX2_scaled_6 : decode cX2_scaled 6 = .ok (.goto 12, 3) := by decide +kernel
theorem dX2_scaled_9 : decode cX2_scaled 9 = .ok (.lload_n 0, 1) := by decide +kernel
theorem dX2_scaled_10 : decode cX2_scaled 10 = .ok (.iload_n 2, 1) := by decide +kernel
theorem dX2_scaled_11 : decode cX2_scaled 11 = .ok (.i2l, 1) := by decide +kernel
theorem dX2_scaled_12 : decode cX2_scaled 12 = .ok (.lmul, 1) := by decide +kernel
theorem dX2_scaled_13 : decode cX2_scaled 13 = .ok (.iload_n 3, 1) := by decide +kernel
theorem dX2_scaled_14 : decode cX2_scaled 14 = .ok (.i2l, 1) := by decide +kernel
theorem dX2_scaled_15 : decode cX2_scaled 15 = .ok (.invokestatic 172, 3) := by decide +kernel
theorem dX2_scaled_18 : decode cX2_scaled 18 = .ok (.lreturn, 1) := by decide +kernel
theorem dX2_banded_0 : decode cX2_banded 0 = .ok (.lload_n 0, 1) := by decide +kernel
theorem dX2_banded_1 : decode cX2_banded 1 = .ok (.aload_n 2, 1) := by decide +kernel
theorem dX2_banded_2 : decode cX2_banded 2 = .ok (.getfield 175, 3) := by decide +kernel
theorem dX2_banded_5 : decode cX2_banded 5 = .ok (.i2l, 1) := by decide +kernel
theorem dX2_banded_6 : decode cX2_banded 6 = .ok (.lcmp, 1) := by decide +kernel
theorem dX2_banded_7 : decode cX2_banded 7 = .ok (.ifCond .ge 9, 3) := by decide +kernel
theorem dX2_banded_10 : decode cX2_banded 10 = .ok (.aload_n 2, 1) := by decide +kernel
theorem dX2_banded_11 : decode cX2_banded 11 = .ok (.getfield 120, 3) := by decide +kernel
theorem dX2_banded_14 : decode cX2_banded 14 = .ok (.i2l, 1) := by decide +kernel
theorem dX2_banded_15 : decode cX2_banded 15 = .ok (.lreturn, 1) := by decide +kernel
theorem dX2_banded_16 : decode cX2_banded 16 = .ok (.lload_n 0, 1) := by decide +kernel
theorem dX2_banded_17 : decode cX2_banded 17 = .ok (.aload_n 2, 1) := by decide +kernel
theorem dX2_banded_18 : decode cX2_banded 18 = .ok (.getfield 178, 3) := by decide +kernel
theorem dX2_banded_21 : decode cX2_banded 21 = .ok (.i2l, 1) := by decide +kernel
theorem dX2_banded_22 : decode cX2_banded 22 = .ok (.lcmp, 1) := by decide +kernel
theorem dX2_banded_23 : decode cX2_banded 23 = .ok (.ifCond .le 11, 3) := by decide +kernel
theorem dX2_banded_26 : decode cX2_banded 26 = .ok (.aload_n 2, 1) := by decide +kernel
theorem dX2_banded_27 : decode cX2_banded 27 = .ok (.getfield 132, 3) := by decide +kernel
theorem dX2_banded_30 : decode cX2_banded 30 = .ok (.i2l, 1) := by decide +kernel
theorem dX2_banded_31 : decode cX2_banded 31 = .ok (.goto 4, 3) := by decide +kernel
theorem dX2_banded_34 : decode cX2_banded 34 = .ok (.lload_n 0, 1) := by decide +kernel
theorem dX2_banded_35 : decode cX2_banded 35 = .ok (.lreturn, 1) := by decide +kernel
theorem dX2_goesWhole_0 : decode cX2_goesWhole 0 = .ok (.iconst 0, 1) := by decide +kernel
theorem dX2_goesWhole_1 : decode cX2_goesWhole 1 = .ok (.istore_n 2, 1) := by decide +kernel
theorem dX2_goesWhole_2 : decode cX2_goesWhole 2 = .ok (.iload_n 2, 1) := by decide +kernel
theorem dX2_goesWhole_3 : decode cX2_goesWhole 3 = .ok (.aload_n 0, 1) := by decide +kernel
theorem dX2_goesWhole_4 : decode cX2_goesWhole 4 = .ok (.getfield 34, 3) := by decide +kernel
theorem dX2_goesWhole_7 : decode cX2_goesWhole 7 = .ok (.arraylength, 1) := by decide +kernel
theorem dX2_goesWhole_8 : decode cX2_goesWhole 8 = .ok (.if_icmp .ge 69, 3) := by decide +kernel
theorem dX2_goesWhole_11 : decode cX2_goesWhole 11 = .ok (.aload_n 0, 1) := by decide +kernel
theorem dX2_goesWhole_12 : decode cX2_goesWhole 12 = .ok (.getfield 34, 3) := by decide +kernel
theorem dX2_goesWhole_15 : decode cX2_goesWhole 15 = .ok (.iload_n 2, 1) := by decide +kernel
theorem dX2_goesWhole_16 : decode cX2_goesWhole 16 = .ok (.aaload, 1) := by decide +kernel
theorem dX2_goesWhole_17 : decode cX2_goesWhole 17 = .ok (.ifnull 60, 3) := by decide +kernel
theorem dX2_goesWhole_20 : decode cX2_goesWhole 20 = .ok (.aload_n 0, 1) := by decide +kernel
theorem dX2_goesWhole_21 : decode cX2_goesWhole 21 = .ok (.getfield 34, 3) := by decide +kernel
theorem dX2_goesWhole_24 : decode cX2_goesWhole 24 = .ok (.iload_n 2, 1) := by decide +kernel
theorem dX2_goesWhole_25 : decode cX2_goesWhole 25 = .ok (.aaload, 1) := by decide +kernel
theorem dX2_goesWhole_26 : decode cX2_goesWhole 26 = .ok (.astore_n 3, 1) := by decide +kernel
theorem dX2_goesWhole_27 : decode cX2_goesWhole 27 = .ok (.aload_n 0, 1) := by decide +kernel
theorem dX2_goesWhole_28 : decode cX2_goesWhole 28 = .ok (.aload_n 3, 1) := by decide +kernel
theorem dX2_goesWhole_29 : decode cX2_goesWhole 29 = .ok (.getfield 181, 3) := by decide +kernel
theorem dX2_goesWhole_32 : decode cX2_goesWhole 32 = .ok (.iload_n 1, 1) := by decide +kernel
theorem dX2_goesWhole_33 : decode cX2_goesWhole 33 = .ok (.invokevirtual 75, 3) := by decide +kernel
theorem dX2_goesWhole_36 : decode cX2_goesWhole 36 = .ok (.lstore 4, 2) := by decide +kernel
theorem dX2_goesWhole_38 : decode cX2_goesWhole 38 = .ok (.aload_n 0, 1) := by decide +kernel
theorem dX2_goesWhole_39 : decode cX2_goesWhole 39 = .ok (.getfield 44, 3) := by decide +kernel
theorem dX2_goesWhole_42 : decode cX2_goesWhole 42 = .ok (.ifCond .eq 18, 3) := by decide +kernel
theorem dX2_goesWhole_45 : decode cX2_goesWhole 45 = .ok (.aload_n 0, 1) := by decide +kernel
theorem dX2_goesWhole_46 : decode cX2_goesWhole 46 = .ok (.iload_n 2, 1) := by decide +kernel
theorem dX2_goesWhole_47 : decode cX2_goesWhole 47 = .ok (.putfield 51, 3) := by decide +kernel
theorem dX2_goesWhole_50 : decode cX2_goesWhole 50 = .ok (.aload_n 0, 1) := by decide +kernel
theorem dX2_goesWhole_51 : decode cX2_goesWhole 51 = .ok (.aload_n 0, 1) := by decide +kernel
theorem dX2_goesWhole_52 : decode cX2_goesWhole 52 = .ok (.getfield 44, 3) := by decide +kernel
theorem dX2_goesWhole_55 : decode cX2_goesWhole 55 = .ok (.putfield 54, 3) := by decide +kernel
theorem dX2_goesWhole_58 : decode cX2_goesWhole 58 = .ok (.iconst 0, 1) := by decide +kernel
theorem dX2_goesWhole_59 : decode cX2_goesWhole 59 = .ok (.ireturn, 1) := by decide +kernel
theorem dX2_goesWhole_60 : decode cX2_goesWhole 60 = .ok (.aload_n 0, 1) := by decide +kernel
theorem dX2_goesWhole_61 : decode cX2_goesWhole 61 = .ok (.aload_n 0, 1) := by decide +kernel
theorem dX2_goesWhole_62 : decode cX2_goesWhole 62 = .ok (.aload_n 3, 1) := by decide +kernel
theorem dX2_goesWhole_63 : decode cX2_goesWhole 63 = .ok (.lload 4, 2) := by decide +kernel
theorem dX2_goesWhole_65 : decode cX2_goesWhole 65 = .ok (.invokevirtual 184, 3) := by decide +kernel
theorem dX2_goesWhole_68 : decode cX2_goesWhole 68 = .ok (.putfield 57, 3) := by decide +kernel
theorem dX2_goesWhole_71 : decode cX2_goesWhole 71 = .ok (.iinc 2 1, 3) := by decide +kernel
theorem dX2_goesWhole_74 : decode cX2_goesWhole 74 = .ok (.goto (-72), 3) := by decide +kernel
theorem dX2_goesWhole_77 : decode cX2_goesWhole 77 = .ok (.iconst 1, 1) := by decide +kernel
theorem dX2_goesWhole_78 : decode cX2_goesWhole 78 = .ok (.ireturn, 1) := by decide +kernel
theorem dX2_letOver_0 : decode cX2_letOver 0 = .ok (.aload_n 0, 1) := by decide +kernel
theorem dX2_letOver_1 : decode cX2_letOver 1 = .ok (.aload_n 1, 1) := by decide +kernel
theorem dX2_letOver_2 : decode cX2_letOver 2 = .ok (.getfield 188, 3) := by decide +kernel
theorem dX2_letOver_5 : decode cX2_letOver 5 = .ok (.invokevirtual 151, 3) := by decide +kernel
theorem dX2_letOver_8 : decode cX2_letOver 8 = .ok (.istore 4, 2) := by decide +kernel
theorem dX2_letOver_10 : decode cX2_letOver 10 = .ok (.ldc 107, 2) := by decide +kernel
theorem dX2_letOver_12 : decode cX2_letOver 12 = .ok (.aload_n 0, 1) := by decide +kernel
theorem dX2_letOver_13 : decode cX2_letOver 13 = .ok (.aload_n 1, 1) := by decide +kernel
theorem dX2_letOver_14 : decode cX2_letOver 14 = .ok (.getfield 191, 3) := by decide +kernel
theorem dX2_letOver_17 : decode cX2_letOver 17 = .ok (.invokevirtual 151, 3) := by decide +kernel
theorem dX2_letOver_20 : decode cX2_letOver 20 = .ok (.isub, 1) := by decide +kernel
theorem dX2_letOver_21 : decode cX2_letOver 21 = .ok (.istore 5, 2) := by decide +kernel
theorem dX2_letOver_23 : decode cX2_letOver 23 = .ok (.lconst 0, 1) := by decide +kernel
theorem dX2_letOver_24 : decode cX2_letOver 24 = .ok (.lload_n 2, 1) := by decide +kernel
theorem dX2_letOver_25 : decode cX2_letOver 25 = .ok (.iload 4, 2) := by decide +kernel
theorem dX2_letOver_27 : decode cX2_letOver 27 = .ok (.iload 5, 2) := by decide +kernel
theorem dX2_letOver_29 : decode cX2_letOver 29 = .ok (.invokestatic 194, 3) := by decide +kernel
theorem dX2_letOver_32 : decode cX2_letOver 32 = .ok (.i2l, 1) := by decide +kernel
theorem dX2_letOver_33 : decode cX2_letOver 33 = .ok (.invokestatic 123, 3) := by decide +kernel
theorem dX2_letOver_36 : decode cX2_letOver 36 = .ok (.invokestatic 129, 3) := by decide +kernel
theorem dX2_letOver_39 : decode cX2_letOver 39 = .ok (.l2i, 1) := by decide +kernel
theorem dX2_letOver_40 : decode cX2_letOver 40 = .ok (.istore 6, 2) := by decide +kernel
theorem dX2_letOver_42 : decode cX2_letOver 42 = .ok (.aload_n 0, 1) := by decide +kernel
theorem dX2_letOver_43 : decode cX2_letOver 43 = .ok (.aload_n 1, 1) := by decide +kernel
theorem dX2_letOver_44 : decode cX2_letOver 44 = .ok (.getfield 188, 3) := by decide +kernel
theorem dX2_letOver_47 : decode cX2_letOver 47 = .ok (.iload 4, 2) := by decide +kernel
theorem dX2_letOver_49 : decode cX2_letOver 49 = .ok (.iload 6, 2) := by decide +kernel
theorem dX2_letOver_51 : decode cX2_letOver 51 = .ok (.isub, 1) := by decide +kernel
theorem dX2_letOver_52 : decode cX2_letOver 52 = .ok (.invokevirtual 197, 3) := by decide +kernel
theorem dX2_letOver_55 : decode cX2_letOver 55 = .ok (.pop, 1) := by decide +kernel
theorem dX2_letOver_56 : decode cX2_letOver 56 = .ok (.aload_n 0, 1) := by decide +kernel
theorem dX2_letOver_57 : decode cX2_letOver 57 = .ok (.aload_n 1, 1) := by decide +kernel
theorem dX2_letOver_58 : decode cX2_letOver 58 = .ok (.getfield 191, 3) := by decide +kernel
theorem dX2_letOver_61 : decode cX2_letOver 61 = .ok (.aload_n 0, 1) := by decide +kernel
theorem dX2_letOver_62 : decode cX2_letOver 62 = .ok (.aload_n 1, 1) := by decide +kernel
theorem dX2_letOver_63 : decode cX2_letOver 63 = .ok (.getfield 191, 3) := by decide +kernel
theorem dX2_letOver_66 : decode cX2_letOver 66 = .ok (.invokevirtual 151, 3) := by decide +kernel
theorem dX2_letOver_69 : decode cX2_letOver 69 = .ok (.iload 6, 2) := by decide +kernel
theorem dX2_letOver_71 : decode cX2_letOver 71 = .ok (.iadd, 1) := by decide +kernel
theorem dX2_letOver_72 : decode cX2_letOver 72 = .ok (.invokevirtual 197, 3) := by decide +kernel
theorem dX2_letOver_75 : decode cX2_letOver 75 = .ok (.pop, 1) := by decide +kernel
theorem dX2_letOver_76 : decode cX2_letOver 76 = .ok (.iload 6, 2) := by decide +kernel
theorem dX2_letOver_78 : decode cX2_letOver 78 = .ok (.ireturn, 1) := by decide +kernel
end
section
set_option maxRecDepth 20000 in
theorem ggX2_basin_X2_isLevel : GoodIn wsX2_basin wsX2_isLevel := goodIn_r _ [6, 7] (by rfl) (by decide +kernel)
set_option maxRecDepth 20000 in
theorem gX2_basin_X2_isLevel : GoodIn wsX2_basin (va_wsS RX2 60 yX2_isLevel wsX2_isLevel) := goodIn_app (goodIn_of _ (by decide +kernel)) ggX2_basin_X2_isLevel
set_option maxRecDepth 20000 in
theorem ggX2_fill_X2_isBasin : GoodIn wsX2_fill wsX2_isBasin := goodIn_r _ [6, 7, 1, 12, 13, 14, 15, 16, 17, 18, 19, 20, 21, 22, 23, 24, 25] (by rfl) (by decide +kernel)
set_option maxRecDepth 20000 in
theorem gX2_fill_X2_isBasin : GoodIn wsX2_fill (wsV RX2 64 RX2 yX2_isBasin wsX2_isBasin) := goodIn_app (goodIn_of _ (by decide +kernel)) ggX2_fill_X2_isBasin
set_option maxRecDepth 20000 in
theorem ggX2_fill_X2_isLevel : GoodIn wsX2_fill wsX2_isLevel := goodIn_r _ [10, 11] (by rfl) (by decide +kernel)
set_option maxRecDepth 20000 in
theorem gX2_fill_X2_isLevel : GoodIn wsX2_fill (va_wsS RX2 60 yX2_isLevel wsX2_isLevel) := goodIn_app (goodIn_of _ (by decide +kernel)) ggX2_fill_X2_isLevel
set_option maxRecDepth 20000 in
theorem ggX2_make_X2_hasKnownParts : GoodIn wsX2_make wsX2_hasKnownParts := goodIn_r _ [11, 12, 13, 14, 10, 15, 16, 17, 18, 19, 20, 21, 22, 23, 24, 25, 2, 26, 27, 28, 29, 30, 31, 32, 33, 34, 110, 111, 112, 113, 114, 115, 116, 117, 118, 119, 120, 121, 122, 123, 124, 125, 126, 127, 128, 129, 130, 131] (by rfl) (by decide +kernel)
set_option maxRecDepth 20000 in
theorem gX2_make_X2_hasKnownParts : GoodIn wsX2_make (wsV RX2 67 RX2 yX2_hasKnownParts wsX2_hasKnownParts) := goodIn_app (goodIn_of _ (by decide +kernel)) ggX2_make_X2_hasKnownParts
set_option maxRecDepth 20000 in
theorem ggX2_make_X2_hasFitNumbers : GoodIn wsX2_make wsX2_hasFitNumbers := goodIn_r _ [37] (by rfl) (by decide +kernel)
set_option maxRecDepth 20000 in
theorem gX2_make_X2_hasFitNumbers : GoodIn wsX2_make (va_wsS RX2 71 yX2_hasFitNumbers wsX2_hasFitNumbers) := goodIn_app (goodIn_of _ (by decide +kernel)) ggX2_make_X2_hasFitNumbers
set_option maxRecDepth 20000 in
theorem ggX2_make_X2_askByCall : GoodIn wsX2_make wsX2_askByCall := goodIn_r _ [41, 42, 3, 43, 44, 45, 10, 46, 47, 48, 49, 50, 51, 52, 53, 54, 55, 56, 57, 22, 23, 24, 25, 2, 58, 59, 60, 61, 62, 63, 64, 65, 66, 67, 68, 69, 70, 71, 34, 30, 31, 32, 33, 72, 73, 74, 75, 76, 77, 78, 79, 17, 12, 13, 14, 15, 16, 80, 81, 82, 83, 84, 85, 86, 87, 88, 89, 90, 91, 92, 93, 94, 95, 96, 26, 27, 28, 29, 110, 111, 112, 113, 114, 115, 116, 117, 118, 119, 120, 121, 122, 123, 124, 125, 126, 127, 128, 129, 130, 131] (by rfl) (by decide +kernel)
set_option maxRecDepth 20000 in
theorem gX2_make_X2_askByCall : GoodIn wsX2_make (wsV RX2 75 RX2 yX2_askByCall wsX2_askByCall) := goodIn_app (goodIn_of _ (by decide +kernel)) ggX2_make_X2_askByCall
set_option maxRecDepth 20000 in
theorem ggX2_make_X0_init : GoodIn wsX2_make wsX0_init := goodIn_r _ [98, 99, 100, 101, 102, 103, 104, 105, 106, 107, 108, 109, 124, 125, 126, 127, 128, 129, 130, 131] (by rfl) (by decide +kernel)
set_option maxRecDepth 20000 in
theorem gX2_make_X0_init_n79 : GoodIn wsX2_make (wsX0_init) := ggX2_make_X0_init
set_option maxRecDepth 20000 in
theorem ggX2_put_X2_isSlot : GoodIn wsX2_put wsX2_isSlot := goodIn_r _ [6, 1, 16, 17, 18, 19, 20, 21, 22, 23, 24, 25, 26, 27, 28, 29] (by rfl) (by decide +kernel)
set_option maxRecDepth 20000 in
theorem gX2_put_X2_isSlot : GoodIn wsX2_put (wsV RX2 85 RX2 yX2_isSlot wsX2_isSlot) := goodIn_app (goodIn_of _ (by decide +kernel)) ggX2_put_X2_isSlot
set_option maxRecDepth 20000 in
theorem ggX2_put_X2_isRuleOrNone : GoodIn wsX2_put wsX2_isRuleOrNone := goodIn_r _ [10, 11, 12, 13, 5, 14, 15, 16, 17, 18, 19, 20, 21, 22, 23, 24, 25, 26, 27, 28, 29] (by rfl) (by decide +kernel)
set_option maxRecDepth 20000 in
theorem gX2_put_X2_isRuleOrNone : GoodIn wsX2_put (wsV RX2 88 RX2 yX2_isRuleOrNone wsX2_isRuleOrNone) := goodIn_app (goodIn_of _ (by decide +kernel)) ggX2_put_X2_isRuleOrNone
set_option maxRecDepth 20000 in
theorem ggX2_ask_X2_ruleAt : GoodIn wsX2_ask wsX2_ruleAt := goodIn_r _ [7, 8, 83, 84, 85, 86, 87, 88, 89, 90, 91, 92, 93, 94, 95, 96] (by rfl) (by decide +kernel)
set_option maxRecDepth 20000 in
theorem gX2_ask_X2_ruleAt : GoodIn wsX2_ask (wsV RX2 91 RX2 yX2_ruleAt wsX2_ruleAt) := goodIn_app (goodIn_of _ (by decide +kernel)) ggX2_ask_X2_ruleAt
set_option maxRecDepth 20000 in
theorem ggX2_ask_X2_askByCall : GoodIn wsX2_ask wsX2_askByCall := goodIn_r _ [12, 13, 1, 14, 15, 16, 6, 17, 18, 19, 20, 21, 22, 23, 24, 25, 26, 27, 28, 3, 4, 5, 7, 8, 29, 30, 31, 32, 33, 34, 35, 36, 37, 38, 39, 40, 41, 42, 43, 44, 45, 46, 47, 48, 49, 50, 51, 52, 53, 54, 55, 56, 57, 58, 59, 60, 61, 62, 63, 64, 65, 66, 67, 68, 69, 70, 71, 72, 73, 74, 75, 76, 77, 78, 79, 80, 81, 82, 83, 84, 85, 86, 87, 88, 89, 90, 91, 92, 93, 94, 95, 96, 97, 98, 99, 100, 101, 102, 103, 104] (by rfl) (by decide +kernel)
set_option maxRecDepth 20000 in
theorem gX2_ask_X2_askByCall : GoodIn wsX2_ask (wsV RX2 75 RX2 yX2_askByCall wsX2_askByCall) := goodIn_app (goodIn_of _ (by decide +kernel)) ggX2_ask_X2_askByCall
set_option maxRecDepth 20000 in
theorem ggX2_sluice_X2_isBasin : GoodIn wsX2_sluice wsX2_isBasin := goodIn_r _ [10, 11, 12, 26, 27, 28, 29, 30, 31, 32, 33, 34, 35, 36, 37, 38, 39] (by rfl) (by decide +kernel)
set_option maxRecDepth 20000 in
theorem gX2_sluice_X2_isBasin : GoodIn wsX2_sluice (wsV RX2 64 RX2 yX2_isBasin wsX2_isBasin) := goodIn_app (goodIn_of _ (by decide +kernel)) ggX2_sluice_X2_isBasin
set_option maxRecDepth 20000 in
theorem ggX2_sluice_X2_ruleAt : GoodIn wsX2_sluice wsX2_ruleAt := goodIn_r _ [16, 17, 26, 27, 28, 29, 30, 31, 32, 33, 34, 35, 36, 37, 38, 39] (by rfl) (by decide +kernel)
set_option maxRecDepth 20000 in
theorem gX2_sluice_X2_ruleAt : GoodIn wsX2_sluice (wsV RX2 91 RX2 yX2_ruleAt wsX2_ruleAt) := goodIn_app (goodIn_of _ (by decide +kernel)) ggX2_sluice_X2_ruleAt
set_option maxRecDepth 20000 in
theorem ggX2_sluice_X1_init : GoodIn wsX2_sluice wsX1_init := goodIn_r _ [19, 20, 21, 22, 23, 24, 25, 40, 41, 42] (by rfl) (by decide +kernel)
set_option maxRecDepth 20000 in
theorem gX2_sluice_X1_init_n95 : GoodIn wsX2_sluice (wsX1_init) := ggX2_sluice_X1_init
set_option maxRecDepth 20000 in
theorem ggX2_run_X2_goesWhole : GoodIn wsX2_run wsX2_goesWhole := goodIn_r _ [8, 9, 10, 1, 2, 3, 11, 12, 13, 7, 14, 15, 16, 17, 18, 19, 20, 21, 22, 23, 24, 25, 26, 27, 28, 29, 30, 31, 32, 33, 34, 35, 36, 37, 38, 39, 40, 41, 42, 43, 44, 45, 46, 47, 48, 49, 50, 51, 52, 53, 54, 55, 56, 57, 58, 59, 60, 61, 62, 63, 64, 65, 66, 67, 68, 69, 70, 71, 72, 73, 74, 75, 76, 77, 78, 79, 80, 81, 82, 83, 84, 85, 86, 87, 88, 89, 90, 91, 92, 93, 94, 95, 96, 97, 98, 99, 100, 101, 102, 103, 104, 105, 106, 107, 108, 109, 110, 111, 112, 113, 114, 115, 116, 117, 118, 119, 120, 121, 122, 123, 124, 125, 126, 127, 128, 129] (by rfl) (by decide +kernel)
set_option maxRecDepth 20000 in
theorem gX2_run_X2_goesWhole : GoodIn wsX2_run (wsV RX2 98 RX2 yX2_goesWhole wsX2_goesWhole) := goodIn_app (goodIn_of _ (by decide +kernel)) ggX2_run_X2_goesWhole
set_option maxRecDepth 20000 in
theorem ggX2_level_X2_isBasin : GoodIn wsX2_level wsX2_isBasin := goodIn_r _ [6, 7, 1, 8, 9, 10, 11, 12, 13, 14, 15, 16, 17, 18, 19, 20, 21] (by rfl) (by decide +kernel)
set_option maxRecDepth 20000 in
theorem gX2_level_X2_isBasin : GoodIn wsX2_level (wsV RX2 64 RX2 yX2_isBasin wsX2_isBasin) := goodIn_app (goodIn_of _ (by decide +kernel)) ggX2_level_X2_isBasin
set_option maxRecDepth 20000 in
theorem ggX2_counted_X2_countedAt : GoodIn wsX2_counted wsX2_countedAt := goodIn_r _ [5, 6, 7, 8, 4, 9, 10, 11, 12, 13, 14, 15, 16, 17, 18, 19, 20, 21, 22, 23, 24, 25, 26, 27, 28, 29, 30, 31, 32] (by rfl) (by decide +kernel)
set_option maxRecDepth 20000 in
theorem gX2_counted_X2_countedAt : GoodIn wsX2_counted (wsV RX2 101 RX2 yX2_countedAt wsX2_countedAt) := goodIn_app (goodIn_of _ (by decide +kernel)) ggX2_counted_X2_countedAt
set_option maxRecDepth 20000 in
theorem ggX2_count_X2_isSlot : GoodIn wsX2_count wsX2_isSlot := goodIn_r _ [10, 5, 11, 12, 13, 14, 15, 16, 17, 18, 19, 20, 21, 22, 23, 24] (by rfl) (by decide +kernel)
set_option maxRecDepth 20000 in
theorem gX2_count_X2_isSlot : GoodIn wsX2_count (wsV RX2 85 RX2 yX2_isSlot wsX2_isSlot) := goodIn_app (goodIn_of _ (by decide +kernel)) ggX2_count_X2_isSlot
set_option maxRecDepth 20000 in
theorem ggX2_isRuleOrNone_X2_ruleAt : GoodIn wsX2_isRuleOrNone wsX2_ruleAt := goodIn_r _ [5, 6, 7, 8, 9, 10, 11, 12, 13, 14, 15, 16, 17, 18, 19, 20] (by rfl) (by decide +kernel)
set_option maxRecDepth 20000 in
theorem gX2_isRuleOrNone_X2_ruleAt : GoodIn wsX2_isRuleOrNone (wsV RX2 91 RX2 yX2_ruleAt wsX2_ruleAt) := goodIn_app (goodIn_of _ (by decide +kernel)) ggX2_isRuleOrNone_X2_ruleAt
set_option maxRecDepth 20000 in
theorem ggX2_countedAt_X2_ruleAt : GoodIn wsX2_countedAt wsX2_ruleAt := goodIn_r _ [5, 6, 15, 16, 17, 18, 19, 20, 21, 22, 23, 24, 25, 26, 27, 28] (by rfl) (by decide +kernel)
set_option maxRecDepth 20000 in
theorem gX2_countedAt_X2_ruleAt : GoodIn wsX2_countedAt (wsV RX2 91 RX2 yX2_ruleAt wsX2_ruleAt) := goodIn_app (goodIn_of _ (by decide +kernel)) ggX2_countedAt_X2_ruleAt
set_option maxRecDepth 20000 in
theorem ggX2_ruleInSlot_X2_isSlot : GoodIn wsX2_ruleInSlot wsX2_isSlot := goodIn_r _ [6, 1, 7, 8, 9, 10, 11, 12, 13, 14, 15, 16, 17, 18, 19, 20] (by rfl) (by decide +kernel)
set_option maxRecDepth 20000 in
theorem gX2_ruleInSlot_X2_isSlot : GoodIn wsX2_ruleInSlot (wsV RX2 85 RX2 yX2_isSlot wsX2_isSlot) := goodIn_app (goodIn_of _ (by decide +kernel)) ggX2_ruleInSlot_X2_isSlot
set_option maxRecDepth 20000 in
theorem ggX2_hasKnownParts_X2_isBasin : GoodIn wsX2_hasKnownParts wsX2_isBasin := goodIn_r _ [5, 6, 7, 26, 27, 28, 29, 30, 31, 32, 33, 34, 35, 36, 37, 38, 39] (by rfl) (by decide +kernel)
set_option maxRecDepth 20000 in
theorem gX2_hasKnownParts_X2_isBasin : GoodIn wsX2_hasKnownParts (wsV RX2 64 RX2 yX2_isBasin wsX2_isBasin) := goodIn_app (goodIn_of _ (by decide +kernel)) ggX2_hasKnownParts_X2_isBasin
set_option maxRecDepth 20000 in
theorem ggX2_hasKnownParts_X2_isRuleOrNone : GoodIn wsX2_hasKnownParts wsX2_isRuleOrNone := goodIn_r _ [11, 12, 13, 14, 4, 15, 16, 26, 27, 28, 29, 30, 31, 32, 33, 34, 35, 36, 37, 38, 39] (by rfl) (by decide +kernel)
set_option maxRecDepth 20000 in
theorem gX2_hasKnownParts_X2_isRuleOrNone : GoodIn wsX2_hasKnownParts (wsV RX2 88 RX2 yX2_isRuleOrNone wsX2_isRuleOrNone) := goodIn_app (goodIn_of _ (by decide +kernel)) ggX2_hasKnownParts_X2_isRuleOrNone
set_option maxRecDepth 20000 in
theorem ggX2_hasKnownParts_X2_countedAt : GoodIn wsX2_hasKnownParts wsX2_countedAt := goodIn_r _ [20, 12, 13, 14, 4, 15, 16, 40, 41, 42, 43, 44, 45, 46, 47, 26, 27, 28, 29, 30, 31, 32, 33, 34, 35, 36, 37, 38, 39] (by rfl) (by decide +kernel)
set_option maxRecDepth 20000 in
theorem gX2_hasKnownParts_X2_countedAt : GoodIn wsX2_hasKnownParts (wsV RX2 101 RX2 yX2_countedAt wsX2_countedAt) := goodIn_app (goodIn_of _ (by decide +kernel)) ggX2_hasKnownParts_X2_countedAt
set_option maxRecDepth 20000 in
theorem ggX2_hasKnownParts_X2_isSlot : GoodIn wsX2_hasKnownParts wsX2_isSlot := goodIn_r _ [24, 25, 26, 27, 28, 29, 30, 31, 32, 33, 34, 35, 36, 37, 38, 39] (by rfl) (by decide +kernel)
set_option maxRecDepth 20000 in
theorem gX2_hasKnownParts_X2_isSlot : GoodIn wsX2_hasKnownParts (wsV RX2 85 RX2 yX2_isSlot wsX2_isSlot) := goodIn_app (goodIn_of _ (by decide +kernel)) ggX2_hasKnownParts_X2_isSlot
set_option maxRecDepth 20000 in
theorem ggX2_askByCall_X2_valueOf : GoodIn wsX2_askByCall wsX2_valueOf := goodIn_r _ [7, 8, 9, 10, 11, 12, 13, 14, 15, 16, 17, 6, 18, 2, 1, 19, 20, 21, 22, 23, 3, 4, 5, 24, 25, 26, 27, 28, 29, 30, 31, 32, 33, 34, 35, 36, 37, 38, 39, 40, 41, 42, 43, 44, 45, 46, 47, 48, 49, 50, 51, 52, 53, 54, 55, 56, 57, 58, 59, 60, 61, 62, 63, 64, 65, 66, 67, 68, 69, 70, 71, 72, 73, 74, 75, 76, 77, 92, 93, 94, 95, 96, 97, 98, 99, 78, 79, 80, 81, 82, 83, 84, 85, 86, 87, 88, 89, 90, 91] (by rfl) (by decide +kernel)
set_option maxRecDepth 20000 in
theorem gX2_askByCall_X2_valueOf : GoodIn wsX2_askByCall (wsV RX2 111 RX2 yX2_valueOf wsX2_valueOf) := goodIn_app (goodIn_of _ (by decide +kernel)) ggX2_askByCall_X2_valueOf
set_option maxRecDepth 20000 in
theorem ggX2_valueOf_X2_stepTo : GoodIn wsX2_valueOf wsX2_stepTo := goodIn_r _ [12, 13, 14, 15, 16, 17, 11, 18, 19, 85, 86, 87, 88, 89, 90, 91, 92, 93, 94, 95, 96, 97, 98] (by rfl) (by decide +kernel)
set_option maxRecDepth 20000 in
theorem gX2_valueOf_X2_stepTo : GoodIn wsX2_valueOf (wsV RX2 114 RX2 yX2_stepTo wsX2_stepTo) := goodIn_app (goodIn_of _ (by decide +kernel)) ggX2_valueOf_X2_stepTo
set_option maxRecDepth 20000 in
theorem ggX2_valueOf_X2_valueOf : GoodIn wsX2_valueOf wsX2_valueOf := goodIn_r _ [0, 1, 2, 3, 4, 5, 6, 7, 8, 9, 10, 11, 12, 13, 14, 15, 16, 17, 18, 19, 20, 21, 22, 23, 24, 25, 26, 27, 28, 29, 30, 31, 32, 33, 34, 35, 36, 37, 38, 39, 40, 41, 42, 43, 44, 45, 46, 47, 48, 49, 50, 51, 52, 53, 54, 55, 56, 57, 58, 59, 60, 61, 62, 63, 64, 65, 66, 67, 68, 69, 70, 71, 72, 73, 74, 75, 76, 77, 78, 79, 80, 81, 82, 83, 84, 85, 86, 87, 88, 89, 90, 91, 92, 93, 94, 95, 96, 97, 98] (by rfl) (by decide +kernel)
set_option maxRecDepth 20000 in
theorem gX2_valueOf_X2_valueOf : GoodIn wsX2_valueOf (wsV RX2 111 RX2 yX2_valueOf wsX2_valueOf) := goodIn_app (goodIn_of _ (by decide +kernel)) ggX2_valueOf_X2_valueOf
set_option maxRecDepth 20000 in
theorem ggX2_valueOf_X2_scaled : GoodIn wsX2_valueOf wsX2_scaled := goodIn_r _ [25, 26, 27, 28, 29] (by rfl) (by decide +kernel)
set_option maxRecDepth 20000 in
theorem gX2_valueOf_X2_scaled : GoodIn wsX2_valueOf (va_wsS RX2 135 yX2_scaled wsX2_scaled) := goodIn_app (goodIn_of _ (by decide +kernel)) ggX2_valueOf_X2_scaled
set_option maxRecDepth 20000 in
theorem ggX2_valueOf_X2_banded : GoodIn wsX2_valueOf wsX2_banded := goodIn_r _ [32, 77, 78, 79, 80, 81, 82, 83, 84] (by rfl) (by decide +kernel)
set_option maxRecDepth 20000 in
theorem gX2_valueOf_X2_banded : GoodIn wsX2_valueOf (va_wsS RX2 139 yX2_banded wsX2_banded) := goodIn_app (goodIn_of _ (by decide +kernel)) ggX2_valueOf_X2_banded
set_option maxRecDepth 20000 in
theorem ggX2_valueOf_X2_ruleInSlot : GoodIn wsX2_valueOf wsX2_ruleInSlot := goodIn_r _ [36, 37, 38, 39, 40, 11, 41, 85, 86, 87, 88, 89, 90, 91, 92, 93, 94, 95, 96, 97, 98] (by rfl) (by decide +kernel)
set_option maxRecDepth 20000 in
theorem gX2_valueOf_X2_ruleInSlot : GoodIn wsX2_valueOf (wsV RX2 143 RX2 yX2_ruleInSlot wsX2_ruleInSlot) := goodIn_app (goodIn_of _ (by decide +kernel)) ggX2_valueOf_X2_ruleInSlot
set_option maxRecDepth 20000 in
theorem ggX2_valueOf_X2_valueOfLeaf : GoodIn wsX2_valueOf wsX2_valueOfLeaf := goodIn_r _ [45, 46, 47, 48, 11, 49, 50, 51, 52, 53, 54, 55, 56, 57, 58, 59, 60, 61, 62, 63, 64, 3, 65, 66, 67, 28, 68, 69, 70, 71, 72, 73, 74, 75, 76, 15, 16, 17, 18, 19, 77, 78, 79, 80, 81, 82, 83, 84, 85, 86, 87, 88, 89, 90, 91, 92, 93, 94, 95, 96, 97, 98] (by rfl) (by decide +kernel)
set_option maxRecDepth 20000 in
theorem gX2_valueOf_X2_valueOfLeaf : GoodIn wsX2_valueOf (wsV RX2 147 RX2 yX2_valueOfLeaf wsX2_valueOfLeaf) := goodIn_app (goodIn_of _ (by decide +kernel)) ggX2_valueOf_X2_valueOfLeaf
set_option maxRecDepth 20000 in
theorem ggX2_stepTo_X2_ruleAt : GoodIn wsX2_stepTo wsX2_ruleAt := goodIn_r _ [7, 8, 9, 10, 11, 12, 13, 14, 15, 16, 17, 18, 19, 20, 21, 22] (by rfl) (by decide +kernel)
set_option maxRecDepth 20000 in
theorem gX2_stepTo_X2_ruleAt : GoodIn wsX2_stepTo (wsV RX2 91 RX2 yX2_ruleAt wsX2_ruleAt) := goodIn_app (goodIn_of _ (by decide +kernel)) ggX2_stepTo_X2_ruleAt
set_option maxRecDepth 20000 in
theorem ggX2_valueOfLeaf_X2_level : GoodIn wsX2_valueOfLeaf wsX2_level := goodIn_r _ [5, 6, 7, 8, 9, 4, 10, 11, 48, 49, 50, 51, 52, 53, 54, 55, 56, 57, 58, 59, 60, 61] (by rfl) (by decide +kernel)
set_option maxRecDepth 20000 in
theorem gX2_valueOfLeaf_X2_level : GoodIn wsX2_valueOfLeaf (wsV RX2 151 RX2 yX2_level wsX2_level) := goodIn_app (goodIn_of _ (by decide +kernel)) ggX2_valueOfLeaf_X2_level
set_option maxRecDepth 20000 in
theorem ggX2_valueOfLeaf_X2_tide : GoodIn wsX2_valueOfLeaf wsX2_tide := goodIn_r _ [15, 16, 17, 18, 19, 20, 21, 22, 23, 24, 25, 26, 48, 49, 50, 51, 52, 53, 54, 55, 56, 57, 58, 59, 60, 61] (by rfl) (by decide +kernel)
set_option maxRecDepth 20000 in
theorem gX2_valueOfLeaf_X2_tide : GoodIn wsX2_valueOfLeaf (wsV RX2 154 RX2 yX2_tide wsX2_tide) := goodIn_app (goodIn_of _ (by decide +kernel)) ggX2_valueOfLeaf_X2_tide
set_option maxRecDepth 20000 in
theorem ggX2_valueOfLeaf_X2_counted : GoodIn wsX2_valueOfLeaf wsX2_counted := goodIn_r _ [30, 31, 32, 33, 4, 34, 35, 36, 37, 38, 39, 40, 41, 42, 43, 44, 45, 46, 47, 48, 49, 50, 51, 52, 53, 54, 55, 56, 57, 58, 59, 60, 61] (by rfl) (by decide +kernel)
set_option maxRecDepth 20000 in
theorem gX2_valueOfLeaf_X2_counted : GoodIn wsX2_valueOfLeaf (wsV RX2 158 RX2 yX2_counted wsX2_counted) := goodIn_app (goodIn_of _ (by decide +kernel)) ggX2_valueOfLeaf_X2_counted
set_option maxRecDepth 20000 in
theorem ggX2_tide_J9_floorMod_f86c9 : GoodIn wsX2_tide wsJ9_floorMod_f86c9 := goodIn_r _ [11] (by rfl) (by decide +kernel)
set_option maxRecDepth 20000 in
theorem gX2_tide_J9_floorMod_f86c9 : GoodIn wsX2_tide (va_wsS RX2 163 yJ9_floorMod_f86c9 wsJ9_floorMod_f86c9) := goodIn_app (goodIn_of _ (by decide +kernel)) ggX2_tide_J9_floorMod_f86c9
set_option maxRecDepth 20000 in
theorem ggX2_scaled_J9_floorDiv_f86c9 : GoodIn wsX2_scaled wsJ9_floorDiv_f86c9 := goodIn_r _ [4] (by rfl) (by decide +kernel)
set_option maxRecDepth 20000 in
theorem gX2_scaled_J9_floorDiv_f86c9 : GoodIn wsX2_scaled (va_wsS RX2 172 yJ9_floorDiv_f86c9 wsJ9_floorDiv_f86c9) := goodIn_app (goodIn_of _ (by decide +kernel)) ggX2_scaled_J9_floorDiv_f86c9
set_option maxRecDepth 20000 in
theorem ggX2_goesWhole_X2_askByCall : GoodIn wsX2_goesWhole wsX2_askByCall := goodIn_r _ [10, 11, 2, 12, 13, 14, 9, 15, 16, 17, 18, 19, 20, 21, 22, 23, 24, 25, 26, 27, 28, 29, 30, 31, 32, 33, 34, 35, 36, 37, 38, 39, 40, 41, 42, 43, 44, 45, 46, 47, 48, 49, 50, 51, 52, 53, 54, 55, 56, 57, 58, 59, 60, 61, 62, 63, 64, 65, 66, 67, 68, 69, 70, 71, 72, 73, 74, 75, 76, 77, 78, 79, 80, 81, 82, 83, 84, 85, 101, 102, 103, 104, 105, 106, 107, 108, 109, 110, 111, 112, 113, 114, 118, 119, 120, 121, 122, 123, 124, 125] (by rfl) (by decide +kernel)
set_option maxRecDepth 20000 in
theorem gX2_goesWhole_X2_askByCall : GoodIn wsX2_goesWhole (wsV RX2 75 RX2 yX2_askByCall wsX2_askByCall) := goodIn_app (goodIn_of _ (by decide +kernel)) ggX2_goesWhole_X2_askByCall
set_option maxRecDepth 20000 in
theorem ggX2_goesWhole_X2_letOver : GoodIn wsX2_goesWhole wsX2_letOver := goodIn_r _ [89, 90, 91, 92, 18, 93, 16, 17, 19, 20, 21, 22, 55, 56, 57, 9, 58, 59, 60, 61, 62, 63, 64, 94, 95, 96, 97, 98, 99, 100, 115, 116, 117, 101, 102, 103, 104, 105, 106, 107, 108, 109, 110, 111, 112, 113, 114] (by rfl) (by decide +kernel)
set_option maxRecDepth 20000 in
theorem gX2_goesWhole_X2_letOver : GoodIn wsX2_goesWhole (wsV RX2 184 RX2 yX2_letOver wsX2_letOver) := goodIn_app (goodIn_of _ (by decide +kernel)) ggX2_goesWhole_X2_letOver
set_option maxRecDepth 20000 in
theorem ggX2_letOver_X2_level : GoodIn wsX2_letOver wsX2_level := goodIn_r _ [16, 17, 18, 19, 20, 15, 21, 22, 33, 34, 35, 36, 37, 38, 39, 40, 41, 42, 43, 44, 45, 46] (by rfl) (by decide +kernel)
set_option maxRecDepth 20000 in
theorem gX2_letOver_X2_level : GoodIn wsX2_letOver (wsV RX2 151 RX2 yX2_level wsX2_level) := goodIn_app (goodIn_of _ (by decide +kernel)) ggX2_letOver_X2_level
set_option maxRecDepth 20000 in
theorem ggX2_letOver_X2_fill : GoodIn wsX2_letOver wsX2_fill := goodIn_r _ [26, 17, 18, 19, 20, 15, 21, 22, 27, 28, 29, 1, 33, 34, 35, 36, 37, 38, 39, 40, 41, 42, 43, 44, 45, 46] (by rfl) (by decide +kernel)
set_option maxRecDepth 20000 in
theorem gX2_letOver_X2_fill : GoodIn wsX2_letOver (wsV RX2 197 RX2 yX2_fill wsX2_fill) := goodIn_app (goodIn_of _ (by decide +kernel)) ggX2_letOver_X2_fill
end
section
theorem dX3_init_0 : decode cX3_init 0 = .ok (.aload_n 0, 1) := by decide +kernel
theorem dX3_init_1 : decode cX3_init 1 = .ok (.invokespecial 1, 3) := by decide +kernel
theorem dX3_init_4 : decode cX3_init 4 = .ok (.aload_n 0, 1) := by decide +kernel
theorem dX3_init_5 : decode cX3_init 5 = .ok (.bipush 8, 2) := by decide +kernel
theorem dX3_init_7 : decode cX3_init 7 = .ok (.newarray .int, 2) := by decide +kernel
theorem dX3_init_9 : decode cX3_init 9 = .ok (.putfield 7, 3) := by decide +kernel
theorem dX3_init_12 : decode cX3_init 12 = .ok (.aload_n 0, 1) := by decide +kernel
theorem dX3_init_13 : decode cX3_init 13 = .ok (.iconst 1, 1) := by decide +kernel
theorem dX3_init_14 : decode cX3_init 14 = .ok (.putfield 13, 3) := by decide +kernel
theorem dX3_init_17 : decode cX3_init 17 = .ok (.aload_n 0, 1) := by decide +kernel
theorem dX3_init_18 : decode cX3_init 18 = .ok (.bipush 8, 2) := by decide +kernel
theorem dX3_init_20 : decode cX3_init 20 = .ok (.newarray .int, 2) := by decide +kernel
theorem dX3_init_22 : decode cX3_init 22 = .ok (.putfield 17, 3) := by decide +kernel
theorem dX3_init_25 : decode cX3_init 25 = .ok (.aload_n 0, 1) := by decide +kernel
theorem dX3_init_26 : decode cX3_init 26 = .ok (.bipush 40, 2) := by decide +kernel
theorem dX3_init_28 : decode cX3_init 28 = .ok (.newarray .int, 2) := by decide +kernel
theorem dX3_init_30 : decode cX3_init 30 = .ok (.putfield 20, 3) := by decide +kernel
theorem dX3_init_33 : decode cX3_init 33 = .ok (.aload_n 0, 1) := by decide +kernel
theorem dX3_init_34 : decode cX3_init 34 = .ok (.sipush 200, 3) := by decide +kernel
theorem dX3_init_37 : decode cX3_init 37 = .ok (.newarray .int, 2) := by decide +kernel
theorem dX3_init_39 : decode cX3_init 39 = .ok (.putfield 23, 3) := by decide +kernel
theorem dX3_init_42 : decode cX3_init 42 = .ok (.aload_n 0, 1) := by decide +kernel
theorem dX3_init_43 : decode cX3_init 43 = .ok (.bipush 40, 2) := by decide +kernel
theorem dX3_init_45 : decode cX3_init 45 = .ok (.newarray .long, 2) := by decide +kernel
theorem dX3_init_47 : decode cX3_init 47 = .ok (.putfield 26, 3) := by decide +kernel
theorem dX3_init_50 : decode cX3_init 50 = .ok (.aload_n 0, 1) := by decide +kernel
theorem dX3_init_51 : decode cX3_init 51 = .ok (.bipush 40, 2) := by decide +kernel
theorem dX3_init_53 : decode cX3_init 53 = .ok (.newarray .int, 2) := by decide +kernel
theorem dX3_init_55 : decode cX3_init 55 = .ok (.putfield 30, 3) := by decide +kernel
theorem dX3_init_58 : decode cX3_init 58 = .ok (.aload_n 0, 1) := by decide +kernel
theorem dX3_init_59 : decode cX3_init 59 = .ok (.bipush 8, 2) := by decide +kernel
theorem dX3_init_61 : decode cX3_init 61 = .ok (.newarray .int, 2) := by decide +kernel
theorem dX3_init_63 : decode cX3_init 63 = .ok (.putfield 33, 3) := by decide +kernel
theorem dX3_init_66 : decode cX3_init 66 = .ok (.aload_n 0, 1) := by decide +kernel
theorem dX3_init_67 : decode cX3_init 67 = .ok (.bipush 8, 2) := by decide +kernel
theorem dX3_init_69 : decode cX3_init 69 = .ok (.newarray .int, 2) := by decide +kernel
theorem dX3_init_71 : decode cX3_init 71 = .ok (.putfield 36, 3) := by decide +kernel
theorem dX3_init_74 : decode cX3_init 74 = .ok (.aload_n 0, 1) := by decide +kernel
theorem dX3_init_75 : decode cX3_init 75 = .ok (.bipush 8, 2) := by decide +kernel
theorem dX3_init_77 : decode cX3_init 77 = .ok (.newarray .int, 2) := by decide +kernel
theorem dX3_init_79 : decode cX3_init 79 = .ok (.putfield 39, 3) := by decide +kernel
theorem dX3_init_82 : decode cX3_init 82 = .ok (.aload_n 0, 1) := by decide +kernel
theorem dX3_init_83 : decode cX3_init 83 = .ok (.bipush 120, 2) := by decide +kernel
theorem dX3_init_85 : decode cX3_init 85 = .ok (.newarray .int, 2) := by decide +kernel
theorem dX3_init_87 : decode cX3_init 87 = .ok (.putfield 42, 3) := by decide +kernel
theorem dX3_init_90 : decode cX3_init 90 = .ok (.aload_n 0, 1) := by decide +kernel
theorem dX3_init_91 : decode cX3_init 91 = .ok (.bipush 120, 2) := by decide +kernel
theorem dX3_init_93 : decode cX3_init 93 = .ok (.newarray .int, 2) := by decide +kernel
theorem dX3_init_95 : decode cX3_init 95 = .ok (.putfield 45, 3) := by decide +kernel
theorem dX3_init_98 : decode cX3_init 98 = .ok (.aload_n 0, 1) := by decide +kernel
theorem dX3_init_99 : decode cX3_init 99 = .ok (.bipush 120, 2) := by decide +kernel
theorem dX3_init_101 : decode cX3_init 101 = .ok (.newarray .int, 2) := by decide +kernel
theorem dX3_init_103 : decode cX3_init 103 = .ok (.putfield 48, 3) := by decide +kernel
theorem dX3_init_106 : decode cX3_init 106 = .ok (.aload_n 0, 1) := by decide +kernel
theorem dX3_init_107 : decode cX3_init 107 = .ok (.bipush 120, 2) := by decide +kernel
theorem dX3_init_109 : decode cX3_init 109 = .ok (.newarray .long, 2) := by decide +kernel
theorem dX3_init_111 : decode cX3_init 111 = .ok (.putfield 51, 3) := by decide +kernel
theorem dX3_init_114 : decode cX3_init 114 = .ok (.aload_n 0, 1) := by decide +kernel
theorem dX3_init_115 : decode cX3_init 115 = .ok (.iconst (-1), 1) := by decide +kernel
theorem dX3_init_116 : decode cX3_init 116 = .ok (.putfield 54, 3) := by decide +kernel
theorem dX3_init_119 : decode cX3_init 119 = .ok (.iconst 0, 1) := by decide +kernel
theorem dX3_init_120 : decode cX3_init 120 = .ok (.istore_n 1, 1) := by decide +kernel
theorem dX3_init_121 : decode cX3_init 121 = .ok (.iload_n 1, 1) := by decide +kernel
theorem dX3_init_122 : decode cX3_init 122 = .ok (.bipush 8, 2) := by decide +kernel
theorem dX3_init_124 : decode cX3_init 124 = .ok (.if_icmp .ge 16, 3) := by decide +kernel
theorem dX3_init_127 : decode cX3_init 127 = .ok (.aload_n 0, 1) := by decide +kernel
theorem dX3_init_128 : decode cX3_init 128 = .ok (.getfield 17, 3) := by decide +kernel
theorem dX3_init_131 : decode cX3_init 131 = .ok (.iload_n 1, 1) := by decide +kernel
theorem dX3_init_132 : decode cX3_init 132 = .ok (.iconst (-1), 1) := by decide +kernel
theorem dX3_init_133 : decode cX3_init 133 = .ok (.iastore, 1) := by decide +kernel
theorem dX3_init_134 : decode cX3_init 134 = .ok (.iinc 1 1, 3) := by decide +kernel
theorem dX3_init_137 : decode cX3_init 137 = .ok (.goto (-16), 3) := by decide +kernel
theorem dX3_init_140 : decode cX3_init 140 = .ok (.return_, 1) := by decide +kernel
theorem dX3_in_0 : decode cX3_in 0 = .ok (.iload_n 0, 1) := by decide +kernel
theorem dX3_in_1 : decode cX3_in 1 = .ok (.iload_n 1, 1) := by decide +kernel
theorem dX3_in_2 : decode cX3_in 2 = .ok (.if_icmp .lt 12, 3) := by decide +kernel
theorem dX3_in_5 : decode cX3_in 5 = .ok (.iload_n 0, 1) := by decide +kernel
theorem dX3_in_6 : decode cX3_in 6 = .ok (.iload_n 2, 1) := by decide +kernel
theorem dX3_in_7 : decode cX3_in 7 = .ok (.if_icmp .gt 7, 3) := by decide +kernel
theorem dX3_in_10 : decode cX3_in 10 = .ok (.iconst 1, 1) := by decide +kernel
theorem dX3_in_11 : decode cX3_in 11 = .ok (.goto 4, 3) := by decide +kernel
theorem dX3_in_14 : decode cX3_in 14 = .ok (.iconst 0, 1) := by decide +kernel
theorem dX3_in_15 : decode cX3_in 15 = .ok (.ireturn, 1) := by decide +kernel
theorem dX3_isBasin_0 : decode cX3_isBasin 0 = .ok (.iload_n 1, 1) := by decide +kernel
theorem dX3_isBasin_1 : decode cX3_isBasin 1 = .ok (.iconst 0, 1) := by decide +kernel
theorem dX3_isBasin_2 : decode cX3_isBasin 2 = .ok (.aload_n 0, 1) := by decide +kernel
theorem dX3_isBasin_3 : decode cX3_isBasin 3 = .ok (.getfield 57, 3) := by decide +kernel
theorem dX3_isBasin_6 : decode cX3_isBasin 6 = .ok (.iconst 1, 1) := by decide +kernel
theorem dX3_isBasin_7 : decode cX3_isBasin 7 = .ok (.isub, 1) := by decide +kernel
theorem dX3_isBasin_8 : decode cX3_isBasin 8 = .ok (.invokestatic 60, 3) := by decide +kernel
theorem dX3_isBasin_11 : decode cX3_isBasin 11 = .ok (.ireturn, 1) := by decide +kernel
theorem dX3_isRule_0 : decode cX3_isRule 0 = .ok (.iload_n 1, 1) := by decide +kernel
theorem dX3_isRule_1 : decode cX3_isRule 1 = .ok (.iconst 0, 1) := by decide +kernel
theorem dX3_isRule_2 : decode cX3_isRule 2 = .ok (.aload_n 0, 1) := by decide +kernel
theorem dX3_isRule_3 : decode cX3_isRule 3 = .ok (.getfield 64, 3) := by decide +kernel
theorem dX3_isRule_6 : decode cX3_isRule 6 = .ok (.iconst 1, 1) := by decide +kernel
theorem dX3_isRule_7 : decode cX3_isRule 7 = .ok (.isub, 1) := by decide +kernel
theorem dX3_isRule_8 : decode cX3_isRule 8 = .ok (.invokestatic 60, 3) := by decide +kernel
theorem dX3_isRule_11 : decode cX3_isRule 11 = .ok (.ireturn, 1) := by decide +kernel
theorem dX3_isPart_0 : decode cX3_isPart 0 = .ok (.iload_n 1, 1) := by decide +kernel
theorem dX3_isPart_1 : decode cX3_isPart 1 = .ok (.iconst (-1), 1) := by decide +kernel
theorem dX3_isPart_2 : decode cX3_isPart 2 = .ok (.if_icmp .eq 11, 3) := by decide +kernel
theorem dX3_isPart_5 : decode cX3_isPart 5 = .ok (.aload_n 0, 1) := by decide +kernel
theorem dX3_isPart_6 : decode cX3_isPart 6 = .ok (.iload_n 1, 1) := by decide +kernel
theorem dX3_isPart_7 : decode cX3_isPart 7 = .ok (.invokevirtual 67, 3) := by decide +kernel
theorem dX3_isPart_10 : decode cX3_isPart 10 = .ok (.ifCond .eq 7, 3) := by decide +kernel
theorem dX3_isPart_13 : decode cX3_isPart 13 = .ok (.iconst 1, 1) := by decide +kernel
theorem dX3_isPart_14 : decode cX3_isPart 14 = .ok (.goto 4, 3) := by decide +kernel
theorem dX3_isPart_17 : decode cX3_isPart 17 = .ok (.iconst 0, 1) := by decide +kernel
theorem dX3_isPart_18 : decode cX3_isPart 18 = .ok (.ireturn, 1) := by decide +kernel
theorem dX3_isSlot_0 : decode cX3_isSlot 0 = .ok (.iload_n 0, 1) := by decide +kernel
theorem dX3_isSlot_1 : decode cX3_isSlot 1 = .ok (.iconst 0, 1) := by decide +kernel
theorem dX3_isSlot_2 : decode cX3_isSlot 2 = .ok (.bipush 7, 2) := by decide +kernel
theorem dX3_isSlot_4 : decode cX3_isSlot 4 = .ok (.invokestatic 60, 3) := by decide +kernel
theorem dX3_isSlot_7 : decode cX3_isSlot 7 = .ok (.ireturn, 1) := by decide +kernel
theorem dX3_basin_0 : decode cX3_basin 0 = .ok (.iload_n 1, 1) := by decide +kernel
theorem dX3_basin_1 : decode cX3_basin 1 = .ok (.iconst 0, 1) := by decide +kernel
theorem dX3_basin_2 : decode cX3_basin 2 = .ok (.ldc 71, 2) := by decide +kernel
theorem dX3_basin_4 : decode cX3_basin 4 = .ok (.invokestatic 60, 3) := by decide +kernel
theorem dX3_basin_7 : decode cX3_basin 7 = .ok (.ifCond .ne 6, 3) := by decide +kernel
theorem dX3_basin_10 : decode cX3_basin 10 = .ok (.bipush (-102), 2) := by decide +kernel
theorem dX3_basin_12 : decode cX3_basin 12 = .ok (.ireturn, 1) := by decide +kernel
theorem dX3_basin_13 : decode cX3_basin 13 = .ok (.aload_n 0, 1) := by decide +kernel
theorem dX3_basin_14 : decode cX3_basin 14 = .ok (.getfield 57, 3) := by decide +kernel
theorem dX3_basin_17 : decode cX3_basin 17 = .ok (.bipush 8, 2) := by decide +kernel
theorem dX3_basin_19 : decode cX3_basin 19 = .ok (.if_icmp .ne 6, 3) := by decide +kernel
theorem dX3_basin_22 : decode cX3_basin 22 = .ok (.bipush (-103), 2) := by decide +kernel
theorem dX3_basin_24 : decode cX3_basin 24 = .ok (.ireturn, 1) := by decide +kernel
theorem dX3_basin_25 : decode cX3_basin 25 = .ok (.aload_n 0, 1) := by decide +kernel
theorem dX3_basin_26 : decode cX3_basin 26 = .ok (.getfield 7, 3) := by decide +kernel
theorem dX3_basin_29 : decode cX3_basin 29 = .ok (.aload_n 0, 1) := by decide +kernel
theorem dX3_basin_30 : decode cX3_basin 30 = .ok (.getfield 57, 3) := by decide +kernel
theorem dX3_basin_33 : decode cX3_basin 33 = .ok (.iload_n 1, 1) := by decide +kernel
theorem dX3_basin_34 : decode cX3_basin 34 = .ok (.iastore, 1) := by decide +kernel
theorem dX3_basin_35 : decode cX3_basin 35 = .ok (.aload_n 0, 1) := by decide +kernel
theorem dX3_basin_36 : decode cX3_basin 36 = .ok (.dup, 1) := by decide +kernel
theorem dX3_basin_37 : decode cX3_basin 37 = .ok (.getfield 57, 3) := by decide +kernel
theorem dX3_basin_40 : decode cX3_basin 40 = .ok (.iconst 1, 1) := by decide +kernel
theorem dX3_basin_41 : decode cX3_basin 41 = .ok (.iadd, 1) := by decide +kernel
theorem dX3_basin_42 : decode cX3_basin 42 = .ok (.putfield 57, 3) := by decide +kernel
theorem dX3_basin_45 : decode cX3_basin 45 = .ok (.aload_n 0, 1) := by decide +kernel
theorem dX3_basin_46 : decode cX3_basin 46 = .ok (.getfield 57, 3) := by decide +kernel
theorem dX3_basin_49 : decode cX3_basin 49 = .ok (.iconst 1, 1) := by decide +kernel
theorem dX3_basin_50 : decode cX3_basin 50 = .ok (.isub, 1) := by decide +kernel
theorem dX3_basin_51 : decode cX3_basin 51 = .ok (.ireturn, 1) := by decide +kernel
theorem dX3_fill_0 : decode cX3_fill 0 = .ok (.aload_n 0, 1) := by decide +kernel
theorem dX3_fill_1 : decode cX3_fill 1 = .ok (.iload_n 1, 1) := by decide +kernel
theorem dX3_fill_2 : decode cX3_fill 2 = .ok (.invokevirtual 72, 3) := by decide +kernel
theorem dX3_fill_5 : decode cX3_fill 5 = .ok (.ifCond .ne 6, 3) := by decide +kernel
theorem dX3_fill_8 : decode cX3_fill 8 = .ok (.bipush (-101), 2) := by decide +kernel
theorem dX3_fill_10 : decode cX3_fill 10 = .ok (.ireturn, 1) := by decide +kernel
theorem dX3_fill_11 : decode cX3_fill 11 = .ok (.iload_n 2, 1) := by decide +kernel
theorem dX3_fill_12 : decode cX3_fill 12 = .ok (.iconst 0, 1) := by decide +kernel
theorem dX3_fill_13 : decode cX3_fill 13 = .ok (.ldc 71, 2) := by decide +kernel
theorem dX3_fill_15 : decode cX3_fill 15 = .ok (.invokestatic 60, 3) := by decide +kernel
theorem dX3_fill_18 : decode cX3_fill 18 = .ok (.ifCond .ne 6, 3) := by decide +kernel
theorem dX3_fill_21 : decode cX3_fill 21 = .ok (.bipush (-102), 2) := by decide +kernel
theorem dX3_fill_23 : decode cX3_fill 23 = .ok (.ireturn, 1) := by decide +kernel
theorem dX3_fill_24 : decode cX3_fill 24 = .ok (.aload_n 0, 1) := by decide +kernel
theorem dX3_fill_25 : decode cX3_fill 25 = .ok (.getfield 7, 3) := by decide +kernel
theorem dX3_fill_28 : decode cX3_fill 28 = .ok (.iload_n 1, 1) := by decide +kernel
theorem dX3_fill_29 : decode cX3_fill 29 = .ok (.iaload, 1) := by decide +kernel
theorem dX3_fill_30 : decode cX3_fill 30 = .ok (.istore_n 3, 1) := by decide +kernel
theorem dX3_fill_31 : decode cX3_fill 31 = .ok (.aload_n 0, 1) := by decide +kernel
theorem dX3_fill_32 : decode cX3_fill 32 = .ok (.getfield 7, 3) := by decide +kernel
theorem dX3_fill_35 : decode cX3_fill 35 = .ok (.iload_n 1, 1) := by decide +kernel
theorem dX3_fill_36 : decode cX3_fill 36 = .ok (.iload_n 2, 1) := by decide +kernel
theorem dX3_fill_37 : decode cX3_fill 37 = .ok (.iastore, 1) := by decide +kernel
theorem dX3_fill_38 : decode cX3_fill 38 = .ok (.iload_n 3, 1) := by decide +kernel
theorem dX3_fill_39 : decode cX3_fill 39 = .ok (.ireturn, 1) := by decide +kernel
theorem dX3_moon_0 : decode cX3_moon 0 = .ok (.iload_n 1, 1) := by decide +kernel
theorem dX3_moon_1 : decode cX3_moon 1 = .ok (.iconst 0, 1) := by decide +kernel
theorem dX3_moon_2 : decode cX3_moon 2 = .ok (.bipush 11, 2) := by decide +kernel
theorem dX3_moon_4 : decode cX3_moon 4 = .ok (.invokestatic 60, 3) := by decide +kernel
theorem dX3_moon_7 : decode cX3_moon 7 = .ok (.ifCond .ne 6, 3) := by decide +kernel
theorem dX3_moon_10 : decode cX3_moon 10 = .ok (.bipush (-102), 2) := by decide +kernel
theorem dX3_moon_12 : decode cX3_moon 12 = .ok (.ireturn, 1) := by decide +kernel
theorem dX3_moon_13 : decode cX3_moon 13 = .ok (.aload_n 0, 1) := by decide +kernel
theorem dX3_moon_14 : decode cX3_moon 14 = .ok (.getfield 13, 3) := by decide +kernel
theorem dX3_moon_17 : decode cX3_moon 17 = .ok (.istore_n 2, 1) := by decide +kernel
theorem dX3_moon_18 : decode cX3_moon 18 = .ok (.aload_n 0, 1) := by decide +kernel
theorem dX3_moon_19 : decode cX3_moon 19 = .ok (.iload_n 1, 1) := by decide +kernel
theorem dX3_moon_20 : decode cX3_moon 20 = .ok (.putfield 13, 3) := by decide +kernel
theorem dX3_moon_23 : decode cX3_moon 23 = .ok (.iload_n 2, 1) := by decide +kernel
theorem dX3_moon_24 : decode cX3_moon 24 = .ok (.ireturn, 1) := by decide +kernel
theorem dX3_areKnown_0 : decode cX3_areKnown 0 = .ok (.iload_n 1, 1) := by decide +kernel
theorem dX3_areKnown_1 : decode cX3_areKnown 1 = .ok (.tableswitch 194 1 16 #[79, 194, 194, 85, 85, 85, 85, 138, 107, 138, 138, 138, 138, 144, 169, 174], 79) := by decide +kernel
theorem dX3_areKnown_80 : decode cX3_areKnown 80 = .ok (.aload_n 0, 1) := by decide +kernel
theorem dX3_areKnown_81 : decode cX3_areKnown 81 = .ok (.iload_n 2, 1) := by decide +kernel
theorem dX3_areKnown_82 : decode cX3_areKnown 82 = .ok (.invokevirtual 72, 3) := by decide +kernel
theorem dX3_areKnown_85 : decode cX3_areKnown 85 = .ok (.ireturn, 1) := by decide +kernel
theorem dX3_areKnown_86 : decode cX3_areKnown 86 = .ok (.aload_n 0, 1) := by decide +kernel
theorem dX3_areKnown_87 : decode cX3_areKnown 87 = .ok (.iload_n 2, 1) := by decide +kernel
theorem dX3_areKnown_88 : decode cX3_areKnown 88 = .ok (.invokevirtual 75, 3) := by decide +kernel
theorem dX3_areKnown_91 : decode cX3_areKnown 91 = .ok (.ifCond .eq 15, 3) := by decide +kernel
theorem dX3_areKnown_94 : decode cX3_areKnown 94 = .ok (.aload_n 0, 1) := by decide +kernel
theorem dX3_areKnown_95 : decode cX3_areKnown 95 = .ok (.iload_n 3, 1) := by decide +kernel
theorem dX3_areKnown_96 : decode cX3_areKnown 96 = .ok (.invokevirtual 75, 3) := by decide +kernel
theorem dX3_areKnown_99 : decode cX3_areKnown 99 = .ok (.ifCond .eq 7, 3) := by decide +kernel
theorem dX3_areKnown_102 : decode cX3_areKnown 102 = .ok (.iconst 1, 1) := by decide +kernel
theorem dX3_areKnown_103 : decode cX3_areKnown 103 = .ok (.goto 4, 3) := by decide +kernel
theorem dX3_areKnown_106 : decode cX3_areKnown 106 = .ok (.iconst 0, 1) := by decide +kernel
theorem dX3_areKnown_107 : decode cX3_areKnown 107 = .ok (.ireturn, 1) := by decide +kernel
theorem dX3_areKnown_108 : decode cX3_areKnown 108 = .ok (.aload_n 0, 1) := by decide +kernel
theorem dX3_areKnown_109 : decode cX3_areKnown 109 = .ok (.iload_n 2, 1) := by decide +kernel
theorem dX3_areKnown_110 : decode cX3_areKnown 110 = .ok (.invokevirtual 75, 3) := by decide +kernel
theorem dX3_areKnown_113 : decode cX3_areKnown 113 = .ok (.ifCond .eq 24, 3) := by decide +kernel
theorem dX3_areKnown_116 : decode cX3_areKnown 116 = .ok (.aload_n 0, 1) := by decide +kernel
theorem dX3_areKnown_117 : decode cX3_areKnown 117 = .ok (.iload_n 3, 1) := by decide +kernel
theorem dX3_areKnown_118 : decode cX3_areKnown 118 = .ok (.invokevirtual 75, 3) := by decide +kernel
theorem dX3_areKnown_121 : decode cX3_areKnown 121 = .ok (.ifCond .eq 16, 3) := by decide +kernel
theorem dX3_areKnown_124 : decode cX3_areKnown 124 = .ok (.aload_n 0, 1) := by decide +kernel
theorem dX3_areKnown_125 : decode cX3_areKnown 125 = .ok (.iload 4, 2) := by decide +kernel
theorem dX3_areKnown_127 : decode cX3_areKnown 127 = .ok (.invokevirtual 75, 3) := by decide +kernel
theorem dX3_areKnown_130 : decode cX3_areKnown 130 = .ok (.ifCond .eq 7, 3) := by decide +kernel
theorem dX3_areKnown_133 : decode cX3_areKnown 133 = .ok (.iconst 1, 1) := by decide +kernel
theorem dX3_areKnown_134 : decode cX3_areKnown 134 = .ok (.goto 4, 3) := by decide +kernel
theorem dX3_areKnown_137 : decode cX3_areKnown 137 = .ok (.iconst 0, 1) := by decide +kernel
theorem dX3_areKnown_138 : decode cX3_areKnown 138 = .ok (.ireturn, 1) := by decide +kernel
theorem dX3_areKnown_139 : decode cX3_areKnown 139 = .ok (.aload_n 0, 1) := by decide +kernel
theorem dX3_areKnown_140 : decode cX3_areKnown 140 = .ok (.iload_n 2, 1) := by decide +kernel
theorem dX3_areKnown_141 : decode cX3_areKnown 141 = .ok (.invokevirtual 75, 3) := by decide +kernel
theorem dX3_areKnown_144 : decode cX3_areKnown 144 = .ok (.ireturn, 1) := by decide +kernel
theorem dX3_areKnown_145 : decode cX3_areKnown 145 = .ok (.aload_n 0, 1) := by decide +kernel
theorem dX3_areKnown_146 : decode cX3_areKnown 146 = .ok (.iload_n 2, 1) := by decide +kernel
theorem dX3_areKnown_147 : decode cX3_areKnown 147 = .ok (.invokevirtual 67, 3) := by decide +kernel
theorem dX3_areKnown_150 : decode cX3_areKnown 150 = .ok (.ifCond .eq 18, 3) := by decide +kernel
theorem dX3_areKnown_153 : decode cX3_areKnown 153 = .ok (.aload_n 0, 1) := by decide +kernel
theorem dX3_areKnown_154 : decode cX3_areKnown 154 = .ok (.getfield 20, 3) := by decide +kernel
theorem dX3_areKnown_157 : decode cX3_areKnown 157 = .ok (.iload_n 2, 1) := by decide +kernel
theorem dX3_areKnown_158 : decode cX3_areKnown 158 = .ok (.iaload, 1) := by decide +kernel
theorem dX3_areKnown_159 : decode cX3_areKnown 159 = .ok (.bipush 13, 2) := by decide +kernel
theorem dX3_areKnown_161 : decode cX3_areKnown 161 = .ok (.if_icmp .ne 7, 3) := by decide +kernel
theorem dX3_areKnown_164 : decode cX3_areKnown 164 = .ok (.iconst 1, 1) := by decide +kernel
theorem dX3_areKnown_165 : decode cX3_areKnown 165 = .ok (.goto 4, 3) := by decide +kernel
theorem dX3_areKnown_168 : decode cX3_areKnown 168 = .ok (.iconst 0, 1) := by decide +kernel
theorem dX3_areKnown_169 : decode cX3_areKnown 169 = .ok (.ireturn, 1) := by decide +kernel
theorem dX3_areKnown_170 : decode cX3_areKnown 170 = .ok (.iload_n 2, 1) := by decide +kernel
theorem dX3_areKnown_171 : decode cX3_areKnown 171 = .ok (.invokestatic 78, 3) := by decide +kernel
theorem dX3_areKnown_174 : decode cX3_areKnown 174 = .ok (.ireturn, 1) := by decide +kernel
theorem dX3_areKnown_175 : decode cX3_areKnown 175 = .ok (.iload_n 2, 1) := by decide +kernel
theorem dX3_areKnown_176 : decode cX3_areKnown 176 = .ok (.invokestatic 78, 3) := by decide +kernel
theorem dX3_areKnown_179 : decode cX3_areKnown 179 = .ok (.ifCond .eq 14, 3) := by decide +kernel
theorem dX3_areKnown_182 : decode cX3_areKnown 182 = .ok (.iload_n 3, 1) := by decide +kernel
theorem dX3_areKnown_183 : decode cX3_areKnown 183 = .ok (.invokestatic 78, 3) := by decide +kernel
theorem dX3_areKnown_186 : decode cX3_areKnown 186 = .ok (.ifCond .eq 7, 3) := by decide +kernel
theorem dX3_areKnown_189 : decode cX3_areKnown 189 = .ok (.iconst 1, 1) := by decide +kernel
theorem dX3_areKnown_190 : decode cX3_areKnown 190 = .ok (.goto 4, 3) := by decide +kernel
theorem dX3_areKnown_193 : decode cX3_areKnown 193 = .ok (.iconst 0, 1) := by decide +kernel
theorem dX3_areKnown_194 : decode cX3_areKnown 194 = .ok (.ireturn, 1) := by decide +kernel
theorem dX3_areKnown_195 : decode cX3_areKnown 195 = .ok (.iload_n 1, 1) := by decide +kernel
theorem dX3_areKnown_196 : decode cX3_areKnown 196 = .ok (.iconst 0, 1) := by decide +kernel
theorem dX3_areKnown_197 : decode cX3_areKnown 197 = .ok (.bipush 16, 2) := by decide +kernel
theorem dX3_areKnown_199 : decode cX3_areKnown 199 = .ok (.invokestatic 60, 3) := by decide +kernel
theorem dX3_areKnown_202 : decode cX3_areKnown 202 = .ok (.ireturn, 1) := by decide +kernel
theorem dX3_make_0 : decode cX3_make 0 = .ok (.aload_n 0, 1) := by decide +kernel
theorem dX3_make_1 : decode cX3_make 1 = .ok (.iload_n 1, 1) := by decide +kernel
theorem dX3_make_2 : decode cX3_make 2 = .ok (.iload_n 2, 1) := by decide +kernel
theorem dX3_make_3 : decode cX3_make 3 = .ok (.iload_n 3, 1) := by decide +kernel
theorem dX3_make_4 : decode cX3_make 4 = .ok (.iload 4, 2) := by decide +kernel
theorem dX3_make_6 : decode cX3_make 6 = .ok (.invokevirtual 81, 3) := by decide +kernel
theorem dX3_make_9 : decode cX3_make 9 = .ok (.ifCond .ne 6, 3) := by decide +kernel
theorem dX3_make_12 : decode cX3_make 12 = .ok (.bipush (-101), 2) := by decide +kernel
theorem dX3_make_14 : decode cX3_make 14 = .ok (.ireturn, 1) := by decide +kernel
theorem dX3_make_15 : decode cX3_make 15 = .ok (.iload_n 1, 1) := by decide +kernel
theorem dX3_make_16 : decode cX3_make 16 = .ok (.bipush 8, 2) := by decide +kernel
theorem dX3_make_18 : decode cX3_make 18 = .ok (.if_icmp .ne 15, 3) := by decide +kernel
theorem dX3_make_21 : decode cX3_make 21 = .ok (.iload 4, 2) := by decide +kernel
theorem dX3_make_23 : decode cX3_make 23 = .ok (.iconst 1, 1) := by decide +kernel
theorem dX3_make_24 : decode cX3_make 24 = .ok (.sipush 1000, 3) := by decide +kernel
theorem dX3_make_27 : decode cX3_make 27 = .ok (.invokestatic 60, 3) := by decide +kernel
theorem dX3_make_30 : decode cX3_make 30 = .ok (.ifCond .eq 27, 3) := by decide +kernel
theorem dX3_make_33 : decode cX3_make 33 = .ok (.iload_n 1, 1) := by decide +kernel
theorem dX3_make_34 : decode cX3_make 34 = .ok (.bipush 11, 2) := by decide +kernel
theorem dX3_make_36 : decode cX3_make 36 = .ok (.if_icmp .ne 10, 3) := by decide +kernel
theorem dX3_make_39 : decode cX3_make 39 = .ok (.iload 5, 2) := by decide +kernel
theorem dX3_make_41 : decode cX3_make 41 = .ok (.iload 6, 2) := by decide +kernel
theorem dX3_make_43 : decode cX3_make 43 = .ok (.if_icmp .gt 14, 3) := by decide +kernel
theorem dX3_make_46 : decode cX3_make 46 = .ok (.iload_n 1, 1) := by decide +kernel
theorem dX3_make_47 : decode cX3_make 47 = .ok (.bipush 16, 2) := by decide +kernel
theorem dX3_make_49 : decode cX3_make 49 = .ok (.if_icmp .ne 11, 3) := by decide +kernel
theorem dX3_make_52 : decode cX3_make 52 = .ok (.iload_n 2, 1) := by decide +kernel
theorem dX3_make_53 : decode cX3_make 53 = .ok (.iload_n 3, 1) := by decide +kernel
theorem dX3_make_54 : decode cX3_make 54 = .ok (.if_icmp .le 6, 3) := by decide +kernel
theorem dX3_make_57 : decode cX3_make 57 = .ok (.bipush (-102), 2) := by decide +kernel
theorem dX3_make_59 : decode cX3_make 59 = .ok (.ireturn, 1) := by decide +kernel
theorem dX3_make_60 : decode cX3_make 60 = .ok (.aload_n 0, 1) := by decide +kernel
theorem dX3_make_61 : decode cX3_make 61 = .ok (.getfield 64, 3) := by decide +kernel
theorem dX3_make_64 : decode cX3_make 64 = .ok (.bipush 40, 2) := by decide +kernel
theorem dX3_make_66 : decode cX3_make 66 = .ok (.if_icmp .ne 6, 3) := by decide +kernel
theorem dX3_make_69 : decode cX3_make 69 = .ok (.bipush (-103), 2) := by decide +kernel
theorem dX3_make_71 : decode cX3_make 71 = .ok (.ireturn, 1) := by decide +kernel
theorem dX3_make_72 : decode cX3_make 72 = .ok (.iload_n 1, 1) := by decide +kernel
theorem dX3_make_73 : decode cX3_make 73 = .ok (.bipush 12, 2) := by decide +kernel
theorem dX3_make_75 : decode cX3_make 75 = .ok (.if_icmp .ne 17, 3) := by decide +kernel
theorem dX3_make_78 : decode cX3_make 78 = .ok (.aload_n 0, 1) := by decide +kernel
theorem dX3_make_79 : decode cX3_make 79 = .ok (.iload_n 2, 1) := by decide +kernel
theorem dX3_make_80 : decode cX3_make 80 = .ok (.iload_n 3, 1) := by decide +kernel
theorem dX3_make_81 : decode cX3_make 81 = .ok (.invokevirtual 85, 3) := by decide +kernel
theorem dX3_make_84 : decode cX3_make 84 = .ok (.ifCond .ne 8, 3) := by decide +kernel
theorem dX3_make_87 : decode cX3_make 87 = .ok (.aload_n 0, 1) := by decide +kernel
theorem dX3_make_88 : decode cX3_make 88 = .ok (.getfield 89, 3) := by decide +kernel
theorem dX3_make_91 : decode cX3_make 91 = .ok (.ireturn, 1) := by decide +kernel
theorem dX3_make_92 : decode cX3_make 92 = .ok (.aload_n 0, 1) := by decide +kernel
theorem dX3_make_93 : decode cX3_make 93 = .ok (.getfield 20, 3) := by decide +kernel
theorem dX3_make_96 : decode cX3_make 96 = .ok (.aload_n 0, 1) := by decide +kernel
theorem dX3_make_97 : decode cX3_make 97 = .ok (.getfield 64, 3) := by decide +kernel
theorem dX3_make_100 : decode cX3_make 100 = .ok (.iload_n 1, 1) := by decide +kernel
theorem dX3_make_101 : decode cX3_make 101 = .ok (.iastore, 1) := by decide +kernel
theorem dX3_make_102 : decode cX3_make 102 = .ok (.aload_n 0, 1) := by decide +kernel
theorem dX3_make_103 : decode cX3_make 103 = .ok (.getfield 23, 3) := by decide +kernel
theorem dX3_make_106 : decode cX3_make 106 = .ok (.iconst 5, 1) := by decide +kernel
theorem dX3_make_107 : decode cX3_make 107 = .ok (.aload_n 0, 1) := by decide +kernel
theorem dX3_make_108 : decode cX3_make 108 = .ok (.getfield 64, 3) := by decide +kernel
theorem dX3_make_111 : decode cX3_make 111 = .ok (.imul, 1) := by decide +kernel
theorem dX3_make_112 : decode cX3_make 112 = .ok (.iload_n 2, 1) := by decide +kernel
theorem dX3_make_113 : decode cX3_make 113 = .ok (.iastore, 1) := by decide +kernel
theorem dX3_make_114 : decode cX3_make 114 = .ok (.aload_n 0, 1) := by decide +kernel
theorem dX3_make_115 : decode cX3_make 115 = .ok (.getfield 23, 3) := by decide +kernel
theorem dX3_make_118 : decode cX3_make 118 = .ok (.iconst 5, 1) := by decide +kernel
theorem dX3_make_119 : decode cX3_make 119 = .ok (.aload_n 0, 1) := by decide +kernel
theorem dX3_make_120 : decode cX3_make 120 = .ok (.getfield 64, 3) := by decide +kernel
theorem dX3_make_123 : decode cX3_make 123 = .ok (.imul, 1) := by decide +kernel
theorem dX3_make_124 : decode cX3_make 124 = .ok (.iconst 1, 1) := by decide +kernel
theorem dX3_make_125 : decode cX3_make 125 = .ok (.iadd, 1) := by decide +kernel
theorem dX3_make_126 : decode cX3_make 126 = .ok (.iload_n 3, 1) := by decide +kernel
theorem dX3_make_127 : decode cX3_make 127 = .ok (.iastore, 1) := by decide +kernel
theorem dX3_make_128 : decode cX3_make 128 = .ok (.aload_n 0, 1) := by decide +kernel
theorem dX3_make_129 : decode cX3_make 129 = .ok (.getfield 23, 3) := by decide +kernel
theorem dX3_make_132 : decode cX3_make 132 = .ok (.iconst 5, 1) := by decide +kernel
theorem dX3_make_133 : decode cX3_make 133 = .ok (.aload_n 0, 1) := by decide +kernel
theorem dX3_make_134 : decode cX3_make 134 = .ok (.getfield 64, 3) := by decide +kernel
theorem dX3_make_137 : decode cX3_make 137 = .ok (.imul, 1) := by decide +kernel
theorem dX3_make_138 : decode cX3_make 138 = .ok (.iconst 2, 1) := by decide +kernel
theorem dX3_make_139 : decode cX3_make 139 = .ok (.iadd, 1) := by decide +kernel
theorem dX3_make_140 : decode cX3_make 140 = .ok (.iload 4, 2) := by decide +kernel
theorem dX3_make_142 : decode cX3_make 142 = .ok (.iastore, 1) := by decide +kernel
theorem dX3_make_143 : decode cX3_make 143 = .ok (.aload_n 0, 1) := by decide +kernel
theorem dX3_make_144 : decode cX3_make 144 = .ok (.getfield 23, 3) := by decide +kernel
theorem dX3_make_147 : decode cX3_make 147 = .ok (.iconst 5, 1) := by decide +kernel
theorem dX3_make_148 : decode cX3_make 148 = .ok (.aload_n 0, 1) := by decide +kernel
theorem dX3_make_149 : decode cX3_make 149 = .ok (.getfield 64, 3) := by decide +kernel
theorem dX3_make_152 : decode cX3_make 152 = .ok (.imul, 1) := by decide +kernel
theorem dX3_make_153 : decode cX3_make 153 = .ok (.iconst 3, 1) := by decide +kernel
theorem dX3_make_154 : decode cX3_make 154 = .ok (.iadd, 1) := by decide +kernel
theorem dX3_make_155 : decode cX3_make 155 = .ok (.iload 5, 2) := by decide +kernel
theorem dX3_make_157 : decode cX3_make 157 = .ok (.iastore, 1) := by decide +kernel
theorem dX3_make_158 : decode cX3_make 158 = .ok (.aload_n 0, 1) := by decide +kernel
theorem dX3_make_159 : decode cX3_make 159 = .ok (.getfield 23, 3) := by decide +kernel
theorem dX3_make_162 : decode cX3_make 162 = .ok (.iconst 5, 1) := by decide +kernel
theorem dX3_make_163 : decode cX3_make 163 = .ok (.aload_n 0, 1) := by decide +kernel
theorem dX3_make_164 : decode cX3_make 164 = .ok (.getfield 64, 3) := by decide +kernel
theorem dX3_make_167 : decode cX3_make 167 = .ok (.imul, 1) := by decide +kernel
theorem dX3_make_168 : decode cX3_make 168 = .ok (.iconst 4, 1) := by decide +kernel
theorem dX3_make_169 : decode cX3_make 169 = .ok (.iadd, 1) := by decide +kernel
theorem dX3_make_170 : decode cX3_make 170 = .ok (.iload 6, 2) := by decide +kernel
theorem dX3_make_172 : decode cX3_make 172 = .ok (.iastore, 1) := by decide +kernel
theorem dX3_make_173 : decode cX3_make 173 = .ok (.aload_n 0, 1) := by decide +kernel
theorem dX3_make_174 : decode cX3_make 174 = .ok (.getfield 26, 3) := by decide +kernel
theorem dX3_make_177 : decode cX3_make 177 = .ok (.aload_n 0, 1) := by decide +kernel
theorem dX3_make_178 : decode cX3_make 178 = .ok (.getfield 64, 3) := by decide +kernel
theorem dX3_make_181 : decode cX3_make 181 = .ok (.iload_n 1, 1) := by decide +kernel
theorem dX3_make_182 : decode cX3_make 182 = .ok (.bipush 12, 2) := by decide +kernel
theorem dX3_make_184 : decode cX3_make 184 = .ok (.if_icmp .ne 10, 3) := by decide +kernel
theorem dX3_make_187 : decode cX3_make 187 = .ok (.aload_n 0, 1) := by decide +kernel
theorem dX3_make_188 : decode cX3_make 188 = .ok (.getfield 92, 3) := by decide +kernel
theorem dX3_make_191 : decode cX3_make 191 = .ok (.goto 4, 3) := by decide +kernel
theorem dX3_make_194 : decode cX3_make 194 = .ok (.lconst 0, 1) := by decide +kernel
theorem dX3_make_195 : decode cX3_make 195 = .ok (.lastore, 1) := by decide +kernel
theorem dX3_make_196 : decode cX3_make 196 = .ok (.aload_n 0, 1) := by decide +kernel
theorem dX3_make_197 : decode cX3_make 197 = .ok (.getfield 30, 3) := by decide +kernel
theorem dX3_make_200 : decode cX3_make 200 = .ok (.aload_n 0, 1) := by decide +kernel
theorem dX3_make_201 : decode cX3_make 201 = .ok (.getfield 64, 3) := by decide +kernel
theorem dX3_make_204 : decode cX3_make 204 = .ok (.iconst 0, 1) := by decide +kernel
theorem dX3_make_205 : decode cX3_make 205 = .ok (.iastore, 1) := by decide +kernel
theorem dX3_make_206 : decode cX3_make 206 = .ok (.aload_n 0, 1) := by decide +kernel
theorem dX3_make_207 : decode cX3_make 207 = .ok (.dup, 1) := by decide +kernel
theorem dX3_make_208 : decode cX3_make 208 = .ok (.getfield 64, 3) := by decide +kernel
theorem dX3_make_211 : decode cX3_make 211 = .ok (.iconst 1, 1) := by decide +kernel
theorem dX3_make_212 : decode cX3_make 212 = .ok (.iadd, 1) := by decide +kernel
theorem dX3_make_213 : decode cX3_make 213 = .ok (.putfield 64, 3) := by decide +kernel
theorem dX3_make_216 : decode cX3_make 216 = .ok (.aload_n 0, 1) := by decide +kernel
theorem dX3_make_217 : decode cX3_make 217 = .ok (.getfield 64, 3) := by decide +kernel
theorem dX3_make_220 : decode cX3_make 220 = .ok (.iconst 1, 1) := by decide +kernel
theorem dX3_make_221 : decode cX3_make 221 = .ok (.isub, 1) := by decide +kernel
theorem dX3_make_222 : decode cX3_make 222 = .ok (.ireturn, 1) := by decide +kernel
theorem dX3_put_0 : decode cX3_put 0 = .ok (.iload_n 1, 1) := by decide +kernel
theorem dX3_put_1 : decode cX3_put 1 = .ok (.invokestatic 78, 3) := by decide +kernel
theorem dX3_put_4 : decode cX3_put 4 = .ok (.ifCond .eq 11, 3) := by decide +kernel
theorem dX3_put_7 : decode cX3_put 7 = .ok (.aload_n 0, 1) := by decide +kernel
theorem dX3_put_8 : decode cX3_put 8 = .ok (.iload_n 2, 1) := by decide +kernel
theorem dX3_put_9 : decode cX3_put 9 = .ok (.invokevirtual 75, 3) := by decide +kernel
theorem dX3_put_12 : decode cX3_put 12 = .ok (.ifCond .ne 6, 3) := by decide +kernel
theorem dX3_put_15 : decode cX3_put 15 = .ok (.bipush (-101), 2) := by decide +kernel
theorem dX3_put_17 : decode cX3_put 17 = .ok (.ireturn, 1) := by decide +kernel
theorem dX3_put_18 : decode cX3_put 18 = .ok (.aload_n 0, 1) := by decide +kernel
theorem dX3_put_19 : decode cX3_put 19 = .ok (.getfield 17, 3) := by decide +kernel
theorem dX3_put_22 : decode cX3_put 22 = .ok (.iload_n 1, 1) := by decide +kernel
theorem dX3_put_23 : decode cX3_put 23 = .ok (.iaload, 1) := by decide +kernel
theorem dX3_put_24 : decode cX3_put 24 = .ok (.istore_n 3, 1) := by decide +kernel
theorem dX3_put_25 : decode cX3_put 25 = .ok (.aload_n 0, 1) := by decide +kernel
theorem dX3_put_26 : decode cX3_put 26 = .ok (.getfield 17, 3) := by decide +kernel
theorem dX3_put_29 : decode cX3_put 29 = .ok (.iload_n 1, 1) := by decide +kernel
theorem dX3_put_30 : decode cX3_put 30 = .ok (.iload_n 2, 1) := by decide +kernel
theorem dX3_put_31 : decode cX3_put 31 = .ok (.iastore, 1) := by decide +kernel
theorem dX3_put_32 : decode cX3_put 32 = .ok (.iload_n 3, 1) := by decide +kernel
theorem dX3_put_33 : decode cX3_put 33 = .ok (.ireturn, 1) := by decide +kernel
theorem dX3_enter_0 : decode cX3_enter 0 = .ok (.iload_n 1, 1) := by decide +kernel
theorem dX3_enter_1 : decode cX3_enter 1 = .ok (.iconst (-1), 1) := by decide +kernel
theorem dX3_enter_2 : decode cX3_enter 2 = .ok (.if_icmp .ne 13, 3) := by decide +kernel
theorem dX3_enter_5 : decode cX3_enter 5 = .ok (.aload_n 0, 1) := by decide +kernel
theorem dX3_enter_6 : decode cX3_enter 6 = .ok (.sipush (-201), 3) := by decide +kernel
theorem dX3_enter_9 : decode cX3_enter 9 = .ok (.putfield 89, 3) := by decide +kernel
theorem dX3_enter_12 : decode cX3_enter 12 = .ok (.goto 82, 3) := by decide +kernel
theorem dX3_enter_15 : decode cX3_enter 15 = .ok (.aload_n 0, 1) := by decide +kernel
theorem dX3_enter_16 : decode cX3_enter 16 = .ok (.getfield 96, 3) := by decide +kernel
theorem dX3_enter_19 : decode cX3_enter 19 = .ok (.bipush 120, 2) := by decide +kernel
theorem dX3_enter_21 : decode cX3_enter 21 = .ok (.if_icmp .ne 13, 3) := by decide +kernel
theorem dX3_enter_24 : decode cX3_enter 24 = .ok (.aload_n 0, 1) := by decide +kernel
theorem dX3_enter_25 : decode cX3_enter 25 = .ok (.sipush (-202), 3) := by decide +kernel
theorem dX3_enter_28 : decode cX3_enter 28 = .ok (.putfield 89, 3) := by decide +kernel
theorem dX3_enter_31 : decode cX3_enter 31 = .ok (.goto 63, 3) := by decide +kernel
theorem dX3_enter_34 : decode cX3_enter 34 = .ok (.aload_n 0, 1) := by decide +kernel
theorem dX3_enter_35 : decode cX3_enter 35 = .ok (.dup, 1) := by decide +kernel
theorem dX3_enter_36 : decode cX3_enter 36 = .ok (.getfield 96, 3) := by decide +kernel
theorem dX3_enter_39 : decode cX3_enter 39 = .ok (.iconst 1, 1) := by decide +kernel
theorem dX3_enter_40 : decode cX3_enter 40 = .ok (.iadd, 1) := by decide +kernel
theorem dX3_enter_41 : decode cX3_enter 41 = .ok (.putfield 96, 3) := by decide +kernel
theorem dX3_enter_44 : decode cX3_enter 44 = .ok (.aload_n 0, 1) := by decide +kernel
theorem dX3_enter_45 : decode cX3_enter 45 = .ok (.dup, 1) := by decide +kernel
theorem dX3_enter_46 : decode cX3_enter 46 = .ok (.getfield 99, 3) := by decide +kernel
theorem dX3_enter_49 : decode cX3_enter 49 = .ok (.iconst 1, 1) := by decide +kernel
theorem dX3_enter_50 : decode cX3_enter 50 = .ok (.iadd, 1) := by decide +kernel
theorem dX3_enter_51 : decode cX3_enter 51 = .ok (.putfield 99, 3) := by decide +kernel
theorem dX3_enter_54 : decode cX3_enter 54 = .ok (.aload_n 0, 1) := by decide +kernel
theorem dX3_enter_55 : decode cX3_enter 55 = .ok (.getfield 42, 3) := by decide +kernel
theorem dX3_enter_58 : decode cX3_enter 58 = .ok (.aload_n 0, 1) := by decide +kernel
theorem dX3_enter_59 : decode cX3_enter 59 = .ok (.getfield 99, 3) := by decide +kernel
theorem dX3_enter_62 : decode cX3_enter 62 = .ok (.iload_n 1, 1) := by decide +kernel
theorem dX3_enter_63 : decode cX3_enter 63 = .ok (.iastore, 1) := by decide +kernel
theorem dX3_enter_64 : decode cX3_enter 64 = .ok (.aload_n 0, 1) := by decide +kernel
theorem dX3_enter_65 : decode cX3_enter 65 = .ok (.getfield 45, 3) := by decide +kernel
theorem dX3_enter_68 : decode cX3_enter 68 = .ok (.aload_n 0, 1) := by decide +kernel
theorem dX3_enter_69 : decode cX3_enter 69 = .ok (.getfield 99, 3) := by decide +kernel
theorem dX3_enter_72 : decode cX3_enter 72 = .ok (.iload_n 2, 1) := by decide +kernel
theorem dX3_enter_73 : decode cX3_enter 73 = .ok (.iastore, 1) := by decide +kernel
theorem dX3_enter_74 : decode cX3_enter 74 = .ok (.aload_n 0, 1) := by decide +kernel
theorem dX3_enter_75 : decode cX3_enter 75 = .ok (.getfield 48, 3) := by decide +kernel
theorem dX3_enter_78 : decode cX3_enter 78 = .ok (.aload_n 0, 1) := by decide +kernel
theorem dX3_enter_79 : decode cX3_enter 79 = .ok (.getfield 99, 3) := by decide +kernel
theorem dX3_enter_82 : decode cX3_enter 82 = .ok (.iconst 0, 1) := by decide +kernel
theorem dX3_enter_83 : decode cX3_enter 83 = .ok (.iastore, 1) := by decide +kernel
theorem dX3_enter_84 : decode cX3_enter 84 = .ok (.aload_n 0, 1) := by decide +kernel
theorem dX3_enter_85 : decode cX3_enter 85 = .ok (.getfield 51, 3) := by decide +kernel
theorem dX3_enter_88 : decode cX3_enter 88 = .ok (.aload_n 0, 1) := by decide +kernel
theorem dX3_enter_89 : decode cX3_enter 89 = .ok (.getfield 99, 3) := by decide +kernel
theorem dX3_enter_92 : decode cX3_enter 92 = .ok (.lconst 0, 1) := by decide +kernel
theorem dX3_enter_93 : decode cX3_enter 93 = .ok (.lastore, 1) := by decide +kernel
theorem dX3_enter_94 : decode cX3_enter 94 = .ok (.return_, 1) := by decide +kernel
theorem dX3_gives_0 : decode cX3_gives 0 = .ok (.aload_n 0, 1) := by decide +kernel
theorem dX3_gives_1 : decode cX3_gives 1 = .ok (.lload_n 1, 1) := by decide +kernel
theorem dX3_gives_2 : decode cX3_gives 2 = .ok (.putfield 92, 3) := by decide +kernel
theorem dX3_gives_5 : decode cX3_gives 5 = .ok (.aload_n 0, 1) := by decide +kernel
theorem dX3_gives_6 : decode cX3_gives 6 = .ok (.dup, 1) := by decide +kernel
theorem dX3_gives_7 : decode cX3_gives 7 = .ok (.getfield 99, 3) := by decide +kernel
theorem dX3_gives_10 : decode cX3_gives 10 = .ok (.iconst 1, 1) := by decide +kernel
theorem dX3_gives_11 : decode cX3_gives 11 = .ok (.isub, 1) := by decide +kernel
theorem dX3_gives_12 : decode cX3_gives 12 = .ok (.putfield 99, 3) := by decide +kernel
theorem dX3_gives_15 : decode cX3_gives 15 = .ok (.return_, 1) := by decide +kernel
theorem dX3_downward_0 : decode cX3_downward 0 = .ok (.lload_n 0, 1) := by decide +kernel
theorem dX3_downward_1 : decode cX3_downward 1 = .ok (.lload_n 2, 1) := by decide +kernel
theorem dX3_downward_2 : decode cX3_downward 2 = .ok (.ldiv, 1) := by decide +kernel
theorem dX3_downward_3 : decode cX3_downward 3 = .ok (.lstore 4, 2) := by decide +kernel
theorem dX3_downward_5 : decode cX3_downward 5 = .ok (.lload_n 0, 1) := by decide +kernel
theorem dX3_downward_6 : decode cX3_downward 6 = .ok (.lload_n 2, 1) := by decide +kernel
theorem dX3_downward_7 : decode cX3_downward 7 = .ok (.lrem, 1) := by decide +kernel
theorem dX3_downward_8 : decode cX3_downward 8 = .ok (.lconst 0, 1) := by decide +kernel
theorem dX3_downward_9 : decode cX3_downward 9 = .ok (.lcmp, 1) := by decide +kernel
theorem dX3_downward_10 : decode cX3_downward 10 = .ok (.ifCond .ge 10, 3) := by decide +kernel
theorem dX3_downward_13 : decode cX3_downward 13 = .ok (.lload 4, 2) := by decide +kernel
theorem dX3_downward_15 : decode cX3_downward 15 = .ok (.lconst 1, 1) := by decide +kernel
theorem dX3_downward_16 : decode cX3_downward 16 = .ok (.lsub, 1) := by decide +kernel
theorem dX3_downward_17 : decode cX3_downward 17 = .ok (.goto 5, 3) := by decide +kernel
theorem dX3_downward_20 : decode cX3_downward 20 = .ok (.lload 4, 2) := by decide +kernel
theorem dX3_downward_22 : decode cX3_downward 22 = .ok (.lreturn, 1) := by decide +kernel
theorem dX3_tide_0 : decode cX3_tide 0 = .ok (.iload_n 1, 1) := by decide +kernel
theorem dX3_tide_1 : decode cX3_tide 1 = .ok (.i2l, 1) := by decide +kernel
theorem dX3_tide_2 : decode cX3_tide 2 = .ok (.aload_n 0, 1) := by decide +kernel
theorem dX3_tide_3 : decode cX3_tide 3 = .ok (.getfield 13, 3) := by decide +kernel
theorem dX3_tide_6 : decode cX3_tide 6 = .ok (.i2l, 1) := by decide +kernel
theorem dX3_tide_7 : decode cX3_tide 7 = .ok (.lmul, 1) := by decide +kernel
theorem dX3_tide_8 : decode cX3_tide 8 = .ok (.ldc2_w 102, 3) := by decide +kernel
theorem dX3_tide_11 : decode cX3_tide 11 = .ok (.lrem, 1) := by decide +kernel
theorem dX3_tide_12 : decode cX3_tide 12 = .ok (.lstore_n 2, 1) := by decide +kernel
theorem dX3_tide_13 : decode cX3_tide 13 = .ok (.lload_n 2, 1) := by decide +kernel
theorem dX3_tide_14 : decode cX3_tide 14 = .ok (.lconst 0, 1) := by decide +kernel
theorem dX3_tide_15 : decode cX3_tide 15 = .ok (.lcmp, 1) := by decide +kernel
theorem dX3_tide_16 : decode cX3_tide 16 = .ok (.ifCond .ge 11, 3) := by decide +kernel
theorem dX3_tide_19 : decode cX3_tide 19 = .ok (.lload_n 2, 1) := by decide +kernel
theorem dX3_tide_20 : decode cX3_tide 20 = .ok (.ldc2_w 102, 3) := by decide +kernel
theorem dX3_tide_23 : decode cX3_tide 23 = .ok (.ladd, 1) := by decide +kernel
theorem dX3_tide_24 : decode cX3_tide 24 = .ok (.goto 4, 3) := by decide +kernel
theorem dX3_tide_27 : decode cX3_tide 27 = .ok (.lload_n 2, 1) := by decide +kernel
theorem dX3_tide_28 : decode cX3_tide 28 = .ok (.lstore_n 2, 1) := by decide +kernel
theorem dX3_tide_29 : decode cX3_tide 29 = .ok (.lload_n 2, 1) := by decide +kernel
theorem dX3_tide_30 : decode cX3_tide 30 = .ok (.ldc2_w 104, 3) := by decide +kernel
theorem dX3_tide_33 : decode cX3_tide 33 = .ok (.lcmp, 1) := by decide +kernel
theorem dX3_tide_34 : decode cX3_tide 34 = .ok (.ifCond .ge 7, 3) := by decide +kernel
theorem dX3_tide_37 : decode cX3_tide 37 = .ok (.lload_n 2, 1) := by decide +kernel
theorem dX3_tide_38 : decode cX3_tide 38 = .ok (.goto 8, 3) := by decide +kernel
theorem dX3_tide_41 : decode cX3_tide 41 = .ok (.ldc2_w 102, 3) := by decide +kernel
theorem dX3_tide_44 : decode cX3_tide 44 = .ok (.lload_n 2, 1) := by decide +kernel
theorem dX3_tide_45 : decode cX3_tide 45 = .ok (.lsub, 1) := by decide +kernel
theorem dX3_tide_46 : decode cX3_tide 46 = .ok (.lreturn, 1) := by decide +kernel
theorem dX3_joined_0 : decode cX3_joined 0 = .ok (.iload_n 0, 1) := by decide +kernel
theorem dX3_joined_1 : decode cX3_joined 1 = .ok (.iconst 4, 1) := by decide +kernel
theorem dX3_joined_2 : decode cX3_joined 2 = .ok (.if_icmp .ne 9, 3) := by decide +kernel
theorem dX3_joined_5 : decode cX3_joined 5 = .ok (.lload_n 1, 1) := by decide +kernel
theorem dX3_joined_6 : decode cX3_joined 6 = .ok (.lload_n 3, 1) := by decide +kernel
theorem dX3_joined_7 : decode cX3_joined 7 = .ok (.ladd, 1) := by decide +kernel
theorem dX3_joined_8 : decode cX3_joined 8 = .ok (.goto 45, 3) := by decide +kernel
theorem dX3_joined_11 : decode cX3_joined 11 = .ok (.iload_n 0, 1) := by decide +kernel
theorem dX3_joined_12 : decode cX3_joined 12 = .ok (.iconst 5, 1) := by decide +kernel
theorem dX3_joined_13 : decode cX3_joined 13 = .ok (.if_icmp .ne 9, 3) := by decide +kernel
theorem dX3_joined_16 : decode cX3_joined 16 = .ok (.lload_n 1, 1) := by decide +kernel
theorem dX3_joined_17 : decode cX3_joined 17 = .ok (.lload_n 3, 1) := by decide +kernel
theorem dX3_joined_18 : decode cX3_joined 18 = .ok (.lsub, 1) := by decide +kernel
theorem dX3_joined_19 : decode cX3_joined 19 = .ok (.goto 34, 3) := by decide +kernel
theorem dX3_joined_22 : decode cX3_joined 22 = .ok (.iload_n 0, 1) := by decide +kernel
theorem dX3_joined_23 : decode cX3_joined 23 = .ok (.bipush 6, 2) := by decide +kernel
theorem dX3_joined_25 : decode cX3_joined 25 = .ok (.if_icmp .ne 17, 3) := by decide +kernel
theorem dX3_joined_28 : decode cX3_joined 28 = .ok (.lload_n 1, 1) := by decide +kernel
theorem dX3_joined_29 : decode cX3_joined 29 = .ok (.lload_n 3, 1) := by decide +kernel
theorem dX3_joined_30 : decode cX3_joined 30 = .ok (.lcmp, 1) := by decide +kernel
theorem dX3_joined_31 : decode cX3_joined 31 = .ok (.ifCond .ge 7, 3) := by decide +kernel
theorem dX3_joined_34 : decode cX3_joined 34 = .ok (.lload_n 1, 1) := by decide +kernel
theorem dX3_joined_35 : decode cX3_joined 35 = .ok (.goto 18, 3) := by decide +kernel
theorem dX3_joined_38 : decode cX3_joined 38 = .ok (.lload_n 3, 1) := by decide +kernel
theorem dX3_joined_39 : decode cX3_joined 39 = .ok (.goto 14, 3) := by decide +kernel
theorem dX3_joined_42 : decode cX3_joined 42 = .ok (.lload_n 1, 1) := by decide +kernel
theorem dX3_joined_43 : decode cX3_joined 43 = .ok (.lload_n 3, 1) := by decide +kernel
theorem dX3_joined_44 : decode cX3_joined 44 = .ok (.lcmp, 1) := by decide +kernel
theorem dX3_joined_45 : decode cX3_joined 45 = .ok (.ifCond .le 7, 3) := by decide +kernel
theorem dX3_joined_48 : decode cX3_joined 48 = .ok (.lload_n 1, 1) := by decide +kernel
theorem dX3_joined_49 : decode cX3_joined 49 = .ok (.goto 4, 3) := by decide +kernel
theorem dX3_joined_52 : decode cX3_joined 52 = .ok (.lload_n 3, 1) := by decide +kernel
theorem dX3_joined_53 : decode cX3_joined 53 = .ok (.lreturn, 1) := by decide +kernel
theorem dX3_plain_0 : decode cX3_plain 0 = .ok (.aload_n 0, 1) := by decide +kernel
theorem dX3_plain_1 : decode cX3_plain 1 = .ok (.getfield 23, 3) := by decide +kernel
theorem dX3_plain_4 : decode cX3_plain 4 = .ok (.iconst 5, 1) := by decide +kernel
theorem dX3_plain_5 : decode cX3_plain 5 = .ok (.iload_n 1, 1) := by decide +kernel
theorem dX3_plain_6 : decode cX3_plain 6 = .ok (.imul, 1) := by decide +kernel
theorem dX3_plain_7 : decode cX3_plain 7 = .ok (.iaload, 1) := by decide +kernel
theorem dX3_plain_8 : decode cX3_plain 8 = .ok (.istore_n 3, 1) := by decide +kernel
theorem dX3_plain_9 : decode cX3_plain 9 = .ok (.aload_n 0, 1) := by decide +kernel
theorem dX3_plain_10 : decode cX3_plain 10 = .ok (.getfield 20, 3) := by decide +kernel
theorem dX3_plain_13 : decode cX3_plain 13 = .ok (.iload_n 1, 1) := by decide +kernel
theorem dX3_plain_14 : decode cX3_plain 14 = .ok (.iaload, 1) := by decide +kernel
theorem dX3_plain_15 : decode cX3_plain 15 = .ok (.tableswitch 122 0 12 #[65, 74, 88, 100, 122, 122, 122, 122, 122, 122, 122, 122, 109], 65) := by decide +kernel
theorem dX3_plain_80 : decode cX3_plain 80 = .ok (.aload_n 0, 1) := by decide +kernel
theorem dX3_plain_81 : decode cX3_plain 81 = .ok (.iload_n 3, 1) := by decide +kernel
theorem dX3_plain_82 : decode cX3_plain 82 = .ok (.i2l, 1) := by decide +kernel
theorem dX3_plain_83 : decode cX3_plain 83 = .ok (.invokevirtual 106, 3) := by decide +kernel
theorem dX3_plain_86 : decode cX3_plain 86 = .ok (.goto 62, 3) := by decide +kernel
theorem dX3_plain_89 : decode cX3_plain 89 = .ok (.aload_n 0, 1) := by decide +kernel
theorem dX3_plain_90 : decode cX3_plain 90 = .ok (.aload_n 0, 1) := by decide +kernel
theorem dX3_plain_91 : decode cX3_plain 91 = .ok (.getfield 7, 3) := by decide +kernel
theorem dX3_plain_94 : decode cX3_plain 94 = .ok (.iload_n 3, 1) := by decide +kernel
theorem dX3_plain_95 : decode cX3_plain 95 = .ok (.iaload, 1) := by decide +kernel
theorem dX3_plain_96 : decode cX3_plain 96 = .ok (.i2l, 1) := by decide +kernel
theorem dX3_plain_97 : decode cX3_plain 97 = .ok (.invokevirtual 106, 3) := by decide +kernel
theorem dX3_plain_100 : decode cX3_plain 100 = .ok (.goto 48, 3) := by decide +kernel
theorem dX3_plain_103 : decode cX3_plain 103 = .ok (.aload_n 0, 1) := by decide +kernel
theorem dX3_plain_104 : decode cX3_plain 104 = .ok (.aload_n 0, 1) := by decide +kernel
theorem dX3_plain_105 : decode cX3_plain 105 = .ok (.iload_n 2, 1) := by decide +kernel
theorem dX3_plain_106 : decode cX3_plain 106 = .ok (.invokevirtual 110, 3) := by decide +kernel
theorem dX3_plain_109 : decode cX3_plain 109 = .ok (.invokevirtual 106, 3) := by decide +kernel
theorem dX3_plain_112 : decode cX3_plain 112 = .ok (.goto 36, 3) := by decide +kernel
theorem dX3_plain_115 : decode cX3_plain 115 = .ok (.aload_n 0, 1) := by decide +kernel
theorem dX3_plain_116 : decode cX3_plain 116 = .ok (.iload_n 2, 1) := by decide +kernel
theorem dX3_plain_117 : decode cX3_plain 117 = .ok (.i2l, 1) := by decide +kernel
theorem dX3_plain_118 : decode cX3_plain 118 = .ok (.invokevirtual 106, 3) := by decide +kernel
theorem dX3_plain_121 : decode cX3_plain 121 = .ok (.goto 27, 3) := by decide +kernel
theorem dX3_plain_124 : decode cX3_plain 124 = .ok (.aload_n 0, 1) := by decide +kernel
theorem dX3_plain_125 : decode cX3_plain 125 = .ok (.aload_n 0, 1) := by decide +kernel
theorem dX3_plain_126 : decode cX3_plain 126 = .ok (.getfield 26, 3) := by decide +kernel
theorem dX3_plain_129 : decode cX3_plain 129 = .ok (.iload_n 1, 1) := by decide +kernel
theorem dX3_plain_130 : decode cX3_plain 130 = .ok (.laload, 1) := by decide +kernel
theorem dX3_plain_131 : decode cX3_plain 131 = .ok (.invokevirtual 106, 3) := by decide +kernel
theorem dX3_plain_134 : decode cX3_plain 134 = .ok (.goto 14, 3) := by decide +kernel
theorem dX3_plain_137 : decode cX3_plain 137 = .ok (.aload_n 0, 1) := by decide +kernel
theorem dX3_plain_138 : decode cX3_plain 138 = .ok (.aload_n 0, 1) := by decide +kernel
theorem dX3_plain_139 : decode cX3_plain 139 = .ok (.getfield 30, 3) := by decide +kernel
theorem dX3_plain_142 : decode cX3_plain 142 = .ok (.iload_n 3, 1) := by decide +kernel
theorem dX3_plain_143 : decode cX3_plain 143 = .ok (.iaload, 1) := by decide +kernel
theorem dX3_plain_144 : decode cX3_plain 144 = .ok (.i2l, 1) := by decide +kernel
theorem dX3_plain_145 : decode cX3_plain 145 = .ok (.invokevirtual 106, 3) := by decide +kernel
theorem dX3_plain_148 : decode cX3_plain 148 = .ok (.return_, 1) := by decide +kernel
theorem dX3_behind_0 : decode cX3_behind 0 = .ok (.aload_n 0, 1) := by decide +kernel
theorem dX3_behind_1 : decode cX3_behind 1 = .ok (.getfield 23, 3) := by decide +kernel
theorem dX3_behind_4 : decode cX3_behind 4 = .ok (.iconst 5, 1) := by decide +kernel
theorem dX3_behind_5 : decode cX3_behind 5 = .ok (.iload_n 1, 1) := by decide +kernel
theorem dX3_behind_6 : decode cX3_behind 6 = .ok (.imul, 1) := by decide +kernel
theorem dX3_behind_7 : decode cX3_behind 7 = .ok (.iconst 1, 1) := by decide +kernel
theorem dX3_behind_8 : decode cX3_behind 8 = .ok (.iadd, 1) := by decide +kernel
theorem dX3_behind_9 : decode cX3_behind 9 = .ok (.iaload, 1) := by decide +kernel
theorem dX3_behind_10 : decode cX3_behind 10 = .ok (.istore_n 2, 1) := by decide +kernel
theorem dX3_behind_11 : decode cX3_behind 11 = .ok (.aload_n 0, 1) := by decide +kernel
theorem dX3_behind_12 : decode cX3_behind 12 = .ok (.getfield 23, 3) := by decide +kernel
theorem dX3_behind_15 : decode cX3_behind 15 = .ok (.iconst 5, 1) := by decide +kernel
theorem dX3_behind_16 : decode cX3_behind 16 = .ok (.iload_n 1, 1) := by decide +kernel
theorem dX3_behind_17 : decode cX3_behind 17 = .ok (.imul, 1) := by decide +kernel
theorem dX3_behind_18 : decode cX3_behind 18 = .ok (.iconst 2, 1) := by decide +kernel
theorem dX3_behind_19 : decode cX3_behind 19 = .ok (.iadd, 1) := by decide +kernel
theorem dX3_behind_20 : decode cX3_behind 20 = .ok (.iaload, 1) := by decide +kernel
theorem dX3_behind_21 : decode cX3_behind 21 = .ok (.istore_n 3, 1) := by decide +kernel
theorem dX3_behind_22 : decode cX3_behind 22 = .ok (.aload_n 0, 1) := by decide +kernel
theorem dX3_behind_23 : decode cX3_behind 23 = .ok (.getfield 20, 3) := by decide +kernel
theorem dX3_behind_26 : decode cX3_behind 26 = .ok (.iload_n 1, 1) := by decide +kernel
theorem dX3_behind_27 : decode cX3_behind 27 = .ok (.iaload, 1) := by decide +kernel
theorem dX3_behind_28 : decode cX3_behind 28 = .ok (.bipush 8, 2) := by decide +kernel
theorem dX3_behind_30 : decode cX3_behind 30 = .ok (.if_icmp .ne 22, 3) := by decide +kernel
theorem dX3_behind_33 : decode cX3_behind 33 = .ok (.aload_n 0, 1) := by decide +kernel
theorem dX3_behind_34 : decode cX3_behind 34 = .ok (.aload_n 0, 1) := by decide +kernel
theorem dX3_behind_35 : decode cX3_behind 35 = .ok (.getfield 92, 3) := by decide +kernel
theorem dX3_behind_38 : decode cX3_behind 38 = .ok (.iload_n 2, 1) := by decide +kernel
theorem dX3_behind_39 : decode cX3_behind 39 = .ok (.i2l, 1) := by decide +kernel
theorem dX3_behind_40 : decode cX3_behind 40 = .ok (.lmul, 1) := by decide +kernel
theorem dX3_behind_41 : decode cX3_behind 41 = .ok (.iload_n 3, 1) := by decide +kernel
theorem dX3_behind_42 : decode cX3_behind 42 = .ok (.i2l, 1) := by decide +kernel
theorem dX3_behind_43 : decode cX3_behind 43 = .ok (.invokestatic 114, 3) := by decide +kernel
theorem dX3_behind_46 : decode cX3_behind 46 = .ok (.invokevirtual 106, 3) := by decide +kernel
theorem dX3_behind_49 : decode cX3_behind 49 = .ok (.goto 81, 3) := by decide +kernel
theorem dX3_behind_52 : decode cX3_behind 52 = .ok (.aload_n 0, 1) := by decide +kernel
theorem dX3_behind_53 : decode cX3_behind 53 = .ok (.getfield 20, 3) := by decide +kernel
theorem dX3_behind_56 : decode cX3_behind 56 = .ok (.iload_n 1, 1) := by decide +kernel
theorem dX3_behind_57 : decode cX3_behind 57 = .ok (.iaload, 1) := by decide +kernel
theorem dX3_behind_58 : decode cX3_behind 58 = .ok (.bipush 11, 2) := by decide +kernel
theorem dX3_behind_60 : decode cX3_behind 60 = .ok (.if_icmp .ne 62, 3) := by decide +kernel
theorem dX3_behind_63 : decode cX3_behind 63 = .ok (.aload_n 0, 1) := by decide +kernel
theorem dX3_behind_64 : decode cX3_behind 64 = .ok (.aload_n 0, 1) := by decide +kernel
theorem dX3_behind_65 : decode cX3_behind 65 = .ok (.getfield 92, 3) := by decide +kernel
theorem dX3_behind_68 : decode cX3_behind 68 = .ok (.aload_n 0, 1) := by decide +kernel
theorem dX3_behind_69 : decode cX3_behind 69 = .ok (.getfield 23, 3) := by decide +kernel
theorem dX3_behind_72 : decode cX3_behind 72 = .ok (.iconst 5, 1) := by decide +kernel
theorem dX3_behind_73 : decode cX3_behind 73 = .ok (.iload_n 1, 1) := by decide +kernel
theorem dX3_behind_74 : decode cX3_behind 74 = .ok (.imul, 1) := by decide +kernel
theorem dX3_behind_75 : decode cX3_behind 75 = .ok (.iconst 3, 1) := by decide +kernel
theorem dX3_behind_76 : decode cX3_behind 76 = .ok (.iadd, 1) := by decide +kernel
theorem dX3_behind_77 : decode cX3_behind 77 = .ok (.iaload, 1) := by decide +kernel
theorem dX3_behind_78 : decode cX3_behind 78 = .ok (.i2l, 1) := by decide +kernel
theorem dX3_behind_79 : decode cX3_behind 79 = .ok (.lcmp, 1) := by decide +kernel
theorem dX3_behind_80 : decode cX3_behind 80 = .ok (.ifCond .ge 8, 3) := by decide +kernel
theorem dX3_behind_83 : decode cX3_behind 83 = .ok (.iload_n 2, 1) := by decide +kernel
theorem dX3_behind_84 : decode cX3_behind 84 = .ok (.i2l, 1) := by decide +kernel
theorem dX3_behind_85 : decode cX3_behind 85 = .ok (.goto 31, 3) := by decide +kernel
theorem dX3_behind_88 : decode cX3_behind 88 = .ok (.aload_n 0, 1) := by decide +kernel
theorem dX3_behind_89 : decode cX3_behind 89 = .ok (.getfield 92, 3) := by decide +kernel
theorem dX3_behind_92 : decode cX3_behind 92 = .ok (.aload_n 0, 1) := by decide +kernel
theorem dX3_behind_93 : decode cX3_behind 93 = .ok (.getfield 23, 3) := by decide +kernel
theorem dX3_behind_96 : decode cX3_behind 96 = .ok (.iconst 5, 1) := by decide +kernel
theorem dX3_behind_97 : decode cX3_behind 97 = .ok (.iload_n 1, 1) := by decide +kernel
theorem dX3_behind_98 : decode cX3_behind 98 = .ok (.imul, 1) := by decide +kernel
theorem dX3_behind_99 : decode cX3_behind 99 = .ok (.iconst 4, 1) := by decide +kernel
theorem dX3_behind_100 : decode cX3_behind 100 = .ok (.iadd, 1) := by decide +kernel
theorem dX3_behind_101 : decode cX3_behind 101 = .ok (.iaload, 1) := by decide +kernel
theorem dX3_behind_102 : decode cX3_behind 102 = .ok (.i2l, 1) := by decide +kernel
theorem dX3_behind_103 : decode cX3_behind 103 = .ok (.lcmp, 1) := by decide +kernel
theorem dX3_behind_104 : decode cX3_behind 104 = .ok (.ifCond .le 8, 3) := by decide +kernel
theorem dX3_behind_107 : decode cX3_behind 107 = .ok (.iload_n 3, 1) := by decide +kernel
theorem dX3_behind_108 : decode cX3_behind 108 = .ok (.i2l, 1) := by decide +kernel
theorem dX3_behind_109 : decode cX3_behind 109 = .ok (.goto 7, 3) := by decide +kernel
theorem dX3_behind_112 : decode cX3_behind 112 = .ok (.aload_n 0, 1) := by decide +kernel
theorem dX3_behind_113 : decode cX3_behind 113 = .ok (.getfield 92, 3) := by decide +kernel
theorem dX3_behind_116 : decode cX3_behind 116 = .ok (.invokevirtual 106, 3) := by decide +kernel
theorem dX3_behind_119 : decode cX3_behind 119 = .ok (.goto 11, 3) := by decide +kernel
theorem dX3_behind_122 : decode cX3_behind 122 = .ok (.aload_n 0, 1) := by decide +kernel
theorem dX3_behind_123 : decode cX3_behind 123 = .ok (.aload_n 0, 1) := by decide +kernel
theorem dX3_behind_124 : decode cX3_behind 124 = .ok (.getfield 92, 3) := by decide +kernel
theorem dX3_behind_127 : decode cX3_behind 127 = .ok (.invokevirtual 106, 3) := by decide +kernel
theorem dX3_behind_130 : decode cX3_behind 130 = .ok (.return_, 1) := by decide +kernel
theorem dX3_pair_0 : decode cX3_pair 0 = .ok (.iload_n 3, 1) := by decide +kernel
theorem dX3_pair_1 : decode cX3_pair 1 = .ok (.iconst 1, 1) := by decide +kernel
theorem dX3_pair_2 : decode cX3_pair 2 = .ok (.if_icmp .ne 34, 3) := by decide +kernel
theorem dX3_pair_5 : decode cX3_pair 5 = .ok (.aload_n 0, 1) := by decide +kernel
theorem dX3_pair_6 : decode cX3_pair 6 = .ok (.getfield 51, 3) := by decide +kernel
theorem dX3_pair_9 : decode cX3_pair 9 = .ok (.aload_n 0, 1) := by decide +kernel
theorem dX3_pair_10 : decode cX3_pair 10 = .ok (.getfield 99, 3) := by decide +kernel
theorem dX3_pair_13 : decode cX3_pair 13 = .ok (.aload_n 0, 1) := by decide +kernel
theorem dX3_pair_14 : decode cX3_pair 14 = .ok (.getfield 92, 3) := by decide +kernel
theorem dX3_pair_17 : decode cX3_pair 17 = .ok (.lastore, 1) := by decide +kernel
theorem dX3_pair_18 : decode cX3_pair 18 = .ok (.aload_n 0, 1) := by decide +kernel
theorem dX3_pair_19 : decode cX3_pair 19 = .ok (.aload_n 0, 1) := by decide +kernel
theorem dX3_pair_20 : decode cX3_pair 20 = .ok (.getfield 23, 3) := by decide +kernel
theorem dX3_pair_23 : decode cX3_pair 23 = .ok (.iconst 5, 1) := by decide +kernel
theorem dX3_pair_24 : decode cX3_pair 24 = .ok (.iload_n 1, 1) := by decide +kernel
theorem dX3_pair_25 : decode cX3_pair 25 = .ok (.imul, 1) := by decide +kernel
theorem dX3_pair_26 : decode cX3_pair 26 = .ok (.iconst 1, 1) := by decide +kernel
theorem dX3_pair_27 : decode cX3_pair 27 = .ok (.iadd, 1) := by decide +kernel
theorem dX3_pair_28 : decode cX3_pair 28 = .ok (.iaload, 1) := by decide +kernel
theorem dX3_pair_29 : decode cX3_pair 29 = .ok (.iload_n 2, 1) := by decide +kernel
theorem dX3_pair_30 : decode cX3_pair 30 = .ok (.invokevirtual 118, 3) := by decide +kernel
theorem dX3_pair_33 : decode cX3_pair 33 = .ok (.goto 29, 3) := by decide +kernel
theorem dX3_pair_36 : decode cX3_pair 36 = .ok (.aload_n 0, 1) := by decide +kernel
theorem dX3_pair_37 : decode cX3_pair 37 = .ok (.aload_n 0, 1) := by decide +kernel
theorem dX3_pair_38 : decode cX3_pair 38 = .ok (.getfield 20, 3) := by decide +kernel
theorem dX3_pair_41 : decode cX3_pair 41 = .ok (.iload_n 1, 1) := by decide +kernel
theorem dX3_pair_42 : decode cX3_pair 42 = .ok (.iaload, 1) := by decide +kernel
theorem dX3_pair_43 : decode cX3_pair 43 = .ok (.aload_n 0, 1) := by decide +kernel
theorem dX3_pair_44 : decode cX3_pair 44 = .ok (.getfield 51, 3) := by decide +kernel
theorem dX3_pair_47 : decode cX3_pair 47 = .ok (.aload_n 0, 1) := by decide +kernel
theorem dX3_pair_48 : decode cX3_pair 48 = .ok (.getfield 99, 3) := by decide +kernel
theorem dX3_pair_51 : decode cX3_pair 51 = .ok (.laload, 1) := by decide +kernel
theorem dX3_pair_52 : decode cX3_pair 52 = .ok (.aload_n 0, 1) := by decide +kernel
theorem dX3_pair_53 : decode cX3_pair 53 = .ok (.getfield 92, 3) := by decide +kernel
theorem dX3_pair_56 : decode cX3_pair 56 = .ok (.invokestatic 122, 3) := by decide +kernel
theorem dX3_pair_59 : decode cX3_pair 59 = .ok (.invokevirtual 106, 3) := by decide +kernel
theorem dX3_pair_62 : decode cX3_pair 62 = .ok (.return_, 1) := by decide +kernel
theorem dX3_choice_0 : decode cX3_choice 0 = .ok (.iload_n 3, 1) := by decide +kernel
theorem dX3_choice_1 : decode cX3_choice 1 = .ok (.iconst 1, 1) := by decide +kernel
theorem dX3_choice_2 : decode cX3_choice 2 = .ok (.if_icmp .ne 43, 3) := by decide +kernel
theorem dX3_choice_5 : decode cX3_choice 5 = .ok (.aload_n 0, 1) := by decide +kernel
theorem dX3_choice_6 : decode cX3_choice 6 = .ok (.aload_n 0, 1) := by decide +kernel
theorem dX3_choice_7 : decode cX3_choice 7 = .ok (.getfield 92, 3) := by decide +kernel
theorem dX3_choice_10 : decode cX3_choice 10 = .ok (.lconst 0, 1) := by decide +kernel
theorem dX3_choice_11 : decode cX3_choice 11 = .ok (.lcmp, 1) := by decide +kernel
theorem dX3_choice_12 : decode cX3_choice 12 = .ok (.ifCond .le 16, 3) := by decide +kernel
theorem dX3_choice_15 : decode cX3_choice 15 = .ok (.aload_n 0, 1) := by decide +kernel
theorem dX3_choice_16 : decode cX3_choice 16 = .ok (.getfield 23, 3) := by decide +kernel
theorem dX3_choice_19 : decode cX3_choice 19 = .ok (.iconst 5, 1) := by decide +kernel
theorem dX3_choice_20 : decode cX3_choice 20 = .ok (.iload_n 1, 1) := by decide +kernel
theorem dX3_choice_21 : decode cX3_choice 21 = .ok (.imul, 1) := by decide +kernel
theorem dX3_choice_22 : decode cX3_choice 22 = .ok (.iconst 1, 1) := by decide +kernel
theorem dX3_choice_23 : decode cX3_choice 23 = .ok (.iadd, 1) := by decide +kernel
theorem dX3_choice_24 : decode cX3_choice 24 = .ok (.iaload, 1) := by decide +kernel
theorem dX3_choice_25 : decode cX3_choice 25 = .ok (.goto 13, 3) := by decide +kernel
theorem dX3_choice_28 : decode cX3_choice 28 = .ok (.aload_n 0, 1) := by decide +kernel
theorem dX3_choice_29 : decode cX3_choice 29 = .ok (.getfield 23, 3) := by decide +kernel
theorem dX3_choice_32 : decode cX3_choice 32 = .ok (.iconst 5, 1) := by decide +kernel
theorem dX3_choice_33 : decode cX3_choice 33 = .ok (.iload_n 1, 1) := by decide +kernel
theorem dX3_choice_34 : decode cX3_choice 34 = .ok (.imul, 1) := by decide +kernel
theorem dX3_choice_35 : decode cX3_choice 35 = .ok (.iconst 2, 1) := by decide +kernel
theorem dX3_choice_36 : decode cX3_choice 36 = .ok (.iadd, 1) := by decide +kernel
theorem dX3_choice_37 : decode cX3_choice 37 = .ok (.iaload, 1) := by decide +kernel
theorem dX3_choice_38 : decode cX3_choice 38 = .ok (.iload_n 2, 1) := by decide +kernel
theorem dX3_choice_39 : decode cX3_choice 39 = .ok (.invokevirtual 118, 3) := by decide +kernel
theorem dX3_choice_42 : decode cX3_choice 42 = .ok (.goto 11, 3) := by decide +kernel
theorem dX3_choice_45 : decode cX3_choice 45 = .ok (.aload_n 0, 1) := by decide +kernel
theorem dX3_choice_46 : decode cX3_choice 46 = .ok (.aload_n 0, 1) := by decide +kernel
theorem dX3_choice_47 : decode cX3_choice 47 = .ok (.getfield 92, 3) := by decide +kernel
theorem dX3_choice_50 : decode cX3_choice 50 = .ok (.invokevirtual 106, 3) := by decide +kernel
theorem dX3_choice_53 : decode cX3_choice 53 = .ok (.return_, 1) := by decide +kernel
theorem dX3_slots_0 : decode cX3_slots 0 = .ok (.aload_n 0, 1) := by decide +kernel
theorem dX3_slots_1 : decode cX3_slots 1 = .ok (.getfield 51, 3) := by decide +kernel
theorem dX3_slots_4 : decode cX3_slots 4 = .ok (.aload_n 0, 1) := by decide +kernel
theorem dX3_slots_5 : decode cX3_slots 5 = .ok (.getfield 99, 3) := by decide +kernel
theorem dX3_slots_8 : decode cX3_slots 8 = .ok (.dup2, 1) := by decide +kernel
theorem dX3_slots_9 : decode cX3_slots 9 = .ok (.laload, 1) := by decide +kernel
theorem dX3_slots_10 : decode cX3_slots 10 = .ok (.iload_n 3, 1) := by decide +kernel
theorem dX3_slots_11 : decode cX3_slots 11 = .ok (.ifCond .le 10, 3) := by decide +kernel
theorem dX3_slots_14 : decode cX3_slots 14 = .ok (.aload_n 0, 1) := by decide +kernel
theorem dX3_slots_15 : decode cX3_slots 15 = .ok (.getfield 92, 3) := by decide +kernel
theorem dX3_slots_18 : decode cX3_slots 18 = .ok (.goto 4, 3) := by decide +kernel
theorem dX3_slots_21 : decode cX3_slots 21 = .ok (.lconst 0, 1) := by decide +kernel
theorem dX3_slots_22 : decode cX3_slots 22 = .ok (.ladd, 1) := by decide +kernel
theorem dX3_slots_23 : decode cX3_slots 23 = .ok (.lastore, 1) := by decide +kernel
theorem dX3_slots_24 : decode cX3_slots 24 = .ok (.aload_n 0, 1) := by decide +kernel
theorem dX3_slots_25 : decode cX3_slots 25 = .ok (.getfield 23, 3) := by decide +kernel
theorem dX3_slots_28 : decode cX3_slots 28 = .ok (.iconst 5, 1) := by decide +kernel
theorem dX3_slots_29 : decode cX3_slots 29 = .ok (.iload_n 1, 1) := by decide +kernel
theorem dX3_slots_30 : decode cX3_slots 30 = .ok (.imul, 1) := by decide +kernel
theorem dX3_slots_31 : decode cX3_slots 31 = .ok (.iaload, 1) := by decide +kernel
theorem dX3_slots_32 : decode cX3_slots 32 = .ok (.iload_n 3, 1) := by decide +kernel
theorem dX3_slots_33 : decode cX3_slots 33 = .ok (.iadd, 1) := by decide +kernel
theorem dX3_slots_34 : decode cX3_slots 34 = .ok (.istore 4, 2) := by decide +kernel
theorem dX3_slots_36 : decode cX3_slots 36 = .ok (.iload 4, 2) := by decide +kernel
theorem dX3_slots_38 : decode cX3_slots 38 = .ok (.aload_n 0, 1) := by decide +kernel
theorem dX3_slots_39 : decode cX3_slots 39 = .ok (.getfield 23, 3) := by decide +kernel
theorem dX3_slots_42 : decode cX3_slots 42 = .ok (.iconst 5, 1) := by decide +kernel
theorem dX3_slots_43 : decode cX3_slots 43 = .ok (.iload_n 1, 1) := by decide +kernel
theorem dX3_slots_44 : decode cX3_slots 44 = .ok (.imul, 1) := by decide +kernel
theorem dX3_slots_45 : decode cX3_slots 45 = .ok (.iconst 1, 1) := by decide +kernel
theorem dX3_slots_46 : decode cX3_slots 46 = .ok (.iadd, 1) := by decide +kernel
theorem dX3_slots_47 : decode cX3_slots 47 = .ok (.iaload, 1) := by decide +kernel
theorem dX3_slots_48 : decode cX3_slots 48 = .ok (.if_icmp .le 19, 3) := by decide +kernel
theorem dX3_slots_51 : decode cX3_slots 51 = .ok (.aload_n 0, 1) := by decide +kernel
theorem dX3_slots_52 : decode cX3_slots 52 = .ok (.aload_n 0, 1) := by decide +kernel
theorem dX3_slots_53 : decode cX3_slots 53 = .ok (.getfield 51, 3) := by decide +kernel
theorem dX3_slots_56 : decode cX3_slots 56 = .ok (.aload_n 0, 1) := by decide +kernel
theorem dX3_slots_57 : decode cX3_slots 57 = .ok (.getfield 99, 3) := by decide +kernel
theorem dX3_slots_60 : decode cX3_slots 60 = .ok (.laload, 1) := by decide +kernel
theorem dX3_slots_61 : decode cX3_slots 61 = .ok (.invokevirtual 106, 3) := by decide +kernel
theorem dX3_slots_64 : decode cX3_slots 64 = .ok (.goto 15, 3) := by decide +kernel
theorem dX3_slots_67 : decode cX3_slots 67 = .ok (.aload_n 0, 1) := by decide +kernel
theorem dX3_slots_68 : decode cX3_slots 68 = .ok (.aload_n 0, 1) := by decide +kernel
theorem dX3_slots_69 : decode cX3_slots 69 = .ok (.getfield 17, 3) := by decide +kernel
theorem dX3_slots_72 : decode cX3_slots 72 = .ok (.iload 4, 2) := by decide +kernel
theorem dX3_slots_74 : decode cX3_slots 74 = .ok (.iaload, 1) := by decide +kernel
theorem dX3_slots_75 : decode cX3_slots 75 = .ok (.iload_n 2, 1) := by decide +kernel
theorem dX3_slots_76 : decode cX3_slots 76 = .ok (.invokevirtual 118, 3) := by decide +kernel
theorem dX3_slots_79 : decode cX3_slots 79 = .ok (.return_, 1) := by decide +kernel
theorem dX3_go_0 : decode cX3_go 0 = .ok (.aload_n 0, 1) := by decide +kernel
theorem dX3_go_1 : decode cX3_go 1 = .ok (.getfield 42, 3) := by decide +kernel
theorem dX3_go_4 : decode cX3_go 4 = .ok (.aload_n 0, 1) := by decide +kernel
theorem dX3_go_5 : decode cX3_go 5 = .ok (.getfield 99, 3) := by decide +kernel
theorem dX3_go_8 : decode cX3_go 8 = .ok (.iaload, 1) := by decide +kernel
theorem dX3_go_9 : decode cX3_go 9 = .ok (.istore_n 1, 1) := by decide +kernel
theorem dX3_go_10 : decode cX3_go 10 = .ok (.aload_n 0, 1) := by decide +kernel
theorem dX3_go_11 : decode cX3_go 11 = .ok (.getfield 45, 3) := by decide +kernel
theorem dX3_go_14 : decode cX3_go 14 = .ok (.aload_n 0, 1) := by decide +kernel
theorem dX3_go_15 : decode cX3_go 15 = .ok (.getfield 99, 3) := by decide +kernel
theorem dX3_go_18 : decode cX3_go 18 = .ok (.iaload, 1) := by decide +kernel
theorem dX3_go_19 : decode cX3_go 19 = .ok (.istore_n 2, 1) := by decide +kernel
theorem dX3_go_20 : decode cX3_go 20 = .ok (.aload_n 0, 1) := by decide +kernel
theorem dX3_go_21 : decode cX3_go 21 = .ok (.getfield 48, 3) := by decide +kernel
theorem dX3_go_24 : decode cX3_go 24 = .ok (.aload_n 0, 1) := by decide +kernel
theorem dX3_go_25 : decode cX3_go 25 = .ok (.getfield 99, 3) := by decide +kernel
theorem dX3_go_28 : decode cX3_go 28 = .ok (.iaload, 1) := by decide +kernel
theorem dX3_go_29 : decode cX3_go 29 = .ok (.istore_n 3, 1) := by decide +kernel
theorem dX3_go_30 : decode cX3_go 30 = .ok (.aload_n 0, 1) := by decide +kernel
theorem dX3_go_31 : decode cX3_go 31 = .ok (.getfield 48, 3) := by decide +kernel
theorem dX3_go_34 : decode cX3_go 34 = .ok (.aload_n 0, 1) := by decide +kernel
theorem dX3_go_35 : decode cX3_go 35 = .ok (.getfield 99, 3) := by decide +kernel
theorem dX3_go_38 : decode cX3_go 38 = .ok (.dup2, 1) := by decide +kernel
theorem dX3_go_39 : decode cX3_go 39 = .ok (.iaload, 1) := by decide +kernel
theorem dX3_go_40 : decode cX3_go 40 = .ok (.iconst 1, 1) := by decide +kernel
theorem dX3_go_41 : decode cX3_go 41 = .ok (.iadd, 1) := by decide +kernel
theorem dX3_go_42 : decode cX3_go 42 = .ok (.iastore, 1) := by decide +kernel
theorem dX3_go_43 : decode cX3_go 43 = .ok (.aload_n 0, 1) := by decide +kernel
theorem dX3_go_44 : decode cX3_go 44 = .ok (.getfield 20, 3) := by decide +kernel
theorem dX3_go_47 : decode cX3_go 47 = .ok (.iload_n 1, 1) := by decide +kernel
theorem dX3_go_48 : decode cX3_go 48 = .ok (.iaload, 1) := by decide +kernel
theorem dX3_go_49 : decode cX3_go 49 = .ok (.istore 4, 2) := by decide +kernel
theorem dX3_go_51 : decode cX3_go 51 = .ok (.iload 4, 2) := by decide +kernel
theorem dX3_go_53 : decode cX3_go 53 = .ok (.iconst 3, 1) := by decide +kernel
theorem dX3_go_54 : decode cX3_go 54 = .ok (.if_icmp .le 17, 3) := by decide +kernel
theorem dX3_go_57 : decode cX3_go 57 = .ok (.iload 4, 2) := by decide +kernel
theorem dX3_go_59 : decode cX3_go 59 = .ok (.bipush 12, 2) := by decide +kernel
theorem dX3_go_61 : decode cX3_go 61 = .ok (.if_icmp .eq 10, 3) := by decide +kernel
theorem dX3_go_64 : decode cX3_go 64 = .ok (.iload 4, 2) := by decide +kernel
theorem dX3_go_66 : decode cX3_go 66 = .ok (.bipush 14, 2) := by decide +kernel
theorem dX3_go_68 : decode cX3_go 68 = .ok (.if_icmp .ne 12, 3) := by decide +kernel
theorem dX3_go_71 : decode cX3_go 71 = .ok (.aload_n 0, 1) := by decide +kernel
theorem dX3_go_72 : decode cX3_go 72 = .ok (.iload_n 1, 1) := by decide +kernel
theorem dX3_go_73 : decode cX3_go 73 = .ok (.iload_n 2, 1) := by decide +kernel
theorem dX3_go_74 : decode cX3_go 74 = .ok (.invokevirtual 126, 3) := by decide +kernel
theorem dX3_go_77 : decode cX3_go 77 = .ok (.goto 145, 3) := by decide +kernel
theorem dX3_go_80 : decode cX3_go 80 = .ok (.iload 4, 2) := by decide +kernel
theorem dX3_go_82 : decode cX3_go 82 = .ok (.bipush 16, 2) := by decide +kernel
theorem dX3_go_84 : decode cX3_go 84 = .ok (.if_icmp .ne 13, 3) := by decide +kernel
theorem dX3_go_87 : decode cX3_go 87 = .ok (.aload_n 0, 1) := by decide +kernel
theorem dX3_go_88 : decode cX3_go 88 = .ok (.iload_n 1, 1) := by decide +kernel
theorem dX3_go_89 : decode cX3_go 89 = .ok (.iload_n 2, 1) := by decide +kernel
theorem dX3_go_90 : decode cX3_go 90 = .ok (.iload_n 3, 1) := by decide +kernel
theorem dX3_go_91 : decode cX3_go 91 = .ok (.invokevirtual 129, 3) := by decide +kernel
theorem dX3_go_94 : decode cX3_go 94 = .ok (.goto 128, 3) := by decide +kernel
theorem dX3_go_97 : decode cX3_go 97 = .ok (.iload_n 3, 1) := by decide +kernel
theorem dX3_go_98 : decode cX3_go 98 = .ok (.ifCond .ne 85, 3) := by decide +kernel
theorem dX3_go_101 : decode cX3_go 101 = .ok (.aload_n 0, 1) := by decide +kernel
theorem dX3_go_102 : decode cX3_go 102 = .ok (.getfield 30, 3) := by decide +kernel
theorem dX3_go_105 : decode cX3_go 105 = .ok (.iload_n 1, 1) := by decide +kernel
theorem dX3_go_106 : decode cX3_go 106 = .ok (.dup2, 1) := by decide +kernel
theorem dX3_go_107 : decode cX3_go 107 = .ok (.iaload, 1) := by decide +kernel
theorem dX3_go_108 : decode cX3_go 108 = .ok (.iload 4, 2) := by decide +kernel
theorem dX3_go_110 : decode cX3_go 110 = .ok (.bipush 13, 2) := by decide +kernel
theorem dX3_go_112 : decode cX3_go 112 = .ok (.if_icmp .ne 7, 3) := by decide +kernel
theorem dX3_go_115 : decode cX3_go 115 = .ok (.iconst 1, 1) := by decide +kernel
theorem dX3_go_116 : decode cX3_go 116 = .ok (.goto 4, 3) := by decide +kernel
theorem dX3_go_119 : decode cX3_go 119 = .ok (.iconst 0, 1) := by decide +kernel
theorem dX3_go_120 : decode cX3_go 120 = .ok (.iadd, 1) := by decide +kernel
theorem dX3_go_121 : decode cX3_go 121 = .ok (.iastore, 1) := by decide +kernel
theorem dX3_go_122 : decode cX3_go 122 = .ok (.aload_n 0, 1) := by decide +kernel
theorem dX3_go_123 : decode cX3_go 123 = .ok (.iload 4, 2) := by decide +kernel
theorem dX3_go_125 : decode cX3_go 125 = .ok (.bipush 15, 2) := by decide +kernel
theorem dX3_go_127 : decode cX3_go 127 = .ok (.if_icmp .ne 19, 3) := by decide +kernel
theorem dX3_go_130 : decode cX3_go 130 = .ok (.aload_n 0, 1) := by decide +kernel
theorem dX3_go_131 : decode cX3_go 131 = .ok (.getfield 17, 3) := by decide +kernel
theorem dX3_go_134 : decode cX3_go 134 = .ok (.aload_n 0, 1) := by decide +kernel
theorem dX3_go_135 : decode cX3_go 135 = .ok (.getfield 23, 3) := by decide +kernel
theorem dX3_go_138 : decode cX3_go 138 = .ok (.iconst 5, 1) := by decide +kernel
theorem dX3_go_139 : decode cX3_go 139 = .ok (.iload_n 1, 1) := by decide +kernel
theorem dX3_go_140 : decode cX3_go 140 = .ok (.imul, 1) := by decide +kernel
theorem dX3_go_141 : decode cX3_go 141 = .ok (.iaload, 1) := by decide +kernel
theorem dX3_go_142 : decode cX3_go 142 = .ok (.iaload, 1) := by decide +kernel
theorem dX3_go_143 : decode cX3_go 143 = .ok (.goto 11, 3) := by decide +kernel
theorem dX3_go_146 : decode cX3_go 146 = .ok (.aload_n 0, 1) := by decide +kernel
theorem dX3_go_147 : decode cX3_go 147 = .ok (.getfield 23, 3) := by decide +kernel
theorem dX3_go_150 : decode cX3_go 150 = .ok (.iconst 5, 1) := by decide +kernel
theorem dX3_go_151 : decode cX3_go 151 = .ok (.iload_n 1, 1) := by decide +kernel
theorem dX3_go_152 : decode cX3_go 152 = .ok (.imul, 1) := by decide +kernel
theorem dX3_go_153 : decode cX3_go 153 = .ok (.iaload, 1) := by decide +kernel
theorem dX3_go_154 : decode cX3_go 154 = .ok (.iload 4, 2) := by decide +kernel
theorem dX3_go_156 : decode cX3_go 156 = .ok (.bipush 10, 2) := by decide +kernel
theorem dX3_go_158 : decode cX3_go 158 = .ok (.if_icmp .ne 18, 3) := by decide +kernel
theorem dX3_go_161 : decode cX3_go 161 = .ok (.iload_n 2, 1) := by decide +kernel
theorem dX3_go_162 : decode cX3_go 162 = .ok (.aload_n 0, 1) := by decide +kernel
theorem dX3_go_163 : decode cX3_go 163 = .ok (.getfield 23, 3) := by decide +kernel
theorem dX3_go_166 : decode cX3_go 166 = .ok (.iconst 5, 1) := by decide +kernel
theorem dX3_go_167 : decode cX3_go 167 = .ok (.iload_n 1, 1) := by decide +kernel
theorem dX3_go_168 : decode cX3_go 168 = .ok (.imul, 1) := by decide +kernel
theorem dX3_go_169 : decode cX3_go 169 = .ok (.iconst 1, 1) := by decide +kernel
theorem dX3_go_170 : decode cX3_go 170 = .ok (.iadd, 1) := by decide +kernel
theorem dX3_go_171 : decode cX3_go 171 = .ok (.iaload, 1) := by decide +kernel
theorem dX3_go_172 : decode cX3_go 172 = .ok (.iadd, 1) := by decide +kernel
theorem dX3_go_173 : decode cX3_go 173 = .ok (.goto 4, 3) := by decide +kernel
theorem dX3_go_176 : decode cX3_go 176 = .ok (.iload_n 2, 1) := by decide +kernel
theorem dX3_go_177 : decode cX3_go 177 = .ok (.invokevirtual 118, 3) := by decide +kernel
theorem dX3_go_180 : decode cX3_go 180 = .ok (.goto 42, 3) := by decide +kernel
theorem dX3_go_183 : decode cX3_go 183 = .ok (.iload 4, 2) := by decide +kernel
theorem dX3_go_185 : decode cX3_go 185 = .ok (.bipush 7, 2) := by decide +kernel
theorem dX3_go_187 : decode cX3_go 187 = .ok (.if_icmp .gt 13, 3) := by decide +kernel
theorem dX3_go_190 : decode cX3_go 190 = .ok (.aload_n 0, 1) := by decide +kernel
theorem dX3_go_191 : decode cX3_go 191 = .ok (.iload_n 1, 1) := by decide +kernel
theorem dX3_go_192 : decode cX3_go 192 = .ok (.iload_n 2, 1) := by decide +kernel
theorem dX3_go_193 : decode cX3_go 193 = .ok (.iload_n 3, 1) := by decide +kernel
theorem dX3_go_194 : decode cX3_go 194 = .ok (.invokevirtual 133, 3) := by decide +kernel
theorem dX3_go_197 : decode cX3_go 197 = .ok (.goto 25, 3) := by decide +kernel
theorem dX3_go_200 : decode cX3_go 200 = .ok (.iload 4, 2) := by decide +kernel
theorem dX3_go_202 : decode cX3_go 202 = .ok (.bipush 9, 2) := by decide +kernel
theorem dX3_go_204 : decode cX3_go 204 = .ok (.if_icmp .ne 13, 3) := by decide +kernel
theorem dX3_go_207 : decode cX3_go 207 = .ok (.aload_n 0, 1) := by decide +kernel
theorem dX3_go_208 : decode cX3_go 208 = .ok (.iload_n 1, 1) := by decide +kernel
theorem dX3_go_209 : decode cX3_go 209 = .ok (.iload_n 2, 1) := by decide +kernel
theorem dX3_go_210 : decode cX3_go 210 = .ok (.iload_n 3, 1) := by decide +kernel
theorem dX3_go_211 : decode cX3_go 211 = .ok (.invokevirtual 136, 3) := by decide +kernel
theorem dX3_go_214 : decode cX3_go 214 = .ok (.goto 8, 3) := by decide +kernel
theorem dX3_go_217 : decode cX3_go 217 = .ok (.aload_n 0, 1) := by decide +kernel
theorem dX3_go_218 : decode cX3_go 218 = .ok (.iload_n 1, 1) := by decide +kernel
theorem dX3_go_219 : decode cX3_go 219 = .ok (.invokevirtual 139, 3) := by decide +kernel
theorem dX3_go_222 : decode cX3_go 222 = .ok (.return_, 1) := by decide +kernel
theorem dX3_asks_0 : decode cX3_asks 0 = .ok (.aload_n 0, 1) := by decide +kernel
theorem dX3_asks_1 : decode cX3_asks 1 = .ok (.iconst 0, 1) := by decide +kernel
theorem dX3_asks_2 : decode cX3_asks 2 = .ok (.putfield 96, 3) := by decide +kernel
theorem dX3_asks_5 : decode cX3_asks 5 = .ok (.aload_n 0, 1) := by decide +kernel
theorem dX3_asks_6 : decode cX3_asks 6 = .ok (.iconst 0, 1) := by decide +kernel
theorem dX3_asks_7 : decode cX3_asks 7 = .ok (.putfield 89, 3) := by decide +kernel
theorem dX3_asks_10 : decode cX3_asks 10 = .ok (.aload_n 0, 1) := by decide +kernel
theorem dX3_asks_11 : decode cX3_asks 11 = .ok (.iconst (-1), 1) := by decide +kernel
theorem dX3_asks_12 : decode cX3_asks 12 = .ok (.putfield 99, 3) := by decide +kernel
theorem dX3_asks_15 : decode cX3_asks 15 = .ok (.aload_n 0, 1) := by decide +kernel
theorem dX3_asks_16 : decode cX3_asks 16 = .ok (.iload_n 1, 1) := by decide +kernel
theorem dX3_asks_17 : decode cX3_asks 17 = .ok (.iload_n 2, 1) := by decide +kernel
theorem dX3_asks_18 : decode cX3_asks 18 = .ok (.invokevirtual 118, 3) := by decide +kernel
theorem dX3_asks_21 : decode cX3_asks 21 = .ok (.aload_n 0, 1) := by decide +kernel
theorem dX3_asks_22 : decode cX3_asks 22 = .ok (.getfield 89, 3) := by decide +kernel
theorem dX3_asks_25 : decode cX3_asks 25 = .ok (.ifCond .ne 17, 3) := by decide +kernel
theorem dX3_asks_28 : decode cX3_asks 28 = .ok (.aload_n 0, 1) := by decide +kernel
theorem dX3_asks_29 : decode cX3_asks 29 = .ok (.getfield 99, 3) := by decide +kernel
theorem dX3_asks_32 : decode cX3_asks 32 = .ok (.ifCond .lt 10, 3) := by decide +kernel
theorem dX3_asks_35 : decode cX3_asks 35 = .ok (.aload_n 0, 1) := by decide +kernel
theorem dX3_asks_36 : decode cX3_asks 36 = .ok (.invokevirtual 143, 3) := by decide +kernel
theorem dX3_asks_39 : decode cX3_asks 39 = .ok (.goto (-18), 3) := by decide +kernel
theorem dX3_asks_42 : decode cX3_asks 42 = .ok (.aload_n 0, 1) := by decide +kernel
theorem dX3_asks_43 : decode cX3_asks 43 = .ok (.getfield 89, 3) := by decide +kernel
theorem dX3_asks_46 : decode cX3_asks 46 = .ok (.ifCond .ne 7, 3) := by decide +kernel
theorem dX3_asks_49 : decode cX3_asks 49 = .ok (.iconst 1, 1) := by decide +kernel
theorem dX3_asks_50 : decode cX3_asks 50 = .ok (.goto 4, 3) := by decide +kernel
theorem dX3_asks_53 : decode cX3_asks 53 = .ok (.iconst 0, 1) := by decide +kernel
theorem dX3_asks_54 : decode cX3_asks 54 = .ok (.ireturn, 1) := by decide +kernel
theorem dX3_ask_0 : decode cX3_ask 0 = .ok (.aload_n 0, 1) := by decide +kernel
theorem dX3_ask_1 : decode cX3_ask 1 = .ok (.iload_n 1, 1) := by decide +kernel
theorem dX3_ask_2 : decode cX3_ask 2 = .ok (.invokevirtual 67, 3) := by decide +kernel
theorem dX3_ask_5 : decode cX3_ask 5 = .ok (.ifCond .ne 6, 3) := by decide +kernel
theorem dX3_ask_8 : decode cX3_ask 8 = .ok (.bipush (-101), 2) := by decide +kernel
theorem dX3_ask_10 : decode cX3_ask 10 = .ok (.ireturn, 1) := by decide +kernel
theorem dX3_ask_11 : decode cX3_ask 11 = .ok (.aload_n 0, 1) := by decide +kernel
theorem dX3_ask_12 : decode cX3_ask 12 = .ok (.iload_n 1, 1) := by decide +kernel
theorem dX3_ask_13 : decode cX3_ask 13 = .ok (.iload_n 2, 1) := by decide +kernel
theorem dX3_ask_14 : decode cX3_ask 14 = .ok (.invokevirtual 85, 3) := by decide +kernel
theorem dX3_ask_17 : decode cX3_ask 17 = .ok (.ifCond .ne 8, 3) := by decide +kernel
theorem dX3_ask_20 : decode cX3_ask 20 = .ok (.aload_n 0, 1) := by decide +kernel
theorem dX3_ask_21 : decode cX3_ask 21 = .ok (.getfield 89, 3) := by decide +kernel
theorem dX3_ask_24 : decode cX3_ask 24 = .ok (.ireturn, 1) := by decide +kernel
theorem dX3_ask_25 : decode cX3_ask 25 = .ok (.aload_n 0, 1) := by decide +kernel
theorem dX3_ask_26 : decode cX3_ask 26 = .ok (.aload_n 0, 1) := by decide +kernel
theorem dX3_ask_27 : decode cX3_ask 27 = .ok (.getfield 92, 3) := by decide +kernel
theorem dX3_ask_30 : decode cX3_ask 30 = .ok (.putfield 146, 3) := by decide +kernel
theorem dX3_ask_33 : decode cX3_ask 33 = .ok (.iconst 1, 1) := by decide +kernel
theorem dX3_ask_34 : decode cX3_ask 34 = .ok (.ireturn, 1) := by decide +kernel
theorem dX3_given_0 : decode cX3_given 0 = .ok (.aload_n 0, 1) := by decide +kernel
theorem dX3_given_1 : decode cX3_given 1 = .ok (.getfield 146, 3) := by decide +kernel
theorem dX3_given_4 : decode cX3_given 4 = .ok (.lreturn, 1) := by decide +kernel
theorem dX3_sluice_0 : decode cX3_sluice 0 = .ok (.aload_n 0, 1) := by decide +kernel
theorem dX3_sluice_1 : decode cX3_sluice 1 = .ok (.iload_n 1, 1) := by decide +kernel
theorem dX3_sluice_2 : decode cX3_sluice 2 = .ok (.invokevirtual 72, 3) := by decide +kernel
theorem dX3_sluice_5 : decode cX3_sluice 5 = .ok (.ifCond .eq 19, 3) := by decide +kernel
theorem dX3_sluice_8 : decode cX3_sluice 8 = .ok (.aload_n 0, 1) := by decide +kernel
theorem dX3_sluice_9 : decode cX3_sluice 9 = .ok (.iload_n 2, 1) := by decide +kernel
theorem dX3_sluice_10 : decode cX3_sluice 10 = .ok (.invokevirtual 72, 3) := by decide +kernel
theorem dX3_sluice_13 : decode cX3_sluice 13 = .ok (.ifCond .eq 11, 3) := by decide +kernel
theorem dX3_sluice_16 : decode cX3_sluice 16 = .ok (.aload_n 0, 1) := by decide +kernel
theorem dX3_sluice_17 : decode cX3_sluice 17 = .ok (.iload_n 3, 1) := by decide +kernel
theorem dX3_sluice_18 : decode cX3_sluice 18 = .ok (.invokevirtual 67, 3) := by decide +kernel
theorem dX3_sluice_21 : decode cX3_sluice 21 = .ok (.ifCond .ne 6, 3) := by decide +kernel
theorem dX3_sluice_24 : decode cX3_sluice 24 = .ok (.bipush (-101), 2) := by decide +kernel
theorem dX3_sluice_26 : decode cX3_sluice 26 = .ok (.ireturn, 1) := by decide +kernel
theorem dX3_sluice_27 : decode cX3_sluice 27 = .ok (.iload_n 1, 1) := by decide +kernel
theorem dX3_sluice_28 : decode cX3_sluice 28 = .ok (.iload_n 2, 1) := by decide +kernel
theorem dX3_sluice_29 : decode cX3_sluice 29 = .ok (.if_icmp .ne 6, 3) := by decide +kernel
theorem dX3_sluice_32 : decode cX3_sluice 32 = .ok (.bipush (-102), 2) := by decide +kernel
theorem dX3_sluice_34 : decode cX3_sluice 34 = .ok (.ireturn, 1) := by decide +kernel
theorem dX3_sluice_35 : decode cX3_sluice 35 = .ok (.aload_n 0, 1) := by decide +kernel
theorem dX3_sluice_36 : decode cX3_sluice 36 = .ok (.getfield 149, 3) := by decide +kernel
theorem dX3_sluice_39 : decode cX3_sluice 39 = .ok (.bipush 8, 2) := by decide +kernel
theorem dX3_sluice_41 : decode cX3_sluice 41 = .ok (.if_icmp .ne 6, 3) := by decide +kernel
theorem dX3_sluice_44 : decode cX3_sluice 44 = .ok (.bipush (-103), 2) := by decide +kernel
theorem dX3_sluice_46 : decode cX3_sluice 46 = .ok (.ireturn, 1) := by decide +kernel
theorem dX3_sluice_47 : decode cX3_sluice 47 = .ok (.aload_n 0, 1) := by decide +kernel
theorem dX3_sluice_48 : decode cX3_sluice 48 = .ok (.getfield 33, 3) := by decide +kernel
theorem dX3_sluice_51 : decode cX3_sluice 51 = .ok (.aload_n 0, 1) := by decide +kernel
theorem dX3_sluice_52 : decode cX3_sluice 52 = .ok (.getfield 149, 3) := by decide +kernel
theorem dX3_sluice_55 : decode cX3_sluice 55 = .ok (.iload_n 1, 1) := by decide +kernel
theorem dX3_sluice_56 : decode cX3_sluice 56 = .ok (.iastore, 1) := by decide +kernel
theorem dX3_sluice_57 : decode cX3_sluice 57 = .ok (.aload_n 0, 1) := by decide +kernel
theorem dX3_sluice_58 : decode cX3_sluice 58 = .ok (.getfield 36, 3) := by decide +kernel
theorem dX3_sluice_61 : decode cX3_sluice 61 = .ok (.aload_n 0, 1) := by decide +kernel
theorem dX3_sluice_62 : decode cX3_sluice 62 = .ok (.getfield 149, 3) := by decide +kernel
theorem dX3_sluice_65 : decode cX3_sluice 65 = .ok (.iload_n 2, 1) := by decide +kernel
theorem dX3_sluice_66 : decode cX3_sluice 66 = .ok (.iastore, 1) := by decide +kernel
theorem dX3_sluice_67 : decode cX3_sluice 67 = .ok (.aload_n 0, 1) := by decide +kernel
theorem dX3_sluice_68 : decode cX3_sluice 68 = .ok (.getfield 39, 3) := by decide +kernel
theorem dX3_sluice_71 : decode cX3_sluice 71 = .ok (.aload_n 0, 1) := by decide +kernel
theorem dX3_sluice_72 : decode cX3_sluice 72 = .ok (.getfield 149, 3) := by decide +kernel
theorem dX3_sluice_75 : decode cX3_sluice 75 = .ok (.iload_n 3, 1) := by decide +kernel
theorem dX3_sluice_76 : decode cX3_sluice 76 = .ok (.iastore, 1) := by decide +kernel
theorem dX3_sluice_77 : decode cX3_sluice 77 = .ok (.aload_n 0, 1) := by decide +kernel
theorem dX3_sluice_78 : decode cX3_sluice 78 = .ok (.dup, 1) := by decide +kernel
theorem dX3_sluice_79 : decode cX3_sluice 79 = .ok (.getfield 149, 3) := by decide +kernel
theorem dX3_sluice_82 : decode cX3_sluice 82 = .ok (.iconst 1, 1) := by decide +kernel
theorem dX3_sluice_83 : decode cX3_sluice 83 = .ok (.iadd, 1) := by decide +kernel
theorem dX3_sluice_84 : decode cX3_sluice 84 = .ok (.putfield 149, 3) := by decide +kernel
theorem dX3_sluice_87 : decode cX3_sluice 87 = .ok (.aload_n 0, 1) := by decide +kernel
theorem dX3_sluice_88 : decode cX3_sluice 88 = .ok (.getfield 149, 3) := by decide +kernel
theorem dX3_sluice_91 : decode cX3_sluice 91 = .ok (.iconst 1, 1) := by decide +kernel
theorem dX3_sluice_92 : decode cX3_sluice 92 = .ok (.isub, 1) := by decide +kernel
theorem dX3_sluice_93 : decode cX3_sluice 93 = .ok (.ireturn, 1) := by decide +kernel
theorem dX3_flows_0 : decode cX3_flows 0 = .ok (.aload_n 0, 1) := by decide +kernel
theorem dX3_flows_1 : decode cX3_flows 1 = .ok (.aload_n 0, 1) := by decide +kernel
theorem dX3_flows_2 : decode cX3_flows 2 = .ok (.getfield 39, 3) := by decide +kernel
theorem dX3_flows_5 : decode cX3_flows 5 = .ok (.iload_n 1, 1) := by decide +kernel
theorem dX3_flows_6 : decode cX3_flows 6 = .ok (.iaload, 1) := by decide +kernel
theorem dX3_flows_7 : decode cX3_flows 7 = .ok (.iload_n 2, 1) := by decide +kernel
theorem dX3_flows_8 : decode cX3_flows 8 = .ok (.invokevirtual 85, 3) := by decide +kernel
theorem dX3_flows_11 : decode cX3_flows 11 = .ok (.ifCond .ne 18, 3) := by decide +kernel
theorem dX3_flows_14 : decode cX3_flows 14 = .ok (.aload_n 0, 1) := by decide +kernel
theorem dX3_flows_15 : decode cX3_flows 15 = .ok (.iload_n 1, 1) := by decide +kernel
theorem dX3_flows_16 : decode cX3_flows 16 = .ok (.putfield 54, 3) := by decide +kernel
theorem dX3_flows_19 : decode cX3_flows 19 = .ok (.aload_n 0, 1) := by decide +kernel
theorem dX3_flows_20 : decode cX3_flows 20 = .ok (.aload_n 0, 1) := by decide +kernel
theorem dX3_flows_21 : decode cX3_flows 21 = .ok (.getfield 89, 3) := by decide +kernel
theorem dX3_flows_24 : decode cX3_flows 24 = .ok (.putfield 152, 3) := by decide +kernel
theorem dX3_flows_27 : decode cX3_flows 27 = .ok (.iconst 0, 1) := by decide +kernel
theorem dX3_flows_28 : decode cX3_flows 28 = .ok (.ireturn, 1) := by decide +kernel
theorem dX3_flows_29 : decode cX3_flows 29 = .ok (.ldc 71, 2) := by decide +kernel
theorem dX3_flows_31 : decode cX3_flows 31 = .ok (.aload_n 0, 1) := by decide +kernel
theorem dX3_flows_32 : decode cX3_flows 32 = .ok (.getfield 7, 3) := by decide +kernel
theorem dX3_flows_35 : decode cX3_flows 35 = .ok (.aload_n 0, 1) := by decide +kernel
theorem dX3_flows_36 : decode cX3_flows 36 = .ok (.getfield 36, 3) := by decide +kernel
theorem dX3_flows_39 : decode cX3_flows 39 = .ok (.iload_n 1, 1) := by decide +kernel
theorem dX3_flows_40 : decode cX3_flows 40 = .ok (.iaload, 1) := by decide +kernel
theorem dX3_flows_41 : decode cX3_flows 41 = .ok (.iaload, 1) := by decide +kernel
theorem dX3_flows_42 : decode cX3_flows 42 = .ok (.isub, 1) := by decide +kernel
theorem dX3_flows_43 : decode cX3_flows 43 = .ok (.istore_n 3, 1) := by decide +kernel
theorem dX3_flows_44 : decode cX3_flows 44 = .ok (.aload_n 0, 1) := by decide +kernel
theorem dX3_flows_45 : decode cX3_flows 45 = .ok (.getfield 7, 3) := by decide +kernel
theorem dX3_flows_48 : decode cX3_flows 48 = .ok (.aload_n 0, 1) := by decide +kernel
theorem dX3_flows_49 : decode cX3_flows 49 = .ok (.getfield 33, 3) := by decide +kernel
theorem dX3_flows_52 : decode cX3_flows 52 = .ok (.iload_n 1, 1) := by decide +kernel
theorem dX3_flows_53 : decode cX3_flows 53 = .ok (.iaload, 1) := by decide +kernel
theorem dX3_flows_54 : decode cX3_flows 54 = .ok (.iaload, 1) := by decide +kernel
theorem dX3_flows_55 : decode cX3_flows 55 = .ok (.iload_n 3, 1) := by decide +kernel
theorem dX3_flows_56 : decode cX3_flows 56 = .ok (.if_icmp .ge 17, 3) := by decide +kernel
theorem dX3_flows_59 : decode cX3_flows 59 = .ok (.aload_n 0, 1) := by decide +kernel
theorem dX3_flows_60 : decode cX3_flows 60 = .ok (.getfield 7, 3) := by decide +kernel
theorem dX3_flows_63 : decode cX3_flows 63 = .ok (.aload_n 0, 1) := by decide +kernel
theorem dX3_flows_64 : decode cX3_flows 64 = .ok (.getfield 33, 3) := by decide +kernel
theorem dX3_flows_67 : decode cX3_flows 67 = .ok (.iload_n 1, 1) := by decide +kernel
theorem dX3_flows_68 : decode cX3_flows 68 = .ok (.iaload, 1) := by decide +kernel
theorem dX3_flows_69 : decode cX3_flows 69 = .ok (.iaload, 1) := by decide +kernel
theorem dX3_flows_70 : decode cX3_flows 70 = .ok (.goto 4, 3) := by decide +kernel
theorem dX3_flows_73 : decode cX3_flows 73 = .ok (.iload_n 3, 1) := by decide +kernel
theorem dX3_flows_74 : decode cX3_flows 74 = .ok (.istore 4, 2) := by decide +kernel
theorem dX3_flows_76 : decode cX3_flows 76 = .ok (.aload_n 0, 1) := by decide +kernel
theorem dX3_flows_77 : decode cX3_flows 77 = .ok (.getfield 92, 3) := by decide +kernel
theorem dX3_flows_80 : decode cX3_flows 80 = .ok (.lconst 0, 1) := by decide +kernel
theorem dX3_flows_81 : decode cX3_flows 81 = .ok (.lcmp, 1) := by decide +kernel
theorem dX3_flows_82 : decode cX3_flows 82 = .ok (.ifCond .ge 7, 3) := by decide +kernel
theorem dX3_flows_85 : decode cX3_flows 85 = .ok (.iconst 0, 1) := by decide +kernel
theorem dX3_flows_86 : decode cX3_flows 86 = .ok (.goto 24, 3) := by decide +kernel
theorem dX3_flows_89 : decode cX3_flows 89 = .ok (.aload_n 0, 1) := by decide +kernel
theorem dX3_flows_90 : decode cX3_flows 90 = .ok (.getfield 92, 3) := by decide +kernel
theorem dX3_flows_93 : decode cX3_flows 93 = .ok (.iload 4, 2) := by decide +kernel
theorem dX3_flows_95 : decode cX3_flows 95 = .ok (.i2l, 1) := by decide +kernel
theorem dX3_flows_96 : decode cX3_flows 96 = .ok (.lcmp, 1) := by decide +kernel
theorem dX3_flows_97 : decode cX3_flows 97 = .ok (.ifCond .le 8, 3) := by decide +kernel
theorem dX3_flows_100 : decode cX3_flows 100 = .ok (.iload 4, 2) := by decide +kernel
theorem dX3_flows_102 : decode cX3_flows 102 = .ok (.goto 8, 3) := by decide +kernel
theorem dX3_flows_105 : decode cX3_flows 105 = .ok (.aload_n 0, 1) := by decide +kernel
theorem dX3_flows_106 : decode cX3_flows 106 = .ok (.getfield 92, 3) := by decide +kernel
theorem dX3_flows_109 : decode cX3_flows 109 = .ok (.l2i, 1) := by decide +kernel
theorem dX3_flows_110 : decode cX3_flows 110 = .ok (.istore 5, 2) := by decide +kernel
theorem dX3_flows_112 : decode cX3_flows 112 = .ok (.aload_n 0, 1) := by decide +kernel
theorem dX3_flows_113 : decode cX3_flows 113 = .ok (.getfield 7, 3) := by decide +kernel
theorem dX3_flows_116 : decode cX3_flows 116 = .ok (.aload_n 0, 1) := by decide +kernel
theorem dX3_flows_117 : decode cX3_flows 117 = .ok (.getfield 33, 3) := by decide +kernel
theorem dX3_flows_120 : decode cX3_flows 120 = .ok (.iload_n 1, 1) := by decide +kernel
theorem dX3_flows_121 : decode cX3_flows 121 = .ok (.iaload, 1) := by decide +kernel
theorem dX3_flows_122 : decode cX3_flows 122 = .ok (.dup2, 1) := by decide +kernel
theorem dX3_flows_123 : decode cX3_flows 123 = .ok (.iaload, 1) := by decide +kernel
theorem dX3_flows_124 : decode cX3_flows 124 = .ok (.iload 5, 2) := by decide +kernel
theorem dX3_flows_126 : decode cX3_flows 126 = .ok (.isub, 1) := by decide +kernel
theorem dX3_flows_127 : decode cX3_flows 127 = .ok (.iastore, 1) := by decide +kernel
theorem dX3_flows_128 : decode cX3_flows 128 = .ok (.aload_n 0, 1) := by decide +kernel
theorem dX3_flows_129 : decode cX3_flows 129 = .ok (.getfield 7, 3) := by decide +kernel
theorem dX3_flows_132 : decode cX3_flows 132 = .ok (.aload_n 0, 1) := by decide +kernel
theorem dX3_flows_133 : decode cX3_flows 133 = .ok (.getfield 36, 3) := by decide +kernel
theorem dX3_flows_136 : decode cX3_flows 136 = .ok (.iload_n 1, 1) := by decide +kernel
theorem dX3_flows_137 : decode cX3_flows 137 = .ok (.iaload, 1) := by decide +kernel
theorem dX3_flows_138 : decode cX3_flows 138 = .ok (.dup2, 1) := by decide +kernel
theorem dX3_flows_139 : decode cX3_flows 139 = .ok (.iaload, 1) := by decide +kernel
theorem dX3_flows_140 : decode cX3_flows 140 = .ok (.iload 5, 2) := by decide +kernel
theorem dX3_flows_142 : decode cX3_flows 142 = .ok (.iadd, 1) := by decide +kernel
theorem dX3_flows_143 : decode cX3_flows 143 = .ok (.iastore, 1) := by decide +kernel
theorem dX3_flows_144 : decode cX3_flows 144 = .ok (.aload_n 0, 1) := by decide +kernel
theorem dX3_flows_145 : decode cX3_flows 145 = .ok (.iload 5, 2) := by decide +kernel
theorem dX3_flows_147 : decode cX3_flows 147 = .ok (.putfield 155, 3) := by decide +kernel
theorem dX3_flows_150 : decode cX3_flows 150 = .ok (.iconst 1, 1) := by decide +kernel
theorem dX3_flows_151 : decode cX3_flows 151 = .ok (.ireturn, 1) := by decide +kernel
theorem dX3_run_0 : decode cX3_run 0 = .ok (.iload_n 2, 1) := by decide +kernel
theorem dX3_run_1 : decode cX3_run 1 = .ok (.iconst 0, 1) := by decide +kernel
theorem dX3_run_2 : decode cX3_run 2 = .ok (.bipush 100, 2) := by decide +kernel
theorem dX3_run_4 : decode cX3_run 4 = .ok (.invokestatic 60, 3) := by decide +kernel
theorem dX3_run_7 : decode cX3_run 7 = .ok (.ifCond .ne 6, 3) := by decide +kernel
theorem dX3_run_10 : decode cX3_run 10 = .ok (.bipush (-102), 2) := by decide +kernel
theorem dX3_run_12 : decode cX3_run 12 = .ok (.ireturn, 1) := by decide +kernel
theorem dX3_run_13 : decode cX3_run 13 = .ok (.aload_n 0, 1) := by decide +kernel
theorem dX3_run_14 : decode cX3_run 14 = .ok (.iconst (-1), 1) := by decide +kernel
theorem dX3_run_15 : decode cX3_run 15 = .ok (.putfield 54, 3) := by decide +kernel
theorem dX3_run_18 : decode cX3_run 18 = .ok (.aload_n 0, 1) := by decide +kernel
theorem dX3_run_19 : decode cX3_run 19 = .ok (.iconst 0, 1) := by decide +kernel
theorem dX3_run_20 : decode cX3_run 20 = .ok (.putfield 152, 3) := by decide +kernel
theorem dX3_run_23 : decode cX3_run 23 = .ok (.aload_n 0, 1) := by decide +kernel
theorem dX3_run_24 : decode cX3_run 24 = .ok (.iconst 0, 1) := by decide +kernel
theorem dX3_run_25 : decode cX3_run 25 = .ok (.putfield 155, 3) := by decide +kernel
theorem dX3_run_28 : decode cX3_run 28 = .ok (.iconst 0, 1) := by decide +kernel
theorem dX3_run_29 : decode cX3_run 29 = .ok (.istore_n 3, 1) := by decide +kernel
theorem dX3_run_30 : decode cX3_run 30 = .ok (.iconst 1, 1) := by decide +kernel
theorem dX3_run_31 : decode cX3_run 31 = .ok (.istore 4, 2) := by decide +kernel
theorem dX3_run_33 : decode cX3_run 33 = .ok (.iload 4, 2) := by decide +kernel
theorem dX3_run_35 : decode cX3_run 35 = .ok (.ifCond .eq 58, 3) := by decide +kernel
theorem dX3_run_38 : decode cX3_run 38 = .ok (.iload_n 3, 1) := by decide +kernel
theorem dX3_run_39 : decode cX3_run 39 = .ok (.iload_n 2, 1) := by decide +kernel
theorem dX3_run_40 : decode cX3_run 40 = .ok (.if_icmp .ge 53, 3) := by decide +kernel
theorem dX3_run_43 : decode cX3_run 43 = .ok (.iconst 0, 1) := by decide +kernel
theorem dX3_run_44 : decode cX3_run 44 = .ok (.istore 5, 2) := by decide +kernel
theorem dX3_run_46 : decode cX3_run 46 = .ok (.iload 5, 2) := by decide +kernel
theorem dX3_run_48 : decode cX3_run 48 = .ok (.aload_n 0, 1) := by decide +kernel
theorem dX3_run_49 : decode cX3_run 49 = .ok (.getfield 149, 3) := by decide +kernel
theorem dX3_run_52 : decode cX3_run 52 = .ok (.if_icmp .ge 25, 3) := by decide +kernel
theorem dX3_run_55 : decode cX3_run 55 = .ok (.iload 4, 2) := by decide +kernel
theorem dX3_run_57 : decode cX3_run 57 = .ok (.ifCond .eq 20, 3) := by decide +kernel
theorem dX3_run_60 : decode cX3_run 60 = .ok (.aload_n 0, 1) := by decide +kernel
theorem dX3_run_61 : decode cX3_run 61 = .ok (.iload 5, 2) := by decide +kernel
theorem dX3_run_63 : decode cX3_run 63 = .ok (.iload_n 1, 1) := by decide +kernel
theorem dX3_run_64 : decode cX3_run 64 = .ok (.iload_n 3, 1) := by decide +kernel
theorem dX3_run_65 : decode cX3_run 65 = .ok (.iadd, 1) := by decide +kernel
theorem dX3_run_66 : decode cX3_run 66 = .ok (.invokevirtual 158, 3) := by decide +kernel
theorem dX3_run_69 : decode cX3_run 69 = .ok (.istore 4, 2) := by decide +kernel
theorem dX3_run_71 : decode cX3_run 71 = .ok (.iinc 5 1, 3) := by decide +kernel
theorem dX3_run_74 : decode cX3_run 74 = .ok (.goto (-28), 3) := by decide +kernel
theorem dX3_run_77 : decode cX3_run 77 = .ok (.iload_n 3, 1) := by decide +kernel
theorem dX3_run_78 : decode cX3_run 78 = .ok (.iload 4, 2) := by decide +kernel
theorem dX3_run_80 : decode cX3_run 80 = .ok (.ifCond .eq 7, 3) := by decide +kernel
theorem dX3_run_83 : decode cX3_run 83 = .ok (.iconst 1, 1) := by decide +kernel
theorem dX3_run_84 : decode cX3_run 84 = .ok (.goto 4, 3) := by decide +kernel
theorem dX3_run_87 : decode cX3_run 87 = .ok (.iconst 0, 1) := by decide +kernel
theorem dX3_run_88 : decode cX3_run 88 = .ok (.iadd, 1) := by decide +kernel
theorem dX3_run_89 : decode cX3_run 89 = .ok (.istore_n 3, 1) := by decide +kernel
theorem dX3_run_90 : decode cX3_run 90 = .ok (.goto (-57), 3) := by decide +kernel
theorem dX3_run_93 : decode cX3_run 93 = .ok (.iload_n 3, 1) := by decide +kernel
theorem dX3_run_94 : decode cX3_run 94 = .ok (.ireturn, 1) := by decide +kernel
theorem dX3_told_0 : decode cX3_told 0 = .ok (.iload_n 1, 1) := by decide +kernel
theorem dX3_told_1 : decode cX3_told 1 = .ok (.ifCond .ne 10, 3) := by decide +kernel
theorem dX3_told_4 : decode cX3_told 4 = .ok (.aload_n 0, 1) := by decide +kernel
theorem dX3_told_5 : decode cX3_told 5 = .ok (.getfield 54, 3) := by decide +kernel
theorem dX3_told_8 : decode cX3_told 8 = .ok (.goto 29, 3) := by decide +kernel
theorem dX3_told_11 : decode cX3_told 11 = .ok (.iload_n 1, 1) := by decide +kernel
theorem dX3_told_12 : decode cX3_told 12 = .ok (.iconst 1, 1) := by decide +kernel
theorem dX3_told_13 : decode cX3_told 13 = .ok (.if_icmp .ne 10, 3) := by decide +kernel
theorem dX3_told_16 : decode cX3_told 16 = .ok (.aload_n 0, 1) := by decide +kernel
theorem dX3_told_17 : decode cX3_told 17 = .ok (.getfield 152, 3) := by decide +kernel
theorem dX3_told_20 : decode cX3_told 20 = .ok (.goto 17, 3) := by decide +kernel
theorem dX3_told_23 : decode cX3_told 23 = .ok (.iload_n 1, 1) := by decide +kernel
theorem dX3_told_24 : decode cX3_told 24 = .ok (.iconst 2, 1) := by decide +kernel
theorem dX3_told_25 : decode cX3_told 25 = .ok (.if_icmp .ne 10, 3) := by decide +kernel
theorem dX3_told_28 : decode cX3_told 28 = .ok (.aload_n 0, 1) := by decide +kernel
theorem dX3_told_29 : decode cX3_told 29 = .ok (.getfield 155, 3) := by decide +kernel
theorem dX3_told_32 : decode cX3_told 32 = .ok (.goto 5, 3) := by decide +kernel
theorem dX3_told_35 : decode cX3_told 35 = .ok (.bipush (-101), 2) := by decide +kernel
theorem dX3_told_37 : decode cX3_told 37 = .ok (.ireturn, 1) := by decide +kernel
theorem dX3_level_0 : decode cX3_level 0 = .ok (.aload_n 0, 1) := by decide +kernel
theorem dX3_level_1 : decode cX3_level 1 = .ok (.iload_n 1, 1) := by decide +kernel
theorem dX3_level_2 : decode cX3_level 2 = .ok (.invokevirtual 72, 3) := by decide +kernel
theorem dX3_level_5 : decode cX3_level 5 = .ok (.ifCond .eq 12, 3) := by decide +kernel
theorem dX3_level_8 : decode cX3_level 8 = .ok (.aload_n 0, 1) := by decide +kernel
theorem dX3_level_9 : decode cX3_level 9 = .ok (.getfield 7, 3) := by decide +kernel
theorem dX3_level_12 : decode cX3_level 12 = .ok (.iload_n 1, 1) := by decide +kernel
theorem dX3_level_13 : decode cX3_level 13 = .ok (.iaload, 1) := by decide +kernel
theorem dX3_level_14 : decode cX3_level 14 = .ok (.goto 5, 3) := by decide +kernel
theorem dX3_level_17 : decode cX3_level 17 = .ok (.bipush (-101), 2) := by decide +kernel
theorem dX3_level_19 : decode cX3_level 19 = .ok (.ireturn, 1) := by decide +kernel
theorem dX3_counted_0 : decode cX3_counted 0 = .ok (.aload_n 0, 1) := by decide +kernel
theorem dX3_counted_1 : decode cX3_counted 1 = .ok (.iload_n 1, 1) := by decide +kernel
theorem dX3_counted_2 : decode cX3_counted 2 = .ok (.invokevirtual 67, 3) := by decide +kernel
theorem dX3_counted_5 : decode cX3_counted 5 = .ok (.ifCond .eq 23, 3) := by decide +kernel
theorem dX3_counted_8 : decode cX3_counted 8 = .ok (.aload_n 0, 1) := by decide +kernel
theorem dX3_counted_9 : decode cX3_counted 9 = .ok (.getfield 20, 3) := by decide +kernel
theorem dX3_counted_12 : decode cX3_counted 12 = .ok (.iload_n 1, 1) := by decide +kernel
theorem dX3_counted_13 : decode cX3_counted 13 = .ok (.iaload, 1) := by decide +kernel
theorem dX3_counted_14 : decode cX3_counted 14 = .ok (.bipush 13, 2) := by decide +kernel
theorem dX3_counted_16 : decode cX3_counted 16 = .ok (.if_icmp .ne 12, 3) := by decide +kernel
theorem dX3_counted_19 : decode cX3_counted 19 = .ok (.aload_n 0, 1) := by decide +kernel
theorem dX3_counted_20 : decode cX3_counted 20 = .ok (.getfield 30, 3) := by decide +kernel
theorem dX3_counted_23 : decode cX3_counted 23 = .ok (.iload_n 1, 1) := by decide +kernel
theorem dX3_counted_24 : decode cX3_counted 24 = .ok (.iaload, 1) := by decide +kernel
theorem dX3_counted_25 : decode cX3_counted 25 = .ok (.goto 5, 3) := by decide +kernel
theorem dX3_counted_28 : decode cX3_counted 28 = .ok (.bipush (-101), 2) := by decide +kernel
theorem dX3_counted_30 : decode cX3_counted 30 = .ok (.ireturn, 1) := by decide +kernel
theorem dX3_count_0 : decode cX3_count 0 = .ok (.iload_n 1, 1) := by decide +kernel
theorem dX3_count_1 : decode cX3_count 1 = .ok (.bipush 8, 2) := by decide +kernel
theorem dX3_count_3 : decode cX3_count 3 = .ok (.bipush 15, 2) := by decide +kernel
theorem dX3_count_5 : decode cX3_count 5 = .ok (.invokestatic 60, 3) := by decide +kernel
theorem dX3_count_8 : decode cX3_count 8 = .ok (.ifCond .eq 13, 3) := by decide +kernel
theorem dX3_count_11 : decode cX3_count 11 = .ok (.aload_n 0, 1) := by decide +kernel
theorem dX3_count_12 : decode cX3_count 12 = .ok (.getfield 17, 3) := by decide +kernel
theorem dX3_count_15 : decode cX3_count 15 = .ok (.iload_n 1, 1) := by decide +kernel
theorem dX3_count_16 : decode cX3_count 16 = .ok (.bipush 8, 2) := by decide +kernel
theorem dX3_count_18 : decode cX3_count 18 = .ok (.isub, 1) := by decide +kernel
theorem dX3_count_19 : decode cX3_count 19 = .ok (.iaload, 1) := by decide +kernel
theorem dX3_count_20 : decode cX3_count 20 = .ok (.ireturn, 1) := by decide +kernel
theorem dX3_count_21 : decode cX3_count 21 = .ok (.iload_n 1, 1) := by decide +kernel
theorem dX3_count_22 : decode cX3_count 22 = .ok (.ifCond .ne 10, 3) := by decide +kernel
theorem dX3_count_25 : decode cX3_count 25 = .ok (.aload_n 0, 1) := by decide +kernel
theorem dX3_count_26 : decode cX3_count 26 = .ok (.getfield 57, 3) := by decide +kernel
theorem dX3_count_29 : decode cX3_count 29 = .ok (.goto 41, 3) := by decide +kernel
theorem dX3_count_32 : decode cX3_count 32 = .ok (.iload_n 1, 1) := by decide +kernel
theorem dX3_count_33 : decode cX3_count 33 = .ok (.iconst 1, 1) := by decide +kernel
theorem dX3_count_34 : decode cX3_count 34 = .ok (.if_icmp .ne 10, 3) := by decide +kernel
theorem dX3_count_37 : decode cX3_count 37 = .ok (.aload_n 0, 1) := by decide +kernel
theorem dX3_count_38 : decode cX3_count 38 = .ok (.getfield 64, 3) := by decide +kernel
theorem dX3_count_41 : decode cX3_count 41 = .ok (.goto 29, 3) := by decide +kernel
theorem dX3_count_44 : decode cX3_count 44 = .ok (.iload_n 1, 1) := by decide +kernel
theorem dX3_count_45 : decode cX3_count 45 = .ok (.iconst 2, 1) := by decide +kernel
theorem dX3_count_46 : decode cX3_count 46 = .ok (.if_icmp .ne 10, 3) := by decide +kernel
theorem dX3_count_49 : decode cX3_count 49 = .ok (.aload_n 0, 1) := by decide +kernel
theorem dX3_count_50 : decode cX3_count 50 = .ok (.getfield 149, 3) := by decide +kernel
theorem dX3_count_53 : decode cX3_count 53 = .ok (.goto 17, 3) := by decide +kernel
theorem dX3_count_56 : decode cX3_count 56 = .ok (.iload_n 1, 1) := by decide +kernel
theorem dX3_count_57 : decode cX3_count 57 = .ok (.iconst 3, 1) := by decide +kernel
theorem dX3_count_58 : decode cX3_count 58 = .ok (.if_icmp .ne 10, 3) := by decide +kernel
theorem dX3_count_61 : decode cX3_count 61 = .ok (.aload_n 0, 1) := by decide +kernel
theorem dX3_count_62 : decode cX3_count 62 = .ok (.getfield 96, 3) := by decide +kernel
theorem dX3_count_65 : decode cX3_count 65 = .ok (.goto 5, 3) := by decide +kernel
theorem dX3_count_68 : decode cX3_count 68 = .ok (.bipush (-101), 2) := by decide +kernel
theorem dX3_count_70 : decode cX3_count 70 = .ok (.ireturn, 1) := by decide +kernel
end
section
set_option maxRecDepth 20000 in
theorem ggX3_isBasin_X3_in : GoodIn wsX3_isBasin wsX3_in := goodIn_r _ [5] (by rfl) (by decide +kernel)
set_option maxRecDepth 20000 in
theorem gX3_isBasin_X3_in : GoodIn wsX3_isBasin (va_wsS RX3 60 yX3_in wsX3_in) := goodIn_app (goodIn_of _ (by decide +kernel)) ggX3_isBasin_X3_in
set_option maxRecDepth 20000 in
theorem ggX3_isRule_X3_in : GoodIn wsX3_isRule wsX3_in := goodIn_r _ [5] (by rfl) (by decide +kernel)
set_option maxRecDepth 20000 in
theorem gX3_isRule_X3_in : GoodIn wsX3_isRule (va_wsS RX3 60 yX3_in wsX3_in) := goodIn_app (goodIn_of _ (by decide +kernel)) ggX3_isRule_X3_in
set_option maxRecDepth 20000 in
theorem ggX3_isPart_X3_isRule : GoodIn wsX3_isPart wsX3_isRule := goodIn_r _ [5, 6, 7, 8, 4, 9, 10, 11, 12, 13, 14, 15, 16, 17, 18, 19, 20, 21, 22, 23, 24, 25, 26, 27, 28, 29, 30, 31, 32, 33, 34] (by rfl) (by decide +kernel)
set_option maxRecDepth 20000 in
theorem gX3_isPart_X3_isRule : GoodIn wsX3_isPart (wsV RX3 67 RX3 yX3_isRule wsX3_isRule) := goodIn_app (goodIn_of _ (by decide +kernel)) ggX3_isPart_X3_isRule
set_option maxRecDepth 20000 in
theorem ggX3_isSlot_X3_in : GoodIn wsX3_isSlot wsX3_in := goodIn_r _ [4] (by rfl) (by decide +kernel)
set_option maxRecDepth 20000 in
theorem gX3_isSlot_X3_in : GoodIn wsX3_isSlot (va_wsS RX3 60 yX3_in wsX3_in) := goodIn_app (goodIn_of _ (by decide +kernel)) ggX3_isSlot_X3_in
set_option maxRecDepth 20000 in
theorem ggX3_basin_X3_in : GoodIn wsX3_basin wsX3_in := goodIn_r _ [7] (by rfl) (by decide +kernel)
set_option maxRecDepth 20000 in
theorem gX3_basin_X3_in : GoodIn wsX3_basin (va_wsS RX3 60 yX3_in wsX3_in) := goodIn_app (goodIn_of _ (by decide +kernel)) ggX3_basin_X3_in
set_option maxRecDepth 20000 in
theorem ggX3_fill_X3_isBasin : GoodIn wsX3_fill wsX3_isBasin := goodIn_r _ [7, 8, 9, 10, 6, 11, 12, 13, 14, 15, 16, 17, 18, 19, 20, 21, 22, 23, 24, 25, 26, 27, 28, 29, 30, 31, 32, 33, 34, 35, 36] (by rfl) (by decide +kernel)
set_option maxRecDepth 20000 in
theorem gX3_fill_X3_isBasin : GoodIn wsX3_fill (wsV RX3 72 RX3 yX3_isBasin wsX3_isBasin) := goodIn_app (goodIn_of _ (by decide +kernel)) ggX3_fill_X3_isBasin
set_option maxRecDepth 20000 in
theorem ggX3_fill_X3_in : GoodIn wsX3_fill wsX3_in := goodIn_r _ [11] (by rfl) (by decide +kernel)
set_option maxRecDepth 20000 in
theorem gX3_fill_X3_in : GoodIn wsX3_fill (va_wsS RX3 60 yX3_in wsX3_in) := goodIn_app (goodIn_of _ (by decide +kernel)) ggX3_fill_X3_in
set_option maxRecDepth 20000 in
theorem ggX3_moon_X3_in : GoodIn wsX3_moon wsX3_in := goodIn_r _ [5] (by rfl) (by decide +kernel)
set_option maxRecDepth 20000 in
theorem gX3_moon_X3_in : GoodIn wsX3_moon (va_wsS RX3 60 yX3_in wsX3_in) := goodIn_app (goodIn_of _ (by decide +kernel)) ggX3_moon_X3_in
set_option maxRecDepth 20000 in
theorem ggX3_areKnown_X3_isBasin : GoodIn wsX3_areKnown wsX3_isBasin := goodIn_r _ [6, 7, 8, 9, 5, 10, 23, 24, 25, 26, 27, 28, 29, 30, 31, 32, 33, 34, 35, 36, 37, 38, 39, 40, 41, 42, 43, 44, 45, 46, 47] (by rfl) (by decide +kernel)
set_option maxRecDepth 20000 in
theorem gX3_areKnown_X3_isBasin : GoodIn wsX3_areKnown (wsV RX3 72 RX3 yX3_isBasin wsX3_isBasin) := goodIn_app (goodIn_of _ (by decide +kernel)) ggX3_areKnown_X3_isBasin
set_option maxRecDepth 20000 in
theorem ggX3_areKnown_X3_isPart : GoodIn wsX3_areKnown wsX3_isPart := goodIn_r _ [14, 15, 16, 17, 5, 18, 19, 8, 9, 10, 23, 24, 25, 26, 27, 28, 29, 30, 31, 32, 33, 34, 35, 36, 37, 38, 39, 40, 41, 42, 43, 44, 45, 46, 47] (by rfl) (by decide +kernel)
set_option maxRecDepth 20000 in
theorem gX3_areKnown_X3_isPart : GoodIn wsX3_areKnown (wsV RX3 75 RX3 yX3_isPart wsX3_isPart) := goodIn_app (goodIn_of _ (by decide +kernel)) ggX3_areKnown_X3_isPart
set_option maxRecDepth 20000 in
theorem ggX3_areKnown_X3_isRule : GoodIn wsX3_areKnown wsX3_isRule := goodIn_r _ [18, 19, 8, 9, 5, 10, 23, 24, 25, 26, 27, 28, 29, 30, 31, 32, 33, 34, 35, 36, 37, 38, 39, 40, 41, 42, 43, 44, 45, 46, 47] (by rfl) (by decide +kernel)
set_option maxRecDepth 20000 in
theorem gX3_areKnown_X3_isRule : GoodIn wsX3_areKnown (wsV RX3 67 RX3 yX3_isRule wsX3_isRule) := goodIn_app (goodIn_of _ (by decide +kernel)) ggX3_areKnown_X3_isRule
set_option maxRecDepth 20000 in
theorem ggX3_areKnown_X3_isSlot : GoodIn wsX3_areKnown wsX3_isSlot := goodIn_r _ [22, 8, 9, 5, 10] (by rfl) (by decide +kernel)
set_option maxRecDepth 20000 in
theorem gX3_areKnown_X3_isSlot : GoodIn wsX3_areKnown (va_wsS RX3 78 yX3_isSlot wsX3_isSlot) := goodIn_app (goodIn_of _ (by decide +kernel)) ggX3_areKnown_X3_isSlot
set_option maxRecDepth 20000 in
theorem ggX3_areKnown_X3_in : GoodIn wsX3_areKnown wsX3_in := goodIn_r _ [10] (by rfl) (by decide +kernel)
set_option maxRecDepth 20000 in
theorem gX3_areKnown_X3_in : GoodIn wsX3_areKnown (va_wsS RX3 60 yX3_in wsX3_in) := goodIn_app (goodIn_of _ (by decide +kernel)) ggX3_areKnown_X3_in
set_option maxRecDepth 20000 in
theorem ggX3_make_X3_areKnown : GoodIn wsX3_make wsX3_areKnown := goodIn_r _ [12, 3, 13, 14, 15, 11, 16, 17, 18, 19, 20, 21, 22, 23, 24, 25, 26, 27, 28, 1, 29, 30, 31, 89, 90, 91, 92, 93, 94, 95, 96, 97, 98, 99, 100, 101, 102, 103, 104, 105, 106, 107, 108, 109, 110, 111, 112, 113] (by rfl) (by decide +kernel)
set_option maxRecDepth 20000 in
theorem gX3_make_X3_areKnown : GoodIn wsX3_make (wsV RX3 81 RX3 yX3_areKnown wsX3_areKnown) := goodIn_app (goodIn_of _ (by decide +kernel)) ggX3_make_X3_areKnown
set_option maxRecDepth 20000 in
theorem ggX3_make_X3_in : GoodIn wsX3_make wsX3_in := goodIn_r _ [20] (by rfl) (by decide +kernel)
set_option maxRecDepth 20000 in
theorem gX3_make_X3_in : GoodIn wsX3_make (va_wsS RX3 60 yX3_in wsX3_in) := goodIn_app (goodIn_of _ (by decide +kernel)) ggX3_make_X3_in
set_option maxRecDepth 20000 in
theorem ggX3_make_X3_asks : GoodIn wsX3_make wsX3_asks := goodIn_r _ [35, 36, 2, 37, 38, 39, 40, 11, 41, 42, 43, 44, 45, 46, 47, 48, 49, 3, 7, 50, 4, 51, 52, 53, 54, 55, 5, 56, 57, 58, 59, 6, 60, 61, 62, 63, 64, 65, 66, 67, 68, 69, 70, 71, 72, 73, 74, 75, 76, 77, 78, 79, 80, 81, 82, 83, 84, 85, 86, 87, 88, 89, 90, 91, 92, 93, 94, 95, 96, 97, 98, 99, 100, 101, 102, 103, 104, 105, 106, 107, 108, 109, 110, 111, 112, 113] (by rfl) (by decide +kernel)
set_option maxRecDepth 20000 in
theorem gX3_make_X3_asks : GoodIn wsX3_make (wsV RX3 85 RX3 yX3_asks wsX3_asks) := goodIn_app (goodIn_of _ (by decide +kernel)) ggX3_make_X3_asks
set_option maxRecDepth 20000 in
theorem ggX3_put_X3_isSlot : GoodIn wsX3_put wsX3_isSlot := goodIn_r _ [5, 6, 7, 4, 8] (by rfl) (by decide +kernel)
set_option maxRecDepth 20000 in
theorem gX3_put_X3_isSlot : GoodIn wsX3_put (va_wsS RX3 78 yX3_isSlot wsX3_isSlot) := goodIn_app (goodIn_of _ (by decide +kernel)) ggX3_put_X3_isSlot
set_option maxRecDepth 20000 in
theorem ggX3_put_X3_isPart : GoodIn wsX3_put wsX3_isPart := goodIn_r _ [12, 13, 14, 15, 4, 16, 17, 6, 7, 8, 18, 19, 20, 21, 22, 23, 24, 25, 26, 27, 28, 29, 30, 31, 32, 33, 34, 35, 36, 37, 38, 39, 40, 41, 42] (by rfl) (by decide +kernel)
set_option maxRecDepth 20000 in
theorem gX3_put_X3_isPart : GoodIn wsX3_put (wsV RX3 75 RX3 yX3_isPart wsX3_isPart) := goodIn_app (goodIn_of _ (by decide +kernel)) ggX3_put_X3_isPart
set_option maxRecDepth 20000 in
theorem ggX3_plain_X3_gives : GoodIn wsX3_plain wsX3_gives := goodIn_r _ [10, 11, 12, 20, 21, 22, 23, 24, 25, 26, 27, 28, 29, 30, 31, 32, 33, 34, 35, 36, 37, 38, 39, 40, 41, 42, 43, 44] (by rfl) (by decide +kernel)
set_option maxRecDepth 20000 in
theorem gX3_plain_X3_gives : GoodIn wsX3_plain (wsV RX3 106 RX3 yX3_gives wsX3_gives) := goodIn_app (goodIn_of _ (by decide +kernel)) ggX3_plain_X3_gives
set_option maxRecDepth 20000 in
theorem ggX3_plain_X3_tide : GoodIn wsX3_plain wsX3_tide := goodIn_r _ [16, 17, 18, 19, 20, 21, 22, 23, 24, 25, 26, 27, 28, 29, 30, 31, 32, 33, 34, 35, 36, 37, 38, 39, 40, 41, 42, 43, 44] (by rfl) (by decide +kernel)
set_option maxRecDepth 20000 in
theorem gX3_plain_X3_tide : GoodIn wsX3_plain (wsV RX3 110 RX3 yX3_tide wsX3_tide) := goodIn_app (goodIn_of _ (by decide +kernel)) ggX3_plain_X3_tide
set_option maxRecDepth 20000 in
theorem ggX3_behind_X3_downward : GoodIn wsX3_behind wsX3_downward := goodIn_r _ [7] (by rfl) (by decide +kernel)
set_option maxRecDepth 20000 in
theorem gX3_behind_X3_downward : GoodIn wsX3_behind (va_wsS RX3 114 yX3_downward wsX3_downward) := goodIn_app (goodIn_of _ (by decide +kernel)) ggX3_behind_X3_downward
set_option maxRecDepth 20000 in
theorem ggX3_behind_X3_gives : GoodIn wsX3_behind wsX3_gives := goodIn_r _ [11, 3, 12, 13, 14, 15, 16, 17, 18, 19, 20, 21, 22, 23, 24, 25, 26, 27, 28, 29, 30, 31, 32, 33, 34, 35, 36, 37] (by rfl) (by decide +kernel)
set_option maxRecDepth 20000 in
theorem gX3_behind_X3_gives : GoodIn wsX3_behind (wsV RX3 106 RX3 yX3_gives wsX3_gives) := goodIn_app (goodIn_of _ (by decide +kernel)) ggX3_behind_X3_gives
set_option maxRecDepth 20000 in
theorem ggX3_pair_X3_enter : GoodIn wsX3_pair wsX3_enter := goodIn_r _ [10, 11, 12, 2, 13, 14, 15, 1, 23, 24, 25, 26, 27, 28, 29, 30, 31, 32, 33, 34, 35, 36, 37, 38, 39, 40, 41, 42, 43, 44, 45, 46, 47] (by rfl) (by decide +kernel)
set_option maxRecDepth 20000 in
theorem gX3_pair_X3_enter : GoodIn wsX3_pair (wsV RX3 118 RX3 yX3_enter wsX3_enter) := goodIn_app (goodIn_of _ (by decide +kernel)) ggX3_pair_X3_enter
set_option maxRecDepth 20000 in
theorem ggX3_pair_X3_joined : GoodIn wsX3_pair wsX3_joined := goodIn_r _ [18] (by rfl) (by decide +kernel)
set_option maxRecDepth 20000 in
theorem gX3_pair_X3_joined : GoodIn wsX3_pair (va_wsS RX3 122 yX3_joined wsX3_joined) := goodIn_app (goodIn_of _ (by decide +kernel)) ggX3_pair_X3_joined
set_option maxRecDepth 20000 in
theorem ggX3_pair_X3_gives : GoodIn wsX3_pair wsX3_gives := goodIn_r _ [22, 3, 2, 23, 24, 25, 26, 27, 28, 29, 30, 31, 32, 33, 34, 35, 36, 37, 38, 39, 40, 41, 42, 43, 44, 45, 46, 47] (by rfl) (by decide +kernel)
set_option maxRecDepth 20000 in
theorem gX3_pair_X3_gives : GoodIn wsX3_pair (wsV RX3 106 RX3 yX3_gives wsX3_gives) := goodIn_app (goodIn_of _ (by decide +kernel)) ggX3_pair_X3_gives
set_option maxRecDepth 20000 in
theorem ggX3_choice_X3_enter : GoodIn wsX3_choice wsX3_enter := goodIn_r _ [7, 8, 9, 10, 11, 12, 13, 14, 19, 20, 21, 22, 23, 24, 25, 26, 27, 28, 29, 30, 31, 32, 33, 34, 35, 36, 37, 38, 39, 40, 41, 42, 43] (by rfl) (by decide +kernel)
set_option maxRecDepth 20000 in
theorem gX3_choice_X3_enter : GoodIn wsX3_choice (wsV RX3 118 RX3 yX3_enter wsX3_enter) := goodIn_app (goodIn_of _ (by decide +kernel)) ggX3_choice_X3_enter
set_option maxRecDepth 20000 in
theorem ggX3_choice_X3_gives : GoodIn wsX3_choice wsX3_gives := goodIn_r _ [18, 1, 10, 19, 20, 21, 22, 23, 24, 25, 26, 27, 28, 29, 30, 31, 32, 33, 34, 35, 36, 37, 38, 39, 40, 41, 42, 43] (by rfl) (by decide +kernel)
set_option maxRecDepth 20000 in
theorem gX3_choice_X3_gives : GoodIn wsX3_choice (wsV RX3 106 RX3 yX3_gives wsX3_gives) := goodIn_app (goodIn_of _ (by decide +kernel)) ggX3_choice_X3_gives
set_option maxRecDepth 20000 in
theorem ggX3_slots_X3_gives : GoodIn wsX3_slots wsX3_gives := goodIn_r _ [10, 3, 2, 20, 21, 22, 23, 24, 25, 26, 27, 28, 29, 30, 31, 32, 33, 34, 35, 36, 37, 38, 39, 40, 41, 42, 43, 44] (by rfl) (by decide +kernel)
set_option maxRecDepth 20000 in
theorem gX3_slots_X3_gives : GoodIn wsX3_slots (wsV RX3 106 RX3 yX3_gives wsX3_gives) := goodIn_app (goodIn_of _ (by decide +kernel)) ggX3_slots_X3_gives
set_option maxRecDepth 20000 in
theorem ggX3_slots_X3_enter : GoodIn wsX3_slots wsX3_enter := goodIn_r _ [14, 15, 16, 2, 17, 18, 19, 1, 20, 21, 22, 23, 24, 25, 26, 27, 28, 29, 30, 31, 32, 33, 34, 35, 36, 37, 38, 39, 40, 41, 42, 43, 44] (by rfl) (by decide +kernel)
set_option maxRecDepth 20000 in
theorem gX3_slots_X3_enter : GoodIn wsX3_slots (wsV RX3 118 RX3 yX3_enter wsX3_enter) := goodIn_app (goodIn_of _ (by decide +kernel)) ggX3_slots_X3_enter
set_option maxRecDepth 20000 in
theorem ggX3_go_X3_plain : GoodIn wsX3_go wsX3_plain := goodIn_r _ [13, 8, 5, 14, 15, 6, 16, 17, 18, 12, 19, 20, 2, 21, 22, 23, 24, 25, 26, 27, 57, 58, 59, 60, 61, 62, 63, 64, 65, 66, 67, 68, 69, 70, 71, 72, 73, 74, 75, 76, 77, 78, 79, 80, 81] (by rfl) (by decide +kernel)
set_option maxRecDepth 20000 in
theorem gX3_go_X3_plain : GoodIn wsX3_go (wsV RX3 126 RX3 yX3_plain wsX3_plain) := goodIn_app (goodIn_of _ (by decide +kernel)) ggX3_go_X3_plain
set_option maxRecDepth 20000 in
theorem ggX3_go_X3_slots : GoodIn wsX3_go wsX3_slots := goodIn_r _ [31, 32, 2, 20, 8, 7, 16, 17, 18, 12, 19, 33, 34, 35, 36, 37, 38, 1, 3, 4, 57, 58, 59, 60, 61, 62, 63, 64, 65, 66, 67, 68, 69, 70, 71, 72, 73, 74, 75, 76, 77, 78, 79, 80, 81] (by rfl) (by decide +kernel)
set_option maxRecDepth 20000 in
theorem gX3_go_X3_slots : GoodIn wsX3_go (wsV RX3 129 RX3 yX3_slots wsX3_slots) := goodIn_app (goodIn_of _ (by decide +kernel)) ggX3_go_X3_slots
set_option maxRecDepth 20000 in
theorem ggX3_go_X3_enter : GoodIn wsX3_go wsX3_enter := goodIn_r _ [36, 37, 38, 2, 1, 3, 4, 32, 57, 58, 59, 60, 61, 62, 63, 64, 65, 66, 67, 68, 69, 70, 71, 72, 73, 74, 75, 76, 77, 78, 79, 80, 81] (by rfl) (by decide +kernel)
set_option maxRecDepth 20000 in
theorem gX3_go_X3_enter : GoodIn wsX3_go (wsV RX3 118 RX3 yX3_enter wsX3_enter) := goodIn_app (goodIn_of _ (by decide +kernel)) ggX3_go_X3_enter
set_option maxRecDepth 20000 in
theorem ggX3_go_X3_pair : GoodIn wsX3_go wsX3_pair := goodIn_r _ [42, 32, 2, 20, 8, 5, 33, 34, 35, 12, 36, 37, 38, 1, 3, 4, 43, 44, 45, 16, 17, 18, 19, 57, 58, 59, 60, 61, 62, 63, 64, 65, 66, 67, 68, 69, 70, 71, 72, 73, 74, 75, 76, 77, 78, 79, 80, 81] (by rfl) (by decide +kernel)
set_option maxRecDepth 20000 in
theorem gX3_go_X3_pair : GoodIn wsX3_go (wsV RX3 133 RX3 yX3_pair wsX3_pair) := goodIn_app (goodIn_of _ (by decide +kernel)) ggX3_go_X3_pair
set_option maxRecDepth 20000 in
theorem ggX3_go_X3_choice : GoodIn wsX3_go wsX3_choice := goodIn_r _ [49, 20, 8, 33, 34, 35, 12, 36, 37, 38, 2, 1, 3, 4, 32, 16, 17, 18, 19, 57, 58, 59, 60, 61, 62, 63, 64, 65, 66, 67, 68, 69, 70, 71, 72, 73, 74, 75, 76, 77, 78, 79, 80, 81] (by rfl) (by decide +kernel)
set_option maxRecDepth 20000 in
theorem gX3_go_X3_choice : GoodIn wsX3_go (wsV RX3 136 RX3 yX3_choice wsX3_choice) := goodIn_app (goodIn_of _ (by decide +kernel)) ggX3_go_X3_choice
set_option maxRecDepth 20000 in
theorem ggX3_go_X3_behind : GoodIn wsX3_go wsX3_behind := goodIn_r _ [53, 8, 5, 20, 54, 55, 12, 56, 16, 17, 18, 19, 2, 57, 58, 59, 60, 61, 62, 63, 64, 65, 66, 67, 68, 69, 70, 71, 72, 73, 74, 75, 76, 77, 78, 79, 80, 81] (by rfl) (by decide +kernel)
set_option maxRecDepth 20000 in
theorem gX3_go_X3_behind : GoodIn wsX3_go (wsV RX3 139 RX3 yX3_behind wsX3_behind) := goodIn_app (goodIn_of _ (by decide +kernel)) ggX3_go_X3_behind
set_option maxRecDepth 20000 in
theorem ggX3_asks_X3_enter : GoodIn wsX3_asks wsX3_enter := goodIn_r _ [8, 2, 1, 3, 9, 10, 11, 12, 61, 62, 63, 64, 65, 66, 67, 68, 69, 70, 71, 72, 73, 74, 75, 76, 77, 78, 79, 80, 81, 82, 83, 84, 85] (by rfl) (by decide +kernel)
set_option maxRecDepth 20000 in
theorem gX3_asks_X3_enter : GoodIn wsX3_asks (wsV RX3 118 RX3 yX3_enter wsX3_enter) := goodIn_app (goodIn_of _ (by decide +kernel)) ggX3_asks_X3_enter
set_option maxRecDepth 20000 in
theorem ggX3_asks_X3_go : GoodIn wsX3_asks wsX3_go := goodIn_r _ [16, 9, 3, 10, 11, 17, 18, 19, 20, 21, 22, 23, 7, 24, 25, 26, 27, 28, 29, 30, 31, 32, 33, 34, 35, 36, 37, 38, 39, 40, 41, 42, 12, 4, 5, 6, 8, 2, 1, 43, 44, 45, 46, 47, 48, 49, 50, 51, 52, 53, 54, 55, 56, 57, 58, 59, 60, 61, 62, 63, 64, 65, 66, 67, 68, 69, 70, 71, 72, 73, 74, 75, 76, 77, 78, 79, 80, 81, 82, 83, 84, 85] (by rfl) (by decide +kernel)
set_option maxRecDepth 20000 in
theorem gX3_asks_X3_go : GoodIn wsX3_asks (wsV RX3 143 RX3 yX3_go wsX3_go) := goodIn_app (goodIn_of _ (by decide +kernel)) ggX3_asks_X3_go
set_option maxRecDepth 20000 in
theorem ggX3_ask_X3_isRule : GoodIn wsX3_ask wsX3_isRule := goodIn_r _ [8, 9, 10, 11, 7, 12, 74, 75, 76, 77, 78, 79, 80, 81, 82, 83, 84, 85, 86, 87, 88, 89, 90, 91, 92, 93, 94, 95, 96, 97, 98] (by rfl) (by decide +kernel)
set_option maxRecDepth 20000 in
theorem gX3_ask_X3_isRule : GoodIn wsX3_ask (wsV RX3 67 RX3 yX3_isRule wsX3_isRule) := goodIn_app (goodIn_of _ (by decide +kernel)) ggX3_ask_X3_isRule
set_option maxRecDepth 20000 in
theorem ggX3_ask_X3_asks : GoodIn wsX3_ask wsX3_asks := goodIn_r _ [16, 17, 1, 18, 19, 20, 21, 7, 22, 23, 24, 25, 26, 27, 28, 29, 30, 31, 32, 33, 34, 35, 36, 37, 38, 39, 40, 41, 42, 43, 44, 2, 45, 46, 47, 48, 49, 50, 51, 52, 53, 54, 55, 56, 57, 58, 59, 60, 61, 62, 63, 64, 65, 66, 67, 68, 69, 70, 71, 72, 73, 74, 75, 76, 77, 78, 79, 80, 81, 82, 83, 84, 85, 86, 87, 88, 89, 90, 91, 92, 93, 94, 95, 96, 97, 98] (by rfl) (by decide +kernel)
set_option maxRecDepth 20000 in
theorem gX3_ask_X3_asks : GoodIn wsX3_ask (wsV RX3 85 RX3 yX3_asks wsX3_asks) := goodIn_app (goodIn_of _ (by decide +kernel)) ggX3_ask_X3_asks
set_option maxRecDepth 20000 in
theorem ggX3_sluice_X3_isBasin : GoodIn wsX3_sluice wsX3_isBasin := goodIn_r _ [9, 10, 11, 12, 8, 13, 19, 20, 21, 22, 23, 24, 25, 26, 27, 28, 29, 30, 31, 32, 33, 34, 35, 36, 37, 38, 39, 40, 41, 42, 43] (by rfl) (by decide +kernel)
set_option maxRecDepth 20000 in
theorem gX3_sluice_X3_isBasin : GoodIn wsX3_sluice (wsV RX3 72 RX3 yX3_isBasin wsX3_isBasin) := goodIn_app (goodIn_of _ (by decide +kernel)) ggX3_sluice_X3_isBasin
set_option maxRecDepth 20000 in
theorem ggX3_sluice_X3_isRule : GoodIn wsX3_sluice wsX3_isRule := goodIn_r _ [17, 18, 11, 12, 8, 13, 19, 20, 21, 22, 23, 24, 25, 26, 27, 28, 29, 30, 31, 32, 33, 34, 35, 36, 37, 38, 39, 40, 41, 42, 43] (by rfl) (by decide +kernel)
set_option maxRecDepth 20000 in
theorem gX3_sluice_X3_isRule : GoodIn wsX3_sluice (wsV RX3 67 RX3 yX3_isRule wsX3_isRule) := goodIn_app (goodIn_of _ (by decide +kernel)) ggX3_sluice_X3_isRule
set_option maxRecDepth 20000 in
theorem ggX3_flows_X3_asks : GoodIn wsX3_flows wsX3_asks := goodIn_r _ [15, 16, 3, 17, 18, 19, 20, 14, 21, 22, 23, 24, 25, 26, 27, 28, 29, 30, 31, 32, 33, 34, 35, 36, 37, 6, 38, 39, 40, 41, 42, 9, 43, 44, 45, 46, 47, 48, 49, 50, 51, 52, 53, 54, 55, 56, 57, 58, 59, 60, 61, 62, 63, 64, 65, 66, 67, 68, 69, 70, 71, 72, 73, 74, 75, 76, 77, 78, 79, 80, 81, 82, 83, 84, 85, 86, 87, 88, 89, 90, 91, 92, 93, 94, 95, 96] (by rfl) (by decide +kernel)
set_option maxRecDepth 20000 in
theorem gX3_flows_X3_asks : GoodIn wsX3_flows (wsV RX3 85 RX3 yX3_asks wsX3_asks) := goodIn_app (goodIn_of _ (by decide +kernel)) ggX3_flows_X3_asks
set_option maxRecDepth 20000 in
theorem ggX3_run_X3_in : GoodIn wsX3_run wsX3_in := goodIn_r _ [8] (by rfl) (by decide +kernel)
set_option maxRecDepth 20000 in
theorem gX3_run_X3_in : GoodIn wsX3_run (va_wsS RX3 60 yX3_in wsX3_in) := goodIn_app (goodIn_of _ (by decide +kernel)) ggX3_run_X3_in
set_option maxRecDepth 20000 in
theorem ggX3_run_X3_flows : GoodIn wsX3_run wsX3_flows := goodIn_r _ [12, 13, 1, 14, 2, 15, 16, 17, 18, 19, 3, 20, 21, 22, 7, 23, 24, 25, 26, 27, 28, 29, 30, 31, 32, 33, 34, 35, 36, 37, 38, 39, 40, 41, 42, 43, 44, 45, 46, 47, 48, 49, 50, 51, 52, 53, 54, 55, 56, 57, 58, 59, 60, 61, 62, 63, 64, 65, 66, 67, 68, 69, 70, 71, 72, 73, 74, 75, 76, 77, 78, 79, 80, 81, 82, 83, 84, 85, 86, 87, 88, 89, 90, 91, 92, 93, 94, 95, 96, 97, 98, 99, 100, 101, 102, 103, 104] (by rfl) (by decide +kernel)
set_option maxRecDepth 20000 in
theorem gX3_run_X3_flows : GoodIn wsX3_run (wsV RX3 158 RX3 yX3_flows wsX3_flows) := goodIn_app (goodIn_of _ (by decide +kernel)) ggX3_run_X3_flows
set_option maxRecDepth 20000 in
theorem ggX3_level_X3_isBasin : GoodIn wsX3_level wsX3_isBasin := goodIn_r _ [6, 7, 8, 9, 5, 10, 11, 12, 13, 14, 15, 16, 17, 18, 19, 20, 21, 22, 23, 24, 25, 26, 27, 28, 29, 30, 31, 32, 33, 34, 35] (by rfl) (by decide +kernel)
set_option maxRecDepth 20000 in
theorem gX3_level_X3_isBasin : GoodIn wsX3_level (wsV RX3 72 RX3 yX3_isBasin wsX3_isBasin) := goodIn_app (goodIn_of _ (by decide +kernel)) ggX3_level_X3_isBasin
set_option maxRecDepth 20000 in
theorem ggX3_counted_X3_isRule : GoodIn wsX3_counted wsX3_isRule := goodIn_r _ [7, 8, 9, 10, 6, 11, 12, 13, 14, 15, 16, 17, 18, 19, 20, 21, 22, 23, 24, 25, 26, 27, 28, 29, 30, 31, 32, 33, 34, 35, 36] (by rfl) (by decide +kernel)
set_option maxRecDepth 20000 in
theorem gX3_counted_X3_isRule : GoodIn wsX3_counted (wsV RX3 67 RX3 yX3_isRule wsX3_isRule) := goodIn_app (goodIn_of _ (by decide +kernel)) ggX3_counted_X3_isRule
set_option maxRecDepth 20000 in
theorem ggX3_count_X3_in : GoodIn wsX3_count wsX3_in := goodIn_r _ [9] (by rfl) (by decide +kernel)
set_option maxRecDepth 20000 in
theorem gX3_count_X3_in : GoodIn wsX3_count (va_wsS RX3 60 yX3_in wsX3_in) := goodIn_app (goodIn_of _ (by decide +kernel)) ggX3_count_X3_in
end
section
theorem dJ9_floorDiv_f86c9_0 : decode cJ9_floorDiv_f86c9 0 = .ok (.lload_n 0, 1) := by decide +kernel
theorem dJ9_floorDiv_f86c9_1 : decode cJ9_floorDiv_f86c9 1 = .ok (.lload_n 2, 1) := by decide +kernel
theorem dJ9_floorDiv_f86c9_2 : decode cJ9_floorDiv_f86c9 2 = .ok (.ldiv, 1) := by decide +kernel
theorem dJ9_floorDiv_f86c9_3 : decode cJ9_floorDiv_f86c9 3 = .ok (.lstore 4, 2) := by decide +kernel
theorem dJ9_floorDiv_f86c9_5 : decode cJ9_floorDiv_f86c9 5 = .ok (.lload_n 0, 1) := by decide +kernel
theorem dJ9_floorDiv_f86c9_6 : decode cJ9_floorDiv_f86c9 6 = .ok (.lload_n 2, 1) := by decide +kernel
theorem dJ9_floorDiv_f86c9_7 : decode cJ9_floorDiv_f86c9 7 = .ok (.lxor, 1) := by decide +kernel
theorem dJ9_floorDiv_f86c9_8 : decode cJ9_floorDiv_f86c9 8 = .ok (.lconst 0, 1) := by decide +kernel
theorem dJ9_floorDiv_f86c9_9 : decode cJ9_floorDiv_f86c9 9 = .ok (.lcmp, 1) := by decide +kernel
theorem dJ9_floorDiv_f86c9_10 : decode cJ9_floorDiv_f86c9 10 = .ok (.ifCond .ge 17, 3) := by decide +kernel
theorem dJ9_floorDiv_f86c9_13 : decode cJ9_floorDiv_f86c9 13 = .ok (.lload 4, 2) := by decide +kernel
theorem dJ9_floorDiv_f86c9_15 : decode cJ9_floorDiv_f86c9 15 = .ok (.lload_n 2, 1) := by decide +kernel
theorem dJ9_floorDiv_f86c9_16 : decode cJ9_floorDiv_f86c9 16 = .ok (.lmul, 1) := by decide +kernel
theorem dJ9_floorDiv_f86c9_17 : decode cJ9_floorDiv_f86c9 17 = .ok (.lload_n 0, 1) := by decide +kernel
theorem dJ9_floorDiv_f86c9_18 : decode cJ9_floorDiv_f86c9 18 = .ok (.lcmp, 1) := by decide +kernel
theorem dJ9_floorDiv_f86c9_19 : decode cJ9_floorDiv_f86c9 19 = .ok (.ifCond .eq 8, 3) := by decide +kernel
theorem dJ9_floorDiv_f86c9_22 : decode cJ9_floorDiv_f86c9 22 = .ok (.lload 4, 2) := by decide +kernel
theorem dJ9_floorDiv_f86c9_24 : decode cJ9_floorDiv_f86c9 24 = .ok (.lconst 1, 1) := by decide +kernel
theorem dJ9_floorDiv_f86c9_25 : decode cJ9_floorDiv_f86c9 25 = .ok (.lsub, 1) := by decide +kernel
theorem dJ9_floorDiv_f86c9_26 : decode cJ9_floorDiv_f86c9 26 = .ok (.lreturn, 1) := by decide +kernel
theorem dJ9_floorDiv_f86c9_27 : decode cJ9_floorDiv_f86c9 27 = .ok (.lload 4, 2) := by decide +kernel
theorem dJ9_floorDiv_f86c9_29 : decode cJ9_floorDiv_f86c9 29 = .ok (.lreturn, 1) := by decide +kernel
theorem dJ9_floorMod_f86c9_0 : decode cJ9_floorMod_f86c9 0 = .ok (.lload_n 0, 1) := by decide +kernel
theorem dJ9_floorMod_f86c9_1 : decode cJ9_floorMod_f86c9 1 = .ok (.lload_n 2, 1) := by decide +kernel
theorem dJ9_floorMod_f86c9_2 : decode cJ9_floorMod_f86c9 2 = .ok (.lrem, 1) := by decide +kernel
theorem dJ9_floorMod_f86c9_3 : decode cJ9_floorMod_f86c9 3 = .ok (.lstore 4, 2) := by decide +kernel
theorem dJ9_floorMod_f86c9_5 : decode cJ9_floorMod_f86c9 5 = .ok (.lload_n 0, 1) := by decide +kernel
theorem dJ9_floorMod_f86c9_6 : decode cJ9_floorMod_f86c9 6 = .ok (.lload_n 2, 1) := by decide +kernel
theorem dJ9_floorMod_f86c9_7 : decode cJ9_floorMod_f86c9 7 = .ok (.lxor, 1) := by decide +kernel
theorem dJ9_floorMod_f86c9_8 : decode cJ9_floorMod_f86c9 8 = .ok (.lconst 0, 1) := by decide +kernel
theorem dJ9_floorMod_f86c9_9 : decode cJ9_floorMod_f86c9 9 = .ok (.lcmp, 1) := by decide +kernel
theorem dJ9_floorMod_f86c9_10 : decode cJ9_floorMod_f86c9 10 = .ok (.ifCond .ge 15, 3) := by decide +kernel
theorem dJ9_floorMod_f86c9_13 : decode cJ9_floorMod_f86c9 13 = .ok (.lload 4, 2) := by decide +kernel
theorem dJ9_floorMod_f86c9_15 : decode cJ9_floorMod_f86c9 15 = .ok (.lconst 0, 1) := by decide +kernel
theorem dJ9_floorMod_f86c9_16 : decode cJ9_floorMod_f86c9 16 = .ok (.lcmp, 1) := by decide +kernel
theorem dJ9_floorMod_f86c9_17 : decode cJ9_floorMod_f86c9 17 = .ok (.ifCond .eq 8, 3) := by decide +kernel
theorem dJ9_floorMod_f86c9_20 : decode cJ9_floorMod_f86c9 20 = .ok (.lload 4, 2) := by decide +kernel
theorem dJ9_floorMod_f86c9_22 : decode cJ9_floorMod_f86c9 22 = .ok (.lload_n 2, 1) := by decide +kernel
theorem dJ9_floorMod_f86c9_23 : decode cJ9_floorMod_f86c9 23 = .ok (.ladd, 1) := by decide +kernel
theorem dJ9_floorMod_f86c9_24 : decode cJ9_floorMod_f86c9 24 = .ok (.lreturn, 1) := by decide +kernel
theorem dJ9_floorMod_f86c9_25 : decode cJ9_floorMod_f86c9 25 = .ok (.lload 4, 2) := by decide +kernel
theorem dJ9_floorMod_f86c9_27 : decode cJ9_floorMod_f86c9 27 = .ok (.lreturn, 1) := by decide +kernel
theorem dJ9_abs_067f4_0 : decode cJ9_abs_067f4 0 = .ok (.lload_n 0, 1) := by decide +kernel
theorem dJ9_abs_067f4_1 : decode cJ9_abs_067f4 1 = .ok (.lconst 0, 1) := by decide +kernel
theorem dJ9_abs_067f4_2 : decode cJ9_abs_067f4 2 = .ok (.lcmp, 1) := by decide +kernel
theorem dJ9_abs_067f4_3 : decode cJ9_abs_067f4 3 = .ok (.ifCond .ge 8, 3) := by decide +kernel
theorem dJ9_abs_067f4_6 : decode cJ9_abs_067f4 6 = .ok (.lload_n 0, 1) := by decide +kernel
theorem dJ9_abs_067f4_7 : decode cJ9_abs_067f4 7 = .ok (.lneg, 1) := by decide +kernel
theorem dJ9_abs_067f4_8 : decode cJ9_abs_067f4 8 = .ok (.goto 4, 3) := by decide +kernel
theorem dJ9_abs_067f4_11 : decode cJ9_abs_067f4 11 = .ok (.lload_n 0, 1) := by decide +kernel
theorem dJ9_abs_067f4_12 : decode cJ9_abs_067f4 12 = .ok (.lreturn, 1) := by decide +kernel
theorem dJ9_max_f86c9_0 : decode cJ9_max_f86c9 0 = .ok (.lload_n 0, 1) := by decide +kernel
theorem dJ9_max_f86c9_1 : decode cJ9_max_f86c9 1 = .ok (.lload_n 2, 1) := by decide +kernel
theorem dJ9_max_f86c9_2 : decode cJ9_max_f86c9 2 = .ok (.lcmp, 1) := by decide +kernel
theorem dJ9_max_f86c9_3 : decode cJ9_max_f86c9 3 = .ok (.ifCond .lt 7, 3) := by decide +kernel
theorem dJ9_max_f86c9_6 : decode cJ9_max_f86c9 6 = .ok (.lload_n 0, 1) := by decide +kernel
theorem dJ9_max_f86c9_7 : decode cJ9_max_f86c9 7 = .ok (.goto 4, 3) := by decide +kernel
theorem dJ9_max_f86c9_10 : decode cJ9_max_f86c9 10 = .ok (.lload_n 2, 1) := by decide +kernel
theorem dJ9_max_f86c9_11 : decode cJ9_max_f86c9 11 = .ok (.lreturn, 1) := by decide +kernel
theorem dJ9_min_7cf53_0 : decode cJ9_min_7cf53 0 = .ok (.iload_n 0, 1) := by decide +kernel
theorem dJ9_min_7cf53_1 : decode cJ9_min_7cf53 1 = .ok (.iload_n 1, 1) := by decide +kernel
theorem dJ9_min_7cf53_2 : decode cJ9_min_7cf53 2 = .ok (.if_icmp .gt 7, 3) := by decide +kernel
theorem dJ9_min_7cf53_5 : decode cJ9_min_7cf53 5 = .ok (.iload_n 0, 1) := by decide +kernel
theorem dJ9_min_7cf53_6 : decode cJ9_min_7cf53 6 = .ok (.goto 4, 3) := by decide +kernel
theorem dJ9_min_7cf53_9 : decode cJ9_min_7cf53 9 = .ok (.iload_n 1, 1) := by decide +kernel
theorem dJ9_min_7cf53_10 : decode cJ9_min_7cf53 10 = .ok (.ireturn, 1) := by decide +kernel
theorem dJ9_min_f86c9_0 : decode cJ9_min_f86c9 0 = .ok (.lload_n 0, 1) := by decide +kernel
theorem dJ9_min_f86c9_1 : decode cJ9_min_f86c9 1 = .ok (.lload_n 2, 1) := by decide +kernel
theorem dJ9_min_f86c9_2 : decode cJ9_min_f86c9 2 = .ok (.lcmp, 1) := by decide +kernel
theorem dJ9_min_f86c9_3 : decode cJ9_min_f86c9 3 = .ok (.ifCond .gt 7, 3) := by decide +kernel
theorem dJ9_min_f86c9_6 : decode cJ9_min_f86c9 6 = .ok (.lload_n 0, 1) := by decide +kernel
theorem dJ9_min_f86c9_7 : decode cJ9_min_f86c9 7 = .ok (.goto 4, 3) := by decide +kernel
theorem dJ9_min_f86c9_10 : decode cJ9_min_f86c9 10 = .ok (.lload_n 2, 1) := by decide +kernel
theorem dJ9_min_f86c9_11 : decode cJ9_min_f86c9 11 = .ok (.lreturn, 1) := by decide +kernel
theorem dL_law_0 : decode cL_law 0 = .ok (.new 7, 3) := by decide +kernel
theorem dL_law_3 : decode cL_law 3 = .ok (.dup, 1) := by decide +kernel
theorem dL_law_4 : decode cL_law 4 = .ok (.invokespecial 9, 3) := by decide +kernel
theorem dL_law_7 : decode cL_law 7 = .ok (.astore_n 1, 1) := by decide +kernel
theorem dL_law_8 : decode cL_law 8 = .ok (.new 10, 3) := by decide +kernel
theorem dL_law_11 : decode cL_law 11 = .ok (.dup, 1) := by decide +kernel
theorem dL_law_12 : decode cL_law 12 = .ok (.invokespecial 12, 3) := by decide +kernel
theorem dL_law_15 : decode cL_law 15 = .ok (.astore_n 2, 1) := by decide +kernel
theorem dL_law_16 : decode cL_law 16 = .ok (.iconst 0, 1) := by decide +kernel
theorem dL_law_17 : decode cL_law 17 = .ok (.istore_n 3, 1) := by decide +kernel
theorem dL_law_18 : decode cL_law 18 = .ok (.iload_n 3, 1) := by decide +kernel
theorem dL_law_19 : decode cL_law 19 = .ok (.aload_n 0, 1) := by decide +kernel
theorem dL_law_20 : decode cL_law 20 = .ok (.arraylength, 1) := by decide +kernel
theorem dL_law_21 : decode cL_law 21 = .ok (.bipush 7, 2) := by decide +kernel
theorem dL_law_23 : decode cL_law 23 = .ok (.isub, 1) := by decide +kernel
theorem dL_law_24 : decode cL_law 24 = .ok (.if_icmp .gt 484, 3) := by decide +kernel
theorem dL_law_27 : decode cL_law 27 = .ok (.aload_n 0, 1) := by decide +kernel
theorem dL_law_28 : decode cL_law 28 = .ok (.iload_n 3, 1) := by decide +kernel
theorem dL_law_29 : decode cL_law 29 = .ok (.iaload, 1) := by decide +kernel
theorem dL_law_30 : decode cL_law 30 = .ok (.bipush 15, 2) := by decide +kernel
theorem dL_law_32 : decode cL_law 32 = .ok (.iand, 1) := by decide +kernel
theorem dL_law_33 : decode cL_law 33 = .ok (.tableswitch 469 0 12 #[67, 90, 123, 146, 221, 254, 287, 301, 344, 377, 400, 423, 446], 67) := by decide +kernel
theorem dL_law_100 : decode cL_law 100 = .ok (.aload_n 1, 1) := by decide +kernel
theorem dL_law_101 : decode cL_law 101 = .ok (.aload_n 0, 1) := by decide +kernel
theorem dL_law_102 : decode cL_law 102 = .ok (.iload_n 3, 1) := by decide +kernel
theorem dL_law_103 : decode cL_law 103 = .ok (.iconst 1, 1) := by decide +kernel
theorem dL_law_104 : decode cL_law 104 = .ok (.iadd, 1) := by decide +kernel
theorem dL_law_105 : decode cL_law 105 = .ok (.iaload, 1) := by decide +kernel
theorem dL_law_106 : decode cL_law 106 = .ok (.invokevirtual 13, 3) := by decide +kernel
theorem dL_law_109 : decode cL_law 109 = .ok (.aload_n 2, 1) := by decide +kernel
theorem dL_law_110 : decode cL_law 110 = .ok (.aload_n 0, 1) := by decide +kernel
theorem dL_law_111 : decode cL_law 111 = .ok (.iload_n 3, 1) := by decide +kernel
theorem dL_law_112 : decode cL_law 112 = .ok (.iconst 1, 1) := by decide +kernel
theorem dL_law_113 : decode cL_law 113 = .ok (.iadd, 1) := by decide +kernel
theorem dL_law_114 : decode cL_law 114 = .ok (.iaload, 1) := by decide +kernel
theorem dL_law_115 : decode cL_law 115 = .ok (.invokevirtual 17, 3) := by decide +kernel
theorem dL_law_118 : decode cL_law 118 = .ok (.if_icmp .eq 384, 3) := by decide +kernel
theorem dL_law_121 : decode cL_law 121 = .ok (.iconst 0, 1) := by decide +kernel
theorem dL_law_122 : decode cL_law 122 = .ok (.ireturn, 1) := by decide +kernel
theorem dL_law_123 : decode cL_law 123 = .ok (.aload_n 1, 1) := by decide +kernel
theorem dL_law_124 : decode cL_law 124 = .ok (.aload_n 0, 1) := by decide +kernel
theorem dL_law_125 : decode cL_law 125 = .ok (.iload_n 3, 1) := by decide +kernel
theorem dL_law_126 : decode cL_law 126 = .ok (.iconst 1, 1) := by decide +kernel
theorem dL_law_127 : decode cL_law 127 = .ok (.iadd, 1) := by decide +kernel
theorem dL_law_128 : decode cL_law 128 = .ok (.iaload, 1) := by decide +kernel
theorem dL_law_129 : decode cL_law 129 = .ok (.aload_n 0, 1) := by decide +kernel
theorem dL_law_130 : decode cL_law 130 = .ok (.iload_n 3, 1) := by decide +kernel
theorem dL_law_131 : decode cL_law 131 = .ok (.iconst 2, 1) := by decide +kernel
theorem dL_law_132 : decode cL_law 132 = .ok (.iadd, 1) := by decide +kernel
theorem dL_law_133 : decode cL_law 133 = .ok (.iaload, 1) := by decide +kernel
theorem dL_law_134 : decode cL_law 134 = .ok (.invokevirtual 18, 3) := by decide +kernel
theorem dL_law_137 : decode cL_law 137 = .ok (.aload_n 2, 1) := by decide +kernel
theorem dL_law_138 : decode cL_law 138 = .ok (.aload_n 0, 1) := by decide +kernel
theorem dL_law_139 : decode cL_law 139 = .ok (.iload_n 3, 1) := by decide +kernel
theorem dL_law_140 : decode cL_law 140 = .ok (.iconst 1, 1) := by decide +kernel
theorem dL_law_141 : decode cL_law 141 = .ok (.iadd, 1) := by decide +kernel
theorem dL_law_142 : decode cL_law 142 = .ok (.iaload, 1) := by decide +kernel
theorem dL_law_143 : decode cL_law 143 = .ok (.aload_n 0, 1) := by decide +kernel
theorem dL_law_144 : decode cL_law 144 = .ok (.iload_n 3, 1) := by decide +kernel
theorem dL_law_145 : decode cL_law 145 = .ok (.iconst 2, 1) := by decide +kernel
theorem dL_law_146 : decode cL_law 146 = .ok (.iadd, 1) := by decide +kernel
theorem dL_law_147 : decode cL_law 147 = .ok (.iaload, 1) := by decide +kernel
theorem dL_law_148 : decode cL_law 148 = .ok (.invokevirtual 22, 3) := by decide +kernel
theorem dL_law_151 : decode cL_law 151 = .ok (.if_icmp .eq 351, 3) := by decide +kernel
theorem dL_law_154 : decode cL_law 154 = .ok (.iconst 0, 1) := by decide +kernel
theorem dL_law_155 : decode cL_law 155 = .ok (.ireturn, 1) := by decide +kernel
theorem dL_law_156 : decode cL_law 156 = .ok (.aload_n 1, 1) := by decide +kernel
theorem dL_law_157 : decode cL_law 157 = .ok (.aload_n 0, 1) := by decide +kernel
theorem dL_law_158 : decode cL_law 158 = .ok (.iload_n 3, 1) := by decide +kernel
theorem dL_law_159 : decode cL_law 159 = .ok (.iconst 1, 1) := by decide +kernel
theorem dL_law_160 : decode cL_law 160 = .ok (.iadd, 1) := by decide +kernel
theorem dL_law_161 : decode cL_law 161 = .ok (.iaload, 1) := by decide +kernel
theorem dL_law_162 : decode cL_law 162 = .ok (.invokevirtual 23, 3) := by decide +kernel
theorem dL_law_165 : decode cL_law 165 = .ok (.aload_n 2, 1) := by decide +kernel
theorem dL_law_166 : decode cL_law 166 = .ok (.aload_n 0, 1) := by decide +kernel
theorem dL_law_167 : decode cL_law 167 = .ok (.iload_n 3, 1) := by decide +kernel
theorem dL_law_168 : decode cL_law 168 = .ok (.iconst 1, 1) := by decide +kernel
theorem dL_law_169 : decode cL_law 169 = .ok (.iadd, 1) := by decide +kernel
theorem dL_law_170 : decode cL_law 170 = .ok (.iaload, 1) := by decide +kernel
theorem dL_law_171 : decode cL_law 171 = .ok (.invokevirtual 26, 3) := by decide +kernel
theorem dL_law_174 : decode cL_law 174 = .ok (.if_icmp .eq 328, 3) := by decide +kernel
theorem dL_law_177 : decode cL_law 177 = .ok (.iconst 0, 1) := by decide +kernel
theorem dL_law_178 : decode cL_law 178 = .ok (.ireturn, 1) := by decide +kernel
theorem dL_law_179 : decode cL_law 179 = .ok (.aload_n 1, 1) := by decide +kernel
theorem dL_law_180 : decode cL_law 180 = .ok (.aload_n 0, 1) := by decide +kernel
theorem dL_law_181 : decode cL_law 181 = .ok (.iload_n 3, 1) := by decide +kernel
theorem dL_law_182 : decode cL_law 182 = .ok (.iconst 1, 1) := by decide +kernel
theorem dL_law_183 : decode cL_law 183 = .ok (.iadd, 1) := by decide +kernel
theorem dL_law_184 : decode cL_law 184 = .ok (.iaload, 1) := by decide +kernel
theorem dL_law_185 : decode cL_law 185 = .ok (.aload_n 0, 1) := by decide +kernel
theorem dL_law_186 : decode cL_law 186 = .ok (.iload_n 3, 1) := by decide +kernel
theorem dL_law_187 : decode cL_law 187 = .ok (.iconst 2, 1) := by decide +kernel
theorem dL_law_188 : decode cL_law 188 = .ok (.iadd, 1) := by decide +kernel
theorem dL_law_189 : decode cL_law 189 = .ok (.iaload, 1) := by decide +kernel
theorem dL_law_190 : decode cL_law 190 = .ok (.aload_n 0, 1) := by decide +kernel
theorem dL_law_191 : decode cL_law 191 = .ok (.iload_n 3, 1) := by decide +kernel
theorem dL_law_192 : decode cL_law 192 = .ok (.iconst 3, 1) := by decide +kernel
theorem dL_law_193 : decode cL_law 193 = .ok (.iadd, 1) := by decide +kernel
theorem dL_law_194 : decode cL_law 194 = .ok (.iaload, 1) := by decide +kernel
theorem dL_law_195 : decode cL_law 195 = .ok (.aload_n 0, 1) := by decide +kernel
theorem dL_law_196 : decode cL_law 196 = .ok (.iload_n 3, 1) := by decide +kernel
theorem dL_law_197 : decode cL_law 197 = .ok (.iconst 4, 1) := by decide +kernel
theorem dL_law_198 : decode cL_law 198 = .ok (.iadd, 1) := by decide +kernel
theorem dL_law_199 : decode cL_law 199 = .ok (.iaload, 1) := by decide +kernel
theorem dL_law_200 : decode cL_law 200 = .ok (.aload_n 0, 1) := by decide +kernel
theorem dL_law_201 : decode cL_law 201 = .ok (.iload_n 3, 1) := by decide +kernel
theorem dL_law_202 : decode cL_law 202 = .ok (.iconst 5, 1) := by decide +kernel
theorem dL_law_203 : decode cL_law 203 = .ok (.iadd, 1) := by decide +kernel
theorem dL_law_204 : decode cL_law 204 = .ok (.iaload, 1) := by decide +kernel
theorem dL_law_205 : decode cL_law 205 = .ok (.aload_n 0, 1) := by decide +kernel
theorem dL_law_206 : decode cL_law 206 = .ok (.iload_n 3, 1) := by decide +kernel
theorem dL_law_207 : decode cL_law 207 = .ok (.bipush 6, 2) := by decide +kernel
theorem dL_law_209 : decode cL_law 209 = .ok (.iadd, 1) := by decide +kernel
theorem dL_law_210 : decode cL_law 210 = .ok (.iaload, 1) := by decide +kernel
theorem dL_law_211 : decode cL_law 211 = .ok (.invokevirtual 27, 3) := by decide +kernel
theorem dL_law_214 : decode cL_law 214 = .ok (.aload_n 2, 1) := by decide +kernel
theorem dL_law_215 : decode cL_law 215 = .ok (.aload_n 0, 1) := by decide +kernel
theorem dL_law_216 : decode cL_law 216 = .ok (.iload_n 3, 1) := by decide +kernel
theorem dL_law_217 : decode cL_law 217 = .ok (.iconst 1, 1) := by decide +kernel
theorem dL_law_218 : decode cL_law 218 = .ok (.iadd, 1) := by decide +kernel
theorem dL_law_219 : decode cL_law 219 = .ok (.iaload, 1) := by decide +kernel
theorem dL_law_220 : decode cL_law 220 = .ok (.aload_n 0, 1) := by decide +kernel
theorem dL_law_221 : decode cL_law 221 = .ok (.iload_n 3, 1) := by decide +kernel
theorem dL_law_222 : decode cL_law 222 = .ok (.iconst 2, 1) := by decide +kernel
theorem dL_law_223 : decode cL_law 223 = .ok (.iadd, 1) := by decide +kernel
theorem dL_law_224 : decode cL_law 224 = .ok (.iaload, 1) := by decide +kernel
theorem dL_law_225 : decode cL_law 225 = .ok (.aload_n 0, 1) := by decide +kernel
theorem dL_law_226 : decode cL_law 226 = .ok (.iload_n 3, 1) := by decide +kernel
theorem dL_law_227 : decode cL_law 227 = .ok (.iconst 3, 1) := by decide +kernel
theorem dL_law_228 : decode cL_law 228 = .ok (.iadd, 1) := by decide +kernel
theorem dL_law_229 : decode cL_law 229 = .ok (.iaload, 1) := by decide +kernel
theorem dL_law_230 : decode cL_law 230 = .ok (.aload_n 0, 1) := by decide +kernel
theorem dL_law_231 : decode cL_law 231 = .ok (.iload_n 3, 1) := by decide +kernel
theorem dL_law_232 : decode cL_law 232 = .ok (.iconst 4, 1) := by decide +kernel
theorem dL_law_233 : decode cL_law 233 = .ok (.iadd, 1) := by decide +kernel
theorem dL_law_234 : decode cL_law 234 = .ok (.iaload, 1) := by decide +kernel
theorem dL_law_235 : decode cL_law 235 = .ok (.aload_n 0, 1) := by decide +kernel
theorem dL_law_236 : decode cL_law 236 = .ok (.iload_n 3, 1) := by decide +kernel
theorem dL_law_237 : decode cL_law 237 = .ok (.iconst 5, 1) := by decide +kernel
theorem dL_law_238 : decode cL_law 238 = .ok (.iadd, 1) := by decide +kernel
theorem dL_law_239 : decode cL_law 239 = .ok (.iaload, 1) := by decide +kernel
theorem dL_law_240 : decode cL_law 240 = .ok (.aload_n 0, 1) := by decide +kernel
theorem dL_law_241 : decode cL_law 241 = .ok (.iload_n 3, 1) := by decide +kernel
theorem dL_law_242 : decode cL_law 242 = .ok (.bipush 6, 2) := by decide +kernel
theorem dL_law_244 : decode cL_law 244 = .ok (.iadd, 1) := by decide +kernel
theorem dL_law_245 : decode cL_law 245 = .ok (.iaload, 1) := by decide +kernel
theorem dL_law_246 : decode cL_law 246 = .ok (.invokevirtual 31, 3) := by decide +kernel
theorem dL_law_249 : decode cL_law 249 = .ok (.if_icmp .eq 253, 3) := by decide +kernel
theorem dL_law_252 : decode cL_law 252 = .ok (.iconst 0, 1) := by decide +kernel
theorem dL_law_253 : decode cL_law 253 = .ok (.ireturn, 1) := by decide +kernel
theorem dL_law_254 : decode cL_law 254 = .ok (.aload_n 1, 1) := by decide +kernel
theorem dL_law_255 : decode cL_law 255 = .ok (.aload_n 0, 1) := by decide +kernel
theorem dL_law_256 : decode cL_law 256 = .ok (.iload_n 3, 1) := by decide +kernel
theorem dL_law_257 : decode cL_law 257 = .ok (.iconst 1, 1) := by decide +kernel
theorem dL_law_258 : decode cL_law 258 = .ok (.iadd, 1) := by decide +kernel
theorem dL_law_259 : decode cL_law 259 = .ok (.iaload, 1) := by decide +kernel
theorem dL_law_260 : decode cL_law 260 = .ok (.aload_n 0, 1) := by decide +kernel
theorem dL_law_261 : decode cL_law 261 = .ok (.iload_n 3, 1) := by decide +kernel
theorem dL_law_262 : decode cL_law 262 = .ok (.iconst 2, 1) := by decide +kernel
theorem dL_law_263 : decode cL_law 263 = .ok (.iadd, 1) := by decide +kernel
theorem dL_law_264 : decode cL_law 264 = .ok (.iaload, 1) := by decide +kernel
theorem dL_law_265 : decode cL_law 265 = .ok (.invokevirtual 32, 3) := by decide +kernel
theorem dL_law_268 : decode cL_law 268 = .ok (.aload_n 2, 1) := by decide +kernel
theorem dL_law_269 : decode cL_law 269 = .ok (.aload_n 0, 1) := by decide +kernel
theorem dL_law_270 : decode cL_law 270 = .ok (.iload_n 3, 1) := by decide +kernel
theorem dL_law_271 : decode cL_law 271 = .ok (.iconst 1, 1) := by decide +kernel
theorem dL_law_272 : decode cL_law 272 = .ok (.iadd, 1) := by decide +kernel
theorem dL_law_273 : decode cL_law 273 = .ok (.iaload, 1) := by decide +kernel
theorem dL_law_274 : decode cL_law 274 = .ok (.aload_n 0, 1) := by decide +kernel
theorem dL_law_275 : decode cL_law 275 = .ok (.iload_n 3, 1) := by decide +kernel
theorem dL_law_276 : decode cL_law 276 = .ok (.iconst 2, 1) := by decide +kernel
theorem dL_law_277 : decode cL_law 277 = .ok (.iadd, 1) := by decide +kernel
theorem dL_law_278 : decode cL_law 278 = .ok (.iaload, 1) := by decide +kernel
theorem dL_law_279 : decode cL_law 279 = .ok (.invokevirtual 35, 3) := by decide +kernel
theorem dL_law_282 : decode cL_law 282 = .ok (.if_icmp .eq 220, 3) := by decide +kernel
theorem dL_law_285 : decode cL_law 285 = .ok (.iconst 0, 1) := by decide +kernel
theorem dL_law_286 : decode cL_law 286 = .ok (.ireturn, 1) := by decide +kernel
theorem dL_law_287 : decode cL_law 287 = .ok (.aload_n 1, 1) := by decide +kernel
theorem dL_law_288 : decode cL_law 288 = .ok (.aload_n 0, 1) := by decide +kernel
theorem dL_law_289 : decode cL_law 289 = .ok (.iload_n 3, 1) := by decide +kernel
theorem dL_law_290 : decode cL_law 290 = .ok (.iconst 1, 1) := by decide +kernel
theorem dL_law_291 : decode cL_law 291 = .ok (.iadd, 1) := by decide +kernel
theorem dL_law_292 : decode cL_law 292 = .ok (.iaload, 1) := by decide +kernel
theorem dL_law_293 : decode cL_law 293 = .ok (.aload_n 0, 1) := by decide +kernel
theorem dL_law_294 : decode cL_law 294 = .ok (.iload_n 3, 1) := by decide +kernel
theorem dL_law_295 : decode cL_law 295 = .ok (.iconst 2, 1) := by decide +kernel
theorem dL_law_296 : decode cL_law 296 = .ok (.iadd, 1) := by decide +kernel
theorem dL_law_297 : decode cL_law 297 = .ok (.iaload, 1) := by decide +kernel
theorem dL_law_298 : decode cL_law 298 = .ok (.invokevirtual 36, 3) := by decide +kernel
theorem dL_law_301 : decode cL_law 301 = .ok (.aload_n 2, 1) := by decide +kernel
theorem dL_law_302 : decode cL_law 302 = .ok (.aload_n 0, 1) := by decide +kernel
theorem dL_law_303 : decode cL_law 303 = .ok (.iload_n 3, 1) := by decide +kernel
theorem dL_law_304 : decode cL_law 304 = .ok (.iconst 1, 1) := by decide +kernel
theorem dL_law_305 : decode cL_law 305 = .ok (.iadd, 1) := by decide +kernel
theorem dL_law_306 : decode cL_law 306 = .ok (.iaload, 1) := by decide +kernel
theorem dL_law_307 : decode cL_law 307 = .ok (.aload_n 0, 1) := by decide +kernel
theorem dL_law_308 : decode cL_law 308 = .ok (.iload_n 3, 1) := by decide +kernel
theorem dL_law_309 : decode cL_law 309 = .ok (.iconst 2, 1) := by decide +kernel
theorem dL_law_310 : decode cL_law 310 = .ok (.iadd, 1) := by decide +kernel
theorem dL_law_311 : decode cL_law 311 = .ok (.iaload, 1) := by decide +kernel
theorem dL_law_312 : decode cL_law 312 = .ok (.invokevirtual 39, 3) := by decide +kernel
theorem dL_law_315 : decode cL_law 315 = .ok (.if_icmp .eq 187, 3) := by decide +kernel
theorem dL_law_318 : decode cL_law 318 = .ok (.iconst 0, 1) := by decide +kernel
theorem dL_law_319 : decode cL_law 319 = .ok (.ireturn, 1) := by decide +kernel
theorem dL_law_320 : decode cL_law 320 = .ok (.aload_n 1, 1) := by decide +kernel
theorem dL_law_321 : decode cL_law 321 = .ok (.invokevirtual 40, 3) := by decide +kernel
theorem dL_law_324 : decode cL_law 324 = .ok (.aload_n 2, 1) := by decide +kernel
theorem dL_law_325 : decode cL_law 325 = .ok (.invokevirtual 44, 3) := by decide +kernel
theorem dL_law_328 : decode cL_law 328 = .ok (.lcmp, 1) := by decide +kernel
theorem dL_law_329 : decode cL_law 329 = .ok (.ifCond .eq 173, 3) := by decide +kernel
theorem dL_law_332 : decode cL_law 332 = .ok (.iconst 0, 1) := by decide +kernel
theorem dL_law_333 : decode cL_law 333 = .ok (.ireturn, 1) := by decide +kernel
theorem dL_law_334 : decode cL_law 334 = .ok (.aload_n 1, 1) := by decide +kernel
theorem dL_law_335 : decode cL_law 335 = .ok (.aload_n 0, 1) := by decide +kernel
theorem dL_law_336 : decode cL_law 336 = .ok (.iload_n 3, 1) := by decide +kernel
theorem dL_law_337 : decode cL_law 337 = .ok (.iconst 1, 1) := by decide +kernel
theorem dL_law_338 : decode cL_law 338 = .ok (.iadd, 1) := by decide +kernel
theorem dL_law_339 : decode cL_law 339 = .ok (.iaload, 1) := by decide +kernel
theorem dL_law_340 : decode cL_law 340 = .ok (.aload_n 0, 1) := by decide +kernel
theorem dL_law_341 : decode cL_law 341 = .ok (.iload_n 3, 1) := by decide +kernel
theorem dL_law_342 : decode cL_law 342 = .ok (.iconst 2, 1) := by decide +kernel
theorem dL_law_343 : decode cL_law 343 = .ok (.iadd, 1) := by decide +kernel
theorem dL_law_344 : decode cL_law 344 = .ok (.iaload, 1) := by decide +kernel
theorem dL_law_345 : decode cL_law 345 = .ok (.aload_n 0, 1) := by decide +kernel
theorem dL_law_346 : decode cL_law 346 = .ok (.iload_n 3, 1) := by decide +kernel
theorem dL_law_347 : decode cL_law 347 = .ok (.iconst 3, 1) := by decide +kernel
theorem dL_law_348 : decode cL_law 348 = .ok (.iadd, 1) := by decide +kernel
theorem dL_law_349 : decode cL_law 349 = .ok (.iaload, 1) := by decide +kernel
theorem dL_law_350 : decode cL_law 350 = .ok (.invokevirtual 45, 3) := by decide +kernel
theorem dL_law_353 : decode cL_law 353 = .ok (.aload_n 2, 1) := by decide +kernel
theorem dL_law_354 : decode cL_law 354 = .ok (.aload_n 0, 1) := by decide +kernel
theorem dL_law_355 : decode cL_law 355 = .ok (.iload_n 3, 1) := by decide +kernel
theorem dL_law_356 : decode cL_law 356 = .ok (.iconst 1, 1) := by decide +kernel
theorem dL_law_357 : decode cL_law 357 = .ok (.iadd, 1) := by decide +kernel
theorem dL_law_358 : decode cL_law 358 = .ok (.iaload, 1) := by decide +kernel
theorem dL_law_359 : decode cL_law 359 = .ok (.aload_n 0, 1) := by decide +kernel
theorem dL_law_360 : decode cL_law 360 = .ok (.iload_n 3, 1) := by decide +kernel
theorem dL_law_361 : decode cL_law 361 = .ok (.iconst 2, 1) := by decide +kernel
theorem dL_law_362 : decode cL_law 362 = .ok (.iadd, 1) := by decide +kernel
theorem dL_law_363 : decode cL_law 363 = .ok (.iaload, 1) := by decide +kernel
theorem dL_law_364 : decode cL_law 364 = .ok (.aload_n 0, 1) := by decide +kernel
theorem dL_law_365 : decode cL_law 365 = .ok (.iload_n 3, 1) := by decide +kernel
theorem dL_law_366 : decode cL_law 366 = .ok (.iconst 3, 1) := by decide +kernel
theorem dL_law_367 : decode cL_law 367 = .ok (.iadd, 1) := by decide +kernel
theorem dL_law_368 : decode cL_law 368 = .ok (.iaload, 1) := by decide +kernel
theorem dL_law_369 : decode cL_law 369 = .ok (.invokevirtual 49, 3) := by decide +kernel
theorem dL_law_372 : decode cL_law 372 = .ok (.if_icmp .eq 130, 3) := by decide +kernel
theorem dL_law_375 : decode cL_law 375 = .ok (.iconst 0, 1) := by decide +kernel
theorem dL_law_376 : decode cL_law 376 = .ok (.ireturn, 1) := by decide +kernel
theorem dL_law_377 : decode cL_law 377 = .ok (.aload_n 1, 1) := by decide +kernel
theorem dL_law_378 : decode cL_law 378 = .ok (.aload_n 0, 1) := by decide +kernel
theorem dL_law_379 : decode cL_law 379 = .ok (.iload_n 3, 1) := by decide +kernel
theorem dL_law_380 : decode cL_law 380 = .ok (.iconst 1, 1) := by decide +kernel
theorem dL_law_381 : decode cL_law 381 = .ok (.iadd, 1) := by decide +kernel
theorem dL_law_382 : decode cL_law 382 = .ok (.iaload, 1) := by decide +kernel
theorem dL_law_383 : decode cL_law 383 = .ok (.aload_n 0, 1) := by decide +kernel
theorem dL_law_384 : decode cL_law 384 = .ok (.iload_n 3, 1) := by decide +kernel
theorem dL_law_385 : decode cL_law 385 = .ok (.iconst 2, 1) := by decide +kernel
theorem dL_law_386 : decode cL_law 386 = .ok (.iadd, 1) := by decide +kernel
theorem dL_law_387 : decode cL_law 387 = .ok (.iaload, 1) := by decide +kernel
theorem dL_law_388 : decode cL_law 388 = .ok (.invokevirtual 50, 3) := by decide +kernel
theorem dL_law_391 : decode cL_law 391 = .ok (.aload_n 2, 1) := by decide +kernel
theorem dL_law_392 : decode cL_law 392 = .ok (.aload_n 0, 1) := by decide +kernel
theorem dL_law_393 : decode cL_law 393 = .ok (.iload_n 3, 1) := by decide +kernel
theorem dL_law_394 : decode cL_law 394 = .ok (.iconst 1, 1) := by decide +kernel
theorem dL_law_395 : decode cL_law 395 = .ok (.iadd, 1) := by decide +kernel
theorem dL_law_396 : decode cL_law 396 = .ok (.iaload, 1) := by decide +kernel
theorem dL_law_397 : decode cL_law 397 = .ok (.aload_n 0, 1) := by decide +kernel
theorem dL_law_398 : decode cL_law 398 = .ok (.iload_n 3, 1) := by decide +kernel
theorem dL_law_399 : decode cL_law 399 = .ok (.iconst 2, 1) := by decide +kernel
theorem dL_law_400 : decode cL_law 400 = .ok (.iadd, 1) := by decide +kernel
theorem dL_law_401 : decode cL_law 401 = .ok (.iaload, 1) := by decide +kernel
theorem dL_law_402 : decode cL_law 402 = .ok (.invokevirtual 53, 3) := by decide +kernel
theorem dL_law_405 : decode cL_law 405 = .ok (.if_icmp .eq 97, 3) := by decide +kernel
theorem dL_law_408 : decode cL_law 408 = .ok (.iconst 0, 1) := by decide +kernel
theorem dL_law_409 : decode cL_law 409 = .ok (.ireturn, 1) := by decide +kernel
theorem dL_law_410 : decode cL_law 410 = .ok (.aload_n 1, 1) := by decide +kernel
theorem dL_law_411 : decode cL_law 411 = .ok (.aload_n 0, 1) := by decide +kernel
theorem dL_law_412 : decode cL_law 412 = .ok (.iload_n 3, 1) := by decide +kernel
theorem dL_law_413 : decode cL_law 413 = .ok (.iconst 1, 1) := by decide +kernel
theorem dL_law_414 : decode cL_law 414 = .ok (.iadd, 1) := by decide +kernel
theorem dL_law_415 : decode cL_law 415 = .ok (.iaload, 1) := by decide +kernel
theorem dL_law_416 : decode cL_law 416 = .ok (.invokevirtual 54, 3) := by decide +kernel
theorem dL_law_419 : decode cL_law 419 = .ok (.aload_n 2, 1) := by decide +kernel
theorem dL_law_420 : decode cL_law 420 = .ok (.aload_n 0, 1) := by decide +kernel
theorem dL_law_421 : decode cL_law 421 = .ok (.iload_n 3, 1) := by decide +kernel
theorem dL_law_422 : decode cL_law 422 = .ok (.iconst 1, 1) := by decide +kernel
theorem dL_law_423 : decode cL_law 423 = .ok (.iadd, 1) := by decide +kernel
theorem dL_law_424 : decode cL_law 424 = .ok (.iaload, 1) := by decide +kernel
theorem dL_law_425 : decode cL_law 425 = .ok (.invokevirtual 57, 3) := by decide +kernel
theorem dL_law_428 : decode cL_law 428 = .ok (.if_icmp .eq 74, 3) := by decide +kernel
theorem dL_law_431 : decode cL_law 431 = .ok (.iconst 0, 1) := by decide +kernel
theorem dL_law_432 : decode cL_law 432 = .ok (.ireturn, 1) := by decide +kernel
theorem dL_law_433 : decode cL_law 433 = .ok (.aload_n 1, 1) := by decide +kernel
theorem dL_law_434 : decode cL_law 434 = .ok (.aload_n 0, 1) := by decide +kernel
theorem dL_law_435 : decode cL_law 435 = .ok (.iload_n 3, 1) := by decide +kernel
theorem dL_law_436 : decode cL_law 436 = .ok (.iconst 1, 1) := by decide +kernel
theorem dL_law_437 : decode cL_law 437 = .ok (.iadd, 1) := by decide +kernel
theorem dL_law_438 : decode cL_law 438 = .ok (.iaload, 1) := by decide +kernel
theorem dL_law_439 : decode cL_law 439 = .ok (.invokevirtual 58, 3) := by decide +kernel
theorem dL_law_442 : decode cL_law 442 = .ok (.aload_n 2, 1) := by decide +kernel
theorem dL_law_443 : decode cL_law 443 = .ok (.aload_n 0, 1) := by decide +kernel
theorem dL_law_444 : decode cL_law 444 = .ok (.iload_n 3, 1) := by decide +kernel
theorem dL_law_445 : decode cL_law 445 = .ok (.iconst 1, 1) := by decide +kernel
theorem dL_law_446 : decode cL_law 446 = .ok (.iadd, 1) := by decide +kernel
theorem dL_law_447 : decode cL_law 447 = .ok (.iaload, 1) := by decide +kernel
theorem dL_law_448 : decode cL_law 448 = .ok (.invokevirtual 61, 3) := by decide +kernel
theorem dL_law_451 : decode cL_law 451 = .ok (.if_icmp .eq 51, 3) := by decide +kernel
theorem dL_law_454 : decode cL_law 454 = .ok (.iconst 0, 1) := by decide +kernel
theorem dL_law_455 : decode cL_law 455 = .ok (.ireturn, 1) := by decide +kernel
theorem dL_law_456 : decode cL_law 456 = .ok (.aload_n 1, 1) := by decide +kernel
theorem dL_law_457 : decode cL_law 457 = .ok (.aload_n 0, 1) := by decide +kernel
theorem dL_law_458 : decode cL_law 458 = .ok (.iload_n 3, 1) := by decide +kernel
theorem dL_law_459 : decode cL_law 459 = .ok (.iconst 1, 1) := by decide +kernel
theorem dL_law_460 : decode cL_law 460 = .ok (.iadd, 1) := by decide +kernel
theorem dL_law_461 : decode cL_law 461 = .ok (.iaload, 1) := by decide +kernel
theorem dL_law_462 : decode cL_law 462 = .ok (.invokevirtual 62, 3) := by decide +kernel
theorem dL_law_465 : decode cL_law 465 = .ok (.aload_n 2, 1) := by decide +kernel
theorem dL_law_466 : decode cL_law 466 = .ok (.aload_n 0, 1) := by decide +kernel
theorem dL_law_467 : decode cL_law 467 = .ok (.iload_n 3, 1) := by decide +kernel
theorem dL_law_468 : decode cL_law 468 = .ok (.iconst 1, 1) := by decide +kernel
theorem dL_law_469 : decode cL_law 469 = .ok (.iadd, 1) := by decide +kernel
theorem dL_law_470 : decode cL_law 470 = .ok (.iaload, 1) := by decide +kernel
theorem dL_law_471 : decode cL_law 471 = .ok (.invokevirtual 65, 3) := by decide +kernel
theorem dL_law_474 : decode cL_law 474 = .ok (.if_icmp .eq 28, 3) := by decide +kernel
theorem dL_law_477 : decode cL_law 477 = .ok (.iconst 0, 1) := by decide +kernel
theorem dL_law_478 : decode cL_law 478 = .ok (.ireturn, 1) := by decide +kernel
theorem dL_law_479 : decode cL_law 479 = .ok (.aload_n 1, 1) := by decide +kernel
theorem dL_law_480 : decode cL_law 480 = .ok (.aload_n 0, 1) := by decide +kernel
theorem dL_law_481 : decode cL_law 481 = .ok (.iload_n 3, 1) := by decide +kernel
theorem dL_law_482 : decode cL_law 482 = .ok (.iconst 1, 1) := by decide +kernel
theorem dL_law_483 : decode cL_law 483 = .ok (.iadd, 1) := by decide +kernel
theorem dL_law_484 : decode cL_law 484 = .ok (.iaload, 1) := by decide +kernel
theorem dL_law_485 : decode cL_law 485 = .ok (.invokevirtual 66, 3) := by decide +kernel
theorem dL_law_488 : decode cL_law 488 = .ok (.aload_n 2, 1) := by decide +kernel
theorem dL_law_489 : decode cL_law 489 = .ok (.aload_n 0, 1) := by decide +kernel
theorem dL_law_490 : decode cL_law 490 = .ok (.iload_n 3, 1) := by decide +kernel
theorem dL_law_491 : decode cL_law 491 = .ok (.iconst 1, 1) := by decide +kernel
theorem dL_law_492 : decode cL_law 492 = .ok (.iadd, 1) := by decide +kernel
theorem dL_law_493 : decode cL_law 493 = .ok (.iaload, 1) := by decide +kernel
theorem dL_law_494 : decode cL_law 494 = .ok (.invokevirtual 69, 3) := by decide +kernel
theorem dL_law_497 : decode cL_law 497 = .ok (.if_icmp .eq 5, 3) := by decide +kernel
theorem dL_law_500 : decode cL_law 500 = .ok (.iconst 0, 1) := by decide +kernel
theorem dL_law_501 : decode cL_law 501 = .ok (.ireturn, 1) := by decide +kernel
theorem dL_law_502 : decode cL_law 502 = .ok (.iinc 3 7, 3) := by decide +kernel
theorem dL_law_505 : decode cL_law 505 = .ok (.goto (-487), 3) := by decide +kernel
theorem dL_law_508 : decode cL_law 508 = .ok (.iconst 1, 1) := by decide +kernel
theorem dL_law_509 : decode cL_law 509 = .ok (.ireturn, 1) := by decide +kernel
abbrev vwCl : List vw_C := [(RX0, TX0, 8), (RX1, TX1, 3), (RX2, TX2, 14), (RX3, TX3, 25)]
end
section
set_option maxRecDepth 20000 in
theorem ggL_law_X2_init : GoodIn wsL_law wsX2_init := goodIn_r _ [8, 9, 10, 11, 12, 13, 14, 15, 16, 17, 18, 19, 20, 21, 22, 23, 24, 25, 26, 27, 28, 353, 354, 355, 356, 357, 358, 359, 360, 361, 362, 363, 364, 365, 366] (by rfl) (by decide +kernel)
set_option maxRecDepth 20000 in
theorem gL_law_X2_init : GoodIn wsL_law (wsX2_init) := ggL_law_X2_init
set_option maxRecDepth 20000 in
theorem ggL_law_X3_init : GoodIn wsL_law wsX3_init := goodIn_r _ [31, 32, 10, 11, 12, 33, 34, 35, 36, 37, 38, 39, 40, 41, 42, 43, 44, 45, 46, 47, 48, 367, 368, 369, 370, 371, 372, 373, 374, 375, 376, 377, 378, 379, 380, 381, 382, 383, 384, 385, 386, 387, 388, 389, 390, 391] (by rfl) (by decide +kernel)
set_option maxRecDepth 20000 in
theorem gL_law_X3_init : GoodIn wsL_law (wsX3_init) := ggL_law_X3_init
set_option maxRecDepth 20000 in
theorem ggL_law_X2_basin : GoodIn wsL_law wsX2_basin := goodIn_r _ [52, 14, 13, 53, 54, 2, 55, 56, 353, 354, 355, 356, 357, 358, 359, 360, 361, 362, 363, 364, 365, 366] (by rfl) (by decide +kernel)
set_option maxRecDepth 20000 in
theorem gL_law_X2_basin : GoodIn wsL_law (wsV RL 13 RX2 yX2_basin wsX2_basin) := goodIn_app (goodIn_of _ (by decide +kernel)) ggL_law_X2_basin
set_option maxRecDepth 20000 in
theorem ggL_law_X3_basin : GoodIn wsL_law wsX3_basin := goodIn_r _ [60, 61, 62, 33, 63, 64, 5, 65, 367, 368, 369, 370, 371, 372, 373, 374, 375, 376, 377, 378, 379, 380, 381, 382, 383, 384, 385, 386, 387, 388, 389, 390, 391] (by rfl) (by decide +kernel)
set_option maxRecDepth 20000 in
theorem gL_law_X3_basin : GoodIn wsL_law (wsV RL 17 RX3 yX3_basin wsX3_basin) := goodIn_app (goodIn_of _ (by decide +kernel)) ggL_law_X3_basin
set_option maxRecDepth 20000 in
theorem ggL_law_X2_fill : GoodIn wsL_law wsX2_fill := goodIn_r _ [69, 13, 70, 71, 72, 2, 73, 14, 53, 54, 55, 56, 353, 354, 355, 356, 357, 358, 359, 360, 361, 362, 363, 364, 365, 366] (by rfl) (by decide +kernel)
set_option maxRecDepth 20000 in
theorem gL_law_X2_fill : GoodIn wsL_law (wsV RL 18 RX2 yX2_fill wsX2_fill) := goodIn_app (goodIn_of _ (by decide +kernel)) ggL_law_X2_fill
set_option maxRecDepth 20000 in
theorem ggL_law_X3_fill : GoodIn wsL_law wsX3_fill := goodIn_r _ [77, 61, 33, 78, 79, 80, 5, 81, 62, 63, 64, 65, 367, 368, 369, 370, 371, 372, 373, 374, 375, 376, 377, 378, 379, 380, 381, 382, 383, 384, 385, 386, 387, 388, 389, 390, 391] (by rfl) (by decide +kernel)
set_option maxRecDepth 20000 in
theorem gL_law_X3_fill : GoodIn wsL_law (wsV RL 22 RX3 yX3_fill wsX3_fill) := goodIn_app (goodIn_of _ (by decide +kernel)) ggL_law_X3_fill
set_option maxRecDepth 20000 in
theorem ggL_law_X2_moon : GoodIn wsL_law wsX2_moon := goodIn_r _ [85, 15, 353, 354, 355, 356, 357, 358, 359, 360, 361, 362, 363, 364, 365, 366] (by rfl) (by decide +kernel)
set_option maxRecDepth 20000 in
theorem gL_law_X2_moon : GoodIn wsL_law (wsV RL 23 RX2 yX2_moon wsX2_moon) := goodIn_app (goodIn_of _ (by decide +kernel)) ggL_law_X2_moon
set_option maxRecDepth 20000 in
theorem ggL_law_X3_moon : GoodIn wsL_law wsX3_moon := goodIn_r _ [89, 34, 63, 64, 5, 65, 367, 368, 369, 370, 371, 372, 373, 374, 375, 376, 377, 378, 379, 380, 381, 382, 383, 384, 385, 386, 387, 388, 389, 390, 391] (by rfl) (by decide +kernel)
set_option maxRecDepth 20000 in
theorem gL_law_X3_moon : GoodIn wsL_law (wsV RL 26 RX3 yX3_moon wsX3_moon) := goodIn_app (goodIn_of _ (by decide +kernel)) ggL_law_X3_moon
set_option maxRecDepth 20000 in
theorem ggL_law_X2_make : GoodIn wsL_law wsX2_make := goodIn_r _ [93, 19, 18, 24, 17, 94, 95, 96, 97, 98, 2, 99, 70, 71, 72, 73, 14, 13, 100, 101, 102, 103, 104, 105, 106, 107, 108, 109, 110, 111, 112, 113, 114, 115, 16, 116, 117, 118, 119, 120, 121, 122, 23, 123, 124, 125, 126, 127, 128, 129, 130, 131, 132, 133, 134, 135, 136, 137, 138, 139, 140, 141, 142, 143, 144, 145, 146, 147, 148, 149, 150, 151, 152, 153, 154, 155, 156, 157, 158, 159, 160, 161, 162, 163, 15, 164, 165, 166, 167, 168, 169, 170, 171, 172, 173, 174, 175, 176, 177, 178, 10, 11, 179, 180, 181, 182, 183, 184, 185, 186, 353, 354, 355, 356, 357, 358, 359, 360, 361, 362, 363, 364, 365, 366, 392, 393, 394, 395, 396, 397, 398, 399] (by rfl) (by decide +kernel)
set_option maxRecDepth 20000 in
theorem gL_law_X2_make : GoodIn wsL_law (wsV RL 27 RX2 yX2_make wsX2_make) := goodIn_app (goodIn_of _ (by decide +kernel)) ggL_law_X2_make
set_option maxRecDepth 20000 in
theorem ggL_law_X3_make : GoodIn wsL_law wsX3_make := goodIn_r _ [190, 191, 192, 36, 37, 39, 193, 40, 194, 195, 196, 5, 197, 78, 79, 80, 81, 62, 63, 64, 65, 198, 199, 200, 201, 202, 203, 204, 205, 206, 207, 208, 209, 210, 211, 212, 213, 214, 215, 216, 217, 218, 44, 45, 46, 47, 219, 220, 221, 222, 35, 223, 224, 225, 226, 33, 227, 228, 229, 230, 231, 232, 233, 234, 34, 235, 236, 237, 238, 239, 240, 241, 242, 243, 244, 245, 246, 247, 248, 249, 250, 251, 252, 253, 254, 255, 256, 257, 258, 367, 368, 369, 370, 371, 372, 373, 374, 375, 376, 377, 378, 379, 380, 381, 382, 383, 384, 385, 386, 387, 388, 389, 390, 391] (by rfl) (by decide +kernel)
set_option maxRecDepth 20000 in
theorem gL_law_X3_make : GoodIn wsL_law (wsV RL 31 RX3 yX3_make wsX3_make) := goodIn_app (goodIn_of _ (by decide +kernel)) ggL_law_X3_make
set_option maxRecDepth 20000 in
theorem ggL_law_X2_put : GoodIn wsL_law wsX2_put := goodIn_r _ [262, 16, 112, 113, 114, 2, 115, 100, 101, 102, 103, 104, 105, 106, 107, 18, 353, 354, 355, 356, 357, 358, 359, 360, 361, 362, 363, 364, 365, 366] (by rfl) (by decide +kernel)
set_option maxRecDepth 20000 in
theorem gL_law_X2_put : GoodIn wsL_law (wsV RL 32 RX2 yX2_put wsX2_put) := goodIn_app (goodIn_of _ (by decide +kernel)) ggL_law_X2_put
set_option maxRecDepth 20000 in
theorem ggL_law_X3_put : GoodIn wsL_law wsX3_put := goodIn_r _ [266, 35, 206, 207, 5, 208, 63, 64, 65, 198, 199, 200, 201, 202, 203, 204, 205, 191, 367, 368, 369, 370, 371, 372, 373, 374, 375, 376, 377, 378, 379, 380, 381, 382, 383, 384, 385, 386, 387, 388, 389, 390, 391] (by rfl) (by decide +kernel)
set_option maxRecDepth 20000 in
theorem gL_law_X3_put : GoodIn wsL_law (wsV RL 35 RX3 yX3_put wsX3_put) := goodIn_app (goodIn_of _ (by decide +kernel)) ggL_law_X3_put
set_option maxRecDepth 20000 in
theorem ggL_law_X2_ask : GoodIn wsL_law wsX2_ask := goodIn_r _ [270, 24, 25, 104, 105, 106, 2, 107, 18, 119, 120, 121, 122, 23, 123, 124, 125, 126, 127, 128, 129, 130, 131, 132, 133, 134, 135, 136, 137, 138, 139, 140, 141, 142, 143, 144, 145, 146, 147, 148, 149, 150, 151, 16, 112, 113, 114, 115, 152, 153, 154, 155, 156, 157, 158, 159, 13, 70, 71, 72, 73, 14, 160, 161, 162, 163, 15, 164, 165, 166, 167, 168, 169, 170, 171, 172, 173, 174, 175, 108, 109, 110, 111, 353, 354, 355, 356, 357, 358, 359, 360, 361, 362, 363, 364, 365, 366, 392, 393, 394, 395, 396, 397, 398, 399] (by rfl) (by decide +kernel)
set_option maxRecDepth 20000 in
theorem gL_law_X2_ask : GoodIn wsL_law (wsV RL 36 RX2 yX2_ask wsX2_ask) := goodIn_app (goodIn_of _ (by decide +kernel)) ggL_law_X2_ask
set_option maxRecDepth 20000 in
theorem ggL_law_X3_ask : GoodIn wsL_law wsX3_ask := goodIn_r _ [274, 192, 193, 275, 202, 203, 204, 5, 205, 191, 63, 64, 65, 209, 210, 211, 212, 213, 214, 215, 216, 217, 218, 44, 45, 46, 47, 219, 220, 221, 222, 36, 40, 35, 37, 223, 224, 225, 226, 33, 39, 227, 228, 229, 230, 231, 232, 233, 234, 34, 235, 236, 237, 238, 239, 240, 241, 242, 243, 244, 245, 246, 247, 248, 249, 250, 251, 252, 253, 254, 255, 256, 257, 258, 367, 368, 369, 370, 371, 372, 373, 374, 375, 376, 377, 378, 379, 380, 381, 382, 383, 384, 385, 386, 387, 388, 389, 390, 391] (by rfl) (by decide +kernel)
set_option maxRecDepth 20000 in
theorem gL_law_X3_ask : GoodIn wsL_law (wsV RL 39 RX3 yX3_ask wsX3_ask) := goodIn_app (goodIn_of _ (by decide +kernel)) ggL_law_X3_ask
set_option maxRecDepth 20000 in
theorem ggL_law_X2_given : GoodIn wsL_law wsX2_given := goodIn_r _ [279, 25, 353, 354, 355, 356, 357, 358, 359, 360, 361, 362, 363, 364, 365, 366] (by rfl) (by decide +kernel)
set_option maxRecDepth 20000 in
theorem gL_law_X2_given : GoodIn wsL_law (wsV RL 40 RX2 yX2_given wsX2_given) := goodIn_app (goodIn_of _ (by decide +kernel)) ggL_law_X2_given
set_option maxRecDepth 20000 in
theorem ggL_law_X3_given : GoodIn wsL_law wsX3_given := goodIn_r _ [283, 275, 367, 368, 369, 370, 371, 372, 373, 374, 375, 376, 377, 378, 379, 380, 381, 382, 383, 384, 385, 386, 387, 388, 389, 390, 391] (by rfl) (by decide +kernel)
set_option maxRecDepth 20000 in
theorem gL_law_X3_given : GoodIn wsL_law (wsV RL 44 RX3 yX3_given wsX3_given) := goodIn_app (goodIn_of _ (by decide +kernel)) ggL_law_X3_given
set_option maxRecDepth 20000 in
theorem ggL_law_X2_sluice : GoodIn wsL_law wsX2_sluice := goodIn_r _ [287, 22, 21, 20, 288, 289, 70, 71, 72, 2, 73, 14, 13, 104, 105, 106, 107, 18, 290, 291, 292, 10, 11, 293, 294, 295, 353, 354, 355, 356, 357, 358, 359, 360, 361, 362, 363, 364, 365, 366, 400, 401, 402] (by rfl) (by decide +kernel)
set_option maxRecDepth 20000 in
theorem gL_law_X2_sluice : GoodIn wsL_law (wsV RL 45 RX2 yX2_sluice wsX2_sluice) := goodIn_app (goodIn_of _ (by decide +kernel)) ggL_law_X2_sluice
set_option maxRecDepth 20000 in
theorem ggL_law_X3_sluice : GoodIn wsL_law wsX3_sluice := goodIn_r _ [299, 300, 41, 42, 43, 78, 79, 80, 5, 81, 62, 63, 64, 65, 202, 203, 204, 205, 191, 367, 368, 369, 370, 371, 372, 373, 374, 375, 376, 377, 378, 379, 380, 381, 382, 383, 384, 385, 386, 387, 388, 389, 390, 391] (by rfl) (by decide +kernel)
set_option maxRecDepth 20000 in
theorem gL_law_X3_sluice : GoodIn wsL_law (wsV RL 49 RX3 yX3_sluice wsX3_sluice) := goodIn_app (goodIn_of _ (by decide +kernel)) ggL_law_X3_sluice
set_option maxRecDepth 20000 in
theorem ggL_law_X2_run : GoodIn wsL_law wsX2_run := goodIn_r _ [304, 26, 27, 28, 305, 306, 307, 2, 308, 21, 24, 119, 120, 121, 122, 23, 123, 124, 125, 126, 127, 128, 129, 130, 131, 132, 133, 134, 135, 136, 137, 104, 105, 106, 107, 18, 138, 139, 140, 141, 142, 143, 144, 145, 146, 147, 148, 149, 150, 151, 16, 112, 113, 114, 115, 152, 153, 154, 155, 156, 157, 158, 159, 13, 70, 71, 72, 73, 14, 160, 161, 162, 163, 15, 164, 165, 166, 167, 168, 169, 170, 171, 172, 173, 174, 175, 108, 109, 110, 111, 309, 310, 311, 312, 56, 313, 314, 315, 316, 67, 68, 69, 53, 54, 55, 353, 354, 355, 356, 357, 358, 359, 360, 361, 362, 363, 364, 365, 366, 400, 401, 402, 392, 393, 394, 395, 396, 397, 398, 399] (by rfl) (by decide +kernel)
set_option maxRecDepth 20000 in
theorem gL_law_X2_run : GoodIn wsL_law (wsV RL 50 RX2 yX2_run wsX2_run) := goodIn_app (goodIn_of _ (by decide +kernel)) ggL_law_X2_run
set_option maxRecDepth 20000 in
theorem ggL_law_X3_run : GoodIn wsL_law wsX3_run := goodIn_r _ [320, 48, 321, 322, 300, 63, 64, 5, 65, 323, 324, 325, 326, 43, 192, 61, 33, 42, 41, 193, 209, 210, 211, 212, 213, 214, 215, 216, 217, 218, 44, 45, 46, 47, 219, 220, 221, 222, 36, 40, 35, 37, 223, 224, 225, 226, 39, 227, 228, 229, 230, 231, 232, 233, 234, 34, 235, 236, 237, 238, 239, 240, 241, 242, 243, 244, 245, 246, 247, 248, 249, 250, 251, 252, 253, 254, 255, 256, 257, 258, 367, 368, 369, 370, 371, 372, 373, 374, 375, 376, 377, 378, 379, 380, 381, 382, 383, 384, 385, 386, 387, 388, 389, 390, 391] (by rfl) (by decide +kernel)
set_option maxRecDepth 20000 in
theorem gL_law_X3_run : GoodIn wsL_law (wsV RL 53 RX3 yX3_run wsX3_run) := goodIn_app (goodIn_of _ (by decide +kernel)) ggL_law_X3_run
set_option maxRecDepth 20000 in
theorem ggL_law_X2_told : GoodIn wsL_law wsX2_told := goodIn_r _ [330, 26, 27, 28, 353, 354, 355, 356, 357, 358, 359, 360, 361, 362, 363, 364, 365, 366] (by rfl) (by decide +kernel)
set_option maxRecDepth 20000 in
theorem gL_law_X2_told : GoodIn wsL_law (wsV RL 54 RX2 yX2_told wsX2_told) := goodIn_app (goodIn_of _ (by decide +kernel)) ggL_law_X2_told
set_option maxRecDepth 20000 in
theorem ggL_law_X3_told : GoodIn wsL_law wsX3_told := goodIn_r _ [334, 48, 321, 322, 367, 368, 369, 370, 371, 372, 373, 374, 375, 376, 377, 378, 379, 380, 381, 382, 383, 384, 385, 386, 387, 388, 389, 390, 391] (by rfl) (by decide +kernel)
set_option maxRecDepth 20000 in
theorem gL_law_X3_told : GoodIn wsL_law (wsV RL 57 RX3 yX3_told wsX3_told) := goodIn_app (goodIn_of _ (by decide +kernel)) ggL_law_X3_told
set_option maxRecDepth 20000 in
theorem ggL_law_X2_level : GoodIn wsL_law wsX2_level := goodIn_r _ [159, 13, 70, 71, 72, 2, 73, 14, 353, 354, 355, 356, 357, 358, 359, 360, 361, 362, 363, 364, 365, 366] (by rfl) (by decide +kernel)
set_option maxRecDepth 20000 in
theorem gL_law_X2_level : GoodIn wsL_law (wsV RL 58 RX2 yX2_level wsX2_level) := goodIn_app (goodIn_of _ (by decide +kernel)) ggL_law_X2_level
set_option maxRecDepth 20000 in
theorem ggL_law_X3_level : GoodIn wsL_law wsX3_level := goodIn_r _ [339, 33, 78, 79, 80, 5, 81, 62, 63, 64, 65, 367, 368, 369, 370, 371, 372, 373, 374, 375, 376, 377, 378, 379, 380, 381, 382, 383, 384, 385, 386, 387, 388, 389, 390, 391] (by rfl) (by decide +kernel)
set_option maxRecDepth 20000 in
theorem gL_law_X3_level : GoodIn wsL_law (wsV RL 61 RX3 yX3_level wsX3_level) := goodIn_app (goodIn_of _ (by decide +kernel)) ggL_law_X3_level
set_option maxRecDepth 20000 in
theorem ggL_law_X2_counted : GoodIn wsL_law wsX2_counted := goodIn_r _ [175, 108, 109, 110, 2, 111, 104, 105, 106, 107, 18, 392, 393, 394, 395, 396, 397, 398, 399, 353, 354, 355, 356, 357, 358, 359, 360, 361, 362, 363, 364, 365, 366] (by rfl) (by decide +kernel)
set_option maxRecDepth 20000 in
theorem gL_law_X2_counted : GoodIn wsL_law (wsV RL 62 RX2 yX2_counted wsX2_counted) := goodIn_app (goodIn_of _ (by decide +kernel)) ggL_law_X2_counted
set_option maxRecDepth 20000 in
theorem ggL_law_X3_counted : GoodIn wsL_law wsX3_counted := goodIn_r _ [344, 36, 40, 202, 203, 204, 5, 205, 191, 63, 64, 65, 367, 368, 369, 370, 371, 372, 373, 374, 375, 376, 377, 378, 379, 380, 381, 382, 383, 384, 385, 386, 387, 388, 389, 390, 391] (by rfl) (by decide +kernel)
set_option maxRecDepth 20000 in
theorem gL_law_X3_counted : GoodIn wsL_law (wsV RL 65 RX3 yX3_counted wsX3_counted) := goodIn_app (goodIn_of _ (by decide +kernel)) ggL_law_X3_counted
set_option maxRecDepth 20000 in
theorem ggL_law_X2_count : GoodIn wsL_law wsX2_count := goodIn_r _ [348, 14, 19, 22, 23, 16, 112, 113, 114, 2, 115, 353, 354, 355, 356, 357, 358, 359, 360, 361, 362, 363, 364, 365, 366] (by rfl) (by decide +kernel)
set_option maxRecDepth 20000 in
theorem gL_law_X2_count : GoodIn wsL_law (wsV RL 66 RX2 yX2_count wsX2_count) := goodIn_app (goodIn_of _ (by decide +kernel)) ggL_law_X2_count
set_option maxRecDepth 20000 in
theorem ggL_law_X3_count : GoodIn wsL_law wsX3_count := goodIn_r _ [352, 35, 62, 191, 300, 213, 63, 64, 5, 65, 367, 368, 369, 370, 371, 372, 373, 374, 375, 376, 377, 378, 379, 380, 381, 382, 383, 384, 385, 386, 387, 388, 389, 390, 391] (by rfl) (by decide +kernel)
set_option maxRecDepth 20000 in
theorem gL_law_X3_count : GoodIn wsL_law (wsV RL 69 RX3 yX3_count wsX3_count) := goodIn_app (goodIn_of _ (by decide +kernel)) ggL_law_X3_count
end
section
/-! my own words over the kit: contracts that read, contracts that write, their entries, calls and ends -/
def nst (U : State) : Prop :=
  va_Nw (.fieldLinkNest RX2 108 RX0 "kind" "I" RX2) U ∧ va_Nw (.fieldLinkNest RX2 117 RX0 "a" "I" RX2) U ∧ va_Nw (.fieldLinkNest RX2 120 RX0 "b" "I" RX2) U ∧
  va_Nw (.fieldLinkNest RX2 132 RX0 "c" "I" RX2) U ∧ va_Nw (.fieldLinkNest RX2 175 RX0 "d" "I" RX2) U ∧ va_Nw (.fieldLinkNest RX2 178 RX0 "e" "I" RX2) U ∧
  va_Nw (.fieldLinkNest RX2 82 RX0 "held" "J" RX2) U ∧ va_Nw (.fieldLinkNest RX2 104 RX0 "counter" "I" RX2) U ∧
  va_Nw (.fieldLinkNest RX2 188 RX1 "from" "I" RX2) U ∧ va_Nw (.fieldLinkNest RX2 191 RX1 "to" "I" RX2) U ∧ va_Nw (.fieldLinkNest RX2 181 RX1 "rule" "I" RX2) U ∧
  va_Nw (.methodLinkNest RX2 79 yX0_init RX2) U ∧ va_Nw (.methodLinkNest RX2 95 yX1_init RX2) U
theorem nst.warm {s U : State} (hW : s.WarmedH U.vm) (h : nst s) : nst U := by
  obtain ⟨a1, a2, a3, a4, a5, a6, a7, a8, a9, a10, a11, a12, a13⟩ := h
  exact ⟨a1.warmF hW, a2.warmF hW, a3.warmF hW, a4.warmF hW, a5.warmF hW, a6.warmF hW, a7.warmF hW, a8.warmF hW, a9.warmF hW, a10.warmF hW, a11.warmF hW, a12.warmM hW, a13.warmM hW⟩
theorem nst.same {u U : State} (e : u.vm = U.vm) (h : nst u) : nst U := by
  obtain ⟨a1, a2, a3, a4, a5, a6, a7, a8, a9, a10, a11, a12, a13⟩ := h
  exact ⟨a1.same rfl e, a2.same rfl e, a3.same rfl e, a4.same rfl e, a5.same rfl e, a6.same rfl e, a7.same rfl e, a8.same rfl e, a9.same rfl e, a10.same rfl e, a11.same rfl e, a12.same rfl e, a13.same rfl e⟩
theorem nf_108 {a : Array Value} {U : State} (h : nst U) : (Cond.fieldLinkNest RX2 108 RX0 "kind" "I" RX2).before a U = true := h.1.use rfl
theorem nf_117 {a : Array Value} {U : State} (h : nst U) : (Cond.fieldLinkNest RX2 117 RX0 "a" "I" RX2).before a U = true := h.2.1.use rfl
theorem nf_120 {a : Array Value} {U : State} (h : nst U) : (Cond.fieldLinkNest RX2 120 RX0 "b" "I" RX2).before a U = true := h.2.2.1.use rfl
theorem nf_132 {a : Array Value} {U : State} (h : nst U) : (Cond.fieldLinkNest RX2 132 RX0 "c" "I" RX2).before a U = true := h.2.2.2.1.use rfl
theorem nf_175 {a : Array Value} {U : State} (h : nst U) : (Cond.fieldLinkNest RX2 175 RX0 "d" "I" RX2).before a U = true := h.2.2.2.2.1.use rfl
theorem nf_178 {a : Array Value} {U : State} (h : nst U) : (Cond.fieldLinkNest RX2 178 RX0 "e" "I" RX2).before a U = true := h.2.2.2.2.2.1.use rfl
theorem nf_82 {a : Array Value} {U : State} (h : nst U) : (Cond.fieldLinkNest RX2 82 RX0 "held" "J" RX2).before a U = true := h.2.2.2.2.2.2.1.use rfl
theorem nf_104 {a : Array Value} {U : State} (h : nst U) : (Cond.fieldLinkNest RX2 104 RX0 "counter" "I" RX2).before a U = true := h.2.2.2.2.2.2.2.1.use rfl
theorem nf_188 {a : Array Value} {U : State} (h : nst U) : (Cond.fieldLinkNest RX2 188 RX1 "from" "I" RX2).before a U = true := h.2.2.2.2.2.2.2.2.1.use rfl
theorem nf_191 {a : Array Value} {U : State} (h : nst U) : (Cond.fieldLinkNest RX2 191 RX1 "to" "I" RX2).before a U = true := h.2.2.2.2.2.2.2.2.2.1.use rfl
theorem nf_181 {a : Array Value} {U : State} (h : nst U) : (Cond.fieldLinkNest RX2 181 RX1 "rule" "I" RX2).before a U = true := h.2.2.2.2.2.2.2.2.2.2.1.use rfl
theorem nm_79 {U : State} (h : nst U) : va_Nw (.methodLinkNest RX2 79 yX0_init RX2) U := h.2.2.2.2.2.2.2.2.2.2.2.1
theorem nm_95 {U : State} (h : nst U) : va_Nw (.methodLinkNest RX2 95 yX1_init RX2) U := h.2.2.2.2.2.2.2.2.2.2.2.2
/-- what of the tables every contract asks -/
def kk (D : va_G) (tys : List (ClassId × FieldType)) (U : State) : Prop := va_K D vwCl tys U ∧ nst U
theorem kk.warm {D : va_G} {tys : List (ClassId × FieldType)} {s U : State} (hW : s.WarmedH U.vm) (h : kk D tys s) : kk D tys U := ⟨va_K.moved hW.alike h.1, h.2.warm hW⟩
theorem kk.call {D : va_G} {tys : List (ClassId × FieldType)} {U : State} {g : JFrame} {mk : MethodId} {a : Array Value} (h : kk D tys U) : kk D tys (U.calling g mk a) := ⟨va_K.moved (u := U) (U := U.calling g mk a) (Vm.Alike.refl U.vm) h.1, h.2.same rfl⟩
def roP (D : va_G) (tys : List (ClassId × FieldType)) (w : va_W) (av : List Value) : Array Value → State → Prop := va_Pc av (fun U => va_P D vwCl w U.heap ∧ kk D tys U)
def wrP (D : va_G) (tys : List (ClassId × FieldType)) (w : va_W) (av : List Value) (sz : Nat) : Array Value → State → Prop := va_Pc av (fun U => U.heap.size = sz ∧ va_P D vwCl w U.heap ∧ kk D tys U ∧ va_D (fun _ => True) w)
def wrB {σ : Type} (D : va_G) (w : va_W) (Wf : σ → va_W) (sz : Nat) (u : σ) (t : State) : Prop := va_P D vwCl (Wf u) t.heap ∧ va_D (va_A w sz) (Wf u)
/-- it reads: the heap stays -/
def RoI (l : Launch) (y : MethodName) (ws : List Cond) (rm : Room) (D : va_G) (tys : List (ClassId × FieldType)) (w : va_W) (av : List Value) (post : Int32 → Prop) : Prop := Met l y ws rm (roP D tys w av) (vp_Si post) 0 0 (fun _ => False)
def RoL (l : Launch) (y : MethodName) (ws : List Cond) (rm : Room) (D : va_G) (tys : List (ClassId × FieldType)) (w : va_W) (av : List Value) (post : Int64 → Prop) : Prop := Met l y ws rm (roP D tys w av) (vp_Sl post) 0 0 (fun _ => False)
def RoQ (l : Launch) (y : MethodName) (ws : List Cond) (rm : Room) (D : va_G) (tys : List (ClassId × FieldType)) (w : va_W) (av : List Value) (post : Option Nat → Prop) : Prop := Met l y ws rm (roP D tys w av) (va_Sq post) 0 0 (fun _ => False)
/-- it writes: the world w becomes the world of u -/
def WrI {σ : Type} (l : Launch) (y : MethodName) (ws : List Cond) (rm : Room) (D : va_G) (tys : List (ClassId × FieldType)) (w : va_W) (av : List Value) (Wf : σ → va_W) (post : Int32 → σ → Prop) (mc ms : Nat) : Prop := ∀ sz : Nat, Met l y ws rm (wrP D tys w av sz) (va_Qi post (wrB D w Wf sz) (va_A w sz)) mc ms (va_A w sz)
def WrL {σ : Type} (l : Launch) (y : MethodName) (ws : List Cond) (rm : Room) (D : va_G) (tys : List (ClassId × FieldType)) (w : va_W) (av : List Value) (Wf : σ → va_W) (post : Int64 → σ → Prop) (mc ms : Nat) : Prop := ∀ sz : Nat, Met l y ws rm (wrP D tys w av sz) (va_Ql post (wrB D w Wf sz) (va_A w sz)) mc ms (va_A w sz)
def WrV {σ : Type} (l : Launch) (y : MethodName) (ws : List Cond) (rm : Room) (D : va_G) (tys : List (ClassId × FieldType)) (w : va_W) (av : List Value) (Wf : σ → va_W) (post : σ → Prop) (mc ms : Nat) : Prop := ∀ sz : Nat, Met l y ws rm (wrP D tys w av sz) (va_Qv post (wrB D w Wf sz) (va_A w sz)) mc ms (va_A w sz)
def WrQ {σ : Type} (l : Launch) (y : MethodName) (ws : List Cond) (rm : Room) (D : va_G) (tys : List (ClassId × FieldType)) (w : va_W) (av : List Value) (Wf : σ → va_W) (post : Option Nat → σ → Prop) (mc ms : Nat) : Prop := ∀ sz : Nat, Met l y ws rm (wrP D tys w av sz) (va_Qq post (wrB D w Wf sz) (va_A w sz)) mc ms (va_A w sz)
theorem roP.blind {D : va_G} {tys : List (ClassId × FieldType)} {w : va_W} {av : List Value} : FrameBlind (roP D tys w av) := fun _ _ _ _ q => ⟨q.1, q.2.1, kk.call q.2.2⟩
theorem wrP.blind {D : va_G} {tys : List (ClassId × FieldType)} {w : va_W} {av : List Value} {sz : Nat} : FrameBlind (wrP D tys w av sz) := fun _ _ _ _ q => ⟨q.1, q.2.1, q.2.2.1, kk.call q.2.2.2.1, q.2.2.2.2⟩
/-- the entry of a method that reads -/
theorem roEnter {l : Launch} {y : MethodName} {ws ws' : List Cond} {rm : Room} {D : va_G} {tys : List (ClassId × FieldType)} {w : va_W} {av : List Value} {Qc : Array Value → State → Outcome → State → Prop} {cc : ByteArray} {maxL : Nat} {ret : Option FieldType}
    (hy : plainName y.cls = true) (hw : ws = Cond.code y cc maxL ret :: ws') (hav : (lg_sl av).length ≤ maxL)
    (body : ∀ (p : Program) (e : Env) (s : State) (m : MethodId) (below : List Frame) (meth : Method) (c : Code), p.tables.exec = Jvm.exec → c.code = cc → meth.sig.returnType = ret → c.maxLocals = maxL → s.vm.findClass y.cls = some m.cls → (∀ w ∈ ws, w.before av.toArray s = true) → meth.locks = false → va_P D vwCl w s.heap → va_K D vwCl tys s → nst s → ∀ ls : Array Slot, lv_has ls maxL (lv_args 0 av) → W p l e rm s m av.toArray below meth c s.heap [] 0 0 (MQ below Qc av.toArray s 0 0 (fun _ => False)) (F0 m 0 ls [])) :
    Met l y ws rm (roP D tys w av) Qc 0 0 (fun _ => False) := by
  refine Met.ofW (cc := cc) (maxL := maxL) (ret := ret) hy hw ?_
  intro p e s m args below meth c s₁ B hml hv
  obtain ⟨rfl, hP, hK, hN⟩ := hv
  rw [lg_entry_eq]
  exact body p e s m below meth c B.exec B.bytes B.returns hml (findClass_of_methodNamed B.named) (atoms_spec (ws := ws) B.pre) B.notSynchronized hP hK hN _ (lv_entry av hav)
/-- the entry of a method that reads, of a class of the JDK -/
theorem roEnterF {l : Launch} {y : MethodName} {ws ws' : List Cond} {rm : Room} {D : va_G} {tys : List (ClassId × FieldType)} {w : va_W} {av : List Value} {Qc : Array Value → State → Outcome → State → Prop} {cc : ByteArray} {maxL : Nat} {ret : Option FieldType}
    (hy : plainFor y = true) (hw : ws = Cond.code y cc maxL ret :: ws') (hav : (lg_sl av).length ≤ maxL)
    (body : ∀ (p : Program) (e : Env) (s : State) (m : MethodId) (below : List Frame) (meth : Method) (c : Code), p.tables.exec = Jvm.exec → c.code = cc → meth.sig.returnType = ret → c.maxLocals = maxL → s.vm.findClass y.cls = some m.cls → (∀ w ∈ ws, w.before av.toArray s = true) → meth.locks = false → va_P D vwCl w s.heap → va_K D vwCl tys s → nst s → ∀ ls : Array Slot, lv_has ls maxL (lv_args 0 av) → W p l e rm s m av.toArray below meth c s.heap [] 0 0 (MQ below Qc av.toArray s 0 0 (fun _ => False)) (F0 m 0 ls [])) :
    Met l y ws rm (roP D tys w av) Qc 0 0 (fun _ => False) := by
  refine va_MetF (cc := cc) (maxL := maxL) (ret := ret) hy hw ?_
  intro p e s m args below meth c s₁ B hml hv
  obtain ⟨rfl, hP, hK, hN⟩ := hv
  rw [lg_entry_eq]
  exact body p e s m below meth c B.exec B.bytes B.returns hml (findClass_of_methodNamed B.named) (atoms_spec (ws := ws) B.pre) B.notSynchronized hP hK hN _ (lv_entry av hav)
/-- the entry of a method that writes -/
theorem wrEnter {l : Launch} {y : MethodName} {ws ws' : List Cond} {rm : Room} {D : va_G} {tys : List (ClassId × FieldType)} {w : va_W} {av : List Value} {sz : Nat} {Qc : Array Value → State → Outcome → State → Prop} {mc ms : Nat} {cc : ByteArray} {maxL : Nat} {ret : Option FieldType}
    (hy : plainName y.cls = true) (hw : ws = Cond.code y cc maxL ret :: ws') (hav : (lg_sl av).length ≤ maxL)
    (body : ∀ (p : Program) (e : Env) (s : State) (m : MethodId) (below : List Frame) (meth : Method) (c : Code), p.tables.exec = Jvm.exec → c.code = cc → meth.sig.returnType = ret → c.maxLocals = maxL → s.vm.findClass y.cls = some m.cls → (∀ w ∈ ws, w.before av.toArray s = true) → meth.locks = false → va_P D vwCl w s.heap → va_K D vwCl tys s → nst s → s.heap.size = sz → va_D (va_A w sz) w → va_S (va_A w sz) s.heap s.heap [] → (∀ q : Nat, s.heap.size ≤ q → va_A w sz q) → meth.name = y.name → ∀ ls : Array Slot, lv_has ls maxL (lv_args 0 av) → W p l e rm s m av.toArray below meth c s.heap [] 0 0 (MQ below Qc av.toArray s mc ms (va_A w sz)) (F0 m 0 ls [])) :
    Met l y ws rm (wrP D tys w av sz) Qc mc ms (va_A w sz) := by
  refine Met.ofW (cc := cc) (maxL := maxL) (ret := ret) hy hw ?_
  intro p e s m args below meth c s₁ B hml hv
  obtain ⟨rfl, hsz, hP, ⟨hK, hN⟩, hD⟩ := hv
  rw [lg_entry_eq]
  exact body p e s m below meth c B.exec B.bytes B.returns hml (findClass_of_methodNamed B.named) (atoms_spec (ws := ws) B.pre) B.notSynchronized hP hK hN hsz hD.self va_S.rf (fun q h => Or.inr (by rw [← hsz]; exact h)) (name_of_methodNamed B.named B.method).1 _ (lv_entry av hav)
section CALLS
variable {p : Program} {l : Launch} {e : Env} {R : Room} {s : State} {m : MethodId} {args : Array Value} {below : List Frame} {meth : Method} {c : Code} {H : Heap} {locs : List Loc} {cells slots : Nat} {Q : State → Prop}
variable {cc : ByteArray} {pc : Nat} {ls : Array Slot} {rest st0 : List Value} {D : va_G} {A : Nat → Prop} {tys : List (ClassId × FieldType)} {w : va_W} {H0 : Heap}
variable {y : MethodName} {bytes : ByteArray} {maxL nL n index mc ms : Nat} {ret : Option FieldType} {ws : List Cond} {rm : Room} {Ts : List Cond} {own C : String} {b : Addr} {As : List Value} {σ : Type} {Wf : σ → va_W}
theorem roPreV (hP : va_P D vwCl w H) (hK : va_K D vwCl tys s) (hN : nst s) {q0 ci : Nat} {r : vw_C} {fs : List Value} (hc : vwCl[ci]? = some r) (he : w[q0]? = some (b, .inr (ci, fs))) : PreV s H r.1 b (roP D tys w (.ref b :: As)) As :=
  ⟨roP.blind, va_recv hK hP hc he, fun U hU hW => ⟨rfl, by rw [hU]; exact hP, kk.warm hW ⟨hK, hN⟩⟩⟩
theorem roPreS (hP : va_P D vwCl w H) (hK : va_K D vwCl tys s) (hN : nst s) : PreS s H (roP D tys w As) As :=
  ⟨roP.blind, fun U hU hW => ⟨rfl, by rw [hU]; exact hP, kk.warm hW ⟨hK, hN⟩⟩⟩
theorem wrPreV (hP : va_P D vwCl w H) (hD : va_D A w) (hK : va_K D vwCl tys s) (hN : nst s) {q0 ci : Nat} {r : vw_C} {fs : List Value} (hc : vwCl[ci]? = some r) (he : w[q0]? = some (b, .inr (ci, fs))) : PreV s H r.1 b (wrP D tys w (.ref b :: As) H.size) As :=
  ⟨wrP.blind, va_recv hK hP hc he, fun U hU hW => ⟨rfl, by rw [hU], by rw [hU]; exact hP, kk.warm hW ⟨hK, hN⟩, hD.weaken (fun _ _ _ _ => trivial)⟩⟩
theorem wrFree (hD : va_D A w) (hS : va_S A H0 H locs) (hA : ∀ q, H0.size ≤ q → A q) : ∀ q, va_A w H.size q → A q := by
  rintro q (⟨k, x, hx⟩ | h)
  · exact hD.2 k (q, x) hx
  · exact hA q (Nat.le_trans hS.1 h)
theorem RoI.callV {post : Int32 → Prop} (h : RoI l y ws rm D tys w (.ref b :: As) post) (S : CallFix p m c cc nL s args Ts own) {r : vw_C} (cw : CallW R s args own r.1 index y bytes maxL ret ws rm 0 0 n) (hP : va_P D vwCl w H) (hK : va_K D vwCl tys s) (hN : nst s) (q0 ci : Nat) {fs : List Value} (hc : vwCl[ci]? = some r) (he : w[q0]? = some (b, .inr (ci, fs)))
    (hn : As.length = n) (hsize : ls.size = nL) (hstack : st0 = As.reverse ++ .ref b :: rest) (hW : (rest.map fun v => v.category).sum ≤ 8) (hdg : decode cc pc = .ok (.invokevirtual index, 3)) (hf : cells + 0 ≤ R.cells ∧ slots + 0 ≤ R.slots)
    (k : ∀ r : Int32, post r → W p l e R s m args below meth c H locs cells slots Q (F0 m (pc + 3) ls (.int r :: rest))) : W p l e R s m args below meth c H locs cells slots Q (F0 m pc ls st0) :=
  vp_callSi (W.runV S h cw (roPreV hP hK hN hc he) rfl hn hsize hstack (lv_room hW) hdg hf) k
theorem RoL.callV {post : Int64 → Prop} (h : RoL l y ws rm D tys w (.ref b :: As) post) (S : CallFix p m c cc nL s args Ts own) {r : vw_C} (cw : CallW R s args own r.1 index y bytes maxL ret ws rm 0 0 n) (hP : va_P D vwCl w H) (hK : va_K D vwCl tys s) (hN : nst s) (q0 ci : Nat) {fs : List Value} (hc : vwCl[ci]? = some r) (he : w[q0]? = some (b, .inr (ci, fs)))
    (hn : As.length = n) (hsize : ls.size = nL) (hstack : st0 = As.reverse ++ .ref b :: rest) (hW : (rest.map fun v => v.category).sum ≤ 8) (hdg : decode cc pc = .ok (.invokevirtual index, 3)) (hf : cells + 0 ≤ R.cells ∧ slots + 0 ≤ R.slots)
    (k : ∀ r : Int64, post r → W p l e R s m args below meth c H locs cells slots Q (F0 m (pc + 3) ls (.long r :: rest))) : W p l e R s m args below meth c H locs cells slots Q (F0 m pc ls st0) :=
  vp_callSl (W.runV S h cw (roPreV hP hK hN hc he) rfl hn hsize hstack (lv_room hW) hdg hf) k
theorem RoQ.callV {post : Option Nat → Prop} (h : RoQ l y ws rm D tys w (.ref b :: As) post) (S : CallFix p m c cc nL s args Ts own) {r : vw_C} (cw : CallW R s args own r.1 index y bytes maxL ret ws rm 0 0 n) (hP : va_P D vwCl w H) (hK : va_K D vwCl tys s) (hN : nst s) (q0 ci : Nat) {fs : List Value} (hc : vwCl[ci]? = some r) (he : w[q0]? = some (b, .inr (ci, fs)))
    (hn : As.length = n) (hsize : ls.size = nL) (hstack : st0 = As.reverse ++ .ref b :: rest) (hW : (rest.map fun v => v.category).sum ≤ 8) (hdg : decode cc pc = .ok (.invokevirtual index, 3)) (hf : cells + 0 ≤ R.cells ∧ slots + 0 ≤ R.slots)
    (k : ∀ r : Option Nat, post r → W p l e R s m args below meth c H locs cells slots Q (F0 m (pc + 3) ls (va_rf r :: rest))) : W p l e R s m args below meth c H locs cells slots Q (F0 m pc ls st0) :=
  va_csq (W.runV S h cw (roPreV hP hK hN hc he) rfl hn hsize hstack (lv_room hW) hdg hf) k
theorem RoI.callS {post : Int32 → Prop} (h : RoI l y ws rm D tys w As post) (S : CallFix p m c cc nL s args Ts own) (cw : CallB R s args own index y bytes maxL ret ws rm 0 0 n ∧ (Cond.static y).before args s = true) (hP : va_P D vwCl w H) (hK : va_K D vwCl tys s) (hN : nst s)
    (hn : As.length = n) (hsize : ls.size = nL) (hstack : st0 = As.reverse ++ rest) (hW : (rest.map fun v => v.category).sum ≤ 8) (hdg : decode cc pc = .ok (.invokestatic index, 3)) (hf : cells + 0 ≤ R.cells ∧ slots + 0 ≤ R.slots)
    (k : ∀ r : Int32, post r → W p l e R s m args below meth c H locs cells slots Q (F0 m (pc + 3) ls (.int r :: rest))) : W p l e R s m args below meth c H locs cells slots Q (F0 m pc ls st0) :=
  vp_callSi (W.runS S h cw (roPreS hP hK hN) rfl hn hsize hstack (lv_room hW) hdg hf) k
theorem RoL.callS {post : Int64 → Prop} (h : RoL l y ws rm D tys w As post) (S : CallFix p m c cc nL s args Ts own) (cw : CallB R s args own index y bytes maxL ret ws rm 0 0 n ∧ (Cond.static y).before args s = true) (hP : va_P D vwCl w H) (hK : va_K D vwCl tys s) (hN : nst s)
    (hn : As.length = n) (hsize : ls.size = nL) (hstack : st0 = As.reverse ++ rest) (hW : (rest.map fun v => v.category).sum ≤ 8) (hdg : decode cc pc = .ok (.invokestatic index, 3)) (hf : cells + 0 ≤ R.cells ∧ slots + 0 ≤ R.slots)
    (k : ∀ r : Int64, post r → W p l e R s m args below meth c H locs cells slots Q (F0 m (pc + 3) ls (.long r :: rest))) : W p l e R s m args below meth c H locs cells slots Q (F0 m pc ls st0) :=
  vp_callSl (W.runS S h cw (roPreS hP hK hN) rfl hn hsize hstack (lv_room hW) hdg hf) k
theorem wrJoin {A0 : Nat → Prop} {w1 : va_W} {t : State} {H1 : Heap} (ht : t.heap = H1) (hF : ∀ q, va_A w H.size q → A0 q) (hB : va_P D vwCl w1 t.heap ∧ va_D (va_A w H.size) w1) : va_P D vwCl w1 H1 ∧ va_D A0 w1 := ⟨by rw [← ht]; exact hB.1, hB.2.weaken (fun _ _ _ h => hF _ h)⟩
theorem WrI.callV {post : Int32 → σ → Prop} (h : WrI l y ws rm D tys w (.ref b :: As) Wf post mc ms) (S : CallFix p m c cc nL s args Ts own) {r : vw_C} (cw : CallW R s args own r.1 index y bytes maxL ret ws rm mc ms n) (hP : va_P D vwCl w H) (hD : va_D A w) (hS : va_S A H0 H locs) (hA : ∀ q, H0.size ≤ q → A q) (hK : va_K D vwCl tys s) (hN : nst s) (q0 ci : Nat) {fs : List Value} (hc : vwCl[ci]? = some r) (he : w[q0]? = some (b, .inr (ci, fs)))
    (hn : As.length = n) (hsize : ls.size = nL) (hstack : st0 = As.reverse ++ .ref b :: rest) (hW : (rest.map fun v => v.category).sum ≤ 8) (hdg : decode cc pc = .ok (.invokevirtual index, 3)) (hf : cells + mc ≤ R.cells ∧ slots + ms ≤ R.slots)
    (k : ∀ (r : Int32) (u : σ) (H1 : Heap) (locs1 : List Loc), post r u → va_P D vwCl (Wf u) H1 → va_D A (Wf u) → va_S A H0 H1 locs1 → W p l e R s m args below meth c H1 locs1 (cells + mc) (slots + ms) Q (F0 m (pc + 3) ls (.int r :: rest))) : W p l e R s m args below meth c H locs cells slots Q (F0 m pc ls st0) :=
  va_calli (va_runV S (h H.size) cw (wrPreV hP hD hK hN hc he) rfl hn hsize hstack (lv_room hW) hdg hf) hS (fun q _ h => wrFree hD hS hA q h) (wrFree hD hS hA) (fun r u t H1 locs1 ht _ hp hB _ _ hS1 => k r u H1 locs1 hp (wrJoin ht (wrFree hD hS hA) hB).1 (wrJoin ht (wrFree hD hS hA) hB).2 hS1)
theorem WrL.callV {post : Int64 → σ → Prop} (h : WrL l y ws rm D tys w (.ref b :: As) Wf post mc ms) (S : CallFix p m c cc nL s args Ts own) {r : vw_C} (cw : CallW R s args own r.1 index y bytes maxL ret ws rm mc ms n) (hP : va_P D vwCl w H) (hD : va_D A w) (hS : va_S A H0 H locs) (hA : ∀ q, H0.size ≤ q → A q) (hK : va_K D vwCl tys s) (hN : nst s) (q0 ci : Nat) {fs : List Value} (hc : vwCl[ci]? = some r) (he : w[q0]? = some (b, .inr (ci, fs)))
    (hn : As.length = n) (hsize : ls.size = nL) (hstack : st0 = As.reverse ++ .ref b :: rest) (hW : (rest.map fun v => v.category).sum ≤ 8) (hdg : decode cc pc = .ok (.invokevirtual index, 3)) (hf : cells + mc ≤ R.cells ∧ slots + ms ≤ R.slots)
    (k : ∀ (r : Int64) (u : σ) (H1 : Heap) (locs1 : List Loc), post r u → va_P D vwCl (Wf u) H1 → va_D A (Wf u) → va_S A H0 H1 locs1 → W p l e R s m args below meth c H1 locs1 (cells + mc) (slots + ms) Q (F0 m (pc + 3) ls (.long r :: rest))) : W p l e R s m args below meth c H locs cells slots Q (F0 m pc ls st0) :=
  va_calll (va_runV S (h H.size) cw (wrPreV hP hD hK hN hc he) rfl hn hsize hstack (lv_room hW) hdg hf) hS (fun q _ h => wrFree hD hS hA q h) (wrFree hD hS hA) (fun r u t H1 locs1 ht _ hp hB _ _ hS1 => k r u H1 locs1 hp (wrJoin ht (wrFree hD hS hA) hB).1 (wrJoin ht (wrFree hD hS hA) hB).2 hS1)
theorem WrV.callV {post : σ → Prop} (h : WrV l y ws rm D tys w (.ref b :: As) Wf post mc ms) (S : CallFix p m c cc nL s args Ts own) {r : vw_C} (cw : CallW R s args own r.1 index y bytes maxL ret ws rm mc ms n) (hP : va_P D vwCl w H) (hD : va_D A w) (hS : va_S A H0 H locs) (hA : ∀ q, H0.size ≤ q → A q) (hK : va_K D vwCl tys s) (hN : nst s) (q0 ci : Nat) {fs : List Value} (hc : vwCl[ci]? = some r) (he : w[q0]? = some (b, .inr (ci, fs)))
    (hn : As.length = n) (hsize : ls.size = nL) (hstack : st0 = As.reverse ++ .ref b :: rest) (hW : (rest.map fun v => v.category).sum ≤ 8) (hdg : decode cc pc = .ok (.invokevirtual index, 3)) (hf : cells + mc ≤ R.cells ∧ slots + ms ≤ R.slots)
    (k : ∀ (u : σ) (H1 : Heap) (locs1 : List Loc), post u → va_P D vwCl (Wf u) H1 → va_D A (Wf u) → va_S A H0 H1 locs1 → W p l e R s m args below meth c H1 locs1 (cells + mc) (slots + ms) Q (F0 m (pc + 3) ls rest)) : W p l e R s m args below meth c H locs cells slots Q (F0 m pc ls st0) :=
  va_callv (va_runV S (h H.size) cw (wrPreV hP hD hK hN hc he) rfl hn hsize hstack (lv_room hW) hdg hf) hS (fun q _ h => wrFree hD hS hA q h) (wrFree hD hS hA) (fun u t H1 locs1 ht _ hp hB _ _ hS1 => k u H1 locs1 hp (wrJoin ht (wrFree hD hS hA) hB).1 (wrJoin ht (wrFree hD hS hA) hB).2 hS1)
theorem WrQ.callV {post : Option Nat → σ → Prop} (h : WrQ l y ws rm D tys w (.ref b :: As) Wf post mc ms) (S : CallFix p m c cc nL s args Ts own) {r : vw_C} (cw : CallW R s args own r.1 index y bytes maxL ret ws rm mc ms n) (hP : va_P D vwCl w H) (hD : va_D A w) (hS : va_S A H0 H locs) (hA : ∀ q, H0.size ≤ q → A q) (hK : va_K D vwCl tys s) (hN : nst s) (q0 ci : Nat) {fs : List Value} (hc : vwCl[ci]? = some r) (he : w[q0]? = some (b, .inr (ci, fs)))
    (hn : As.length = n) (hsize : ls.size = nL) (hstack : st0 = As.reverse ++ .ref b :: rest) (hW : (rest.map fun v => v.category).sum ≤ 8) (hdg : decode cc pc = .ok (.invokevirtual index, 3)) (hf : cells + mc ≤ R.cells ∧ slots + ms ≤ R.slots)
    (k : ∀ (r : Option Nat) (u : σ) (H1 : Heap) (locs1 : List Loc), post r u → va_P D vwCl (Wf u) H1 → va_D A (Wf u) → va_S A H0 H1 locs1 → W p l e R s m args below meth c H1 locs1 (cells + mc) (slots + ms) Q (F0 m (pc + 3) ls (va_rf r :: rest))) : W p l e R s m args below meth c H locs cells slots Q (F0 m pc ls st0) :=
  va_callq (va_runV S (h H.size) cw (wrPreV hP hD hK hN hc he) rfl hn hsize hstack (lv_room hW) hdg hf) hS (fun q _ h => wrFree hD hS hA q h) (wrFree hD hS hA) (fun r u t H1 locs1 ht _ hp hB _ _ hS1 => k r u H1 locs1 hp (wrJoin ht (wrFree hD hS hA) hB).1 (wrJoin ht (wrFree hD hS hA) hB).2 hS1)
end CALLS
section ENDS
variable {p : Program} {l : Launch} {e : Env} {R : Room} {s : State} {m : MethodId} {args : Array Value} {below : List Frame} {meth : Method} {c : Code} {H : Heap} {locs : List Loc} {cells slots : Nat}
variable {cc : ByteArray} {pc : Nat} {ls : Array Slot} {D : va_G} {w : va_W} {sz : Nat} {σ : Type} {Wf : σ → va_W}
theorem roI {post : Int32 → Prop} {v : Int32} (hx : p.tables.exec = Jvm.exec) (hb : c.code = cc) (hr : meth.sig.returnType = some .int) (hlk : meth.locks = false) (hdg : decode cc pc = .ok (.ireturn, 1)) (hp : post v) : W p l e R s m args below meth c s.heap [] cells slots (MQ below (vp_Si post) args s cells slots (fun _ => False)) (F0 m pc ls [.int v]) :=
  W.iret hx hb hr (fun t ht _ => ⟨v, rfl, hp, ht⟩) (fun _ h => nomatch h) hdg hlk
theorem roZ {post : Int32 → Prop} {v : Int32} (hx : p.tables.exec = Jvm.exec) (hb : c.code = cc) (hr : meth.sig.returnType = some .boolean) (hlk : meth.locks = false) (hdg : decode cc pc = .ok (.ireturn, 1)) (hn : narrow .boolean (.int v) = .int v) (hp : post v) : W p l e R s m args below meth c s.heap [] cells slots (MQ below (vp_Si post) args s cells slots (fun _ => False)) (F0 m pc ls [.int v]) :=
  W.zret hx hb hr hn (fun t ht _ => ⟨v, rfl, hp, ht⟩) (fun _ h => nomatch h) hdg hlk
theorem roL {post : Int64 → Prop} {v : Int64} (hx : p.tables.exec = Jvm.exec) (hb : c.code = cc) (hr : meth.sig.returnType = some .long) (hlk : meth.locks = false) (hdg : decode cc pc = .ok (.lreturn, 1)) (hp : post v) : W p l e R s m args below meth c s.heap [] cells slots (MQ below (vp_Sl post) args s cells slots (fun _ => False)) (F0 m pc ls [.long v]) :=
  W.lret hx hb hr (fun t ht _ => ⟨v, rfl, hp, ht⟩) (fun _ h => nomatch h) hdg hlk
theorem roQ {post : Option Nat → Prop} {r : Option Nat} {C : String} {v : Value} (hv : v = va_rf r) (hx : p.tables.exec = Jvm.exec) (hb : c.code = cc) (hr : meth.sig.returnType = some (.object C)) (hlk : meth.locks = false) (hdg : decode cc pc = .ok (.areturn, 1)) (hp : post r) : W p l e R s m args below meth c s.heap [] cells slots (MQ below (va_Sq post) args s cells slots (fun _ => False)) (F0 m pc ls [v]) := by
  subst hv
  exact W.aret hx hb hr (Or.inl ⟨C, rfl⟩) (va_rf_or r) (fun t ht _ => ⟨r, rfl, hp, ht⟩) (fun _ h => nomatch h) hdg hlk
theorem wrI {post : Int32 → σ → Prop} {v : Int32} (u : σ) (hx : p.tables.exec = Jvm.exec) (hb : c.code = cc) (hr : meth.sig.returnType = some .int) (hlk : meth.locks = false) (hdg : decode cc pc = .ok (.ireturn, 1)) (hP : va_P D vwCl (Wf u) H) (hD : va_D (va_A w sz) (Wf u)) (hS : va_S (va_A w sz) s.heap H locs) (hp : post v u) : W p l e R s m args below meth c H locs cells slots (MQ below (va_Qi post (wrB D w Wf sz) (va_A w sz)) args s cells slots (va_A w sz)) (F0 m pc ls [.int v]) :=
  W.iret hx hb hr (fun t ht _ => ⟨⟨v, u, rfl, hp, by rw [ht]; exact hP, hD⟩, hS.F ht⟩) hS.2.2 hdg hlk
theorem wrZ {post : Int32 → σ → Prop} {v : Int32} (u : σ) (hx : p.tables.exec = Jvm.exec) (hb : c.code = cc) (hr : meth.sig.returnType = some .boolean) (hlk : meth.locks = false) (hdg : decode cc pc = .ok (.ireturn, 1)) (hn : narrow .boolean (.int v) = .int v) (hP : va_P D vwCl (Wf u) H) (hD : va_D (va_A w sz) (Wf u)) (hS : va_S (va_A w sz) s.heap H locs) (hp : post v u) : W p l e R s m args below meth c H locs cells slots (MQ below (va_Qi post (wrB D w Wf sz) (va_A w sz)) args s cells slots (va_A w sz)) (F0 m pc ls [.int v]) :=
  W.zret hx hb hr hn (fun t ht _ => ⟨⟨v, u, rfl, hp, by rw [ht]; exact hP, hD⟩, hS.F ht⟩) hS.2.2 hdg hlk
theorem wrL {post : Int64 → σ → Prop} {v : Int64} (u : σ) (hx : p.tables.exec = Jvm.exec) (hb : c.code = cc) (hr : meth.sig.returnType = some .long) (hlk : meth.locks = false) (hdg : decode cc pc = .ok (.lreturn, 1)) (hP : va_P D vwCl (Wf u) H) (hD : va_D (va_A w sz) (Wf u)) (hS : va_S (va_A w sz) s.heap H locs) (hp : post v u) : W p l e R s m args below meth c H locs cells slots (MQ below (va_Ql post (wrB D w Wf sz) (va_A w sz)) args s cells slots (va_A w sz)) (F0 m pc ls [.long v]) :=
  W.lret hx hb hr (fun t ht _ => ⟨⟨v, u, rfl, hp, by rw [ht]; exact hP, hD⟩, hS.F ht⟩) hS.2.2 hdg hlk
theorem wrV {post : σ → Prop} (u : σ) (hx : p.tables.exec = Jvm.exec) (hb : c.code = cc) (hr : meth.sig.returnType = none) (hlk : meth.locks = false) (hdg : decode cc pc = .ok (.return_, 1)) (hP : va_P D vwCl (Wf u) H) (hD : va_D (va_A w sz) (Wf u)) (hS : va_S (va_A w sz) s.heap H locs) (hp : post u) : W p l e R s m args below meth c H locs cells slots (MQ below (va_Qv post (wrB D w Wf sz) (va_A w sz)) args s cells slots (va_A w sz)) (F0 m pc ls []) :=
  W.vret hx hb hr (fun t ht _ => ⟨⟨u, rfl, hp, by rw [ht]; exact hP, hD⟩, hS.F ht⟩) hS.2.2 hdg hlk
theorem wrQ {post : Option Nat → σ → Prop} {r : Option Nat} {C : String} {v : Value} (u : σ) (hv : v = va_rf r) (hx : p.tables.exec = Jvm.exec) (hb : c.code = cc) (hr : meth.sig.returnType = some (.object C)) (hlk : meth.locks = false) (hdg : decode cc pc = .ok (.areturn, 1)) (hP : va_P D vwCl (Wf u) H) (hD : va_D (va_A w sz) (Wf u)) (hS : va_S (va_A w sz) s.heap H locs) (hp : post r u) : W p l e R s m args below meth c H locs cells slots (MQ below (va_Qq post (wrB D w Wf sz) (va_A w sz)) args s cells slots (va_A w sz)) (F0 m pc ls [v]) := by
  subst hv
  exact W.aret hx hb hr (Or.inl ⟨C, rfl⟩) (va_rf_or r) (fun t ht _ => ⟨⟨r, u, rfl, hp, by rw [ht]; exact hP, hD⟩, hS.F ht⟩) hS.2.2 hdg hlk
end ENDS
end
section
/-! small rows: truth values, ranges, compares of longs, arrays by a natural place; the two worlds -/
def bI (b : Bool) : Int32 := if b = true then 1 else 0
theorem bI_z {b : Bool} (h : bI b = 0) : b = false := by cases b with
  | false => rfl
  | true => exact absurd h (by decide)
theorem bI_n {b : Bool} (h : ¬ bI b = 0) : b = true := by cases b with
  | false => exact absurd rfl h
  | true => rfl
theorem bI_nar (b : Bool) : narrow .boolean (.int (bI b)) = .int (bI b) := by cases b <;> rfl
theorem nar0 : narrow .boolean (.int 0) = .int 0 := rfl
theorem nar1 : narrow .boolean (.int 1) = .int 1 := rfl
def lvB (x : Int32) : Bool := decide (0 ≤ x.toInt ∧ x.toInt ≤ 1000000000)
def inB (x : Int32) (n : Nat) : Bool := decide (0 ≤ x.toInt ∧ x.toInt < (n : Int))
def ptB (x : Int32) (n : Nat) : Bool := decide (x = -1) || inB x n
theorem i_lt {x y : Int32} : x < y ↔ x.toInt < y.toInt := Int32.lt_iff_toInt_lt
theorem i_le {x y : Int32} : x ≤ y ↔ x.toInt ≤ y.toInt := Int32.le_iff_toInt_le
theorem l_lt {x y : Int64} : x < y ↔ x.toInt < y.toInt := Int64.lt_iff_toInt_lt
theorem l_le {x y : Int64} : x ≤ y ↔ x.toInt ≤ y.toInt := Int64.le_iff_toInt_le
theorem inB_vp {x : Int32} {n : Nat} : inB x n = true ↔ vp_in x n := by
  rw [vp_in_iff]; simp [inB]
theorem inB_of {x : Int32} {n : Nat} (h : inB x n = true) (hn : n < 2 ^ 31) : ∃ j : Nat, j < n ∧ x = nI j := vp_in_of (inB_vp.mp h) hn
theorem inB_nI {j n : Nat} (hj : j < 2 ^ 31) : inB (nI j) n = decide (j < n) := by
  unfold inB; rw [nI_toInt hj]; congr 1; simp
theorem inB_lo {x : Int32} {n : Nat} (h : x < 0) : inB x n = false := by
  have h := i_lt.mp h; simp [inB]; intro h2; have : (0 : Int32).toInt = 0 := rfl; omega
theorem inB_hi {x : Int32} {n : Nat} (hn : n < 2 ^ 31) (h : nI n ≤ x) : inB x n = false := by
  have h := i_le.mp h; rw [nI_toInt hn] at h; simp [inB]; intro h2; omega
theorem inB_hi' {x : Int32} {n : Nat} (hn : n < 2 ^ 31) (h : x ≥ nI n) : inB x n = false := inB_hi hn h
theorem inB_in {x : Int32} {n : Nat} (hn : n < 2 ^ 31) (h0 : ¬ x < 0) (h : ¬ nI n ≤ x) : inB x n = true := by
  rw [i_lt] at h0; rw [i_le, nI_toInt hn] at h; have : (0 : Int32).toInt = 0 := rfl; simp [inB]; omega
theorem lvB_lo {x : Int32} (h : x < 0) : lvB x = false := by
  have h := i_lt.mp h; simp [lvB]; intro h2; have : (0 : Int32).toInt = 0 := rfl; omega
theorem lvB_hi {x : Int32} (h : x > 1000000000) : lvB x = false := by
  have h : (1000000000 : Int32) < x := h
  rw [i_lt] at h; simp [lvB]; intro h2; have : (1000000000 : Int32).toInt = 1000000000 := rfl; omega
theorem lvB_in {x : Int32} (h0 : ¬ x < 0) (h : ¬ x > 1000000000) : lvB x = true := by
  have h : ¬ (1000000000 : Int32) < x := h
  rw [i_lt] at h0 h; have : (0 : Int32).toInt = 0 := rfl; have : (1000000000 : Int32).toInt = 1000000000 := rfl; simp [lvB]; omega
theorem lc_def (x y : Int64) : (x > y ∧ lg_cmp x y = 1) ∨ (x = y ∧ lg_cmp x y = 0) ∨ (x < y ∧ lg_cmp x y = -1) := by
  unfold lg_cmp
  by_cases h : x > y
  · exact Or.inl ⟨h, if_pos h⟩
  · rw [if_neg h]
    by_cases h2 : x = y
    · exact Or.inr (Or.inl ⟨h2, if_pos h2⟩)
    · refine Or.inr (Or.inr ⟨?_, if_neg h2⟩)
      have h : ¬ y < x := h
      rw [l_lt] at h ⊢
      have h3 : ¬ x.toInt = y.toInt := fun q => h2 (Int64.toInt_inj.mp q)
      omega
theorem l_irr {x : Int64} (h : x < x) : False := by rw [l_lt] at h; omega
theorem l_asym {x y : Int64} (h : x < y) (h2 : y < x) : False := by rw [l_lt] at h h2; omega
theorem lc_ltp {x y : Int64} (h : lg_cmp x y < 0) : x < y := by
  rcases lc_def x y with ⟨-, e⟩ | ⟨-, e⟩ | ⟨a, -⟩
  · rw [e] at h; exact absurd h (by decide)
  · rw [e] at h; exact absurd h (by decide)
  · exact a
theorem lc_ltn {x y : Int64} (h : ¬ lg_cmp x y < 0) : ¬ x < y := by
  rcases lc_def x y with ⟨a, -⟩ | ⟨a, -⟩ | ⟨-, e⟩
  · exact fun q => l_asym q a
  · exact fun q => l_irr (a ▸ q)
  · rw [e] at h; exact absurd (by decide) h
theorem lc_gtp {x y : Int64} (h : lg_cmp x y > 0) : y < x := by
  rcases lc_def x y with ⟨a, -⟩ | ⟨-, e⟩ | ⟨-, e⟩
  · exact a
  · rw [e] at h; exact absurd h (by decide)
  · rw [e] at h; exact absurd h (by decide)
theorem lc_gtn {x y : Int64} (h : ¬ lg_cmp x y > 0) : ¬ y < x := by
  rcases lc_def x y with ⟨-, e⟩ | ⟨a, -⟩ | ⟨a, -⟩
  · rw [e] at h; exact absurd (by decide) h
  · exact fun q => l_irr (a ▸ q)
  · exact fun q => l_asym q a
theorem lc_gep {x y : Int64} (h : lg_cmp x y ≥ 0) : ¬ x < y := lc_ltn (fun q => by
  have h : (0 : Int32) ≤ lg_cmp x y := h
  rw [i_le] at h; rw [i_lt] at q; omega)
theorem lc_gen {x y : Int64} (h : ¬ lg_cmp x y ≥ 0) : x < y := lc_ltp (by
  have h : ¬ (0 : Int32) ≤ lg_cmp x y := h
  rw [i_le] at h; rw [i_lt]; omega)
theorem lc_lep {x y : Int64} (h : lg_cmp x y ≤ 0) : ¬ y < x := lc_gtn (fun q => by
  have q : (0 : Int32) < lg_cmp x y := q
  rw [i_le] at h; rw [i_lt] at q; omega)
theorem lc_len {x y : Int64} (h : ¬ lg_cmp x y ≤ 0) : y < x := lc_gtp (by
  show (0 : Int32) < lg_cmp x y
  rw [i_le] at h; rw [i_lt]; omega)
theorem lc_eqp {x y : Int64} (h : lg_cmp x y = 0) : x = y := by
  rcases lc_def x y with ⟨-, e⟩ | ⟨a, -⟩ | ⟨-, e⟩
  · rw [e] at h; exact absurd h (by decide)
  · exact a
  · rw [e] at h; exact absurd h (by decide)
theorem lc_eqn {x y : Int64} (h : ¬ lg_cmp x y = 0) : ¬ x = y := by
  rcases lc_def x y with ⟨a, -⟩ | ⟨-, e⟩ | ⟨a, -⟩
  · exact fun q => l_irr (q ▸ a)
  · exact absurd e h
  · exact fun q => l_irr (q ▸ a)
section MYARR
variable {p : Program} {l : Launch} {e : Env} {R : Room} {s : State} {m : MethodId} {args : Array Value} {below : List Frame} {meth : Method} {c : Code} {H : Heap} {locs : List Loc} {cells slots : Nat} {Q : State → Prop}
variable {cc : ByteArray} {pc : Nat} {ls : Array Slot} {rest : List Value} {D : va_G} {cl : List vw_C} {A : Nat → Prop} {a : Nat} {tys : List (ClassId × FieldType)} {ws : va_W} {H0 : Heap}
theorem my_iald (hx : p.tables.exec = Jvm.exec) (hb : c.code = cc) (hK : va_K D cl tys s) (hP : va_P D cl ws H) (q0 t0 : Nat) {cA : ClassId} {n : Nat} {f : Nat → Int32} (ha : ws[q0]? = some (a, .inl (cA, n, .inl f))) (ht : tys[t0]? = some (cA, .int)) {i : Int32} {j : Nat} (hi : i = nI j) (hj : j < n) (hn : n < 2 ^ 31) (hdg : decode cc pc = .ok (.iaload, 1))
    (kk : W p l e R s m args below meth c H locs cells slots Q (F0 m (pc + 1) ls (.int (f j) :: rest))) : W p l e R s m args below meth c H locs cells slots Q (F0 m pc ls (.int i :: .ref a :: rest)) := by
  subst hi
  exact va_iald hx hb hK hP q0 t0 ha ht (vp_in_nI hj hn) hdg (by rw [nI_clamp (by omega)]; exact kk)
theorem my_lald (hx : p.tables.exec = Jvm.exec) (hb : c.code = cc) (hK : va_K D cl tys s) (hP : va_P D cl ws H) (q0 t0 : Nat) {cA : ClassId} {n : Nat} {f : Nat → Int64} (ha : ws[q0]? = some (a, .inl (cA, n, .inr (.inl f)))) (ht : tys[t0]? = some (cA, .long)) {i : Int32} {j : Nat} (hi : i = nI j) (hj : j < n) (hn : n < 2 ^ 31) (hdg : decode cc pc = .ok (.laload, 1))
    (kk : W p l e R s m args below meth c H locs cells slots Q (F0 m (pc + 1) ls (.long (f j) :: rest))) : W p l e R s m args below meth c H locs cells slots Q (F0 m pc ls (.int i :: .ref a :: rest)) := by
  subst hi
  exact va_lald hx hb hK hP q0 t0 ha ht (vp_in_nI hj hn) hdg (by rw [nI_clamp (by omega)]; exact kk)
theorem my_aldq (hx : p.tables.exec = Jvm.exec) (hb : c.code = cc) (hK : va_K D cl tys s) (hP : va_P D cl ws H) (q0 t0 : Nat) {cA : ClassId} {C : String} {n : Nat} {f : Nat → Option Nat} (ha : ws[q0]? = some (a, .inl (cA, n, .inr (.inr (.inr (.inr f)))))) (ht : tys[t0]? = some (cA, .object C)) {i : Int32} {j : Nat} (hi : i = nI j) (hj : j < n) (hn : n < 2 ^ 31) (hdg : decode cc pc = .ok (.aaload, 1))
    (kk : W p l e R s m args below meth c H locs cells slots Q (F0 m (pc + 1) ls (va_rf (f j) :: rest))) : W p l e R s m args below meth c H locs cells slots Q (F0 m pc ls (.int i :: .ref a :: rest)) := by
  subst hi
  exact va_aldq hx hb hK hP q0 t0 ha ht (vp_in_nI hj hn) hdg (by rw [nI_clamp (by omega)]; exact kk)
theorem my_iast (hx : p.tables.exec = Jvm.exec) (hb : c.code = cc) (hK : va_K D cl tys s) (hP : va_P D cl ws H) (hD : va_D A ws) (hS : va_S A H0 H locs) (q0 t0 : Nat) {cA : ClassId} {n : Nat} {f : Nat → Int32} (ha : ws[q0]? = some (a, .inl (cA, n, .inl f))) (ht : tys[t0]? = some (cA, .int)) {i x : Int32} {j : Nat} (hi : i = nI j) (hj : j < n) (hn : n < 2 ^ 31) (hdg : decode cc pc = .ok (.iastore, 1))
    (kk : ∀ (H1 : Heap) (locs1 : List Loc), va_P D cl (ws.set q0 (a, .inl (cA, n, .inl (upd f j x)))) H1 → va_D A (ws.set q0 (a, .inl (cA, n, .inl (upd f j x)))) → va_S A H0 H1 locs1 → W p l e R s m args below meth c H1 locs1 cells slots Q (F0 m (pc + 1) ls rest)) : W p l e R s m args below meth c H locs cells slots Q (F0 m pc ls (.int x :: .int i :: .ref a :: rest)) := by
  subst hi
  exact va_iast hx hb hK hP hD hS q0 t0 ha ht (vp_in_nI hj hn) hdg (by rw [nI_clamp (by omega)]; exact kk)
theorem my_last (hx : p.tables.exec = Jvm.exec) (hb : c.code = cc) (hK : va_K D cl tys s) (hP : va_P D cl ws H) (hD : va_D A ws) (hS : va_S A H0 H locs) (q0 t0 : Nat) {cA : ClassId} {n : Nat} {f : Nat → Int64} (ha : ws[q0]? = some (a, .inl (cA, n, .inr (.inl f)))) (ht : tys[t0]? = some (cA, .long)) {i : Int32} {x : Int64} {j : Nat} (hi : i = nI j) (hj : j < n) (hn : n < 2 ^ 31) (hdg : decode cc pc = .ok (.lastore, 1))
    (kk : ∀ (H1 : Heap) (locs1 : List Loc), va_P D cl (ws.set q0 (a, .inl (cA, n, .inr (.inl (vp_updL f j x))))) H1 → va_D A (ws.set q0 (a, .inl (cA, n, .inr (.inl (vp_updL f j x))))) → va_S A H0 H1 locs1 → W p l e R s m args below meth c H1 locs1 cells slots Q (F0 m (pc + 1) ls rest)) : W p l e R s m args below meth c H locs cells slots Q (F0 m pc ls (.long x :: .int i :: .ref a :: rest)) := by
  subst hi
  exact va_last hx hb hK hP hD hS q0 t0 ha ht (vp_in_nI hj hn) hdg (by rw [nI_clamp (by omega)]; exact kk)
end MYARR
/-- the world of the class: the object, its four rows, the pool of its rules and sluices -/
abbrev xw (F : Nat → Nat) (Y : Nat → ClassId) (bc mn rc sc st fl : Int32) (gv : Int64) (fs fb wo : Int32) (lv sl : Nat → Int32) (ru su : Nat → Option Nat) (L : List Nat) (f : Nat → va_E) : va_W :=
  [(F 0, .inr (2, [.ref (F 1), .int bc, .int mn, .ref (F 2), .ref (F 3), .int rc, .ref (F 4), .int sc, .int st, .int fl, .long gv, .int fs, .int fb, .int wo])), (F 1, .inl (Y 1, 8, .inl lv)), (F 2, .inl (Y 2, 8, .inl sl)), (F 3, .inl (Y 3, 40, .inr (.inr (.inr (.inr ru))))), (F 4, .inl (Y 4, 8, .inr (.inr (.inr (.inr su)))))] ++ va_pl L f
abbrev xty (Y : Nat → ClassId) : List (ClassId × FieldType) := [(Y 1, .int), (Y 2, .int), (Y 3, .object "SluiceRules$Rule"), (Y 4, .object "SluiceRules$Sluice")]
/-- the world of the reference: the object and its thirteen rows -/
abbrev mw (G : Nat → Nat) (Z : Nat → ClassId) (bc mn rc sc st fl : Int32) (va : Int64) (tp : Int32) (gv : Int64) (ts tw tm : Int32) (lv sl kd pt : Nat → Int32) (he : Nat → Int64) (ct fr to rl pi ph ps : Nat → Int32) (pm : Nat → Int64) : va_W :=
  [(G 0, .inr (3, [.int bc, .ref (G 1), .int mn, .ref (G 2), .int rc, .ref (G 3), .ref (G 4), .ref (G 5), .ref (G 6), .int sc, .ref (G 7), .ref (G 8), .ref (G 9), .int st, .int fl, .long va, .int tp, .ref (G 10), .ref (G 11), .ref (G 12), .ref (G 13), .long gv, .int ts, .int tw, .int tm])), (G 1, .inl (Z 1, 8, .inl lv)), (G 2, .inl (Z 2, 8, .inl sl)), (G 3, .inl (Z 3, 40, .inl kd)), (G 4, .inl (Z 4, 200, .inl pt)), (G 5, .inl (Z 5, 40, .inr (.inl he))), (G 6, .inl (Z 6, 40, .inl ct)), (G 7, .inl (Z 7, 8, .inl fr)), (G 8, .inl (Z 8, 8, .inl to)), (G 9, .inl (Z 9, 8, .inl rl)), (G 10, .inl (Z 10, 120, .inl pi)), (G 11, .inl (Z 11, 120, .inl ph)), (G 12, .inl (Z 12, 120, .inl ps)), (G 13, .inl (Z 13, 120, .inr (.inl pm)))]
abbrev mty (Z : Nat → ClassId) : List (ClassId × FieldType) := [(Z 1, .int), (Z 2, .int), (Z 3, .int), (Z 4, .int), (Z 5, .long), (Z 6, .int), (Z 7, .int), (Z 8, .int), (Z 9, .int), (Z 10, .int), (Z 11, .int), (Z 12, .int), (Z 13, .long)]
end
section
/-! what each call answers and does, in numbers; rules and sluices in the class's pool -/
abbrev ix (x : Int32) : Nat := x.toNatClampNeg
abbrev rk (k : Nat) : Room := { frames := k, cells := 0, slots := 0, locals := 40 * k }
abbrev rkc (k c s : Nat) : Room := { frames := k, cells := c, slots := s, locals := 40 * k }
def sp_level (b : Nat) (lv : Nat → Int32) (x : Int32) : Int32 := if inB x b = true then lv (ix x) else -101
def sp_fill (b : Nat) (lv : Nat → Int32) (x v : Int32) : Int32 × (Nat → Int32) := if inB x b = true then (if lvB v = true then (lv (ix x), upd lv (ix x) v) else (-102, lv)) else (-101, lv)
def sp_basin (b : Nat) (lv : Nat → Int32) (x : Int32) : Int32 × Nat × (Nat → Int32) := if lvB x = true then (if b = 8 then (-103, b, lv) else (nI b, b + 1, upd lv b x)) else (-102, b, lv)
def sp_moon (mn x : Int32) : Int32 × Int32 := if inB x 12 = true then (mn, x) else (-102, mn)
def sp_put (n : Nat) (sl : Nat → Int32) (s r : Int32) : Int32 × (Nat → Int32) := if inB s 8 = true ∧ ptB r n = true then (sl (ix s), upd sl (ix s) r) else (-101, sl)
def sp_told (fs fb wo x : Int32) : Int32 := if x = 0 then fs else if x = 1 then fb else if x = 2 then wo else -101
def sp_counted (n : Nat) (kd ct : Nat → Int32) (x : Int32) : Int32 := if inB x n = true ∧ kd (ix x) = 13 then ct (ix x) else -101
def sp_count (b n sN st : Nat) (sl : Nat → Int32) (x : Int32) : Int32 := if inB (x - 8) 8 = true then sl (ix (x - 8)) else if x = 0 then nI b else if x = 1 then nI n else if x = 2 then nI sN else if x = 3 then nI st else -101
def ruE (kd pt : Nat → Int32) (he : Nat → Int64) (ct : Nat → Int32) (k : Nat) : va_E := .inr (0, [.int (kd k), .int (pt (5 * k)), .int (pt (5 * k + 1)), .int (pt (5 * k + 2)), .int (pt (5 * k + 3)), .int (pt (5 * k + 4)), .long (he k), .int (ct k)])
def suE (fr to rl : Nat → Int32) (k : Nat) : va_E := .inr (1, [.int (fr k), .int (to k), .int (rl k)])
/-- the pool holds the rules 0 .. n - 1 and the sluices 0 .. sN - 1 -/
def xRel (n sN : Nat) (kd pt : Nat → Int32) (he : Nat → Int64) (ct fr to rl : Nat → Int32) (ru su : Nat → Option Nat) (L : List Nat) (f : Nat → va_E) : Prop :=
  (∀ k, k < n → ∃ a, ru k = some a ∧ a ∈ L ∧ f a = ruE kd pt he ct k) ∧ (∀ k, n ≤ k → k < 40 → ru k = none) ∧ (∀ i j a, i < n → j < n → ru i = some a → ru j = some a → i = j) ∧
  (∀ k, k < sN → ∃ a, su k = some a ∧ a ∈ L ∧ f a = suE fr to rl k) ∧ (∀ k, sN ≤ k → k < 8 → su k = none)
def rx (n : Nat) (ru : Nat → Option Nat) (x : Int32) : Option Nat := if inB x n = true then ru (ix x) else none
theorem pl_at {X : va_W} {L : List Nat} {f : Nat → va_E} {a : Nat} {e : va_E} (hL : a ∈ L) (hf : f a = e) : ∃ k : Nat, (X ++ va_pl L f)[k]? = some (a, e) := by
  obtain ⟨k, hk⟩ := va_pl_get (X := X) (f := f) hL
  exact ⟨k, by rw [hk, hf]⟩
theorem inB_ix {x : Int32} {n : Nat} (h : inB x n = true) : ix x < n := by
  have h1 := inB_vp.mp h
  exact Nat.not_le.mp fun q => h1 (Or.inr q)
theorem inB_mono {x : Int32} {n k : Nat} (hk : n ≤ k) (h : inB x k = false) : inB x n = false := by
  simp [inB] at h ⊢; intro h0; have := h h0; omega
theorem ix_ge {x : Int32} {n : Nat} (h0 : ¬ x < 0) (h : inB x n = false) : n ≤ ix x := by
  rcases Nat.lt_or_ge (ix x) n with q | q
  · have : vp_in x n := fun z => by
      rcases z with z | z
      · exact h0 z
      · exact absurd z (Nat.not_le.mpr q)
    rw [inB_vp.mpr this] at h; cases h
  · exact q
/-- a rule that there is: its place in the row, its cell -/
theorem xRel.rule {n sN : Nat} {kd pt : Nat → Int32} {he : Nat → Int64} {ct fr to rl : Nat → Int32} {ru su : Nat → Option Nat} {L : List Nat} {f : Nat → va_E} (h : xRel n sN kd pt he ct fr to rl ru su L f) {x : Int32} {a : Nat} (e : rx n ru x = some a) : inB x n = true ∧ ru (ix x) = some a ∧ a ∈ L ∧ f a = ruE kd pt he ct (ix x) := by
  unfold rx at e
  by_cases hi : inB x n = true
  · rw [if_pos hi] at e
    obtain ⟨a', h1, h2, h3⟩ := h.1 (ix x) (inB_ix hi)
    rw [h1] at e; cases e
    exact ⟨hi, h1, h2, h3⟩
  · rw [if_neg hi] at e; cases e
theorem xRel.norule {n sN : Nat} {kd pt : Nat → Int32} {he : Nat → Int64} {ct fr to rl : Nat → Int32} {ru su : Nat → Option Nat} {L : List Nat} {f : Nat → va_E} (h : xRel n sN kd pt he ct fr to rl ru su L f) {x : Int32} (e : rx n ru x = none) : inB x n = false := by
  unfold rx at e
  by_cases hi : inB x n = true
  · rw [if_pos hi] at e
    obtain ⟨a', h1, -⟩ := h.1 (ix x) (inB_ix hi)
    rw [h1] at e; cases e
  · simpa using hi
theorem xRel.at {n sN : Nat} {kd pt : Nat → Int32} {he : Nat → Int64} {ct fr to rl : Nat → Int32} {ru su : Nat → Option Nat} {L : List Nat} {f : Nat → va_E} (h : xRel n sN kd pt he ct fr to rl ru su L f) {x : Int32} (h0 : ¬ x < 0) (h40 : inB x 40 = true) : ru (ix x) = rx n ru x := by
  unfold rx
  by_cases hi : inB x n = true
  · rw [if_pos hi]
  · rw [if_neg hi]
    exact h.2.1 _ (ix_ge h0 (by simpa using hi)) (inB_ix h40)
theorem inB_up {x : Int32} {n k : Nat} (hk : n ≤ k) (h : inB x n = true) : inB x k = true := by
  simp [inB] at h ⊢; omega
end
section
/-! what an asking gives: one mathematical value for both sides -/
def td12 (z : Int64) : Int64 := if z - z / 12 * 12 < 0 then z - z / 12 * 12 + 12 else z - z / 12 * 12
def td (mn h : Int32) : Int64 := if td12 (h.toInt64 * mn.toInt64) < 6 then td12 (h.toInt64 * mn.toInt64) else 12 - td12 (h.toInt64 * mn.toInt64)
def sd (a c : Int64) : Int64 := if a - a / c * c < 0 then a / c - 1 else a / c
def bd (v : Int64) (b c d e : Int32) : Int64 := if v < d.toInt64 then b.toInt64 else if e.toInt64 < v then c.toInt64 else v
def knB (b n : Nat) (kd : Nat → Int32) (k a bb c : Int32) : Bool :=
  if k = 0 ∨ k = 2 ∨ k = 3 then true else if k = 1 then inB a b else if k = 4 ∨ k = 5 ∨ k = 6 ∨ k = 7 then ptB a n && ptB bb n
  else if k = 9 then ptB a n && (ptB bb n && ptB c n) else if k = 8 ∨ k = 10 ∨ k = 11 ∨ k = 12 ∨ k = 13 then ptB a n
  else if k = 14 then decide (inB a n = true ∧ kd (ix a) = 13) else if k = 15 then inB a 8 else if k = 16 then inB a 8 && inB bb 8 else false
def fiB (k a b c d e : Int32) : Bool := if k = 8 then decide (1 ≤ c.toInt ∧ c.toInt ≤ 1000) else if k = 11 then decide (d ≤ e) else if k = 16 then decide (a ≤ b) else true
/-- what make() lets in, of the rule k -/
def wfR (b n : Nat) (kd pt : Nat → Int32) (k : Nat) : Prop := knB b n kd (kd k) (pt (5 * k)) (pt (5 * k + 1)) (pt (5 * k + 2)) = true ∧ fiB (kd k) (pt (5 * k)) (pt (5 * k + 1)) (pt (5 * k + 2)) (pt (5 * k + 3)) (pt (5 * k + 4)) = true
def wfA (b n : Nat) (sl kd pt : Nat → Int32) : Prop := (∀ k, k < n → wfR b n kd pt k) ∧ ∀ s, s < 8 → ptB (sl s) n = true
abbrev EV : Type := Nat × Int32 × (Nat → Int32) × (Nat → Int32) × (Nat → Int32) × (Nat → Int32) × (Nat → Int64)
abbrev SS : Type := Nat × Int32 × (Nat → Int32)
def stS (n : Nat) (x : Int32) (st : Nat) (fl : Int32) : Nat × Int32 × Bool := if fl = 0 then (if inB x n = true then (if st < 120 then (st + 1, fl, true) else (st, -202, false)) else (st, -201, false)) else (st, fl, false)
def lf (E : EV) (k : Nat) (h : Int32) (ct : Nat → Int32) : Int64 := match E with
  | (_, mn, lv, _, kd, pt, he) => if kd k = 0 then (pt (5 * k)).toInt64 else if kd k = 1 then (lv (ix (pt (5 * k)))).toInt64 else if kd k = 2 then td mn h else if kd k = 3 then h.toInt64 else if kd k = 12 then he k else if kd k = 14 then (ct (ix (pt (5 * k)))).toInt64 else 0
def evA (rec : Int32 → Int32 → SS → Int64 × SS) (sl : Nat → Int32) (h : Int32) : Nat → Nat → Int64 → SS → Int64 × SS
  | 0, _, acc, S => (acc, S)
  | c + 1, i, acc, S => evA rec sl h c (i + 1) (acc + (rec (sl i) h S).1) (rec (sl i) h S).2
def evB (E : EV) (rec : Int32 → Int32 → SS → Int64 × SS) (k : Nat) (h : Int32) (S : SS) : Int64 × SS := match E with
  | (_, _, _, sl, kd, pt, _) =>
    if kd k = 4 then ((rec (pt (5 * k)) h S).1 + (rec (pt (5 * k + 1)) h (rec (pt (5 * k)) h S).2).1, (rec (pt (5 * k + 1)) h (rec (pt (5 * k)) h S).2).2)
    else if kd k = 5 then ((rec (pt (5 * k)) h S).1 - (rec (pt (5 * k + 1)) h (rec (pt (5 * k)) h S).2).1, (rec (pt (5 * k + 1)) h (rec (pt (5 * k)) h S).2).2)
    else if kd k = 6 then (if (rec (pt (5 * k + 1)) h (rec (pt (5 * k)) h S).2).1 < (rec (pt (5 * k)) h S).1 then (rec (pt (5 * k + 1)) h (rec (pt (5 * k)) h S).2).1 else (rec (pt (5 * k)) h S).1, (rec (pt (5 * k + 1)) h (rec (pt (5 * k)) h S).2).2)
    else if kd k = 7 then (if (rec (pt (5 * k + 1)) h (rec (pt (5 * k)) h S).2).1 < (rec (pt (5 * k)) h S).1 then (rec (pt (5 * k)) h S).1 else (rec (pt (5 * k + 1)) h (rec (pt (5 * k)) h S).2).1, (rec (pt (5 * k + 1)) h (rec (pt (5 * k)) h S).2).2)
    else if kd k = 8 then (sd ((rec (pt (5 * k)) h S).1 * (pt (5 * k + 1)).toInt64) (pt (5 * k + 2)).toInt64, (rec (pt (5 * k)) h S).2)
    else if kd k = 9 then rec (if 0 < (rec (pt (5 * k)) h S).1 then pt (5 * k + 1) else pt (5 * k + 2)) h (rec (pt (5 * k)) h S).2
    else if kd k = 10 then rec (pt (5 * k)) (h + pt (5 * k + 1)) S
    else if kd k = 11 then (bd (rec (pt (5 * k)) h S).1 (pt (5 * k + 1)) (pt (5 * k + 2)) (pt (5 * k + 3)) (pt (5 * k + 4)), (rec (pt (5 * k)) h S).2)
    else if kd k = 13 then rec (pt (5 * k)) h (S.1, S.2.1, upd S.2.2 k (S.2.2 k + 1))
    else if kd k = 15 then rec (sl (ix (pt (5 * k)))) h S
    else if kd k = 16 then evA rec sl h (ix (pt (5 * k + 1)) + 1 - ix (pt (5 * k))) (ix (pt (5 * k))) 0 S
    else (lf E k h S.2.2, S)
/-- the rule x is asked at h: what it gives, and the steps, the failure, the counters behind it -/
def ev (E : EV) : Nat → Int32 → Int32 → SS → Int64 × SS
  | 0, x, _, S => (0, (stS E.1 x S.1 S.2.1).1, (stS E.1 x S.1 S.2.1).2.1, S.2.2)
  | d + 1, x, h, S => if (stS E.1 x S.1 S.2.1).2.2 = true then evB E (ev E d) (ix x) h ((stS E.1 x S.1 S.2.1).1, (stS E.1 x S.1 S.2.1).2.1, S.2.2) else (0, (stS E.1 x S.1 S.2.1).1, (stS E.1 x S.1 S.2.1).2.1, S.2.2)
section EVL
variable {n : Nat} {mn : Int32} {lv sl kd pt : Nat → Int32} {he : Nat → Int64} {d : Nat} {x h : Int32} {st st1 : Nat} {fl fl1 : Int32} {ct : Nat → Int32}
theorem ev_no (hs : stS n x st fl = (st1, fl1, false)) : ((0 : Int64), (st1, fl1, ct)) = ev (n, mn, lv, sl, kd, pt, he) d x h (st, fl, ct) := by
  cases d with
  | zero => simp [ev, hs]
  | succ d => simp [ev, hs]
theorem ev_go (hs : stS n x st fl = (st1, fl1, true)) : ev (n, mn, lv, sl, kd, pt, he) (d + 1) x h (st, fl, ct) = evB (n, mn, lv, sl, kd, pt, he) (ev (n, mn, lv, sl, kd, pt, he) d) (ix x) h (st1, fl1, ct) := by simp [ev, hs]
theorem ev_4 {r1 r2 : Int64} {S1 S2 : SS} (hs : stS n x st fl = (st1, fl1, true)) (hk : kd (ix x) = 4) (e1 : (r1, S1) = ev (n, mn, lv, sl, kd, pt, he) d (pt (5 * ix x)) h (st1, fl1, ct)) (e2 : (r2, S2) = ev (n, mn, lv, sl, kd, pt, he) d (pt (5 * ix x + 1)) h S1) : (r1 + r2, S2) = ev (n, mn, lv, sl, kd, pt, he) (d + 1) x h (st, fl, ct) := by
  rw [ev_go hs]; simp [evB, hk, ← e1, ← e2]
theorem ev_5 {r1 r2 : Int64} {S1 S2 : SS} (hs : stS n x st fl = (st1, fl1, true)) (hk : kd (ix x) = 5) (e1 : (r1, S1) = ev (n, mn, lv, sl, kd, pt, he) d (pt (5 * ix x)) h (st1, fl1, ct)) (e2 : (r2, S2) = ev (n, mn, lv, sl, kd, pt, he) d (pt (5 * ix x + 1)) h S1) : (r1 - r2, S2) = ev (n, mn, lv, sl, kd, pt, he) (d + 1) x h (st, fl, ct) := by
  rw [ev_go hs]; simp [evB, hk, ← e1, ← e2]
theorem ev_6 {r1 r2 : Int64} {S1 S2 : SS} (hs : stS n x st fl = (st1, fl1, true)) (hk : kd (ix x) = 6) (e1 : (r1, S1) = ev (n, mn, lv, sl, kd, pt, he) d (pt (5 * ix x)) h (st1, fl1, ct)) (e2 : (r2, S2) = ev (n, mn, lv, sl, kd, pt, he) d (pt (5 * ix x + 1)) h S1) : (if r2 < r1 then r2 else r1, S2) = ev (n, mn, lv, sl, kd, pt, he) (d + 1) x h (st, fl, ct) := by
  rw [ev_go hs]; simp [evB, hk, ← e1, ← e2]
theorem ev_7 {r1 r2 : Int64} {S1 S2 : SS} (hs : stS n x st fl = (st1, fl1, true)) (hk : kd (ix x) = 7) (e1 : (r1, S1) = ev (n, mn, lv, sl, kd, pt, he) d (pt (5 * ix x)) h (st1, fl1, ct)) (e2 : (r2, S2) = ev (n, mn, lv, sl, kd, pt, he) d (pt (5 * ix x + 1)) h S1) : (if r2 < r1 then r1 else r2, S2) = ev (n, mn, lv, sl, kd, pt, he) (d + 1) x h (st, fl, ct) := by
  rw [ev_go hs]; simp [evB, hk, ← e1, ← e2]
theorem ev_8 {r1 : Int64} {S1 : SS} (hs : stS n x st fl = (st1, fl1, true)) (hk : kd (ix x) = 8) (e1 : (r1, S1) = ev (n, mn, lv, sl, kd, pt, he) d (pt (5 * ix x)) h (st1, fl1, ct)) : (sd (r1 * (pt (5 * ix x + 1)).toInt64) (pt (5 * ix x + 2)).toInt64, S1) = ev (n, mn, lv, sl, kd, pt, he) (d + 1) x h (st, fl, ct) := by
  rw [ev_go hs]; simp [evB, hk, ← e1]
theorem ev_9 {r1 r2 : Int64} {S1 S2 : SS} {y : Int32} (hs : stS n x st fl = (st1, fl1, true)) (hk : kd (ix x) = 9) (e1 : (r1, S1) = ev (n, mn, lv, sl, kd, pt, he) d (pt (5 * ix x)) h (st1, fl1, ct)) (hy : y = if 0 < r1 then pt (5 * ix x + 1) else pt (5 * ix x + 2)) (e2 : (r2, S2) = ev (n, mn, lv, sl, kd, pt, he) d y h S1) : (r2, S2) = ev (n, mn, lv, sl, kd, pt, he) (d + 1) x h (st, fl, ct) := by
  rw [ev_go hs, e2, hy]; simp [evB, hk, ← e1]
theorem ev_10 {r1 : Int64} {S1 : SS} (hs : stS n x st fl = (st1, fl1, true)) (hk : kd (ix x) = 10) (e1 : (r1, S1) = ev (n, mn, lv, sl, kd, pt, he) d (pt (5 * ix x)) (h + pt (5 * ix x + 1)) (st1, fl1, ct)) : (r1, S1) = ev (n, mn, lv, sl, kd, pt, he) (d + 1) x h (st, fl, ct) := by
  rw [ev_go hs]; simp [evB, hk, ← e1]
theorem ev_11 {r1 : Int64} {S1 : SS} (hs : stS n x st fl = (st1, fl1, true)) (hk : kd (ix x) = 11) (e1 : (r1, S1) = ev (n, mn, lv, sl, kd, pt, he) d (pt (5 * ix x)) h (st1, fl1, ct)) : (bd r1 (pt (5 * ix x + 1)) (pt (5 * ix x + 2)) (pt (5 * ix x + 3)) (pt (5 * ix x + 4)), S1) = ev (n, mn, lv, sl, kd, pt, he) (d + 1) x h (st, fl, ct) := by
  rw [ev_go hs]; simp [evB, hk, ← e1]
theorem ev_13 {r1 : Int64} {S1 : SS} (hs : stS n x st fl = (st1, fl1, true)) (hk : kd (ix x) = 13) (e1 : (r1, S1) = ev (n, mn, lv, sl, kd, pt, he) d (pt (5 * ix x)) h (st1, fl1, upd ct (ix x) (ct (ix x) + 1))) : (r1, S1) = ev (n, mn, lv, sl, kd, pt, he) (d + 1) x h (st, fl, ct) := by
  rw [ev_go hs]; simp [evB, hk, ← e1]
theorem ev_15 {r1 : Int64} {S1 : SS} (hs : stS n x st fl = (st1, fl1, true)) (hk : kd (ix x) = 15) (e1 : (r1, S1) = ev (n, mn, lv, sl, kd, pt, he) d (sl (ix (pt (5 * ix x)))) h (st1, fl1, ct)) : (r1, S1) = ev (n, mn, lv, sl, kd, pt, he) (d + 1) x h (st, fl, ct) := by
  rw [ev_go hs]; simp [evB, hk, ← e1]
theorem ev_16 {r1 : Int64} {S1 : SS} (hs : stS n x st fl = (st1, fl1, true)) (hk : kd (ix x) = 16) (e1 : (r1, S1) = evA (ev (n, mn, lv, sl, kd, pt, he) d) sl h (ix (pt (5 * ix x + 1)) + 1 - ix (pt (5 * ix x))) (ix (pt (5 * ix x))) 0 (st1, fl1, ct)) : (r1, S1) = ev (n, mn, lv, sl, kd, pt, he) (d + 1) x h (st, fl, ct) := by
  rw [ev_go hs]; simp [evB, hk, ← e1]
theorem ev_lf (hs : stS n x st fl = (st1, fl1, true)) (h4 : ¬ kd (ix x) = 4) (h5 : ¬ kd (ix x) = 5) (h6 : ¬ kd (ix x) = 6) (h7 : ¬ kd (ix x) = 7) (h8 : ¬ kd (ix x) = 8) (h9 : ¬ kd (ix x) = 9) (h10 : ¬ kd (ix x) = 10) (h11 : ¬ kd (ix x) = 11) (h13 : ¬ kd (ix x) = 13) (h15 : ¬ kd (ix x) = 15) (h16 : ¬ kd (ix x) = 16) : (lf (n, mn, lv, sl, kd, pt, he) (ix x) h ct, (st1, fl1, ct)) = ev (n, mn, lv, sl, kd, pt, he) (d + 1) x h (st, fl, ct) := by
  rw [ev_go hs]; simp [evB, h4, h5, h6, h7, h8, h9, h10, h11, h13, h15, h16]
theorem stS_le (h : st ≤ 120) : (stS n x st fl).1 ≤ 120 := by
  unfold stS; split
  · split
    · split
      · show st + 1 ≤ 120; omega
      · exact h
    · exact h
  · exact h
theorem stS_ge : st ≤ (stS n x st fl).1 := by
  unfold stS; split
  · split
    · split
      · exact Nat.le_succ _
      · exact Nat.le_refl _
    · exact Nat.le_refl _
  · exact Nat.le_refl _
theorem stS_t (hs : stS n x st fl = (st1, fl1, true)) : fl = 0 ∧ fl1 = 0 ∧ inB x n = true ∧ st < 120 ∧ st1 = st + 1 := by
  unfold stS at hs
  by_cases h0 : fl = 0
  · rw [if_pos h0] at hs
    by_cases h1 : inB x n = true
    · rw [if_pos h1] at hs
      by_cases h2 : st < 120
      · rw [if_pos h2] at hs; cases hs; exact ⟨h0, h0, h1, h2, rfl⟩
      · rw [if_neg h2] at hs; cases hs
    · rw [if_neg h1] at hs; cases hs
  · rw [if_neg h0] at hs; cases hs
end EVL
/-- the steps grow, and stay below 121 -/
theorem evA_st {rec : Int32 → Int32 → SS → Int64 × SS} {sl : Nat → Int32} {h : Int32} (hr : ∀ (x h : Int32) (S : SS), S.1 ≤ (rec x h S).2.1 ∧ (S.1 ≤ 120 → (rec x h S).2.1 ≤ 120)) : ∀ (c i : Nat) (acc : Int64) (S : SS), S.1 ≤ (evA rec sl h c i acc S).2.1 ∧ (S.1 ≤ 120 → (evA rec sl h c i acc S).2.1 ≤ 120)
  | 0, _, _, S => ⟨Nat.le_refl _, id⟩
  | c + 1, i, acc, S => ⟨Nat.le_trans (hr _ _ _).1 (evA_st hr c _ _ _).1, fun q => (evA_st hr c _ _ _).2 ((hr _ _ _).2 q)⟩
def stP (S : SS) (r : Int64 × SS) : Prop := S.1 ≤ r.2.1 ∧ (S.1 ≤ 120 → r.2.1 ≤ 120)
theorem iteP {α : Type} {P : α → Prop} {c : Prop} [Decidable c] {a b : α} (ha : P a) (hb : P b) : P (if c then a else b) := by
  split
  · exact ha
  · exact hb
theorem evB_st {E : EV} {rec : Int32 → Int32 → SS → Int64 × SS} (hr : ∀ (x h : Int32) (S : SS), S.1 ≤ (rec x h S).2.1 ∧ (S.1 ≤ 120 → (rec x h S).2.1 ≤ 120)) (k : Nat) (h : Int32) (S : SS) : stP S (evB E rec k h S) := by
  obtain ⟨n, mn, lv, sl, kd, pt, he⟩ := E
  have two : ∀ (v : Int64) (x y g : Int32), stP S (v, (rec y h (rec x g S).2).2) := fun v x y g => ⟨Nat.le_trans (hr _ _ _).1 (hr _ _ _).1, fun q => (hr _ _ _).2 ((hr _ _ _).2 q)⟩
  have two' : ∀ (x y g : Int32), stP S (rec y h (rec x g S).2) := fun x y g => ⟨Nat.le_trans (hr _ _ _).1 (hr _ _ _).1, fun q => (hr _ _ _).2 ((hr _ _ _).2 q)⟩
  have one : ∀ (v : Int64) (x g : Int32), stP S (v, (rec x g S).2) := fun v x g => hr x g S
  have one' : ∀ (x g : Int32), stP S (rec x g S) := fun x g => hr x g S
  show stP S (if kd k = 4 then _ else _)
  refine iteP (two _ _ _ _) (iteP (two _ _ _ _) (iteP (two _ _ _ _) (iteP (two _ _ _ _) (iteP (one _ _ _) (iteP (two' _ _ _) (iteP (one' _ _) (iteP (one _ _ _) (iteP ?_ (iteP (one' _ _) (iteP ?_ ?_))))))))))
  · exact hr (pt (5 * k)) h (S.1, S.2.1, upd S.2.2 k (S.2.2 k + 1))
  · exact evA_st hr _ _ _ _
  · exact ⟨Nat.le_refl _, id⟩
theorem ev_st (E : EV) : ∀ (d : Nat) (x h : Int32) (S : SS), S.1 ≤ (ev E d x h S).2.1 ∧ (S.1 ≤ 120 → (ev E d x h S).2.1 ≤ 120)
  | 0, x, h, S => ⟨stS_ge, stS_le⟩
  | d + 1, x, h, S => by
    have hB := evB_st (E := E) (ev_st E d) (ix x) h ((stS E.1 x S.1 S.2.1).1, (stS E.1 x S.1 S.2.1).2.1, S.2.2)
    show stP S (if (stS E.1 x S.1 S.2.1).2.2 = true then _ else _)
    refine iteP ?_ ?_
    · exact ⟨Nat.le_trans (stS_ge (n := E.1) (x := x) (fl := S.2.1)) hB.1, fun q => hB.2 (stS_le q)⟩
    · exact ⟨stS_ge, stS_le⟩
end
section
/-! the class: what reads alone, and the small writes -/
set_option maxRecDepth 100000 in
set_option maxHeartbeats 4000000 in
/-- isLevel -/
theorem c_X2_isLevel {l : Launch} {D : va_G} {tys : List (ClassId × FieldType)} {w : va_W} (x : Int32) : RoI l yX2_isLevel wsX2_isLevel (rk 0) D (tys) (w) [.int x] (fun r => r = bI (lvB x)) := by
  refine roEnter (cc := cX2_isLevel) (maxL := 1) (ret := (some .boolean)) (by decide) rfl (Nat.le_of_ble_eq_true rfl) ?_
  intro p e s m below meth c hx hb hr hml hown hts hlk hP hK hN ls hl
  have hown : s.vm.findClass RX2 = some m.cls := hown
  have hl : lv_has ls 1 [(0, .int x)] := hl
  refine lv_iload_n hx hb dX2_isLevel_0 rfl (lv_at hl 0 rfl) ?_
  refine lv_if_lt (tgt := 14) hx hb dX2_isLevel_1 (by decide) (fun c_1 => ?_) (fun c_1 => ?_)
  · refine lv_iconst (v := 0) hx hb dX2_isLevel_14 (by decide) ?_
    exact roZ hx hb hr hlk dX2_isLevel_15 (nar0) (by rw [lvB_lo c_1]; rfl)
  · refine lv_iload_n hx hb dX2_isLevel_4 rfl (lv_at hl 0 rfl) ?_
    refine lv_ldc (v := 1000000000) hx hb hown (hts (.constant RX2 107 (1000000000)) (by decide +kernel)) dX2_isLevel_5 ?_
    refine lv_icmp_gt (tgt := 14) hx hb dX2_isLevel_7 (by decide) (fun c_7 => ?_) (fun c_7 => ?_)
    · refine lv_iconst (v := 0) hx hb dX2_isLevel_14 (by decide) ?_
      exact roZ hx hb hr hlk dX2_isLevel_15 (nar0) (by rw [lvB_hi c_7]; rfl)
    · refine lv_iconst (v := 1) hx hb dX2_isLevel_10 (by decide) ?_
      refine lv_goto (tgt := 15) hx hb dX2_isLevel_11 (by decide) ?_
      exact roZ hx hb hr hlk dX2_isLevel_15 (nar1) (by rw [lvB_in c_1 c_7]; rfl)

theorem iw_X2_isBasin_X2 : ∀ w ∈ u_ws RX2 TX2 14, w ∈ wsX2_isBasin := by decide +kernel
set_option maxRecDepth 100000 in
set_option maxHeartbeats 4000000 in
/-- isBasin -/
theorem c_X2_isBasin {l : Launch} {D : va_G} {F : Nat → Nat} {Y : Nat → ClassId} {mn fl : Int32} {gv : Int64} {fs fb wo : Int32} {lv sl : Nat → Int32} {ru su : Nat → Option Nat} {L : List Nat} {f : Nat → va_E} {b n sN st : Nat} (hb8 : b ≤ 8) (x : Int32) : RoI l yX2_isBasin wsX2_isBasin (rk 0) D (xty Y) (xw F Y (nI b) mn (nI n) (nI sN) (nI st) fl gv fs fb wo lv sl ru su L f) [.ref (F 0), .int x] (fun r => r = bI (inB x b)) := by
  refine roEnter (cc := cX2_isBasin) (maxL := 2) (ret := (some .boolean)) (by decide) rfl (Nat.le_of_ble_eq_true rfl) ?_
  intro p e s m below meth c hx hb hr hml hown hts hlk hP hK hN ls hl
  have hown : s.vm.findClass RX2 = some m.cls := hown
  have hl : lv_has ls 2 [(0, .ref (F 0)), (1, .int x)] := hl
  refine lv_iload_n hx hb dX2_isBasin_0 rfl (lv_at hl 1 rfl) ?_
  refine lv_if_lt (tgt := 25) hx hb dX2_isBasin_1 (by decide) (fun c_1 => ?_) (fun c_1 => ?_)
  · refine lv_iconst (v := 0) hx hb dX2_isBasin_25 (by decide) ?_
    exact roZ hx hb hr hlk dX2_isBasin_26 (nar0) (by rw [inB_lo c_1]; rfl)
  · refine lv_iload_n hx hb dX2_isBasin_4 rfl (lv_at hl 1 rfl) ?_
    refine lv_aload_n hx hb dX2_isBasin_5 rfl (lv_at hl 0 rfl) ?_
    refine va_get (D := D) (ci := 2) (v := .int (nI b)) (C := RX2) (T := TX2) (N := 14) hx hb hts iw_X2_isBasin_X2 hown hK hP 0 rfl rfl 1 (by decide) (hts (.fieldLink RX2 13 "SluiceRules" "basinCount" "I") (by decide +kernel)) (fun _ h9 => h9) rfl dX2_isBasin_6 ?_
    refine lv_icmp_ge (tgt := 25) hx hb dX2_isBasin_9 (by decide) (fun c_9 => ?_) (fun c_9 => ?_)
    · refine lv_iconst (v := 0) hx hb dX2_isBasin_25 (by decide) ?_
      exact roZ hx hb hr hlk dX2_isBasin_26 (nar0) (by rw [inB_hi (by omega) c_9]; rfl)
    · refine lv_iload_n hx hb dX2_isBasin_12 rfl (lv_at hl 1 rfl) ?_
      refine lv_aload_n hx hb dX2_isBasin_13 rfl (lv_at hl 0 rfl) ?_
      refine va_get (D := D) (ci := 2) (v := .ref (F 1)) (C := RX2) (T := TX2) (N := 14) hx hb hts iw_X2_isBasin_X2 hown hK hP 0 rfl rfl 0 (by decide) (hts (.fieldLink RX2 9 "SluiceRules" "levels" "[I") (by decide +kernel)) (fun _ h9 => h9) rfl dX2_isBasin_14 ?_
      refine va_alen (v := 8) hx hb hK hP 1 0 rfl rfl rfl dX2_isBasin_17 ?_
      refine lv_icmp_ge (tgt := 25) hx hb dX2_isBasin_18 (by decide) (fun c_18 => ?_) (fun c_18 => ?_)
      · refine lv_iconst (v := 0) hx hb dX2_isBasin_25 (by decide) ?_
        exact roZ hx hb hr hlk dX2_isBasin_26 (nar0) (by rw [inB_mono hb8 (inB_hi (n := 8) (by decide) c_18)]; rfl)
      · refine lv_iconst (v := 1) hx hb dX2_isBasin_21 (by decide) ?_
        refine lv_goto (tgt := 26) hx hb dX2_isBasin_22 (by decide) ?_
        exact roZ hx hb hr hlk dX2_isBasin_26 (nar1) (by rw [inB_in (by omega) c_1 c_9]; rfl)

theorem iw_X2_isSlot_X2 : ∀ w ∈ u_ws RX2 TX2 14, w ∈ wsX2_isSlot := by decide +kernel
set_option maxRecDepth 100000 in
set_option maxHeartbeats 4000000 in
/-- isSlot -/
theorem c_X2_isSlot {l : Launch} {D : va_G} {F : Nat → Nat} {Y : Nat → ClassId} {mn fl : Int32} {gv : Int64} {fs fb wo : Int32} {lv sl : Nat → Int32} {ru su : Nat → Option Nat} {L : List Nat} {f : Nat → va_E} {b n sN st : Nat} (x : Int32) : RoI l yX2_isSlot wsX2_isSlot (rk 0) D (xty Y) (xw F Y (nI b) mn (nI n) (nI sN) (nI st) fl gv fs fb wo lv sl ru su L f) [.ref (F 0), .int x] (fun r => r = bI (inB x 8)) := by
  refine roEnter (cc := cX2_isSlot) (maxL := 2) (ret := (some .boolean)) (by decide) rfl (Nat.le_of_ble_eq_true rfl) ?_
  intro p e s m below meth c hx hb hr hml hown hts hlk hP hK hN ls hl
  have hown : s.vm.findClass RX2 = some m.cls := hown
  have hl : lv_has ls 2 [(0, .ref (F 0)), (1, .int x)] := hl
  refine lv_iload_n hx hb dX2_isSlot_0 rfl (lv_at hl 1 rfl) ?_
  refine lv_if_lt (tgt := 17) hx hb dX2_isSlot_1 (by decide) (fun c_1 => ?_) (fun c_1 => ?_)
  · refine lv_iconst (v := 0) hx hb dX2_isSlot_17 (by decide) ?_
    exact roZ hx hb hr hlk dX2_isSlot_18 (nar0) (by rw [inB_lo c_1]; rfl)
  · refine lv_iload_n hx hb dX2_isSlot_4 rfl (lv_at hl 1 rfl) ?_
    refine lv_aload_n hx hb dX2_isSlot_5 rfl (lv_at hl 0 rfl) ?_
    refine va_get (D := D) (ci := 2) (v := .ref (F 2)) (C := RX2) (T := TX2) (N := 14) hx hb hts iw_X2_isSlot_X2 hown hK hP 0 rfl rfl 3 (by decide) (hts (.fieldLink RX2 20 "SluiceRules" "slots" "[I") (by decide +kernel)) (fun _ h9 => h9) rfl dX2_isSlot_6 ?_
    refine va_alen (v := 8) hx hb hK hP 2 1 rfl rfl rfl dX2_isSlot_9 ?_
    refine lv_icmp_ge (tgt := 17) hx hb dX2_isSlot_10 (by decide) (fun c_10 => ?_) (fun c_10 => ?_)
    · refine lv_iconst (v := 0) hx hb dX2_isSlot_17 (by decide) ?_
      exact roZ hx hb hr hlk dX2_isSlot_18 (nar0) (by rw [inB_hi (n := 8) (by decide) c_10]; rfl)
    · refine lv_iconst (v := 1) hx hb dX2_isSlot_13 (by decide) ?_
      refine lv_goto (tgt := 18) hx hb dX2_isSlot_14 (by decide) ?_
      exact roZ hx hb hr hlk dX2_isSlot_18 (nar1) (by rw [inB_in (n := 8) (by decide) c_1 c_10]; rfl)

theorem iw_X2_ruleAt_X2 : ∀ w ∈ u_ws RX2 TX2 14, w ∈ wsX2_ruleAt := by decide +kernel
set_option maxRecDepth 100000 in
set_option maxHeartbeats 4000000 in
/-- ruleAt -/
theorem c_X2_ruleAt {l : Launch} {D : va_G} {F : Nat → Nat} {Y : Nat → ClassId} {mn fl : Int32} {gv : Int64} {fs fb wo : Int32} {lv sl : Nat → Int32} {ru su : Nat → Option Nat} {L : List Nat} {f : Nat → va_E} {b n sN st : Nat} {kd pt : Nat → Int32} {he : Nat → Int64} {ct fr to rl : Nat → Int32} (hR : xRel n sN kd pt he ct fr to rl ru su L f) (hn40 : n ≤ 40) (x : Int32) : RoQ l yX2_ruleAt wsX2_ruleAt (rk 0) D (xty Y) (xw F Y (nI b) mn (nI n) (nI sN) (nI st) fl gv fs fb wo lv sl ru su L f) [.ref (F 0), .int x] (fun r => r = rx n ru x) := by
  refine roEnter (cc := cX2_ruleAt) (maxL := 2) (ret := (some (.object "SluiceRules$Rule"))) (by decide) rfl (Nat.le_of_ble_eq_true rfl) ?_
  intro p e s m below meth c hx hb hr hml hown hts hlk hP hK hN ls hl
  have hown : s.vm.findClass RX2 = some m.cls := hown
  have hl : lv_has ls 2 [(0, .ref (F 0)), (1, .int x)] := hl
  refine lv_iload_n hx hb dX2_ruleAt_0 rfl (lv_at hl 1 rfl) ?_
  refine lv_if_lt (tgt := 22) hx hb dX2_ruleAt_1 (by decide) (fun c_1 => ?_) (fun c_1 => ?_)
  · refine lv_null hx hb dX2_ruleAt_22 ?_
    exact roQ (r := none) rfl hx hb hr hlk dX2_ruleAt_23 (by rw [rx, if_neg (by rw [inB_mono hn40 (inB_lo c_1)]; exact Bool.false_ne_true)])
  · refine lv_iload_n hx hb dX2_ruleAt_4 rfl (lv_at hl 1 rfl) ?_
    refine lv_aload_n hx hb dX2_ruleAt_5 rfl (lv_at hl 0 rfl) ?_
    refine va_get (D := D) (ci := 2) (v := .ref (F 3)) (C := RX2) (T := TX2) (N := 14) hx hb hts iw_X2_ruleAt_X2 hown hK hP 0 rfl rfl 4 (by decide) (hts (.fieldLink RX2 25 "SluiceRules" "rules" "[LSluiceRules$Rule;") (by decide +kernel)) (fun _ h9 => h9) rfl dX2_ruleAt_6 ?_
    refine va_alen (v := 40) hx hb hK hP 3 2 rfl rfl rfl dX2_ruleAt_9 ?_
    refine lv_icmp_ge (tgt := 22) hx hb dX2_ruleAt_10 (by decide) (fun c_10 => ?_) (fun c_10 => ?_)
    · refine lv_null hx hb dX2_ruleAt_22 ?_
      exact roQ (r := none) rfl hx hb hr hlk dX2_ruleAt_23 (by rw [rx, if_neg (by rw [inB_mono hn40 (inB_hi (n := 40) (by decide) c_10)]; exact Bool.false_ne_true)])
    · refine lv_aload_n hx hb dX2_ruleAt_13 rfl (lv_at hl 0 rfl) ?_
      refine va_get (D := D) (ci := 2) (v := .ref (F 3)) (C := RX2) (T := TX2) (N := 14) hx hb hts iw_X2_ruleAt_X2 hown hK hP 0 rfl rfl 4 (by decide) (hts (.fieldLink RX2 25 "SluiceRules" "rules" "[LSluiceRules$Rule;") (by decide +kernel)) (fun _ h9 => h9) rfl dX2_ruleAt_14 ?_
      refine lv_iload_n hx hb dX2_ruleAt_17 rfl (lv_at hl 1 rfl) ?_
      refine va_aldq hx hb hK hP 3 2 rfl rfl (inB_vp.mp (inB_in (n := 40) (by decide) c_1 c_10)) dX2_ruleAt_18 ?_
      refine lv_goto (tgt := 23) hx hb dX2_ruleAt_19 (by decide) ?_
      exact roQ (r := ru (ix x)) rfl hx hb hr hlk dX2_ruleAt_23 (hR.at c_1 (inB_in (n := 40) (by decide) c_1 c_10))

theorem iw_X2_isRuleOrNone_X2 : ∀ w ∈ u_ws RX2 TX2 14, w ∈ wsX2_isRuleOrNone := by decide +kernel
set_option maxRecDepth 100000 in
set_option maxHeartbeats 4000000 in
/-- isRuleOrNone -/
theorem c_X2_isRuleOrNone {l : Launch} {D : va_G} {F : Nat → Nat} {Y : Nat → ClassId} {mn fl : Int32} {gv : Int64} {fs fb wo : Int32} {lv sl : Nat → Int32} {ru su : Nat → Option Nat} {L : List Nat} {f : Nat → va_E} {b n sN st : Nat} {kd pt : Nat → Int32} {he : Nat → Int64} {ct fr to rl : Nat → Int32} (hR : xRel n sN kd pt he ct fr to rl ru su L f) (hn40 : n ≤ 40) (x : Int32) : RoI l yX2_isRuleOrNone wsX2_isRuleOrNone (rk 1) D (xty Y) (xw F Y (nI b) mn (nI n) (nI sN) (nI st) fl gv fs fb wo lv sl ru su L f) [.ref (F 0), .int x] (fun r => r = bI (ptB x n)) := by
  refine roEnter (cc := cX2_isRuleOrNone) (maxL := 2) (ret := (some .boolean)) (by decide) rfl (Nat.le_of_ble_eq_true rfl) ?_
  intro p e s m below meth c hx hb hr hml hown hts hlk hP hK hN ls hl
  have hown : s.vm.findClass RX2 = some m.cls := hown
  have hl : lv_has ls 2 [(0, .ref (F 0)), (1, .int x)] := hl
  refine lv_iload_n hx hb dX2_isRuleOrNone_0 rfl (lv_at hl 1 rfl) ?_
  refine lv_iconst (v := (-1)) hx hb dX2_isRuleOrNone_1 (by decide) ?_
  refine lv_icmp_eq (tgt := 13) hx hb dX2_isRuleOrNone_2 (by decide) (fun c_2 => ?_) (fun c_2 => ?_)
  · refine lv_iconst (v := 1) hx hb dX2_isRuleOrNone_13 (by decide) ?_
    refine lv_goto (tgt := 18) hx hb dX2_isRuleOrNone_14 (by decide) ?_
    exact roZ hx hb hr hlk dX2_isRuleOrNone_18 (nar1) (by rw [ptB, c_2]; rfl)
  · refine lv_aload_n hx hb dX2_isRuleOrNone_5 rfl (lv_at hl 0 rfl) ?_
    refine lv_iload_n hx hb dX2_isRuleOrNone_6 rfl (lv_at hl 1 rfl) ?_
    refine RoQ.callV (As := [.int x]) (rest := []) (c_X2_ruleAt hR hn40 x) ⟨hx, hb, hml, hown, hts⟩ (cwV 1 hts gX2_isRuleOrNone_X2_ruleAt rfl rfl rfl (by decide +kernel) ⟨by decide, by decide⟩) hP hK hN 0 2 rfl rfl rfl hl.1 rfl (Nat.le_of_ble_eq_true rfl) dX2_isRuleOrNone_7 ⟨Nat.le_of_ble_eq_true rfl, Nat.le_of_ble_eq_true rfl⟩ (fun r_1 hr_1 => ?_)
    rcases r_1 with _ | ar_1
    · have q_r_1 := hR.norule hr_1.symm
      refine lv_ifnullN (tgt := 17) hx hb dX2_isRuleOrNone_10 (by decide) ?_
      refine lv_iconst (v := 0) hx hb dX2_isRuleOrNone_17 (by decide) ?_
      exact roZ hx hb hr hlk dX2_isRuleOrNone_18 (nar0) (by rw [ptB, q_r_1, decide_eq_false c_2]; rfl)
    · have q_r_1 := (hR.rule hr_1.symm).1
      refine lv_ifnull hx hb dX2_isRuleOrNone_10 ?_
      refine lv_iconst (v := 1) hx hb dX2_isRuleOrNone_13 (by decide) ?_
      refine lv_goto (tgt := 18) hx hb dX2_isRuleOrNone_14 (by decide) ?_
      exact roZ hx hb hr hlk dX2_isRuleOrNone_18 (nar1) (by rw [ptB, q_r_1, decide_eq_false c_2]; rfl)

def cx13 (n : Nat) (kd : Nat → Int32) (ru : Nat → Option Nat) (x : Int32) : Option Nat := if inB x n = true ∧ kd (ix x) = 13 then ru (ix x) else none
theorem iw_X2_countedAt_X2 : ∀ w ∈ u_ws RX2 TX2 14, w ∈ wsX2_countedAt := by decide +kernel
theorem iw_X2_countedAt_X0 : ∀ w ∈ u_ws RX0 TX0 8, w ∈ wsX2_countedAt := by decide +kernel
set_option maxRecDepth 100000 in
set_option maxHeartbeats 4000000 in
/-- countedAt -/
theorem c_X2_countedAt {l : Launch} {D : va_G} {F : Nat → Nat} {Y : Nat → ClassId} {mn fl : Int32} {gv : Int64} {fs fb wo : Int32} {lv sl : Nat → Int32} {ru su : Nat → Option Nat} {L : List Nat} {f : Nat → va_E} {b n sN st : Nat} {kd pt : Nat → Int32} {he : Nat → Int64} {ct fr to rl : Nat → Int32} (hR : xRel n sN kd pt he ct fr to rl ru su L f) (hn40 : n ≤ 40) (x : Int32) : RoQ l yX2_countedAt wsX2_countedAt (rk 1) D (xty Y) (xw F Y (nI b) mn (nI n) (nI sN) (nI st) fl gv fs fb wo lv sl ru su L f) [.ref (F 0), .int x] (fun r => r = cx13 n kd ru x) := by
  refine roEnter (cc := cX2_countedAt) (maxL := 3) (ret := (some (.object "SluiceRules$Rule"))) (by decide) rfl (Nat.le_of_ble_eq_true rfl) ?_
  intro p e s m below meth c hx hb hr hml hown hts hlk hP hK hN ls hl
  have hown : s.vm.findClass RX2 = some m.cls := hown
  have hl : lv_has ls 3 [(0, .ref (F 0)), (1, .int x)] := hl
  refine lv_aload_n hx hb dX2_countedAt_0 rfl (lv_at hl 0 rfl) ?_
  refine lv_iload_n hx hb dX2_countedAt_1 rfl (lv_at hl 1 rfl) ?_
  refine RoQ.callV (As := [.int x]) (rest := []) (c_X2_ruleAt hR hn40 x) ⟨hx, hb, hml, hown, hts⟩ (cwV 1 hts gX2_countedAt_X2_ruleAt rfl rfl rfl (by decide +kernel) ⟨by decide, by decide⟩) hP hK hN 0 2 rfl rfl rfl hl.1 rfl (Nat.le_of_ble_eq_true rfl) dX2_countedAt_2 ⟨Nat.le_of_ble_eq_true rfl, Nat.le_of_ble_eq_true rfl⟩ (fun r_1 hr_1 => ?_)
  rcases r_1 with _ | ar_1
  · have q_r_1 := hR.norule hr_1.symm
    refine lv_astore_nN (lv' := [(2, .null), (0, .ref (F 0)), (1, .int x)]) hx hb dX2_countedAt_5 rfl hl (by decide) rfl (fun ls hl => ?_)
    refine lv_aload_nN hx hb dX2_countedAt_6 rfl (lv_at hl 0 rfl) ?_
    refine lv_ifnullN (tgt := 23) hx hb dX2_countedAt_7 (by decide) ?_
    refine lv_null hx hb dX2_countedAt_23 ?_
    exact roQ (r := none) rfl hx hb hr hlk dX2_countedAt_24 (by rw [cx13, if_neg (fun z => by rw [q_r_1] at z; exact absurd z.1 Bool.false_ne_true)])
  · obtain ⟨i_r_1, ra_r_1, la_r_1, fa_r_1⟩ := hR.rule hr_1.symm
    obtain ⟨p_ar_1, e_ar_1⟩ : ∃ k : Nat, (xw F Y (nI b) mn (nI n) (nI sN) (nI st) fl gv fs fb wo lv sl ru su L f)[k]? = some (ar_1, ruE kd pt he ct (ix x)) := pl_at la_r_1 fa_r_1
    refine lv_astore_n (lv' := [(2, .ref ar_1), (0, .ref (F 0)), (1, .int x)]) hx hb dX2_countedAt_5 rfl hl (by decide) rfl (fun ls hl => ?_)
    refine lv_aload_n hx hb dX2_countedAt_6 rfl (lv_at hl 0 rfl) ?_
    refine lv_ifnull hx hb dX2_countedAt_7 ?_
    refine lv_aload_n hx hb dX2_countedAt_10 rfl (lv_at hl 0 rfl) ?_
    refine va_getN (D := D) (ci := 0) (v := .int (kd (ix x))) (C := RX0) (T := TX0) (N := 8) (host := RX2) hx hb hts iw_X2_countedAt_X0 hown hK hP p_ar_1 e_ar_1 rfl 0 (by decide) (nf_108 hN) (fun _ h9 => h9) rfl dX2_countedAt_11 ?_
    refine lv_bipush (v := 13) hx hb dX2_countedAt_14 (by decide) ?_
    refine lv_icmp_ne (tgt := 23) hx hb dX2_countedAt_16 (by decide) (fun c_16 => ?_) (fun c_16 => ?_)
    · refine lv_null hx hb dX2_countedAt_23 ?_
      exact roQ (r := none) rfl hx hb hr hlk dX2_countedAt_24 (by rw [cx13, if_neg (fun z => c_16 z.2)])
    · refine lv_aload_n hx hb dX2_countedAt_19 rfl (lv_at hl 0 rfl) ?_
      refine lv_goto (tgt := 24) hx hb dX2_countedAt_20 (by decide) ?_
      exact roQ (r := some ar_1) rfl hx hb hr hlk dX2_countedAt_24 (by rw [cx13, if_pos ⟨i_r_1, by simpa using c_16⟩, ra_r_1])

def sp_slot (sl : Nat → Int32) (x : Int32) : Int32 := if inB x 8 = true then sl (ix x) else -1
theorem iw_X2_ruleInSlot_X2 : ∀ w ∈ u_ws RX2 TX2 14, w ∈ wsX2_ruleInSlot := by decide +kernel
set_option maxRecDepth 100000 in
set_option maxHeartbeats 4000000 in
/-- ruleInSlot -/
theorem c_X2_ruleInSlot {l : Launch} {D : va_G} {F : Nat → Nat} {Y : Nat → ClassId} {mn fl : Int32} {gv : Int64} {fs fb wo : Int32} {lv sl : Nat → Int32} {ru su : Nat → Option Nat} {L : List Nat} {f : Nat → va_E} {b n sN st : Nat} (x : Int32) : RoI l yX2_ruleInSlot wsX2_ruleInSlot (rk 1) D (xty Y) (xw F Y (nI b) mn (nI n) (nI sN) (nI st) fl gv fs fb wo lv sl ru su L f) [.ref (F 0), .int x] (fun r => r = sp_slot sl x) := by
  refine roEnter (cc := cX2_ruleInSlot) (maxL := 2) (ret := (some .int)) (by decide) rfl (Nat.le_of_ble_eq_true rfl) ?_
  intro p e s m below meth c hx hb hr hml hown hts hlk hP hK hN ls hl
  have hown : s.vm.findClass RX2 = some m.cls := hown
  have hl : lv_has ls 2 [(0, .ref (F 0)), (1, .int x)] := hl
  refine lv_aload_n hx hb dX2_ruleInSlot_0 rfl (lv_at hl 0 rfl) ?_
  refine lv_iload_n hx hb dX2_ruleInSlot_1 rfl (lv_at hl 1 rfl) ?_
  refine RoI.callV (As := [.int x]) (rest := []) (c_X2_isSlot x) ⟨hx, hb, hml, hown, hts⟩ (cwV 1 hts gX2_ruleInSlot_X2_isSlot rfl rfl rfl (by decide +kernel) ⟨by decide, by decide⟩) hP hK hN 0 2 rfl rfl rfl hl.1 rfl (Nat.le_of_ble_eq_true rfl) dX2_ruleInSlot_2 ⟨Nat.le_of_ble_eq_true rfl, Nat.le_of_ble_eq_true rfl⟩ (fun r_1 hr_1 => ?_)
  refine lv_if_eq (tgt := 17) hx hb dX2_ruleInSlot_5 (by decide) (fun c_5 => ?_) (fun c_5 => ?_)
  · have b_5 : inB x 8 = false := bI_z (by rw [← hr_1]; exact c_5)
    refine lv_iconst (v := (-1)) hx hb dX2_ruleInSlot_17 (by decide) ?_
    exact roI hx hb hr hlk dX2_ruleInSlot_18 (by rw [sp_slot, if_neg (by rw [b_5]; exact Bool.false_ne_true)])
  · have b_5 : inB x 8 = true := bI_n (by rw [← hr_1]; exact c_5)
    refine lv_aload_n hx hb dX2_ruleInSlot_8 rfl (lv_at hl 0 rfl) ?_
    refine va_get (D := D) (ci := 2) (v := .ref (F 2)) (C := RX2) (T := TX2) (N := 14) hx hb hts iw_X2_ruleInSlot_X2 hown hK hP 0 rfl rfl 3 (by decide) (hts (.fieldLink RX2 20 "SluiceRules" "slots" "[I") (by decide +kernel)) (fun _ h9 => h9) rfl dX2_ruleInSlot_9 ?_
    refine lv_iload_n hx hb dX2_ruleInSlot_12 rfl (lv_at hl 1 rfl) ?_
    refine va_iald hx hb hK hP 2 1 rfl rfl (inB_vp.mp b_5) dX2_ruleInSlot_13 ?_
    refine lv_goto (tgt := 18) hx hb dX2_ruleInSlot_14 (by decide) ?_
    exact roI hx hb hr hlk dX2_ruleInSlot_18 (by rw [sp_slot, if_pos (by rw [b_5])])

theorem iw_X2_level_X2 : ∀ w ∈ u_ws RX2 TX2 14, w ∈ wsX2_level := by decide +kernel
set_option maxRecDepth 100000 in
set_option maxHeartbeats 4000000 in
/-- level -/
theorem c_X2_level {l : Launch} {D : va_G} {F : Nat → Nat} {Y : Nat → ClassId} {mn fl : Int32} {gv : Int64} {fs fb wo : Int32} {lv sl : Nat → Int32} {ru su : Nat → Option Nat} {L : List Nat} {f : Nat → va_E} {b n sN st : Nat} (hb8 : b ≤ 8) (x : Int32) : RoI l yX2_level wsX2_level (rk 1) D (xty Y) (xw F Y (nI b) mn (nI n) (nI sN) (nI st) fl gv fs fb wo lv sl ru su L f) [.ref (F 0), .int x] (fun r => r = sp_level b lv x) := by
  refine roEnter (cc := cX2_level) (maxL := 2) (ret := (some .int)) (by decide) rfl (Nat.le_of_ble_eq_true rfl) ?_
  intro p e s m below meth c hx hb hr hml hown hts hlk hP hK hN ls hl
  have hown : s.vm.findClass RX2 = some m.cls := hown
  have hl : lv_has ls 2 [(0, .ref (F 0)), (1, .int x)] := hl
  refine lv_aload_n hx hb dX2_level_0 rfl (lv_at hl 0 rfl) ?_
  refine lv_iload_n hx hb dX2_level_1 rfl (lv_at hl 1 rfl) ?_
  refine RoI.callV (As := [.int x]) (rest := []) (c_X2_isBasin hb8 x) ⟨hx, hb, hml, hown, hts⟩ (cwV 1 hts gX2_level_X2_isBasin rfl rfl rfl (by decide +kernel) ⟨by decide, by decide⟩) hP hK hN 0 2 rfl rfl rfl hl.1 rfl (Nat.le_of_ble_eq_true rfl) dX2_level_2 ⟨Nat.le_of_ble_eq_true rfl, Nat.le_of_ble_eq_true rfl⟩ (fun r_1 hr_1 => ?_)
  refine lv_if_eq (tgt := 17) hx hb dX2_level_5 (by decide) (fun c_5 => ?_) (fun c_5 => ?_)
  · have b_5 : inB x b = false := bI_z (by rw [← hr_1]; exact c_5)
    refine lv_bipush (v := (-101)) hx hb dX2_level_17 (by decide) ?_
    exact roI hx hb hr hlk dX2_level_19 (by rw [sp_level, if_neg (by rw [b_5]; exact Bool.false_ne_true)])
  · have b_5 : inB x b = true := bI_n (by rw [← hr_1]; exact c_5)
    refine lv_aload_n hx hb dX2_level_8 rfl (lv_at hl 0 rfl) ?_
    refine va_get (D := D) (ci := 2) (v := .ref (F 1)) (C := RX2) (T := TX2) (N := 14) hx hb hts iw_X2_level_X2 hown hK hP 0 rfl rfl 0 (by decide) (hts (.fieldLink RX2 9 "SluiceRules" "levels" "[I") (by decide +kernel)) (fun _ h9 => h9) rfl dX2_level_9 ?_
    refine lv_iload_n hx hb dX2_level_12 rfl (lv_at hl 1 rfl) ?_
    refine va_iald hx hb hK hP 1 0 rfl rfl (inB_vp.mp (inB_up hb8 b_5)) dX2_level_13 ?_
    refine lv_goto (tgt := 19) hx hb dX2_level_14 (by decide) ?_
    exact roI hx hb hr hlk dX2_level_19 (by rw [sp_level, if_pos (by rw [b_5])])

theorem xRel.cx13 {n sN : Nat} {kd pt : Nat → Int32} {he : Nat → Int64} {ct fr to rl : Nat → Int32} {ru su : Nat → Option Nat} {L : List Nat} {f : Nat → va_E} (h : xRel n sN kd pt he ct fr to rl ru su L f) {x : Int32} {a : Nat} (e : cx13 n kd ru x = some a) : inB x n = true ∧ kd (ix x) = 13 ∧ a ∈ L ∧ f a = ruE kd pt he ct (ix x) := by
  unfold Jvm.Pilot.@@N@@.cx13 at e
  by_cases hi : inB x n = true ∧ kd (ix x) = 13
  · rw [if_pos hi] at e
    obtain ⟨a', h1, h2, h3⟩ := h.1 (ix x) (inB_ix hi.1)
    rw [h1] at e; cases e
    exact ⟨hi.1, hi.2, h2, h3⟩
  · rw [if_neg hi] at e; cases e
theorem xRel.nocx13 {n sN : Nat} {kd pt : Nat → Int32} {he : Nat → Int64} {ct fr to rl : Nat → Int32} {ru su : Nat → Option Nat} {L : List Nat} {f : Nat → va_E} (h : xRel n sN kd pt he ct fr to rl ru su L f) {x : Int32} (e : Jvm.Pilot.@@N@@.cx13 n kd ru x = none) : ¬ (inB x n = true ∧ kd (ix x) = 13) := by
  unfold Jvm.Pilot.@@N@@.cx13 at e
  intro hi
  rw [if_pos hi] at e
  obtain ⟨a', h1, -⟩ := h.1 (ix x) (inB_ix hi.1)
  rw [h1] at e; cases e

theorem iw_X2_counted_X2 : ∀ w ∈ u_ws RX2 TX2 14, w ∈ wsX2_counted := by decide +kernel
theorem iw_X2_counted_X0 : ∀ w ∈ u_ws RX0 TX0 8, w ∈ wsX2_counted := by decide +kernel
set_option maxRecDepth 100000 in
set_option maxHeartbeats 4000000 in
/-- counted -/
theorem c_X2_counted {l : Launch} {D : va_G} {F : Nat → Nat} {Y : Nat → ClassId} {mn fl : Int32} {gv : Int64} {fs fb wo : Int32} {lv sl : Nat → Int32} {ru su : Nat → Option Nat} {L : List Nat} {f : Nat → va_E} {b n sN st : Nat} {kd pt : Nat → Int32} {he : Nat → Int64} {ct fr to rl : Nat → Int32} (hR : xRel n sN kd pt he ct fr to rl ru su L f) (hn40 : n ≤ 40) (x : Int32) : RoI l yX2_counted wsX2_counted (rk 2) D (xty Y) (xw F Y (nI b) mn (nI n) (nI sN) (nI st) fl gv fs fb wo lv sl ru su L f) [.ref (F 0), .int x] (fun r => r = sp_counted n kd ct x) := by
  refine roEnter (cc := cX2_counted) (maxL := 3) (ret := (some .int)) (by decide) rfl (Nat.le_of_ble_eq_true rfl) ?_
  intro p e s m below meth c hx hb hr hml hown hts hlk hP hK hN ls hl
  have hown : s.vm.findClass RX2 = some m.cls := hown
  have hl : lv_has ls 3 [(0, .ref (F 0)), (1, .int x)] := hl
  refine lv_aload_n hx hb dX2_counted_0 rfl (lv_at hl 0 rfl) ?_
  refine lv_iload_n hx hb dX2_counted_1 rfl (lv_at hl 1 rfl) ?_
  refine RoQ.callV (As := [.int x]) (rest := []) (c_X2_countedAt hR hn40 x) ⟨hx, hb, hml, hown, hts⟩ (cwV 1 hts gX2_counted_X2_countedAt rfl rfl rfl (by decide +kernel) ⟨by decide, by decide⟩) hP hK hN 0 2 rfl rfl rfl hl.1 rfl (Nat.le_of_ble_eq_true rfl) dX2_counted_2 ⟨Nat.le_of_ble_eq_true rfl, Nat.le_of_ble_eq_true rfl⟩ (fun r_1 hr_1 => ?_)
  rcases r_1 with _ | ar_1
  · have q_r_1 := hR.nocx13 hr_1.symm
    refine lv_astore_nN (lv' := [(2, .null), (0, .ref (F 0)), (1, .int x)]) hx hb dX2_counted_5 rfl hl (by decide) rfl (fun ls hl => ?_)
    refine lv_aload_nN hx hb dX2_counted_6 rfl (lv_at hl 0 rfl) ?_
    refine lv_ifnullN (tgt := 17) hx hb dX2_counted_7 (by decide) ?_
    refine lv_bipush (v := (-101)) hx hb dX2_counted_17 (by decide) ?_
    exact roI hx hb hr hlk dX2_counted_19 (by rw [sp_counted, if_neg q_r_1])
  · obtain ⟨i_r_1, k_r_1, la_r_1, fa_r_1⟩ := hR.cx13 hr_1.symm
    obtain ⟨p_ar_1, e_ar_1⟩ : ∃ k : Nat, (xw F Y (nI b) mn (nI n) (nI sN) (nI st) fl gv fs fb wo lv sl ru su L f)[k]? = some (ar_1, ruE kd pt he ct (ix x)) := pl_at la_r_1 fa_r_1
    refine lv_astore_n (lv' := [(2, .ref ar_1), (0, .ref (F 0)), (1, .int x)]) hx hb dX2_counted_5 rfl hl (by decide) rfl (fun ls hl => ?_)
    refine lv_aload_n hx hb dX2_counted_6 rfl (lv_at hl 0 rfl) ?_
    refine lv_ifnull hx hb dX2_counted_7 ?_
    refine lv_aload_n hx hb dX2_counted_10 rfl (lv_at hl 0 rfl) ?_
    refine va_getN (D := D) (ci := 0) (v := .int (ct (ix x))) (C := RX0) (T := TX0) (N := 8) (host := RX2) hx hb hts iw_X2_counted_X0 hown hK hP p_ar_1 e_ar_1 rfl 7 (by decide) (nf_104 hN) (fun _ h9 => h9) rfl dX2_counted_11 ?_
    refine lv_goto (tgt := 19) hx hb dX2_counted_14 (by decide) ?_
    exact roI hx hb hr hlk dX2_counted_19 (by rw [sp_counted, if_pos ⟨i_r_1, k_r_1⟩])

theorem iw_X2_count_X2 : ∀ w ∈ u_ws RX2 TX2 14, w ∈ wsX2_count := by decide +kernel
set_option maxRecDepth 100000 in
set_option maxHeartbeats 4000000 in
/-- count -/
theorem c_X2_count {l : Launch} {D : va_G} {F : Nat → Nat} {Y : Nat → ClassId} {mn fl : Int32} {gv : Int64} {fs fb wo : Int32} {lv sl : Nat → Int32} {ru su : Nat → Option Nat} {L : List Nat} {f : Nat → va_E} {b n sN st : Nat} (x : Int32) : RoI l yX2_count wsX2_count (rk 1) D (xty Y) (xw F Y (nI b) mn (nI n) (nI sN) (nI st) fl gv fs fb wo lv sl ru su L f) [.ref (F 0), .int x] (fun r => r = sp_count b n sN st sl x) := by
  refine roEnter (cc := cX2_count) (maxL := 3) (ret := (some .int)) (by decide) rfl (Nat.le_of_ble_eq_true rfl) ?_
  intro p e s m below meth c hx hb hr hml hown hts hlk hP hK hN ls hl
  have hown : s.vm.findClass RX2 = some m.cls := hown
  have hl : lv_has ls 3 [(0, .ref (F 0)), (1, .int x)] := hl
  refine lv_iload_n hx hb dX2_count_0 rfl (lv_at hl 1 rfl) ?_
  by_cases k_1_0 : x = 0
  · refine lv_tableIn (off := 31) (tgt := 32) hx hb dX2_count_1 (by rw [k_1_0]; decide) (by rw [k_1_0]; decide) (by rw [k_1_0]; rfl) (by decide) ?_
    refine lv_aload_n hx hb dX2_count_32 rfl (lv_at hl 0 rfl) ?_
    refine va_get (D := D) (ci := 2) (v := .int (nI b)) (C := RX2) (T := TX2) (N := 14) hx hb hts iw_X2_count_X2 hown hK hP 0 rfl rfl 1 (by decide) (hts (.fieldLink RX2 13 "SluiceRules" "basinCount" "I") (by decide +kernel)) (fun _ h9 => h9) rfl dX2_count_33 ?_
    exact roI hx hb hr hlk dX2_count_36 (by rw [k_1_0]; rfl)
  by_cases k_1_1 : x = 1
  · refine lv_tableIn (off := 36) (tgt := 37) hx hb dX2_count_1 (by rw [k_1_1]; decide) (by rw [k_1_1]; decide) (by rw [k_1_1]; rfl) (by decide) ?_
    refine lv_aload_n hx hb dX2_count_37 rfl (lv_at hl 0 rfl) ?_
    refine va_get (D := D) (ci := 2) (v := .int (nI n)) (C := RX2) (T := TX2) (N := 14) hx hb hts iw_X2_count_X2 hown hK hP 0 rfl rfl 5 (by decide) (hts (.fieldLink RX2 29 "SluiceRules" "ruleCount" "I") (by decide +kernel)) (fun _ h9 => h9) rfl dX2_count_38 ?_
    exact roI hx hb hr hlk dX2_count_41 (by rw [k_1_1]; rfl)
  by_cases k_1_2 : x = 2
  · refine lv_tableIn (off := 41) (tgt := 42) hx hb dX2_count_1 (by rw [k_1_2]; decide) (by rw [k_1_2]; decide) (by rw [k_1_2]; rfl) (by decide) ?_
    refine lv_aload_n hx hb dX2_count_42 rfl (lv_at hl 0 rfl) ?_
    refine va_get (D := D) (ci := 2) (v := .int (nI sN)) (C := RX2) (T := TX2) (N := 14) hx hb hts iw_X2_count_X2 hown hK hP 0 rfl rfl 7 (by decide) (hts (.fieldLink RX2 38 "SluiceRules" "sluiceCount" "I") (by decide +kernel)) (fun _ h9 => h9) rfl dX2_count_43 ?_
    exact roI hx hb hr hlk dX2_count_46 (by rw [k_1_2]; rfl)
  by_cases k_1_3 : x = 3
  · refine lv_tableIn (off := 46) (tgt := 47) hx hb dX2_count_1 (by rw [k_1_3]; decide) (by rw [k_1_3]; decide) (by rw [k_1_3]; rfl) (by decide) ?_
    refine lv_aload_n hx hb dX2_count_47 rfl (lv_at hl 0 rfl) ?_
    refine va_get (D := D) (ci := 2) (v := .int (nI st)) (C := RX2) (T := TX2) (N := 14) hx hb hts iw_X2_count_X2 hown hK hP 0 rfl rfl 8 (by decide) (hts (.fieldLink RX2 41 "SluiceRules" "steps" "I") (by decide +kernel)) (fun _ h9 => h9) rfl dX2_count_48 ?_
    exact roI hx hb hr hlk dX2_count_51 (by rw [k_1_3]; rfl)
  · have z_1 : ¬ x.toInt = 0 ∧ ¬ x.toInt = 1 ∧ ¬ x.toInt = 2 ∧ ¬ x.toInt = 3 := by
      exact ⟨lv_neT k_1_0 (by decide), lv_neT k_1_1 (by decide), lv_neT k_1_2 (by decide), lv_neT k_1_3 (by decide)⟩
    refine lv_tableOut (tgt := 52) hx hb dX2_count_1 (by omega) (by decide) ?_
    refine lv_iload_n hx hb dX2_count_52 rfl (lv_at hl 1 rfl) ?_
    refine lv_bipush (v := 8) hx hb dX2_count_53 (by decide) ?_
    refine lv_isub hx hb dX2_count_55 ?_
    refine lv_istore_n (lv' := [(2, .int (x - 8)), (0, .ref (F 0)), (1, .int x)]) hx hb dX2_count_56 rfl hl (by decide) rfl (fun ls hl => ?_)
    refine lv_aload_n hx hb dX2_count_57 rfl (lv_at hl 1 rfl) ?_
    refine lv_iload_n hx hb dX2_count_58 rfl (lv_at hl 0 rfl) ?_
    refine RoI.callV (As := [.int (x - 8)]) (rest := []) (c_X2_isSlot (x - 8)) ⟨hx, hb, hml, hown, hts⟩ (cwV 1 hts gX2_count_X2_isSlot rfl rfl rfl (by decide +kernel) ⟨by decide, by decide⟩) hP hK hN 0 2 rfl rfl rfl hl.1 rfl (Nat.le_of_ble_eq_true rfl) dX2_count_59 ⟨Nat.le_of_ble_eq_true rfl, Nat.le_of_ble_eq_true rfl⟩ (fun r_1 hr_1 => ?_)
    refine lv_if_eq (tgt := 74) hx hb dX2_count_62 (by decide) (fun c_62 => ?_) (fun c_62 => ?_)
    · have b_62 : inB (x - 8) 8 = false := bI_z (by rw [← hr_1]; exact c_62)
      refine lv_bipush (v := (-101)) hx hb dX2_count_74 (by decide) ?_
      exact roI hx hb hr hlk dX2_count_76 (by rw [sp_count, if_neg (by rw [b_62]; exact Bool.false_ne_true), if_neg k_1_0, if_neg k_1_1, if_neg k_1_2, if_neg k_1_3])
    · have b_62 : inB (x - 8) 8 = true := bI_n (by rw [← hr_1]; exact c_62)
      refine lv_aload_n hx hb dX2_count_65 rfl (lv_at hl 1 rfl) ?_
      refine va_get (D := D) (ci := 2) (v := .ref (F 2)) (C := RX2) (T := TX2) (N := 14) hx hb hts iw_X2_count_X2 hown hK hP 0 rfl rfl 3 (by decide) (hts (.fieldLink RX2 20 "SluiceRules" "slots" "[I") (by decide +kernel)) (fun _ h9 => h9) rfl dX2_count_66 ?_
      refine lv_iload_n hx hb dX2_count_69 rfl (lv_at hl 0 rfl) ?_
      refine va_iald hx hb hK hP 2 1 rfl rfl (inB_vp.mp b_62) dX2_count_70 ?_
      refine lv_goto (tgt := 76) hx hb dX2_count_71 (by decide) ?_
      exact roI hx hb hr hlk dX2_count_76 (by rw [sp_count, if_pos b_62])

theorem iw_X2_told_X2 : ∀ w ∈ u_ws RX2 TX2 14, w ∈ wsX2_told := by decide +kernel
set_option maxRecDepth 100000 in
set_option maxHeartbeats 4000000 in
/-- told -/
theorem c_X2_told {l : Launch} {D : va_G} {F : Nat → Nat} {Y : Nat → ClassId} {mn fl : Int32} {gv : Int64} {fs fb wo : Int32} {lv sl : Nat → Int32} {ru su : Nat → Option Nat} {L : List Nat} {f : Nat → va_E} {b n sN st : Nat} (x : Int32) : RoI l yX2_told wsX2_told (rk 0) D (xty Y) (xw F Y (nI b) mn (nI n) (nI sN) (nI st) fl gv fs fb wo lv sl ru su L f) [.ref (F 0), .int x] (fun r => r = sp_told fs fb wo x) := by
  refine roEnter (cc := cX2_told) (maxL := 2) (ret := (some .int)) (by decide) rfl (Nat.le_of_ble_eq_true rfl) ?_
  intro p e s m below meth c hx hb hr hml hown hts hlk hP hK hN ls hl
  have hown : s.vm.findClass RX2 = some m.cls := hown
  have hl : lv_has ls 2 [(0, .ref (F 0)), (1, .int x)] := hl
  refine lv_iload_n hx hb dX2_told_0 rfl (lv_at hl 1 rfl) ?_
  by_cases k_1_0 : x = 0
  · refine lv_tableIn (off := 27) (tgt := 28) hx hb dX2_told_1 (by rw [k_1_0]; decide) (by rw [k_1_0]; decide) (by rw [k_1_0]; rfl) (by decide) ?_
    refine lv_aload_n hx hb dX2_told_28 rfl (lv_at hl 0 rfl) ?_
    refine va_get (D := D) (ci := 2) (v := .int fs) (C := RX2) (T := TX2) (N := 14) hx hb hts iw_X2_told_X2 hown hK hP 0 rfl rfl 11 (by decide) (hts (.fieldLink RX2 51 "SluiceRules" "failedSluice" "I") (by decide +kernel)) (fun _ h9 => h9) rfl dX2_told_29 ?_
    exact roI hx hb hr hlk dX2_told_32 (by rw [k_1_0]; rfl)
  by_cases k_1_1 : x = 1
  · refine lv_tableIn (off := 32) (tgt := 33) hx hb dX2_told_1 (by rw [k_1_1]; decide) (by rw [k_1_1]; decide) (by rw [k_1_1]; rfl) (by decide) ?_
    refine lv_aload_n hx hb dX2_told_33 rfl (lv_at hl 0 rfl) ?_
    refine va_get (D := D) (ci := 2) (v := .int fb) (C := RX2) (T := TX2) (N := 14) hx hb hts iw_X2_told_X2 hown hK hP 0 rfl rfl 12 (by decide) (hts (.fieldLink RX2 54 "SluiceRules" "failedBy" "I") (by decide +kernel)) (fun _ h9 => h9) rfl dX2_told_34 ?_
    exact roI hx hb hr hlk dX2_told_37 (by rw [k_1_1]; rfl)
  by_cases k_1_2 : x = 2
  · refine lv_tableIn (off := 37) (tgt := 38) hx hb dX2_told_1 (by rw [k_1_2]; decide) (by rw [k_1_2]; decide) (by rw [k_1_2]; rfl) (by decide) ?_
    refine lv_aload_n hx hb dX2_told_38 rfl (lv_at hl 0 rfl) ?_
    refine va_get (D := D) (ci := 2) (v := .int wo) (C := RX2) (T := TX2) (N := 14) hx hb hts iw_X2_told_X2 hown hK hP 0 rfl rfl 13 (by decide) (hts (.fieldLink RX2 57 "SluiceRules" "wentOver" "I") (by decide +kernel)) (fun _ h9 => h9) rfl dX2_told_39 ?_
    exact roI hx hb hr hlk dX2_told_42 (by rw [k_1_2]; rfl)
  · have z_1 : ¬ x.toInt = 0 ∧ ¬ x.toInt = 1 ∧ ¬ x.toInt = 2 := by
      exact ⟨lv_neT k_1_0 (by decide), lv_neT k_1_1 (by decide), lv_neT k_1_2 (by decide)⟩
    refine lv_tableOut (tgt := 43) hx hb dX2_told_1 (by omega) (by decide) ?_
    refine lv_bipush (v := (-101)) hx hb dX2_told_43 (by decide) ?_
    exact roI hx hb hr hlk dX2_told_45 (by rw [sp_told, if_neg k_1_0, if_neg k_1_1, if_neg k_1_2])

theorem iw_X2_given_X2 : ∀ w ∈ u_ws RX2 TX2 14, w ∈ wsX2_given := by decide +kernel
set_option maxRecDepth 100000 in
set_option maxHeartbeats 4000000 in
/-- given -/
theorem c_X2_given {l : Launch} {D : va_G} {F : Nat → Nat} {Y : Nat → ClassId} {mn fl : Int32} {gv : Int64} {fs fb wo : Int32} {lv sl : Nat → Int32} {ru su : Nat → Option Nat} {L : List Nat} {f : Nat → va_E} {b n sN st : Nat} : RoL l yX2_given wsX2_given (rk 0) D (xty Y) (xw F Y (nI b) mn (nI n) (nI sN) (nI st) fl gv fs fb wo lv sl ru su L f) [.ref (F 0)] (fun r => r = gv) := by
  refine roEnter (cc := cX2_given) (maxL := 1) (ret := (some .long)) (by decide) rfl (Nat.le_of_ble_eq_true rfl) ?_
  intro p e s m below meth c hx hb hr hml hown hts hlk hP hK hN ls hl
  have hown : s.vm.findClass RX2 = some m.cls := hown
  have hl : lv_has ls 1 [(0, .ref (F 0))] := hl
  refine lv_aload_n hx hb dX2_given_0 rfl (lv_at hl 0 rfl) ?_
  refine va_get (D := D) (ci := 2) (v := .long gv) (C := RX2) (T := TX2) (N := 14) hx hb hts iw_X2_given_X2 hown hK hP 0 rfl rfl 10 (by decide) (hts (.fieldLink RX2 47 "SluiceRules" "latestGiven" "J") (by decide +kernel)) (fun _ h9 => h9) rfl dX2_given_1 ?_
  exact roL hx hb hr hlk dX2_given_4 rfl

theorem iw_X2_moon_X2 : ∀ w ∈ u_ws RX2 TX2 14, w ∈ wsX2_moon := by decide +kernel
set_option maxRecDepth 100000 in
set_option maxHeartbeats 4000000 in
/-- moon -/
theorem c_X2_moon {l : Launch} {D : va_G} {F : Nat → Nat} {Y : Nat → ClassId} {mn fl : Int32} {gv : Int64} {fs fb wo : Int32} {lv sl : Nat → Int32} {ru su : Nat → Option Nat} {L : List Nat} {f : Nat → va_E} {b n sN st : Nat} (x : Int32) : WrI l yX2_moon wsX2_moon (rk 0) D (xty Y) (xw F Y (nI b) mn (nI n) (nI sN) (nI st) fl gv fs fb wo lv sl ru su L f) [.ref (F 0), .int x] (σ := Int32) (fun u => xw F Y (nI b) u (nI n) (nI sN) (nI st) fl gv fs fb wo lv sl ru su L f) (fun r u => (r, u) = sp_moon mn x) 0 0 := by
  intro sz
  refine wrEnter (cc := cX2_moon) (maxL := 3) (ret := (some .int)) (by decide) rfl (Nat.le_of_ble_eq_true rfl) ?_
  intro p e s m below meth c hx hb hr hml hown hts hlk hP hK hN hsz hD hS hA hin ls hl
  have hown : s.vm.findClass RX2 = some m.cls := hown
  have hl : lv_has ls 3 [(0, .ref (F 0)), (1, .int x)] := hl
  refine lv_iload_n hx hb dX2_moon_0 rfl (lv_at hl 1 rfl) ?_
  refine lv_if_lt (tgt := 10) hx hb dX2_moon_1 (by decide) (fun c_1 => ?_) (fun c_1 => ?_)
  · refine lv_bipush (v := (-102)) hx hb dX2_moon_10 (by decide) ?_
    exact wrI (mn) hx hb hr hlk dX2_moon_12 hP hD hS (by rw [sp_moon, if_neg (by rw [inB_lo c_1]; exact Bool.false_ne_true)])
  · refine lv_iload_n hx hb dX2_moon_4 rfl (lv_at hl 1 rfl) ?_
    refine lv_bipush (v := 12) hx hb dX2_moon_5 (by decide) ?_
    refine lv_icmp_lt (tgt := 13) hx hb dX2_moon_7 (by decide) (fun c_7 => ?_) (fun c_7 => ?_)
    · refine lv_aload_n hx hb dX2_moon_13 rfl (lv_at hl 0 rfl) ?_
      refine va_get (D := D) (ci := 2) (v := .int mn) (C := RX2) (T := TX2) (N := 14) hx hb hts iw_X2_moon_X2 hown hK hP 0 rfl rfl 2 (by decide) (hts (.fieldLink RX2 17 "SluiceRules" "moonNow" "I") (by decide +kernel)) (fun _ h9 => h9) rfl dX2_moon_14 ?_
      refine lv_istore_n (lv' := [(2, .int mn), (0, .ref (F 0)), (1, .int x)]) hx hb dX2_moon_17 rfl hl (by decide) rfl (fun ls hl => ?_)
      refine lv_aload_n hx hb dX2_moon_18 rfl (lv_at hl 1 rfl) ?_
      refine lv_iload_n hx hb dX2_moon_19 rfl (lv_at hl 2 rfl) ?_
      refine va_put (D := D) (ci := 2) (v := .int x) (ty := .int) (C := RX2) (T := TX2) (N := 14) hx hb hts iw_X2_moon_X2 tyX2 tyX2_ok nmX2 hown hK hP hD hS 0 rfl rfl 2 (by decide) (hts (.fieldLink RX2 17 "SluiceRules" "moonNow" "I") (by decide +kernel)) (fun _ h9 => h9) rfl (by decide +kernel) rfl rfl (Nat.le_of_ble_eq_true rfl) dX2_moon_20 (fun H locs hP hD hS => ?_)
      have hP : va_P D vwCl (xw F Y (nI b) x (nI n) (nI sN) (nI st) fl gv fs fb wo lv sl ru su L f) H := hP
      have hD : va_D (va_A (xw F Y (nI b) mn (nI n) (nI sN) (nI st) fl gv fs fb wo lv sl ru su L f) sz) (xw F Y (nI b) x (nI n) (nI sN) (nI st) fl gv fs fb wo lv sl ru su L f) := hD
      refine lv_iload_n hx hb dX2_moon_23 rfl (lv_at hl 0 rfl) ?_
      exact wrI (x) hx hb hr hlk dX2_moon_24 hP hD hS (by rw [sp_moon, if_pos (inB_in (n := 12) (by decide) c_1 (by rw [i_le]; rw [i_lt] at c_7; exact Int.not_le.mpr c_7))])
    · refine lv_bipush (v := (-102)) hx hb dX2_moon_10 (by decide) ?_
      exact wrI (mn) hx hb hr hlk dX2_moon_12 hP hD hS (by rw [sp_moon, if_neg (by rw [inB_hi (n := 12) (by decide) (by rw [i_le]; rw [i_lt] at c_7; exact Int.not_lt.mp c_7)]; exact Bool.false_ne_true)])

theorem iw_X2_fill_X2 : ∀ w ∈ u_ws RX2 TX2 14, w ∈ wsX2_fill := by decide +kernel
set_option maxRecDepth 100000 in
set_option maxHeartbeats 4000000 in
/-- fill -/
theorem c_X2_fill {l : Launch} {D : va_G} {F : Nat → Nat} {Y : Nat → ClassId} {mn fl : Int32} {gv : Int64} {fs fb wo : Int32} {lv sl : Nat → Int32} {ru su : Nat → Option Nat} {L : List Nat} {f : Nat → va_E} {b n sN st : Nat} (hb8 : b ≤ 8) (x v : Int32) : WrI l yX2_fill wsX2_fill (rk 1) D (xty Y) (xw F Y (nI b) mn (nI n) (nI sN) (nI st) fl gv fs fb wo lv sl ru su L f) [.ref (F 0), .int x, .int v] (σ := Nat → Int32) (fun u => xw F Y (nI b) mn (nI n) (nI sN) (nI st) fl gv fs fb wo u sl ru su L f) (fun r u => (r, u) = sp_fill b lv x v) 0 0 := by
  intro sz
  refine wrEnter (cc := cX2_fill) (maxL := 4) (ret := (some .int)) (by decide) rfl (Nat.le_of_ble_eq_true rfl) ?_
  intro p e s m below meth c hx hb hr hml hown hts hlk hP hK hN hsz hD hS hA hin ls hl
  have hown : s.vm.findClass RX2 = some m.cls := hown
  have hl : lv_has ls 4 [(0, .ref (F 0)), (1, .int x), (2, .int v)] := hl
  refine lv_aload_n hx hb dX2_fill_0 rfl (lv_at hl 0 rfl) ?_
  refine lv_iload_n hx hb dX2_fill_1 rfl (lv_at hl 1 rfl) ?_
  refine RoI.callV (As := [.int x]) (rest := []) (c_X2_isBasin hb8 x) ⟨hx, hb, hml, hown, hts⟩ (cwV 1 hts gX2_fill_X2_isBasin rfl rfl rfl (by decide +kernel) ⟨by decide, by decide⟩) hP hK hN 0 2 rfl rfl rfl hl.1 rfl (Nat.le_of_ble_eq_true rfl) dX2_fill_2 ⟨Nat.le_of_ble_eq_true rfl, Nat.le_of_ble_eq_true rfl⟩ (fun r_1 hr_1 => ?_)
  refine lv_if_ne (tgt := 11) hx hb dX2_fill_5 (by decide) (fun c_5 => ?_) (fun c_5 => ?_)
  · have b_5 : inB x b = true := bI_n (by rw [← hr_1]; exact c_5)
    refine lv_iload_n hx hb dX2_fill_11 rfl (lv_at hl 2 rfl) ?_
    refine RoI.callS (As := [.int v]) (rest := []) (c_X2_isLevel v) ⟨hx, hb, hml, hown, hts⟩ (va_cwS 1 hts gX2_fill_X2_isLevel rfl rfl rfl (by decide +kernel) ⟨by decide, by decide⟩) hP hK hN rfl hl.1 rfl (Nat.le_of_ble_eq_true rfl) dX2_fill_12 ⟨Nat.le_of_ble_eq_true rfl, Nat.le_of_ble_eq_true rfl⟩ (fun r_2 hr_2 => ?_)
    refine lv_if_ne (tgt := 21) hx hb dX2_fill_15 (by decide) (fun c_15 => ?_) (fun c_15 => ?_)
    · have b_15 : lvB v = true := bI_n (by rw [← hr_2]; exact c_15)
      refine lv_aload_n hx hb dX2_fill_21 rfl (lv_at hl 0 rfl) ?_
      refine va_get (D := D) (ci := 2) (v := .ref (F 1)) (C := RX2) (T := TX2) (N := 14) hx hb hts iw_X2_fill_X2 hown hK hP 0 rfl rfl 0 (by decide) (hts (.fieldLink RX2 9 "SluiceRules" "levels" "[I") (by decide +kernel)) (fun _ h9 => h9) rfl dX2_fill_22 ?_
      refine lv_iload_n hx hb dX2_fill_25 rfl (lv_at hl 1 rfl) ?_
      refine va_iald hx hb hK hP 1 0 rfl rfl (inB_vp.mp (inB_up hb8 b_5)) dX2_fill_26 ?_
      refine lv_istore_n (lv' := [(3, .int (lv x.toNatClampNeg)), (0, .ref (F 0)), (1, .int x), (2, .int v)]) hx hb dX2_fill_27 rfl hl (by decide) rfl (fun ls hl => ?_)
      refine lv_aload_n hx hb dX2_fill_28 rfl (lv_at hl 1 rfl) ?_
      refine va_get (D := D) (ci := 2) (v := .ref (F 1)) (C := RX2) (T := TX2) (N := 14) hx hb hts iw_X2_fill_X2 hown hK hP 0 rfl rfl 0 (by decide) (hts (.fieldLink RX2 9 "SluiceRules" "levels" "[I") (by decide +kernel)) (fun _ h9 => h9) rfl dX2_fill_29 ?_
      refine lv_iload_n hx hb dX2_fill_32 rfl (lv_at hl 2 rfl) ?_
      refine lv_iload_n hx hb dX2_fill_33 rfl (lv_at hl 3 rfl) ?_
      refine va_iast hx hb hK hP hD hS 1 0 rfl rfl (inB_vp.mp (inB_up hb8 b_5)) dX2_fill_34 (fun H locs hP hD hS => ?_)
      have hP : va_P D vwCl (xw F Y (nI b) mn (nI n) (nI sN) (nI st) fl gv fs fb wo (upd lv x.toNatClampNeg v) sl ru su L f) H := hP
      have hD : va_D (va_A (xw F Y (nI b) mn (nI n) (nI sN) (nI st) fl gv fs fb wo lv sl ru su L f) sz) (xw F Y (nI b) mn (nI n) (nI sN) (nI st) fl gv fs fb wo (upd lv x.toNatClampNeg v) sl ru su L f) := hD
      refine lv_iload_n hx hb dX2_fill_35 rfl (lv_at hl 0 rfl) ?_
      exact wrI (upd lv x.toNatClampNeg v) hx hb hr hlk dX2_fill_36 hP hD hS (by rw [sp_fill, if_pos b_5, if_pos b_15])
    · have b_15 : lvB v = false := bI_z (by rw [← hr_2]; exact c_15)
      refine lv_bipush (v := (-102)) hx hb dX2_fill_18 (by decide) ?_
      exact wrI (lv) hx hb hr hlk dX2_fill_20 hP hD hS (by rw [sp_fill, if_pos b_5, if_neg (by rw [b_15]; exact Bool.false_ne_true)])
  · have b_5 : inB x b = false := bI_z (by rw [← hr_1]; exact c_5)
    refine lv_bipush (v := (-101)) hx hb dX2_fill_8 (by decide) ?_
    exact wrI (lv) hx hb hr hlk dX2_fill_10 hP hD hS (by rw [sp_fill, if_neg (by rw [b_5]; exact Bool.false_ne_true)])

theorem iw_X2_basin_X2 : ∀ w ∈ u_ws RX2 TX2 14, w ∈ wsX2_basin := by decide +kernel
set_option maxRecDepth 100000 in
set_option maxHeartbeats 4000000 in
/-- basin -/
theorem c_X2_basin {l : Launch} {D : va_G} {F : Nat → Nat} {Y : Nat → ClassId} {mn fl : Int32} {gv : Int64} {fs fb wo : Int32} {lv sl : Nat → Int32} {ru su : Nat → Option Nat} {L : List Nat} {f : Nat → va_E} {b n sN st : Nat} (hb8 : b ≤ 8) (x : Int32) : WrI l yX2_basin wsX2_basin (rk 1) D (xty Y) (xw F Y (nI b) mn (nI n) (nI sN) (nI st) fl gv fs fb wo lv sl ru su L f) [.ref (F 0), .int x] (σ := Nat × (Nat → Int32)) (fun u => xw F Y (nI u.1) mn (nI n) (nI sN) (nI st) fl gv fs fb wo u.2 sl ru su L f) (fun r u => (r, u) = sp_basin b lv x) 0 0 := by
  intro sz
  refine wrEnter (cc := cX2_basin) (maxL := 2) (ret := (some .int)) (by decide) rfl (Nat.le_of_ble_eq_true rfl) ?_
  intro p e s m below meth c hx hb hr hml hown hts hlk hP hK hN hsz hD hS hA hin ls hl
  have hown : s.vm.findClass RX2 = some m.cls := hown
  have hl : lv_has ls 2 [(0, .ref (F 0)), (1, .int x)] := hl
  refine lv_iload_n hx hb dX2_basin_0 rfl (lv_at hl 1 rfl) ?_
  refine RoI.callS (As := [.int x]) (rest := []) (c_X2_isLevel x) ⟨hx, hb, hml, hown, hts⟩ (va_cwS 1 hts gX2_basin_X2_isLevel rfl rfl rfl (by decide +kernel) ⟨by decide, by decide⟩) hP hK hN rfl hl.1 rfl (Nat.le_of_ble_eq_true rfl) dX2_basin_1 ⟨Nat.le_of_ble_eq_true rfl, Nat.le_of_ble_eq_true rfl⟩ (fun r_1 hr_1 => ?_)
  refine lv_if_ne (tgt := 10) hx hb dX2_basin_4 (by decide) (fun c_4 => ?_) (fun c_4 => ?_)
  · have b_4 : lvB x = true := bI_n (by rw [← hr_1]; exact c_4)
    refine lv_aload_n hx hb dX2_basin_10 rfl (lv_at hl 0 rfl) ?_
    refine va_get (D := D) (ci := 2) (v := .int (nI b)) (C := RX2) (T := TX2) (N := 14) hx hb hts iw_X2_basin_X2 hown hK hP 0 rfl rfl 1 (by decide) (hts (.fieldLink RX2 13 "SluiceRules" "basinCount" "I") (by decide +kernel)) (fun _ h9 => h9) rfl dX2_basin_11 ?_
    refine lv_aload_n hx hb dX2_basin_14 rfl (lv_at hl 0 rfl) ?_
    refine va_get (D := D) (ci := 2) (v := .ref (F 1)) (C := RX2) (T := TX2) (N := 14) hx hb hts iw_X2_basin_X2 hown hK hP 0 rfl rfl 0 (by decide) (hts (.fieldLink RX2 9 "SluiceRules" "levels" "[I") (by decide +kernel)) (fun _ h9 => h9) rfl dX2_basin_15 ?_
    refine va_alen (v := 8) hx hb hK hP 1 0 rfl rfl rfl dX2_basin_18 ?_
    refine lv_icmp_lt (tgt := 25) hx hb dX2_basin_19 (by decide) (fun c_19 => ?_) (fun c_19 => ?_)
    · have b_l8 : b < 8 := by rw [i_lt, nI_toInt (by omega)] at c_19; have : (8 : Int32).toInt = 8 := rfl; omega
      have b_n8 : ¬ b = 8 := by omega
      refine lv_aload_n hx hb dX2_basin_25 rfl (lv_at hl 0 rfl) ?_
      refine va_get (D := D) (ci := 2) (v := .ref (F 1)) (C := RX2) (T := TX2) (N := 14) hx hb hts iw_X2_basin_X2 hown hK hP 0 rfl rfl 0 (by decide) (hts (.fieldLink RX2 9 "SluiceRules" "levels" "[I") (by decide +kernel)) (fun _ h9 => h9) rfl dX2_basin_26 ?_
      refine lv_aload_n hx hb dX2_basin_29 rfl (lv_at hl 0 rfl) ?_
      refine va_get (D := D) (ci := 2) (v := .int (nI b)) (C := RX2) (T := TX2) (N := 14) hx hb hts iw_X2_basin_X2 hown hK hP 0 rfl rfl 1 (by decide) (hts (.fieldLink RX2 13 "SluiceRules" "basinCount" "I") (by decide +kernel)) (fun _ h9 => h9) rfl dX2_basin_30 ?_
      refine lv_iload_n hx hb dX2_basin_33 rfl (lv_at hl 1 rfl) ?_
      refine my_iast (j := b) hx hb hK hP hD hS 1 0 rfl rfl (rfl) (b_l8) (by decide) dX2_basin_34 (fun H locs hP hD hS => ?_)
      have hP : va_P D vwCl (xw F Y (nI b) mn (nI n) (nI sN) (nI st) fl gv fs fb wo (upd lv b x) sl ru su L f) H := hP
      have hD : va_D (va_A (xw F Y (nI b) mn (nI n) (nI sN) (nI st) fl gv fs fb wo lv sl ru su L f) sz) (xw F Y (nI b) mn (nI n) (nI sN) (nI st) fl gv fs fb wo (upd lv b x) sl ru su L f) := hD
      refine lv_aload_n hx hb dX2_basin_35 rfl (lv_at hl 0 rfl) ?_
      refine lv_dup hx hb dX2_basin_36 rfl ?_
      refine va_get (D := D) (ci := 2) (v := .int (nI b)) (C := RX2) (T := TX2) (N := 14) hx hb hts iw_X2_basin_X2 hown hK hP 0 rfl rfl 1 (by decide) (hts (.fieldLink RX2 13 "SluiceRules" "basinCount" "I") (by decide +kernel)) (fun _ h9 => h9) rfl dX2_basin_37 ?_
      refine lv_iconst (v := 1) hx hb dX2_basin_40 (by decide) ?_
      refine lv_iadd hx hb dX2_basin_41 ?_
      refine va_put (D := D) (ci := 2) (v := .int ((nI b) + 1)) (ty := .int) (C := RX2) (T := TX2) (N := 14) hx hb hts iw_X2_basin_X2 tyX2 tyX2_ok nmX2 hown hK hP hD hS 0 rfl rfl 1 (by decide) (hts (.fieldLink RX2 13 "SluiceRules" "basinCount" "I") (by decide +kernel)) (fun _ h9 => h9) rfl (by decide +kernel) rfl rfl (Nat.le_of_ble_eq_true rfl) dX2_basin_42 (fun H locs hP hD hS => ?_)
      have hP : va_P D vwCl (xw F Y ((nI b) + 1) mn (nI n) (nI sN) (nI st) fl gv fs fb wo (upd lv b x) sl ru su L f) H := hP
      have hD : va_D (va_A (xw F Y (nI b) mn (nI n) (nI sN) (nI st) fl gv fs fb wo lv sl ru su L f) sz) (xw F Y ((nI b) + 1) mn (nI n) (nI sN) (nI st) fl gv fs fb wo (upd lv b x) sl ru su L f) := hD
      refine lv_aload_n hx hb dX2_basin_45 rfl (lv_at hl 0 rfl) ?_
      refine va_get (D := D) (ci := 2) (v := .int ((nI b) + 1)) (C := RX2) (T := TX2) (N := 14) hx hb hts iw_X2_basin_X2 hown hK hP 0 rfl rfl 1 (by decide) (hts (.fieldLink RX2 13 "SluiceRules" "basinCount" "I") (by decide +kernel)) (fun _ h9 => h9) rfl dX2_basin_46 ?_
      refine lv_iconst (v := 1) hx hb dX2_basin_49 (by decide) ?_
      refine lv_isub hx hb dX2_basin_50 ?_
      rw [nI_1] at hP hD
      exact wrI ((b + 1, upd lv b x)) hx hb hr hlk dX2_basin_51 hP hD hS (by rw [sp_basin, if_pos b_4, if_neg b_n8, nI_1, nI_pred])
    · have b_e8 : b = 8 := by rw [i_lt, nI_toInt (by omega)] at c_19; have : (8 : Int32).toInt = 8 := rfl; omega
      refine lv_bipush (v := (-103)) hx hb dX2_basin_22 (by decide) ?_
      exact wrI ((b, lv)) hx hb hr hlk dX2_basin_24 hP hD hS (by rw [sp_basin, if_pos b_4, if_pos b_e8])
  · have b_4 : lvB x = false := bI_z (by rw [← hr_1]; exact c_4)
    refine lv_bipush (v := (-102)) hx hb dX2_basin_7 (by decide) ?_
    exact wrI ((b, lv)) hx hb hr hlk dX2_basin_9 hP hD hS (by rw [sp_basin, if_neg (by rw [b_4]; exact Bool.false_ne_true)])

theorem iw_X2_put_X2 : ∀ w ∈ u_ws RX2 TX2 14, w ∈ wsX2_put := by decide +kernel
set_option maxRecDepth 100000 in
set_option maxHeartbeats 4000000 in
/-- put -/
theorem c_X2_put {l : Launch} {D : va_G} {F : Nat → Nat} {Y : Nat → ClassId} {mn fl : Int32} {gv : Int64} {fs fb wo : Int32} {lv sl : Nat → Int32} {ru su : Nat → Option Nat} {L : List Nat} {f : Nat → va_E} {b n sN st : Nat} {kd pt : Nat → Int32} {he : Nat → Int64} {ct fr to rl : Nat → Int32} (hR : xRel n sN kd pt he ct fr to rl ru su L f) (hn40 : n ≤ 40) (s_ r_ : Int32) : WrI l yX2_put wsX2_put (rk 2) D (xty Y) (xw F Y (nI b) mn (nI n) (nI sN) (nI st) fl gv fs fb wo lv sl ru su L f) [.ref (F 0), .int s_, .int r_] (σ := Nat → Int32) (fun u => xw F Y (nI b) mn (nI n) (nI sN) (nI st) fl gv fs fb wo lv u ru su L f) (fun r u => (r, u) = sp_put n sl s_ r_) 0 0 := by
  intro sz
  refine wrEnter (cc := cX2_put) (maxL := 4) (ret := (some .int)) (by decide) rfl (Nat.le_of_ble_eq_true rfl) ?_
  intro p e s m below meth c hx hb hr hml hown hts hlk hP hK hN hsz hD hS hA hin ls hl
  have hown : s.vm.findClass RX2 = some m.cls := hown
  have hl : lv_has ls 4 [(0, .ref (F 0)), (1, .int s_), (2, .int r_)] := hl
  refine lv_aload_n hx hb dX2_put_0 rfl (lv_at hl 0 rfl) ?_
  refine lv_iload_n hx hb dX2_put_1 rfl (lv_at hl 1 rfl) ?_
  refine RoI.callV (As := [.int s_]) (rest := []) (c_X2_isSlot s_) ⟨hx, hb, hml, hown, hts⟩ (cwV 1 hts gX2_put_X2_isSlot rfl rfl rfl (by decide +kernel) ⟨by decide, by decide⟩) hP hK hN 0 2 rfl rfl rfl hl.1 rfl (Nat.le_of_ble_eq_true rfl) dX2_put_2 ⟨Nat.le_of_ble_eq_true rfl, Nat.le_of_ble_eq_true rfl⟩ (fun r_1 hr_1 => ?_)
  refine lv_if_eq (tgt := 16) hx hb dX2_put_5 (by decide) (fun c_5 => ?_) (fun c_5 => ?_)
  · have b_5 : inB s_ 8 = false := bI_z (by rw [← hr_1]; exact c_5)
    refine lv_bipush (v := (-101)) hx hb dX2_put_16 (by decide) ?_
    exact wrI (sl) hx hb hr hlk dX2_put_18 hP hD hS (by rw [sp_put, if_neg (fun z => by rw [b_5] at z; exact absurd z.1 Bool.false_ne_true)])
  · have b_5 : inB s_ 8 = true := bI_n (by rw [← hr_1]; exact c_5)
    refine lv_aload_n hx hb dX2_put_8 rfl (lv_at hl 0 rfl) ?_
    refine lv_iload_n hx hb dX2_put_9 rfl (lv_at hl 2 rfl) ?_
    refine RoI.callV (As := [.int r_]) (rest := []) (c_X2_isRuleOrNone hR hn40 r_) ⟨hx, hb, hml, hown, hts⟩ (cwV 1 hts gX2_put_X2_isRuleOrNone rfl rfl rfl (by decide +kernel) ⟨by decide, by decide⟩) hP hK hN 0 2 rfl rfl rfl hl.1 rfl (Nat.le_of_ble_eq_true rfl) dX2_put_10 ⟨Nat.le_of_ble_eq_true rfl, Nat.le_of_ble_eq_true rfl⟩ (fun r_2 hr_2 => ?_)
    refine lv_if_ne (tgt := 19) hx hb dX2_put_13 (by decide) (fun c_13 => ?_) (fun c_13 => ?_)
    · have b_13 : ptB r_ n = true := bI_n (by rw [← hr_2]; exact c_13)
      refine lv_aload_n hx hb dX2_put_19 rfl (lv_at hl 0 rfl) ?_
      refine va_get (D := D) (ci := 2) (v := .ref (F 2)) (C := RX2) (T := TX2) (N := 14) hx hb hts iw_X2_put_X2 hown hK hP 0 rfl rfl 3 (by decide) (hts (.fieldLink RX2 20 "SluiceRules" "slots" "[I") (by decide +kernel)) (fun _ h9 => h9) rfl dX2_put_20 ?_
      refine lv_iload_n hx hb dX2_put_23 rfl (lv_at hl 1 rfl) ?_
      refine va_iald hx hb hK hP 2 1 rfl rfl (inB_vp.mp b_5) dX2_put_24 ?_
      refine lv_istore_n (lv' := [(3, .int (sl s_.toNatClampNeg)), (0, .ref (F 0)), (1, .int s_), (2, .int r_)]) hx hb dX2_put_25 rfl hl (by decide) rfl (fun ls hl => ?_)
      refine lv_aload_n hx hb dX2_put_26 rfl (lv_at hl 1 rfl) ?_
      refine va_get (D := D) (ci := 2) (v := .ref (F 2)) (C := RX2) (T := TX2) (N := 14) hx hb hts iw_X2_put_X2 hown hK hP 0 rfl rfl 3 (by decide) (hts (.fieldLink RX2 20 "SluiceRules" "slots" "[I") (by decide +kernel)) (fun _ h9 => h9) rfl dX2_put_27 ?_
      refine lv_iload_n hx hb dX2_put_30 rfl (lv_at hl 2 rfl) ?_
      refine lv_iload_n hx hb dX2_put_31 rfl (lv_at hl 3 rfl) ?_
      refine va_iast hx hb hK hP hD hS 2 1 rfl rfl (inB_vp.mp b_5) dX2_put_32 (fun H locs hP hD hS => ?_)
      have hP : va_P D vwCl (xw F Y (nI b) mn (nI n) (nI sN) (nI st) fl gv fs fb wo lv (upd sl s_.toNatClampNeg r_) ru su L f) H := hP
      have hD : va_D (va_A (xw F Y (nI b) mn (nI n) (nI sN) (nI st) fl gv fs fb wo lv sl ru su L f) sz) (xw F Y (nI b) mn (nI n) (nI sN) (nI st) fl gv fs fb wo lv (upd sl s_.toNatClampNeg r_) ru su L f) := hD
      refine lv_iload_n hx hb dX2_put_33 rfl (lv_at hl 0 rfl) ?_
      exact wrI (upd sl s_.toNatClampNeg r_) hx hb hr hlk dX2_put_34 hP hD hS (by rw [sp_put, if_pos ⟨b_5, b_13⟩])
    · have b_13 : ptB r_ n = false := bI_z (by rw [← hr_2]; exact c_13)
      refine lv_bipush (v := (-101)) hx hb dX2_put_16 (by decide) ?_
      exact wrI (sl) hx hb hr hlk dX2_put_18 hP hD hS (by rw [sp_put, if_neg (fun z => by rw [b_13] at z; exact absurd z.2 Bool.false_ne_true)])
end
section
/-! the class: an asking -/
def fdv (x y : Int64) : Int64 := if ¬ (x ^^^ y) < 0 then x / y else if x / y * y = x then x / y else x / y - 1
def fmd (x y : Int64) : Int64 := if ¬ (x ^^^ y) < 0 then x - x / y * y else if x - x / y * y = 0 then x - x / y * y else x - x / y * y + y
theorem xor_neg {x y : Int64} (hy : 0 ≤ y.toInt) : (x ^^^ y) < 0 ↔ x < 0 := by
  have e : ∀ z : Int64, z < 0 ↔ z.toBitVec.msb = true := fun z => by
    rw [l_lt, BitVec.msb_eq_toInt]
    simp only [decide_eq_true_eq]
    exact Iff.rfl
  rw [e, e, Int64.toBitVec_xor, BitVec.msb_xor]
  have h : y.toBitVec.msb = false := by
    rw [BitVec.msb_eq_toInt]
    have h2 : ¬ y.toBitVec.toInt < 0 := Int.not_lt.mpr hy
    simpa using h2
  rw [h]; simp
theorem rem_sign {x y : Int64} (hy : 0 < y.toInt) : (x - x / y * y < 0) ↔ x < 0 ∧ ¬ x - x / y * y = 0 := by
  have h1 : (x - x / y * y).toInt = x.toInt.tmod y.toInt := Jvm.Kit.i64_rem x y
  have z : ∀ w : Int64, w = 0 ↔ w.toInt = 0 := fun w => ⟨fun h => by rw [h]; rfl, fun h => Int64.toInt_inj.mp (by rw [h]; rfl)⟩
  rw [l_lt, l_lt, z, h1, Int64.toInt_zero]
  rcases Int.lt_or_le x.toInt 0 with q | q
  · have : x.toInt.tmod y.toInt ≤ 0 := by
      have h2 := Int.neg_tmod (a := x.toInt) (b := y.toInt)
      have h3 := Int.tmod_nonneg (a := -x.toInt) y.toInt (by omega)
      omega
    omega
  · have := Int.tmod_nonneg (a := x.toInt) y.toInt q
    omega
theorem fdv_sd {x y : Int64} (hy : 0 < y.toInt) : fdv x y = sd x y := by
  unfold fdv sd
  have h := rem_sign (x := x) hy
  have h2 : x / y * y = x ↔ x - x / y * y = 0 := by
    constructor
    · intro q; rw [q]; exact Int64.sub_self _
    · intro q; rw [Int64.sub_eq_iff_eq_add, Int64.zero_add] at q; exact q.symm
  have hxn := xor_neg (x := x) (y := y) (by omega)
  by_cases a : x < 0
  · rw [if_neg (fun z => z (hxn.mpr a))]
    by_cases b : x - x / y * y = 0
    · rw [if_pos (h2.mpr b), if_neg (fun q => (h.mp q).2 b)]
    · rw [if_neg (fun q => b (h2.mp q)), if_pos (h.mpr ⟨a, b⟩)]
  · rw [if_pos (fun z => a (hxn.mp z)), if_neg (fun q => a (h.mp q).1)]
theorem fmd_12 (x : Int64) : fmd x 12 = td12 x := by
  have hy : 0 < (12 : Int64).toInt := by decide
  unfold fmd td12
  have h := rem_sign (x := x) hy
  have hxn := xor_neg (x := x) (y := 12) (by decide)
  by_cases a : x < 0
  · rw [if_neg (fun z => z (hxn.mpr a))]
    by_cases b : x - x / 12 * 12 = 0
    · rw [if_pos b, if_neg (fun q => (h.mp q).2 b)]
    · rw [if_neg b, if_pos (h.mpr ⟨a, b⟩)]
  · rw [if_pos (fun z => a (hxn.mp z)), if_neg (fun q => a (h.mp q).1)]
theorem td12_in (x : Int64) : ∃ j : Nat, j < 12 ∧ td12 x = lN j := by
  have h1 : (x - x / 12 * 12).toInt = x.toInt.tmod 12 := Jvm.Kit.i64_rem x 12
  have hb1 : -12 < x.toInt.tmod 12 := Int.lt_tmod_of_pos _ (by decide)
  have hb2 : x.toInt.tmod 12 < 12 := Int.tmod_lt_of_pos _ (by decide)
  have key : 0 ≤ (td12 x).toInt ∧ (td12 x).toInt < 12 := by
    unfold td12
    by_cases a : x - x / 12 * 12 < 0
    · rw [if_pos a]
      rw [l_lt, h1, Int64.toInt_zero] at a
      have e : (x - x / 12 * 12 + 12).toInt = x.toInt.tmod 12 + 12 := by
        rw [Jvm.Kit.i64_add, h1]
        · rfl
        · rw [h1]; show -2 ^ 63 ≤ x.toInt.tmod 12 + 12; omega
        · rw [h1]; show x.toInt.tmod 12 + 12 < 2 ^ 63; omega
      omega
    · rw [if_neg a]
      rw [l_lt, h1, Int64.toInt_zero] at a
      omega
  refine ⟨(td12 x).toInt.toNat, by omega, Int64.toInt_inj.mp ?_⟩
  rw [lN_toInt (by omega)]; omega
theorem td_abs (x : Int64) : (6 : Int64) - (if 0 < td12 x - 6 then td12 x - 6 else -(td12 x - 6)) = if td12 x < 6 then td12 x else 12 - td12 x := by
  obtain ⟨j, hj, e⟩ := td12_in x
  rw [e]
  have : ∀ j : Nat, j < 12 → (6 : Int64) - (if 0 < lN j - 6 then lN j - 6 else -(lN j - 6)) = if lN j < 6 then lN j else 12 - lN j := by decide
  exact this j hj

set_option maxRecDepth 100000 in
set_option maxHeartbeats 4000000 in
/-- Math.floorDiv -/
theorem c_J9_floorDiv_f86c9 {l : Launch} {D : va_G} {tys : List (ClassId × FieldType)} {w : va_W} (x y : Int64) (hy : ¬ y = 0) : RoL l yJ9_floorDiv_f86c9 wsJ9_floorDiv_f86c9 (rk 0) D (tys) (w) [.long x, .long y] (fun r => r = fdv x y) := by
  refine roEnterF (cc := cJ9_floorDiv_f86c9) (maxL := 6) (ret := (some .long)) (by decide +kernel) rfl (Nat.le_of_ble_eq_true rfl) ?_
  intro p e s m below meth c hx hb hr hml hown hts hlk hP hK hN ls hl
  have hown : s.vm.findClass RJ9 = some m.cls := hown
  have hl : lv_has ls 6 [(0, .long x), (2, .long y)] := hl
  refine lv_lload_n hx hb dJ9_floorDiv_f86c9_0 rfl (lv_at hl 0 rfl) ?_
  refine lv_lload_n hx hb dJ9_floorDiv_f86c9_1 rfl (lv_at hl 1 rfl) ?_
  refine lv_ldiv hx hb dJ9_floorDiv_f86c9_2 (hy) ?_
  refine lv_lstore (lv' := [(4, .long (x / y)), (0, .long x), (2, .long y)]) hx hb dJ9_floorDiv_f86c9_3 hl (by decide) rfl (fun ls hl => ?_)
  refine lv_lload_n hx hb dJ9_floorDiv_f86c9_5 rfl (lv_at hl 1 rfl) ?_
  refine lv_lload_n hx hb dJ9_floorDiv_f86c9_6 rfl (lv_at hl 2 rfl) ?_
  refine lv_lxor hx hb dJ9_floorDiv_f86c9_7 ?_
  refine lv_lconst (v := 0) hx hb dJ9_floorDiv_f86c9_8 (by decide) ?_
  refine W.lcmp hx hb dJ9_floorDiv_f86c9_9 ?_
  refine lv_if_ge (tgt := 27) hx hb dJ9_floorDiv_f86c9_10 (by decide) (fun c_10 => ?_) (fun c_10 => ?_)
  · have c_10 := lc_gep c_10
    refine lv_lload hx hb dJ9_floorDiv_f86c9_27 (lv_at hl 0 rfl) ?_
    exact roL hx hb hr hlk dJ9_floorDiv_f86c9_29 (by rw [fdv, if_pos c_10])
  · have c_10 := lc_gen c_10
    refine lv_lload hx hb dJ9_floorDiv_f86c9_13 (lv_at hl 0 rfl) ?_
    refine lv_lload_n hx hb dJ9_floorDiv_f86c9_15 rfl (lv_at hl 2 rfl) ?_
    refine lv_lmul hx hb dJ9_floorDiv_f86c9_16 ?_
    refine lv_lload_n hx hb dJ9_floorDiv_f86c9_17 rfl (lv_at hl 1 rfl) ?_
    refine W.lcmp hx hb dJ9_floorDiv_f86c9_18 ?_
    refine lv_if_eq (tgt := 27) hx hb dJ9_floorDiv_f86c9_19 (by decide) (fun c_19 => ?_) (fun c_19 => ?_)
    · have c_19 := lc_eqp c_19
      refine lv_lload hx hb dJ9_floorDiv_f86c9_27 (lv_at hl 0 rfl) ?_
      exact roL hx hb hr hlk dJ9_floorDiv_f86c9_29 (by rw [fdv, if_neg (fun z => z c_10), if_pos c_19])
    · have c_19 := lc_eqn c_19
      refine lv_lload hx hb dJ9_floorDiv_f86c9_22 (lv_at hl 0 rfl) ?_
      refine lv_lconst (v := 1) hx hb dJ9_floorDiv_f86c9_24 (by decide) ?_
      refine lv_lsub hx hb dJ9_floorDiv_f86c9_25 ?_
      exact roL hx hb hr hlk dJ9_floorDiv_f86c9_26 (by rw [fdv, if_neg (fun z => z c_10), if_neg c_19])

set_option maxRecDepth 100000 in
set_option maxHeartbeats 4000000 in
/-- Math.floorMod -/
theorem c_J9_floorMod_f86c9 {l : Launch} {D : va_G} {tys : List (ClassId × FieldType)} {w : va_W} (x y : Int64) (hy : ¬ y = 0) : RoL l yJ9_floorMod_f86c9 wsJ9_floorMod_f86c9 (rk 0) D (tys) (w) [.long x, .long y] (fun r => r = fmd x y) := by
  refine roEnterF (cc := cJ9_floorMod_f86c9) (maxL := 6) (ret := (some .long)) (by decide +kernel) rfl (Nat.le_of_ble_eq_true rfl) ?_
  intro p e s m below meth c hx hb hr hml hown hts hlk hP hK hN ls hl
  have hown : s.vm.findClass RJ9 = some m.cls := hown
  have hl : lv_has ls 6 [(0, .long x), (2, .long y)] := hl
  refine lv_lload_n hx hb dJ9_floorMod_f86c9_0 rfl (lv_at hl 0 rfl) ?_
  refine lv_lload_n hx hb dJ9_floorMod_f86c9_1 rfl (lv_at hl 1 rfl) ?_
  refine lv_lrem hx hb dJ9_floorMod_f86c9_2 (hy) ?_
  refine lv_lstore (lv' := [(4, .long (x - x / y * y)), (0, .long x), (2, .long y)]) hx hb dJ9_floorMod_f86c9_3 hl (by decide) rfl (fun ls hl => ?_)
  refine lv_lload_n hx hb dJ9_floorMod_f86c9_5 rfl (lv_at hl 1 rfl) ?_
  refine lv_lload_n hx hb dJ9_floorMod_f86c9_6 rfl (lv_at hl 2 rfl) ?_
  refine lv_lxor hx hb dJ9_floorMod_f86c9_7 ?_
  refine lv_lconst (v := 0) hx hb dJ9_floorMod_f86c9_8 (by decide) ?_
  refine W.lcmp hx hb dJ9_floorMod_f86c9_9 ?_
  refine lv_if_ge (tgt := 25) hx hb dJ9_floorMod_f86c9_10 (by decide) (fun c_10 => ?_) (fun c_10 => ?_)
  · have c_10 := lc_gep c_10
    refine lv_lload hx hb dJ9_floorMod_f86c9_25 (lv_at hl 0 rfl) ?_
    exact roL hx hb hr hlk dJ9_floorMod_f86c9_27 (by rw [fmd, if_pos c_10])
  · have c_10 := lc_gen c_10
    refine lv_lload hx hb dJ9_floorMod_f86c9_13 (lv_at hl 0 rfl) ?_
    refine lv_lconst (v := 0) hx hb dJ9_floorMod_f86c9_15 (by decide) ?_
    refine W.lcmp hx hb dJ9_floorMod_f86c9_16 ?_
    refine lv_if_eq (tgt := 25) hx hb dJ9_floorMod_f86c9_17 (by decide) (fun c_17 => ?_) (fun c_17 => ?_)
    · have c_17 := lc_eqp c_17
      refine lv_lload hx hb dJ9_floorMod_f86c9_25 (lv_at hl 0 rfl) ?_
      exact roL hx hb hr hlk dJ9_floorMod_f86c9_27 (by rw [fmd, if_neg (fun z => z c_10), if_pos c_17])
    · have c_17 := lc_eqn c_17
      refine lv_lload hx hb dJ9_floorMod_f86c9_20 (lv_at hl 0 rfl) ?_
      refine lv_lload_n hx hb dJ9_floorMod_f86c9_22 rfl (lv_at hl 2 rfl) ?_
      refine lv_ladd hx hb dJ9_floorMod_f86c9_23 ?_
      exact roL hx hb hr hlk dJ9_floorMod_f86c9_24 (by rw [fmd, if_neg (fun z => z c_10), if_neg c_17])

theorem iw_X2_tide_X2 : ∀ w ∈ u_ws RX2 TX2 14, w ∈ wsX2_tide := by decide +kernel
set_option maxRecDepth 100000 in
set_option maxHeartbeats 4000000 in
/-- tide -/
theorem c_X2_tide {l : Launch} {D : va_G} {F : Nat → Nat} {Y : Nat → ClassId} {mn fl : Int32} {gv : Int64} {fs fb wo : Int32} {lv sl : Nat → Int32} {ru su : Nat → Option Nat} {L : List Nat} {f : Nat → va_E} {b n sN st : Nat} (h : Int32) : RoL l yX2_tide wsX2_tide (rk 1) D (xty Y) (xw F Y (nI b) mn (nI n) (nI sN) (nI st) fl gv fs fb wo lv sl ru su L f) [.ref (F 0), .int h] (fun r => r = td mn h) := by
  refine roEnter (cc := cX2_tide) (maxL := 4) (ret := (some .long)) (by decide) rfl (Nat.le_of_ble_eq_true rfl) ?_
  intro p e s m below meth c hx hb hr hml hown hts hlk hP hK hN ls hl
  have hown : s.vm.findClass RX2 = some m.cls := hown
  have hl : lv_has ls 4 [(0, .ref (F 0)), (1, .int h)] := hl
  refine lv_iload_n hx hb dX2_tide_0 rfl (lv_at hl 1 rfl) ?_
  refine lv_i2l hx hb dX2_tide_1 rfl ?_
  refine lv_aload_n hx hb dX2_tide_2 rfl (lv_at hl 0 rfl) ?_
  refine va_get (D := D) (ci := 2) (v := .int mn) (C := RX2) (T := TX2) (N := 14) hx hb hts iw_X2_tide_X2 hown hK hP 0 rfl rfl 2 (by decide) (hts (.fieldLink RX2 17 "SluiceRules" "moonNow" "I") (by decide +kernel)) (fun _ h9 => h9) rfl dX2_tide_3 ?_
  refine lv_i2l hx hb dX2_tide_6 rfl ?_
  refine lv_lmul hx hb dX2_tide_7 ?_
  refine lv_ldc2 (v := 12) hx hb hown (hts (.constantLong RX2 161 (12)) (by decide +kernel)) dX2_tide_8 ?_
  refine RoL.callS (As := [.long (h.toInt64 * mn.toInt64), .long 12]) (rest := []) (c_J9_floorMod_f86c9 (h.toInt64 * mn.toInt64) 12 (by decide)) ⟨hx, hb, hml, hown, hts⟩ (va_cwS 2 hts gX2_tide_J9_floorMod_f86c9 rfl rfl rfl (by decide +kernel) ⟨by decide, by decide⟩) hP hK hN rfl hl.1 rfl (Nat.le_of_ble_eq_true rfl) dX2_tide_11 ⟨Nat.le_of_ble_eq_true rfl, Nat.le_of_ble_eq_true rfl⟩ (fun r_1 hr_1 => ?_)
  refine lv_lstore_n (lv' := [(2, .long r_1), (0, .ref (F 0)), (1, .int h)]) hx hb dX2_tide_14 rfl hl (by decide) rfl (fun ls hl => ?_)
  refine lv_ldc2 (v := 6) hx hb hown (hts (.constantLong RX2 166 (6)) (by decide +kernel)) dX2_tide_15 ?_
  refine lv_lload_n hx hb dX2_tide_18 rfl (lv_at hl 0 rfl) ?_
  refine lv_ldc2 (v := 6) hx hb hown (hts (.constantLong RX2 166 (6)) (by decide +kernel)) dX2_tide_19 ?_
  refine lv_lsub hx hb dX2_tide_22 ?_
  refine va_mabs_long hx hb (hml.trans hl.1.symm) hown (hts (.methodLink RX2 168 Lib.MathLoose.abs_long.x) (by decide +kernel)) (hts (.static Lib.MathLoose.abs_long.x) (by decide +kernel)) (hts (.initialized "java/lang/Math") (by decide +kernel)) (hts (.code Lib.MathLoose.abs_long.x Lib.MathLoose.abs_long.code 2 (some .long)) (by decide +kernel)) (Nat.le_of_ble_eq_true rfl) (Nat.le_of_ble_eq_true rfl) (Nat.zero_le _) (Nat.zero_le _) dX2_tide_23 ?_
  refine lv_lsub hx hb dX2_tide_26 ?_
  exact roL hx hb hr hlk dX2_tide_27 (by rw [hr_1, fmd_12]; exact td_abs _)

set_option maxRecDepth 100000 in
set_option maxHeartbeats 4000000 in
/-- scaled -/
theorem c_X2_scaled {l : Launch} {D : va_G} {tys : List (ClassId × FieldType)} {w : va_W} (v : Int64) (t c_ : Int32) (hc : 1 ≤ c_.toInt) : RoL l yX2_scaled wsX2_scaled (rk 1) D (tys) (w) [.long v, .int t, .int c_] (fun r => r = sd (v * t.toInt64) c_.toInt64) := by
  refine roEnter (cc := cX2_scaled) (maxL := 4) (ret := (some .long)) (by decide) rfl (Nat.le_of_ble_eq_true rfl) ?_
  intro p e s m below meth c hx hb hr hml hown hts hlk hP hK hN ls hl
  have hown : s.vm.findClass RX2 = some m.cls := hown
  have hl : lv_has ls 4 [(0, .long v), (2, .int t), (3, .int c_)] := hl
  have hy0 : 0 < c_.toInt64.toInt := by rw [Int32.toInt_toInt64]; omega
  have hy : ¬ c_.toInt64 = 0 := fun z => by rw [z] at hy0; exact absurd hy0 (by decide)
  refine lv_iload_n hx hb dX2_scaled_0 rfl (lv_at hl 2 rfl) ?_
  refine lv_iconst (v := 1) hx hb dX2_scaled_1 (by decide) ?_
  refine lv_icmp_ge (tgt := 9) hx hb dX2_scaled_2 (by decide) (fun c_2 => ?_) (fun c_2 => ?_)
  · refine lv_lload_n hx hb dX2_scaled_9 rfl (lv_at hl 0 rfl) ?_
    refine lv_iload_n hx hb dX2_scaled_10 rfl (lv_at hl 1 rfl) ?_
    refine lv_i2l hx hb dX2_scaled_11 rfl ?_
    refine lv_lmul hx hb dX2_scaled_12 ?_
    refine lv_iload_n hx hb dX2_scaled_13 rfl (lv_at hl 2 rfl) ?_
    refine lv_i2l hx hb dX2_scaled_14 rfl ?_
    refine RoL.callS (As := [.long (v * t.toInt64), .long c_.toInt64]) (rest := []) (c_J9_floorDiv_f86c9 (v * t.toInt64) c_.toInt64 hy) ⟨hx, hb, hml, hown, hts⟩ (va_cwS 2 hts gX2_scaled_J9_floorDiv_f86c9 rfl rfl rfl (by decide +kernel) ⟨by decide, by decide⟩) hP hK hN rfl hl.1 rfl (Nat.le_of_ble_eq_true rfl) dX2_scaled_15 ⟨Nat.le_of_ble_eq_true rfl, Nat.le_of_ble_eq_true rfl⟩ (fun r_1 hr_1 => ?_)
    exact roL hx hb hr hlk dX2_scaled_18 (by rw [hr_1]; exact fdv_sd hy0)
  · exact absurd (by rw [ge_iff_le, i_le]; exact hc : c_ ≥ 1) c_2

theorem iw_X2_banded_X0 : ∀ w ∈ u_ws RX0 TX0 8, w ∈ wsX2_banded := by decide +kernel
set_option maxRecDepth 100000 in
set_option maxHeartbeats 4000000 in
/-- banded -/
theorem c_X2_banded {l : Launch} {D : va_G} {F : Nat → Nat} {Y : Nat → ClassId} {mn fl : Int32} {gv : Int64} {fs fb wo : Int32} {lv sl : Nat → Int32} {ru su : Nat → Option Nat} {L : List Nat} {f : Nat → va_E} {b n sN st : Nat} {kd pt : Nat → Int32} {he : Nat → Int64} {ct : Nat → Int32} {a k : Nat} (hL : a ∈ L) (hf : f a = ruE kd pt he ct k) (v : Int64) : RoL l yX2_banded wsX2_banded (rk 0) D (xty Y) (xw F Y (nI b) mn (nI n) (nI sN) (nI st) fl gv fs fb wo lv sl ru su L f) [.long v, .ref a] (fun r => r = bd v (pt (5 * k + 1)) (pt (5 * k + 2)) (pt (5 * k + 3)) (pt (5 * k + 4))) := by
  refine roEnter (cc := cX2_banded) (maxL := 3) (ret := (some .long)) (by decide) rfl (Nat.le_of_ble_eq_true rfl) ?_
  intro p e s m below meth c hx hb hr hml hown hts hlk hP hK hN ls hl
  have hown : s.vm.findClass RX2 = some m.cls := hown
  have hl : lv_has ls 3 [(0, .long v), (2, .ref a)] := hl
  obtain ⟨p_a, e_a⟩ : ∃ q : Nat, (xw F Y (nI b) mn (nI n) (nI sN) (nI st) fl gv fs fb wo lv sl ru su L f)[q]? = some (a, ruE kd pt he ct k) := pl_at hL hf
  refine lv_lload_n hx hb dX2_banded_0 rfl (lv_at hl 0 rfl) ?_
  refine lv_aload_n hx hb dX2_banded_1 rfl (lv_at hl 1 rfl) ?_
  refine va_getN (D := D) (ci := 0) (v := .int (pt (5 * k + 3))) (C := RX0) (T := TX0) (N := 8) (host := RX2) hx hb hts iw_X2_banded_X0 hown hK hP p_a e_a rfl 4 (by decide) (nf_175 hN) (fun _ h9 => h9) rfl dX2_banded_2 ?_
  refine lv_i2l hx hb dX2_banded_5 rfl ?_
  refine W.lcmp hx hb dX2_banded_6 ?_
  refine lv_if_ge (tgt := 16) hx hb dX2_banded_7 (by decide) (fun c_7 => ?_) (fun c_7 => ?_)
  · have c_7 := lc_gep c_7
    refine lv_lload_n hx hb dX2_banded_16 rfl (lv_at hl 0 rfl) ?_
    refine lv_aload_n hx hb dX2_banded_17 rfl (lv_at hl 1 rfl) ?_
    refine va_getN (D := D) (ci := 0) (v := .int (pt (5 * k + 4))) (C := RX0) (T := TX0) (N := 8) (host := RX2) hx hb hts iw_X2_banded_X0 hown hK hP p_a e_a rfl 5 (by decide) (nf_178 hN) (fun _ h9 => h9) rfl dX2_banded_18 ?_
    refine lv_i2l hx hb dX2_banded_21 rfl ?_
    refine W.lcmp hx hb dX2_banded_22 ?_
    refine lv_if_le (tgt := 34) hx hb dX2_banded_23 (by decide) (fun c_23 => ?_) (fun c_23 => ?_)
    · have c_23 := lc_lep c_23
      refine lv_lload_n hx hb dX2_banded_34 rfl (lv_at hl 0 rfl) ?_
      exact roL hx hb hr hlk dX2_banded_35 (by rw [bd, if_neg c_7, if_neg c_23])
    · have c_23 := lc_len c_23
      refine lv_aload_n hx hb dX2_banded_26 rfl (lv_at hl 1 rfl) ?_
      refine va_getN (D := D) (ci := 0) (v := .int (pt (5 * k + 2))) (C := RX0) (T := TX0) (N := 8) (host := RX2) hx hb hts iw_X2_banded_X0 hown hK hP p_a e_a rfl 3 (by decide) (nf_132 hN) (fun _ h9 => h9) rfl dX2_banded_27 ?_
      refine lv_i2l hx hb dX2_banded_30 rfl ?_
      refine lv_goto (tgt := 35) hx hb dX2_banded_31 (by decide) ?_
      exact roL hx hb hr hlk dX2_banded_35 (by rw [bd, if_neg c_7, if_pos c_23])
  · have c_7 := lc_gen c_7
    refine lv_aload_n hx hb dX2_banded_10 rfl (lv_at hl 1 rfl) ?_
    refine va_getN (D := D) (ci := 0) (v := .int (pt (5 * k + 1))) (C := RX0) (T := TX0) (N := 8) (host := RX2) hx hb hts iw_X2_banded_X0 hown hK hP p_a e_a rfl 2 (by decide) (nf_120 hN) (fun _ h9 => h9) rfl dX2_banded_11 ?_
    refine lv_i2l hx hb dX2_banded_14 rfl ?_
    exact roL hx hb hr hlk dX2_banded_15 (by rw [bd, if_pos c_7])

theorem wf_1 {b n : Nat} {kd pt : Nat → Int32} {k : Nat} (h : wfR b n kd pt k) (e : kd k = 1) : inB (pt (5 * k)) b = true := by
  have h := h.1; rw [e] at h; exact h
theorem wf_14 {b n : Nat} {kd pt : Nat → Int32} {k : Nat} (h : wfR b n kd pt k) (e : kd k = 14) : inB (pt (5 * k)) n = true ∧ kd (ix (pt (5 * k))) = 13 := by
  have h := h.1; rw [e] at h; exact of_decide_eq_true h
theorem wf_15 {b n : Nat} {kd pt : Nat → Int32} {k : Nat} (h : wfR b n kd pt k) (e : kd k = 15) : inB (pt (5 * k)) 8 = true := by
  have h := h.1; rw [e] at h; exact h
theorem wf_16 {b n : Nat} {kd pt : Nat → Int32} {k : Nat} (h : wfR b n kd pt k) (e : kd k = 16) : inB (pt (5 * k)) 8 = true ∧ inB (pt (5 * k + 1)) 8 = true ∧ pt (5 * k) ≤ pt (5 * k + 1) := by
  obtain ⟨h1, h2⟩ := h; rw [e] at h1 h2
  have h1 : (inB (pt (5 * k)) 8 && inB (pt (5 * k + 1)) 8) = true := h1
  have h2 : decide (pt (5 * k) ≤ pt (5 * k + 1)) = true := h2
  rw [Bool.and_eq_true] at h1
  exact ⟨h1.1, h1.2, of_decide_eq_true h2⟩
theorem wf_8 {b n : Nat} {kd pt : Nat → Int32} {k : Nat} (h : wfR b n kd pt k) (e : kd k = 8) : 1 ≤ (pt (5 * k + 2)).toInt ∧ (pt (5 * k + 2)).toInt ≤ 1000 := by
  have h := h.2; rw [e] at h; exact of_decide_eq_true h

theorem iw_X2_valueOfLeaf_X2 : ∀ w ∈ u_ws RX2 TX2 14, w ∈ wsX2_valueOfLeaf := by decide +kernel
theorem iw_X2_valueOfLeaf_X0 : ∀ w ∈ u_ws RX0 TX0 8, w ∈ wsX2_valueOfLeaf := by decide +kernel
set_option maxRecDepth 100000 in
set_option maxHeartbeats 4000000 in
/-- valueOfLeaf -/
theorem c_X2_valueOfLeaf {l : Launch} {D : va_G} {F : Nat → Nat} {Y : Nat → ClassId} {mn fl : Int32} {gv : Int64} {fs fb wo : Int32} {lv sl : Nat → Int32} {ru su : Nat → Option Nat} {L : List Nat} {f : Nat → va_E} {b n sN st : Nat} {kd pt : Nat → Int32} {he : Nat → Int64} {ct fr to rl : Nat → Int32} (hR : xRel n sN kd pt he ct fr to rl ru su L f) (hn40 : n ≤ 40) (hb8 : b ≤ 8) {a k : Nat} (hL : a ∈ L) (hf : f a = ruE kd pt he ct k) (hw : wfR b n kd pt k) (h : Int32) : RoL l yX2_valueOfLeaf wsX2_valueOfLeaf (rk 3) D (xty Y) (xw F Y (nI b) mn (nI n) (nI sN) (nI st) fl gv fs fb wo lv sl ru su L f) [.ref (F 0), .ref a, .int h] (fun r => r = lf (n, mn, lv, sl, kd, pt, he) k h ct) := by
  refine roEnter (cc := cX2_valueOfLeaf) (maxL := 3) (ret := (some .long)) (by decide) rfl (Nat.le_of_ble_eq_true rfl) ?_
  intro p e s m below meth c hx hb hr hml hown hts hlk hP hK hN ls hl
  have hown : s.vm.findClass RX2 = some m.cls := hown
  have hl : lv_has ls 3 [(0, .ref (F 0)), (1, .ref a), (2, .int h)] := hl
  obtain ⟨p_a, e_a⟩ : ∃ q : Nat, (xw F Y (nI b) mn (nI n) (nI sN) (nI st) fl gv fs fb wo lv sl ru su L f)[q]? = some (a, ruE kd pt he ct k) := pl_at hL hf
  refine lv_aload_n hx hb dX2_valueOfLeaf_0 rfl (lv_at hl 1 rfl) ?_
  refine va_getN (D := D) (ci := 0) (v := .int (kd (k))) (C := RX0) (T := TX0) (N := 8) (host := RX2) hx hb hts iw_X2_valueOfLeaf_X0 hown hK hP p_a e_a rfl 0 (by decide) (nf_108 hN) (fun _ h9 => h9) rfl dX2_valueOfLeaf_1 ?_
  by_cases k_4_0 : (kd (k)) = 0
  · refine lv_tableIn (off := 76) (tgt := 80) hx hb dX2_valueOfLeaf_4 (by rw [k_4_0]; decide) (by rw [k_4_0]; decide) (by rw [k_4_0]; rfl) (by decide) ?_
    refine lv_aload_n hx hb dX2_valueOfLeaf_80 rfl (lv_at hl 1 rfl) ?_
    refine va_getN (D := D) (ci := 0) (v := .int (pt (5 * k))) (C := RX0) (T := TX0) (N := 8) (host := RX2) hx hb hts iw_X2_valueOfLeaf_X0 hown hK hP p_a e_a rfl 1 (by decide) (nf_117 hN) (fun _ h9 => h9) rfl dX2_valueOfLeaf_81 ?_
    refine lv_i2l hx hb dX2_valueOfLeaf_84 rfl ?_
    exact roL hx hb hr hlk dX2_valueOfLeaf_85 (by simp [lf, k_4_0])
  by_cases k_4_1 : (kd (k)) = 1
  · refine lv_tableIn (off := 82) (tgt := 86) hx hb dX2_valueOfLeaf_4 (by rw [k_4_1]; decide) (by rw [k_4_1]; decide) (by rw [k_4_1]; rfl) (by decide) ?_
    refine lv_aload_n hx hb dX2_valueOfLeaf_86 rfl (lv_at hl 0 rfl) ?_
    refine lv_aload_n hx hb dX2_valueOfLeaf_87 rfl (lv_at hl 1 rfl) ?_
    refine va_getN (D := D) (ci := 0) (v := .int (pt (5 * k))) (C := RX0) (T := TX0) (N := 8) (host := RX2) hx hb hts iw_X2_valueOfLeaf_X0 hown hK hP p_a e_a rfl 1 (by decide) (nf_117 hN) (fun _ h9 => h9) rfl dX2_valueOfLeaf_88 ?_
    refine RoI.callV (As := [.int (pt (5 * k))]) (rest := []) (c_X2_level hb8 (pt (5 * k))) ⟨hx, hb, hml, hown, hts⟩ (cwV 1 hts gX2_valueOfLeaf_X2_level rfl rfl rfl (by decide +kernel) ⟨by decide, by decide⟩) hP hK hN 0 2 rfl rfl rfl hl.1 rfl (Nat.le_of_ble_eq_true rfl) dX2_valueOfLeaf_91 ⟨Nat.le_of_ble_eq_true rfl, Nat.le_of_ble_eq_true rfl⟩ (fun r_1 hr_1 => ?_)
    refine lv_i2l hx hb dX2_valueOfLeaf_94 rfl ?_
    exact roL hx hb hr hlk dX2_valueOfLeaf_95 (by rw [hr_1]; simp [lf, sp_level, wf_1 hw k_4_1, k_4_1])
  by_cases k_4_2 : (kd (k)) = 2
  · refine lv_tableIn (off := 92) (tgt := 96) hx hb dX2_valueOfLeaf_4 (by rw [k_4_2]; decide) (by rw [k_4_2]; decide) (by rw [k_4_2]; rfl) (by decide) ?_
    refine lv_aload_n hx hb dX2_valueOfLeaf_96 rfl (lv_at hl 0 rfl) ?_
    refine lv_iload_n hx hb dX2_valueOfLeaf_97 rfl (lv_at hl 2 rfl) ?_
    refine RoL.callV (As := [.int h]) (rest := []) (c_X2_tide h) ⟨hx, hb, hml, hown, hts⟩ (cwV 1 hts gX2_valueOfLeaf_X2_tide rfl rfl rfl (by decide +kernel) ⟨by decide, by decide⟩) hP hK hN 0 2 rfl rfl rfl hl.1 rfl (Nat.le_of_ble_eq_true rfl) dX2_valueOfLeaf_98 ⟨Nat.le_of_ble_eq_true rfl, Nat.le_of_ble_eq_true rfl⟩ (fun r_2 hr_2 => ?_)
    exact roL hx hb hr hlk dX2_valueOfLeaf_101 (by rw [hr_2]; simp [lf, k_4_2])
  by_cases k_4_3 : (kd (k)) = 3
  · refine lv_tableIn (off := 98) (tgt := 102) hx hb dX2_valueOfLeaf_4 (by rw [k_4_3]; decide) (by rw [k_4_3]; decide) (by rw [k_4_3]; rfl) (by decide) ?_
    refine lv_iload_n hx hb dX2_valueOfLeaf_102 rfl (lv_at hl 2 rfl) ?_
    refine lv_i2l hx hb dX2_valueOfLeaf_103 rfl ?_
    exact roL hx hb hr hlk dX2_valueOfLeaf_104 (by simp [lf, k_4_3])
  by_cases k_4_12 : (kd (k)) = 12
  · refine lv_tableIn (off := 101) (tgt := 105) hx hb dX2_valueOfLeaf_4 (by rw [k_4_12]; decide) (by rw [k_4_12]; decide) (by rw [k_4_12]; rfl) (by decide) ?_
    refine lv_aload_n hx hb dX2_valueOfLeaf_105 rfl (lv_at hl 1 rfl) ?_
    refine va_getN (D := D) (ci := 0) (v := .long (he (k))) (C := RX0) (T := TX0) (N := 8) (host := RX2) hx hb hts iw_X2_valueOfLeaf_X0 hown hK hP p_a e_a rfl 6 (by decide) (nf_82 hN) (fun _ h9 => h9) rfl dX2_valueOfLeaf_106 ?_
    exact roL hx hb hr hlk dX2_valueOfLeaf_109 (by simp [lf, k_4_12])
  by_cases k_4_14 : (kd (k)) = 14
  · refine lv_tableIn (off := 106) (tgt := 110) hx hb dX2_valueOfLeaf_4 (by rw [k_4_14]; decide) (by rw [k_4_14]; decide) (by rw [k_4_14]; rfl) (by decide) ?_
    refine lv_aload_n hx hb dX2_valueOfLeaf_110 rfl (lv_at hl 0 rfl) ?_
    refine lv_aload_n hx hb dX2_valueOfLeaf_111 rfl (lv_at hl 1 rfl) ?_
    refine va_getN (D := D) (ci := 0) (v := .int (pt (5 * k))) (C := RX0) (T := TX0) (N := 8) (host := RX2) hx hb hts iw_X2_valueOfLeaf_X0 hown hK hP p_a e_a rfl 1 (by decide) (nf_117 hN) (fun _ h9 => h9) rfl dX2_valueOfLeaf_112 ?_
    refine RoI.callV (As := [.int (pt (5 * k))]) (rest := []) (c_X2_counted hR hn40 (pt (5 * k))) ⟨hx, hb, hml, hown, hts⟩ (cwV 1 hts gX2_valueOfLeaf_X2_counted rfl rfl rfl (by decide +kernel) ⟨by decide, by decide⟩) hP hK hN 0 2 rfl rfl rfl hl.1 rfl (Nat.le_of_ble_eq_true rfl) dX2_valueOfLeaf_115 ⟨Nat.le_of_ble_eq_true rfl, Nat.le_of_ble_eq_true rfl⟩ (fun r_3 hr_3 => ?_)
    refine lv_i2l hx hb dX2_valueOfLeaf_118 rfl ?_
    exact roL hx hb hr hlk dX2_valueOfLeaf_119 (by rw [hr_3]; simp [lf, sp_counted, wf_14 hw k_4_14, k_4_14])
  · have z_4 : ¬ (kd (k)).toInt = 0 ∧ ¬ (kd (k)).toInt = 1 ∧ ¬ (kd (k)).toInt = 2 ∧ ¬ (kd (k)).toInt = 3 ∧ ¬ (kd (k)).toInt = 12 ∧ ¬ (kd (k)).toInt = 14 := by
      exact ⟨lv_neT k_4_0 (by decide), lv_neT k_4_1 (by decide), lv_neT k_4_2 (by decide), lv_neT k_4_3 (by decide), lv_neT k_4_12 (by decide), lv_neT k_4_14 (by decide)⟩
    by_cases zo_4 : (kd (k)).toInt < 0 ∨ 14 < (kd (k)).toInt
    · refine lv_tableOut (tgt := 120) hx hb dX2_valueOfLeaf_4 zo_4 (by decide) ?_
      refine lv_lconst (v := 0) hx hb dX2_valueOfLeaf_120 (by decide) ?_
      exact roL hx hb hr hlk dX2_valueOfLeaf_121 (by simp [lf, k_4_0, k_4_1, k_4_2, k_4_3, k_4_12, k_4_14])
    · have zi_4 : (kd (k)).toInt = 4 ∨ (kd (k)).toInt = 5 ∨ (kd (k)).toInt = 6 ∨ (kd (k)).toInt = 7 ∨ (kd (k)).toInt = 8 ∨ (kd (k)).toInt = 9 ∨ (kd (k)).toInt = 10 ∨ (kd (k)).toInt = 11 ∨ (kd (k)).toInt = 13 := by omega
      refine lv_tableIn (off := 116) (tgt := 120) hx hb dX2_valueOfLeaf_4 (by omega) (by omega) (by rcases zi_4 with z | z | z | z | z | z | z | z | z <;> rw [z] <;> rfl) (by decide) ?_
      refine lv_lconst (v := 0) hx hb dX2_valueOfLeaf_120 (by decide) ?_
      exact roL hx hb hr hlk dX2_valueOfLeaf_121 (by simp [lf, k_4_0, k_4_1, k_4_2, k_4_3, k_4_12, k_4_14])

theorem iw_X2_stepTo_X2 : ∀ w ∈ u_ws RX2 TX2 14, w ∈ wsX2_stepTo := by decide +kernel
set_option maxRecDepth 100000 in
set_option maxHeartbeats 4000000 in
/-- stepTo -/
theorem c_X2_stepTo {l : Launch} {D : va_G} {F : Nat → Nat} {Y : Nat → ClassId} {mn fl : Int32} {gv : Int64} {fs fb wo : Int32} {lv sl : Nat → Int32} {ru su : Nat → Option Nat} {L : List Nat} {f : Nat → va_E} {b n sN st : Nat} {kd pt : Nat → Int32} {he : Nat → Int64} {ct fr to rl : Nat → Int32} (hR : xRel n sN kd pt he ct fr to rl ru su L f) (hn40 : n ≤ 40) (hst : st ≤ 120) (x : Int32) : WrQ l yX2_stepTo wsX2_stepTo (rk 1) D (xty Y) (xw F Y (nI b) mn (nI n) (nI sN) (nI st) fl gv fs fb wo lv sl ru su L f) [.ref (F 0), .int x] (σ := Nat × Int32) (fun u => xw F Y (nI b) mn (nI n) (nI sN) (nI u.1) u.2 gv fs fb wo lv sl ru su L f) (fun r u => (u.1, u.2, r.isSome) = stS n x st fl ∧ ∀ a, r = some a → rx n ru x = some a) 0 0 := by
  intro sz
  refine wrEnter (cc := cX2_stepTo) (maxL := 3) (ret := (some (.object "SluiceRules$Rule"))) (by decide) rfl (Nat.le_of_ble_eq_true rfl) ?_
  intro p e s m below meth c hx hb hr hml hown hts hlk hP hK hN hsz hD hS hA hin ls hl
  have hown : s.vm.findClass RX2 = some m.cls := hown
  have hl : lv_has ls 3 [(0, .ref (F 0)), (1, .int x)] := hl
  refine lv_aload_n hx hb dX2_stepTo_0 rfl (lv_at hl 0 rfl) ?_
  refine va_get (D := D) (ci := 2) (v := .int fl) (C := RX2) (T := TX2) (N := 14) hx hb hts iw_X2_stepTo_X2 hown hK hP 0 rfl rfl 9 (by decide) (hts (.fieldLink RX2 44 "SluiceRules" "failure" "I") (by decide +kernel)) (fun _ h9 => h9) rfl dX2_stepTo_1 ?_
  refine lv_if_eq (tgt := 9) hx hb dX2_stepTo_4 (by decide) (fun c_4 => ?_) (fun c_4 => ?_)
  · refine lv_aload_n hx hb dX2_stepTo_9 rfl (lv_at hl 0 rfl) ?_
    refine lv_iload_n hx hb dX2_stepTo_10 rfl (lv_at hl 1 rfl) ?_
    refine RoQ.callV (As := [.int x]) (rest := []) (c_X2_ruleAt hR hn40 x) ⟨hx, hb, hml, hown, hts⟩ (cwV 1 hts gX2_stepTo_X2_ruleAt rfl rfl rfl (by decide +kernel) ⟨by decide, by decide⟩) hP hK hN 0 2 rfl rfl rfl hl.1 rfl (Nat.le_of_ble_eq_true rfl) dX2_stepTo_11 ⟨Nat.le_of_ble_eq_true rfl, Nat.le_of_ble_eq_true rfl⟩ (fun r_1 hr_1 => ?_)
    rcases r_1 with _ | ar_1
    · have q_r_1 := hR.norule hr_1.symm
      refine lv_astore_nN (lv' := [(2, .null), (0, .ref (F 0)), (1, .int x)]) hx hb dX2_stepTo_14 rfl hl (by decide) rfl (fun ls hl => ?_)
      refine lv_aload_nN hx hb dX2_stepTo_15 rfl (lv_at hl 0 rfl) ?_
      refine lv_ifnonnullN hx hb dX2_stepTo_16 ?_
      refine lv_aload_n hx hb dX2_stepTo_19 rfl (lv_at hl 1 rfl) ?_
      refine lv_sipush (v := (-201)) hx hb dX2_stepTo_20 (by decide) ?_
      refine va_put (D := D) (ci := 2) (v := .int (-201)) (ty := .int) (C := RX2) (T := TX2) (N := 14) hx hb hts iw_X2_stepTo_X2 tyX2 tyX2_ok nmX2 hown hK hP hD hS 0 rfl rfl 9 (by decide) (hts (.fieldLink RX2 44 "SluiceRules" "failure" "I") (by decide +kernel)) (fun _ h9 => h9) rfl (by decide +kernel) rfl rfl (Nat.le_of_ble_eq_true rfl) dX2_stepTo_23 (fun H locs hP hD hS => ?_)
      have hP : va_P D vwCl (xw F Y (nI b) mn (nI n) (nI sN) (nI st) (-201) gv fs fb wo lv sl ru su L f) H := hP
      have hD : va_D (va_A (xw F Y (nI b) mn (nI n) (nI sN) (nI st) fl gv fs fb wo lv sl ru su L f) sz) (xw F Y (nI b) mn (nI n) (nI sN) (nI st) (-201) gv fs fb wo lv sl ru su L f) := hD
      refine lv_null hx hb dX2_stepTo_26 ?_
      exact wrQ (r := none) (st, -201) rfl hx hb hr hlk dX2_stepTo_27 hP hD hS ⟨by rw [stS, if_pos c_4, if_neg (by rw [q_r_1]; exact Bool.false_ne_true)]; rfl, fun _ z => nomatch z⟩
    · have q_r_1 := (hR.rule hr_1.symm).1
      refine lv_astore_n (lv' := [(2, .ref ar_1), (0, .ref (F 0)), (1, .int x)]) hx hb dX2_stepTo_14 rfl hl (by decide) rfl (fun ls hl => ?_)
      refine lv_aload_n hx hb dX2_stepTo_15 rfl (lv_at hl 0 rfl) ?_
      refine lv_ifnonnull (tgt := 28) hx hb dX2_stepTo_16 (by decide) ?_
      refine lv_aload_n hx hb dX2_stepTo_28 rfl (lv_at hl 1 rfl) ?_
      refine va_get (D := D) (ci := 2) (v := .int (nI st)) (C := RX2) (T := TX2) (N := 14) hx hb hts iw_X2_stepTo_X2 hown hK hP 0 rfl rfl 8 (by decide) (hts (.fieldLink RX2 41 "SluiceRules" "steps" "I") (by decide +kernel)) (fun _ h9 => h9) rfl dX2_stepTo_29 ?_
      refine lv_bipush (v := 120) hx hb dX2_stepTo_32 (by decide) ?_
      refine lv_icmp_lt (tgt := 46) hx hb dX2_stepTo_34 (by decide) (fun c_34 => ?_) (fun c_34 => ?_)
      · refine lv_aload_n hx hb dX2_stepTo_46 rfl (lv_at hl 1 rfl) ?_
        refine lv_dup hx hb dX2_stepTo_47 rfl ?_
        refine va_get (D := D) (ci := 2) (v := .int (nI st)) (C := RX2) (T := TX2) (N := 14) hx hb hts iw_X2_stepTo_X2 hown hK hP 0 rfl rfl 8 (by decide) (hts (.fieldLink RX2 41 "SluiceRules" "steps" "I") (by decide +kernel)) (fun _ h9 => h9) rfl dX2_stepTo_48 ?_
        refine lv_iconst (v := 1) hx hb dX2_stepTo_51 (by decide) ?_
        refine lv_iadd hx hb dX2_stepTo_52 ?_
        refine va_put (D := D) (ci := 2) (v := .int ((nI st) + 1)) (ty := .int) (C := RX2) (T := TX2) (N := 14) hx hb hts iw_X2_stepTo_X2 tyX2 tyX2_ok nmX2 hown hK hP hD hS 0 rfl rfl 8 (by decide) (hts (.fieldLink RX2 41 "SluiceRules" "steps" "I") (by decide +kernel)) (fun _ h9 => h9) rfl (by decide +kernel) rfl rfl (Nat.le_of_ble_eq_true rfl) dX2_stepTo_53 (fun H locs hP hD hS => ?_)
        have hP : va_P D vwCl (xw F Y (nI b) mn (nI n) (nI sN) ((nI st) + 1) fl gv fs fb wo lv sl ru su L f) H := hP
        have hD : va_D (va_A (xw F Y (nI b) mn (nI n) (nI sN) (nI st) fl gv fs fb wo lv sl ru su L f) sz) (xw F Y (nI b) mn (nI n) (nI sN) ((nI st) + 1) fl gv fs fb wo lv sl ru su L f) := hD
        refine lv_aload_n hx hb dX2_stepTo_56 rfl (lv_at hl 0 rfl) ?_
        rw [nI_1] at hP hD
        exact wrQ (r := some ar_1) (st + 1, fl) rfl hx hb hr hlk dX2_stepTo_57 hP hD hS ⟨by rw [stS, if_pos c_4, if_pos q_r_1, if_pos (by rw [i_lt, nI_toInt (by omega)] at c_34; have : (120 : Int32).toInt = 120 := rfl; omega)]; rfl, fun _ z => by rw [← z, hr_1]⟩
      · refine lv_aload_n hx hb dX2_stepTo_37 rfl (lv_at hl 1 rfl) ?_
        refine lv_sipush (v := (-202)) hx hb dX2_stepTo_38 (by decide) ?_
        refine va_put (D := D) (ci := 2) (v := .int (-202)) (ty := .int) (C := RX2) (T := TX2) (N := 14) hx hb hts iw_X2_stepTo_X2 tyX2 tyX2_ok nmX2 hown hK hP hD hS 0 rfl rfl 9 (by decide) (hts (.fieldLink RX2 44 "SluiceRules" "failure" "I") (by decide +kernel)) (fun _ h9 => h9) rfl (by decide +kernel) rfl rfl (Nat.le_of_ble_eq_true rfl) dX2_stepTo_41 (fun H locs hP hD hS => ?_)
        have hP : va_P D vwCl (xw F Y (nI b) mn (nI n) (nI sN) (nI st) (-202) gv fs fb wo lv sl ru su L f) H := hP
        have hD : va_D (va_A (xw F Y (nI b) mn (nI n) (nI sN) (nI st) fl gv fs fb wo lv sl ru su L f) sz) (xw F Y (nI b) mn (nI n) (nI sN) (nI st) (-202) gv fs fb wo lv sl ru su L f) := hD
        refine lv_null hx hb dX2_stepTo_44 ?_
        exact wrQ (r := none) (st, -202) rfl hx hb hr hlk dX2_stepTo_45 hP hD hS ⟨by rw [stS, if_pos c_4, if_pos q_r_1, if_neg (by rw [i_lt, nI_toInt (by omega)] at c_34; have : (120 : Int32).toInt = 120 := rfl; omega)]; rfl, fun _ z => nomatch z⟩
  · refine lv_null hx hb dX2_stepTo_7 ?_
    exact wrQ (r := none) (st, fl) rfl hx hb hr hlk dX2_stepTo_8 hP hD hS ⟨by rw [stS, if_neg c_4]; rfl, fun _ z => nomatch z⟩

set_option maxRecDepth 100000 in
set_option maxHeartbeats 4000000 in
/-- hasKnownParts -/
theorem c_X2_hasKnownParts {l : Launch} {D : va_G} {F : Nat → Nat} {Y : Nat → ClassId} {mn fl : Int32} {gv : Int64} {fs fb wo : Int32} {lv sl : Nat → Int32} {ru su : Nat → Option Nat} {L : List Nat} {f : Nat → va_E} {b n sN st : Nat} {kd pt : Nat → Int32} {he : Nat → Int64} {ct fr to rl : Nat → Int32} (hR : xRel n sN kd pt he ct fr to rl ru su L f) (hn40 : n ≤ 40) (hb8 : b ≤ 8) (k_ a_ b_ c_ : Int32) : RoI l yX2_hasKnownParts wsX2_hasKnownParts (rk 2) D (xty Y) (xw F Y (nI b) mn (nI n) (nI sN) (nI st) fl gv fs fb wo lv sl ru su L f) [.ref (F 0), .int k_, .int a_, .int b_, .int c_] (fun r => r = bI (knB b n kd k_ a_ b_ c_)) := by
  refine roEnter (cc := cX2_hasKnownParts) (maxL := 5) (ret := (some .boolean)) (by decide) rfl (Nat.le_of_ble_eq_true rfl) ?_
  intro p e s m below meth c hx hb hr hml hown hts hlk hP hK hN ls hl
  have hown : s.vm.findClass RX2 = some m.cls := hown
  have hl : lv_has ls 5 [(0, .ref (F 0)), (1, .int k_), (2, .int a_), (3, .int b_), (4, .int c_)] := hl
  refine lv_iload_n hx hb dX2_hasKnownParts_0 rfl (lv_at hl 1 rfl) ?_
  by_cases k_1_0 : k_ = 0 ∨ k_ = 2 ∨ k_ = 3
  · refine lv_tableIn (off := 83) (tgt := 84) hx hb dX2_hasKnownParts_1 (by rcases k_1_0 with z | z | z <;> rw [z] <;> decide) (by rcases k_1_0 with z | z | z <;> rw [z] <;> decide) (by rcases k_1_0 with z | z | z <;> rw [z] <;> rfl) (by decide) ?_
    refine lv_iconst (v := 1) hx hb dX2_hasKnownParts_84 (by decide) ?_
    exact roZ hx hb hr hlk dX2_hasKnownParts_85 (nar1) (by rcases k_1_0 with z | z | z <;> rw [z] <;> simp [knB, bI])
  by_cases k_1_1 : k_ = 1
  · refine lv_tableIn (off := 85) (tgt := 86) hx hb dX2_hasKnownParts_1 (by rw [k_1_1]; decide) (by rw [k_1_1]; decide) (by rw [k_1_1]; rfl) (by decide) ?_
    refine lv_aload_n hx hb dX2_hasKnownParts_86 rfl (lv_at hl 0 rfl) ?_
    refine lv_iload_n hx hb dX2_hasKnownParts_87 rfl (lv_at hl 2 rfl) ?_
    refine RoI.callV (As := [.int a_]) (rest := []) (c_X2_isBasin hb8 a_) ⟨hx, hb, hml, hown, hts⟩ (cwV 1 hts gX2_hasKnownParts_X2_isBasin rfl rfl rfl (by decide +kernel) ⟨by decide, by decide⟩) hP hK hN 0 2 rfl rfl rfl hl.1 rfl (Nat.le_of_ble_eq_true rfl) dX2_hasKnownParts_88 ⟨Nat.le_of_ble_eq_true rfl, Nat.le_of_ble_eq_true rfl⟩ (fun r_1 hr_1 => ?_)
    exact roZ hx hb hr hlk dX2_hasKnownParts_91 (by rw [hr_1]; exact bI_nar _) (by rw [k_1_1]; rw [hr_1]; simp [knB])
  by_cases k_1_4 : k_ = 4 ∨ k_ = 5 ∨ k_ = 6 ∨ k_ = 7
  · refine lv_tableIn (off := 91) (tgt := 92) hx hb dX2_hasKnownParts_1 (by rcases k_1_4 with z | z | z | z <;> rw [z] <;> decide) (by rcases k_1_4 with z | z | z | z <;> rw [z] <;> decide) (by rcases k_1_4 with z | z | z | z <;> rw [z] <;> rfl) (by decide) ?_
    refine lv_aload_n hx hb dX2_hasKnownParts_92 rfl (lv_at hl 0 rfl) ?_
    refine lv_iload_n hx hb dX2_hasKnownParts_93 rfl (lv_at hl 2 rfl) ?_
    refine RoI.callV (As := [.int a_]) (rest := []) (c_X2_isRuleOrNone hR hn40 a_) ⟨hx, hb, hml, hown, hts⟩ (cwV 1 hts gX2_hasKnownParts_X2_isRuleOrNone rfl rfl rfl (by decide +kernel) ⟨by decide, by decide⟩) hP hK hN 0 2 rfl rfl rfl hl.1 rfl (Nat.le_of_ble_eq_true rfl) dX2_hasKnownParts_94 ⟨Nat.le_of_ble_eq_true rfl, Nat.le_of_ble_eq_true rfl⟩ (fun r_2 hr_2 => ?_)
    refine lv_if_eq (tgt := 112) hx hb dX2_hasKnownParts_97 (by decide) (fun c_97 => ?_) (fun c_97 => ?_)
    · have b_97 : ptB a_ n = false := bI_z (by rw [← hr_2]; exact c_97)
      refine lv_iconst (v := 0) hx hb dX2_hasKnownParts_112 (by decide) ?_
      exact roZ hx hb hr hlk dX2_hasKnownParts_113 (nar0) (by rcases k_1_4 with z | z | z | z <;> rw [z] <;> simp [knB, bI, b_97])
    · have b_97 : ptB a_ n = true := bI_n (by rw [← hr_2]; exact c_97)
      refine lv_aload_n hx hb dX2_hasKnownParts_100 rfl (lv_at hl 0 rfl) ?_
      refine lv_iload_n hx hb dX2_hasKnownParts_101 rfl (lv_at hl 3 rfl) ?_
      refine RoI.callV (As := [.int b_]) (rest := []) (c_X2_isRuleOrNone hR hn40 b_) ⟨hx, hb, hml, hown, hts⟩ (cwV 1 hts gX2_hasKnownParts_X2_isRuleOrNone rfl rfl rfl (by decide +kernel) ⟨by decide, by decide⟩) hP hK hN 0 2 rfl rfl rfl hl.1 rfl (Nat.le_of_ble_eq_true rfl) dX2_hasKnownParts_102 ⟨Nat.le_of_ble_eq_true rfl, Nat.le_of_ble_eq_true rfl⟩ (fun r_3 hr_3 => ?_)
      refine lv_if_eq (tgt := 112) hx hb dX2_hasKnownParts_105 (by decide) (fun c_105 => ?_) (fun c_105 => ?_)
      · have b_105 : ptB b_ n = false := bI_z (by rw [← hr_3]; exact c_105)
        refine lv_iconst (v := 0) hx hb dX2_hasKnownParts_112 (by decide) ?_
        exact roZ hx hb hr hlk dX2_hasKnownParts_113 (nar0) (by rcases k_1_4 with z | z | z | z <;> rw [z] <;> simp [knB, bI, b_97, b_105])
      · have b_105 : ptB b_ n = true := bI_n (by rw [← hr_3]; exact c_105)
        refine lv_iconst (v := 1) hx hb dX2_hasKnownParts_108 (by decide) ?_
        refine lv_goto (tgt := 113) hx hb dX2_hasKnownParts_109 (by decide) ?_
        exact roZ hx hb hr hlk dX2_hasKnownParts_113 (nar1) (by rcases k_1_4 with z | z | z | z <;> rw [z] <;> simp [knB, bI, b_97, b_105])
  by_cases k_1_8 : k_ = 8 ∨ k_ = 10 ∨ k_ = 11 ∨ k_ = 12 ∨ k_ = 13
  · refine lv_tableIn (off := 144) (tgt := 145) hx hb dX2_hasKnownParts_1 (by rcases k_1_8 with z | z | z | z | z <;> rw [z] <;> decide) (by rcases k_1_8 with z | z | z | z | z <;> rw [z] <;> decide) (by rcases k_1_8 with z | z | z | z | z <;> rw [z] <;> rfl) (by decide) ?_
    refine lv_aload_n hx hb dX2_hasKnownParts_145 rfl (lv_at hl 0 rfl) ?_
    refine lv_iload_n hx hb dX2_hasKnownParts_146 rfl (lv_at hl 2 rfl) ?_
    refine RoI.callV (As := [.int a_]) (rest := []) (c_X2_isRuleOrNone hR hn40 a_) ⟨hx, hb, hml, hown, hts⟩ (cwV 1 hts gX2_hasKnownParts_X2_isRuleOrNone rfl rfl rfl (by decide +kernel) ⟨by decide, by decide⟩) hP hK hN 0 2 rfl rfl rfl hl.1 rfl (Nat.le_of_ble_eq_true rfl) dX2_hasKnownParts_147 ⟨Nat.le_of_ble_eq_true rfl, Nat.le_of_ble_eq_true rfl⟩ (fun r_4 hr_4 => ?_)
    exact roZ hx hb hr hlk dX2_hasKnownParts_150 (by rw [hr_4]; exact bI_nar _) (by rcases k_1_8 with z | z | z | z | z <;> rw [z] <;> rw [hr_4] <;> simp [knB])
  by_cases k_1_9 : k_ = 9
  · refine lv_tableIn (off := 113) (tgt := 114) hx hb dX2_hasKnownParts_1 (by rw [k_1_9]; decide) (by rw [k_1_9]; decide) (by rw [k_1_9]; rfl) (by decide) ?_
    refine lv_aload_n hx hb dX2_hasKnownParts_114 rfl (lv_at hl 0 rfl) ?_
    refine lv_iload_n hx hb dX2_hasKnownParts_115 rfl (lv_at hl 2 rfl) ?_
    refine RoI.callV (As := [.int a_]) (rest := []) (c_X2_isRuleOrNone hR hn40 a_) ⟨hx, hb, hml, hown, hts⟩ (cwV 1 hts gX2_hasKnownParts_X2_isRuleOrNone rfl rfl rfl (by decide +kernel) ⟨by decide, by decide⟩) hP hK hN 0 2 rfl rfl rfl hl.1 rfl (Nat.le_of_ble_eq_true rfl) dX2_hasKnownParts_116 ⟨Nat.le_of_ble_eq_true rfl, Nat.le_of_ble_eq_true rfl⟩ (fun r_5 hr_5 => ?_)
    refine lv_if_eq (tgt := 143) hx hb dX2_hasKnownParts_119 (by decide) (fun c_119 => ?_) (fun c_119 => ?_)
    · have b_119 : ptB a_ n = false := bI_z (by rw [← hr_5]; exact c_119)
      refine lv_iconst (v := 0) hx hb dX2_hasKnownParts_143 (by decide) ?_
      exact roZ hx hb hr hlk dX2_hasKnownParts_144 (nar0) (by rw [k_1_9]; simp [knB, bI, b_119])
    · have b_119 : ptB a_ n = true := bI_n (by rw [← hr_5]; exact c_119)
      refine lv_aload_n hx hb dX2_hasKnownParts_122 rfl (lv_at hl 0 rfl) ?_
      refine lv_iload_n hx hb dX2_hasKnownParts_123 rfl (lv_at hl 3 rfl) ?_
      refine RoI.callV (As := [.int b_]) (rest := []) (c_X2_isRuleOrNone hR hn40 b_) ⟨hx, hb, hml, hown, hts⟩ (cwV 1 hts gX2_hasKnownParts_X2_isRuleOrNone rfl rfl rfl (by decide +kernel) ⟨by decide, by decide⟩) hP hK hN 0 2 rfl rfl rfl hl.1 rfl (Nat.le_of_ble_eq_true rfl) dX2_hasKnownParts_124 ⟨Nat.le_of_ble_eq_true rfl, Nat.le_of_ble_eq_true rfl⟩ (fun r_6 hr_6 => ?_)
      refine lv_if_eq (tgt := 143) hx hb dX2_hasKnownParts_127 (by decide) (fun c_127 => ?_) (fun c_127 => ?_)
      · have b_127 : ptB b_ n = false := bI_z (by rw [← hr_6]; exact c_127)
        refine lv_iconst (v := 0) hx hb dX2_hasKnownParts_143 (by decide) ?_
        exact roZ hx hb hr hlk dX2_hasKnownParts_144 (nar0) (by rw [k_1_9]; simp [knB, bI, b_119, b_127])
      · have b_127 : ptB b_ n = true := bI_n (by rw [← hr_6]; exact c_127)
        refine lv_aload_n hx hb dX2_hasKnownParts_130 rfl (lv_at hl 0 rfl) ?_
        refine lv_iload hx hb dX2_hasKnownParts_131 (lv_at hl 4 rfl) ?_
        refine RoI.callV (As := [.int c_]) (rest := []) (c_X2_isRuleOrNone hR hn40 c_) ⟨hx, hb, hml, hown, hts⟩ (cwV 1 hts gX2_hasKnownParts_X2_isRuleOrNone rfl rfl rfl (by decide +kernel) ⟨by decide, by decide⟩) hP hK hN 0 2 rfl rfl rfl hl.1 rfl (Nat.le_of_ble_eq_true rfl) dX2_hasKnownParts_133 ⟨Nat.le_of_ble_eq_true rfl, Nat.le_of_ble_eq_true rfl⟩ (fun r_7 hr_7 => ?_)
        refine lv_if_eq (tgt := 143) hx hb dX2_hasKnownParts_136 (by decide) (fun c_136 => ?_) (fun c_136 => ?_)
        · have b_136 : ptB c_ n = false := bI_z (by rw [← hr_7]; exact c_136)
          refine lv_iconst (v := 0) hx hb dX2_hasKnownParts_143 (by decide) ?_
          exact roZ hx hb hr hlk dX2_hasKnownParts_144 (nar0) (by rw [k_1_9]; simp [knB, bI, b_119, b_127, b_136])
        · have b_136 : ptB c_ n = true := bI_n (by rw [← hr_7]; exact c_136)
          refine lv_iconst (v := 1) hx hb dX2_hasKnownParts_139 (by decide) ?_
          refine lv_goto (tgt := 144) hx hb dX2_hasKnownParts_140 (by decide) ?_
          exact roZ hx hb hr hlk dX2_hasKnownParts_144 (nar1) (by rw [k_1_9]; simp [knB, bI, b_119, b_127, b_136])
  by_cases k_1_14 : k_ = 14
  · refine lv_tableIn (off := 150) (tgt := 151) hx hb dX2_hasKnownParts_1 (by rw [k_1_14]; decide) (by rw [k_1_14]; decide) (by rw [k_1_14]; rfl) (by decide) ?_
    refine lv_aload_n hx hb dX2_hasKnownParts_151 rfl (lv_at hl 0 rfl) ?_
    refine lv_iload_n hx hb dX2_hasKnownParts_152 rfl (lv_at hl 2 rfl) ?_
    refine RoQ.callV (As := [.int a_]) (rest := []) (c_X2_countedAt hR hn40 a_) ⟨hx, hb, hml, hown, hts⟩ (cwV 1 hts gX2_hasKnownParts_X2_countedAt rfl rfl rfl (by decide +kernel) ⟨by decide, by decide⟩) hP hK hN 0 2 rfl rfl rfl hl.1 rfl (Nat.le_of_ble_eq_true rfl) dX2_hasKnownParts_153 ⟨Nat.le_of_ble_eq_true rfl, Nat.le_of_ble_eq_true rfl⟩ (fun r_8 hr_8 => ?_)
    rcases r_8 with _ | ar_8
    · have q_r_8 := hR.nocx13 hr_8.symm
      refine lv_ifnullN (tgt := 163) hx hb dX2_hasKnownParts_156 (by decide) ?_
      refine lv_iconst (v := 0) hx hb dX2_hasKnownParts_163 (by decide) ?_
      exact roZ hx hb hr hlk dX2_hasKnownParts_164 (nar0) (by rw [k_1_14]; have z := q_r_8; simp [knB, bI]; intro z1; exact fun z2 => z ⟨z1, z2⟩)
    · have q_r_8 := hR.cx13 hr_8.symm
      refine lv_ifnull hx hb dX2_hasKnownParts_156 ?_
      refine lv_iconst (v := 1) hx hb dX2_hasKnownParts_159 (by decide) ?_
      refine lv_goto (tgt := 164) hx hb dX2_hasKnownParts_160 (by decide) ?_
      exact roZ hx hb hr hlk dX2_hasKnownParts_164 (nar1) (by rw [k_1_14]; simp [knB, bI, q_r_8.1, q_r_8.2.1])
  by_cases k_1_15 : k_ = 15
  · refine lv_tableIn (off := 164) (tgt := 165) hx hb dX2_hasKnownParts_1 (by rw [k_1_15]; decide) (by rw [k_1_15]; decide) (by rw [k_1_15]; rfl) (by decide) ?_
    refine lv_aload_n hx hb dX2_hasKnownParts_165 rfl (lv_at hl 0 rfl) ?_
    refine lv_iload_n hx hb dX2_hasKnownParts_166 rfl (lv_at hl 2 rfl) ?_
    refine RoI.callV (As := [.int a_]) (rest := []) (c_X2_isSlot a_) ⟨hx, hb, hml, hown, hts⟩ (cwV 1 hts gX2_hasKnownParts_X2_isSlot rfl rfl rfl (by decide +kernel) ⟨by decide, by decide⟩) hP hK hN 0 2 rfl rfl rfl hl.1 rfl (Nat.le_of_ble_eq_true rfl) dX2_hasKnownParts_167 ⟨Nat.le_of_ble_eq_true rfl, Nat.le_of_ble_eq_true rfl⟩ (fun r_9 hr_9 => ?_)
    exact roZ hx hb hr hlk dX2_hasKnownParts_170 (by rw [hr_9]; exact bI_nar _) (by rw [k_1_15]; rw [hr_9]; simp [knB])
  by_cases k_1_16 : k_ = 16
  · refine lv_tableIn (off := 170) (tgt := 171) hx hb dX2_hasKnownParts_1 (by rw [k_1_16]; decide) (by rw [k_1_16]; decide) (by rw [k_1_16]; rfl) (by decide) ?_
    refine lv_aload_n hx hb dX2_hasKnownParts_171 rfl (lv_at hl 0 rfl) ?_
    refine lv_iload_n hx hb dX2_hasKnownParts_172 rfl (lv_at hl 2 rfl) ?_
    refine RoI.callV (As := [.int a_]) (rest := []) (c_X2_isSlot a_) ⟨hx, hb, hml, hown, hts⟩ (cwV 1 hts gX2_hasKnownParts_X2_isSlot rfl rfl rfl (by decide +kernel) ⟨by decide, by decide⟩) hP hK hN 0 2 rfl rfl rfl hl.1 rfl (Nat.le_of_ble_eq_true rfl) dX2_hasKnownParts_173 ⟨Nat.le_of_ble_eq_true rfl, Nat.le_of_ble_eq_true rfl⟩ (fun r_10 hr_10 => ?_)
    refine lv_if_eq (tgt := 191) hx hb dX2_hasKnownParts_176 (by decide) (fun c_176 => ?_) (fun c_176 => ?_)
    · have b_176 : inB a_ 8 = false := bI_z (by rw [← hr_10]; exact c_176)
      refine lv_iconst (v := 0) hx hb dX2_hasKnownParts_191 (by decide) ?_
      exact roZ hx hb hr hlk dX2_hasKnownParts_192 (nar0) (by rw [k_1_16]; simp [knB, bI, b_176])
    · have b_176 : inB a_ 8 = true := bI_n (by rw [← hr_10]; exact c_176)
      refine lv_aload_n hx hb dX2_hasKnownParts_179 rfl (lv_at hl 0 rfl) ?_
      refine lv_iload_n hx hb dX2_hasKnownParts_180 rfl (lv_at hl 3 rfl) ?_
      refine RoI.callV (As := [.int b_]) (rest := []) (c_X2_isSlot b_) ⟨hx, hb, hml, hown, hts⟩ (cwV 1 hts gX2_hasKnownParts_X2_isSlot rfl rfl rfl (by decide +kernel) ⟨by decide, by decide⟩) hP hK hN 0 2 rfl rfl rfl hl.1 rfl (Nat.le_of_ble_eq_true rfl) dX2_hasKnownParts_181 ⟨Nat.le_of_ble_eq_true rfl, Nat.le_of_ble_eq_true rfl⟩ (fun r_11 hr_11 => ?_)
      refine lv_if_eq (tgt := 191) hx hb dX2_hasKnownParts_184 (by decide) (fun c_184 => ?_) (fun c_184 => ?_)
      · have b_184 : inB b_ 8 = false := bI_z (by rw [← hr_11]; exact c_184)
        refine lv_iconst (v := 0) hx hb dX2_hasKnownParts_191 (by decide) ?_
        exact roZ hx hb hr hlk dX2_hasKnownParts_192 (nar0) (by rw [k_1_16]; simp [knB, bI, b_176, b_184])
      · have b_184 : inB b_ 8 = true := bI_n (by rw [← hr_11]; exact c_184)
        refine lv_iconst (v := 1) hx hb dX2_hasKnownParts_187 (by decide) ?_
        refine lv_goto (tgt := 192) hx hb dX2_hasKnownParts_188 (by decide) ?_
        exact roZ hx hb hr hlk dX2_hasKnownParts_192 (nar1) (by rw [k_1_16]; simp [knB, bI, b_176, b_184])
  · have z_1 : ¬ k_.toInt = 0 ∧ ¬ k_.toInt = 1 ∧ ¬ k_.toInt = 2 ∧ ¬ k_.toInt = 3 ∧ ¬ k_.toInt = 4 ∧ ¬ k_.toInt = 5 ∧ ¬ k_.toInt = 6 ∧ ¬ k_.toInt = 7 ∧ ¬ k_.toInt = 8 ∧ ¬ k_.toInt = 9 ∧ ¬ k_.toInt = 10 ∧ ¬ k_.toInt = 11 ∧ ¬ k_.toInt = 12 ∧ ¬ k_.toInt = 13 ∧ ¬ k_.toInt = 14 ∧ ¬ k_.toInt = 15 ∧ ¬ k_.toInt = 16 := by
      exact ⟨lv_neT (k := 0) (fun z => k_1_0 (by simp [z])) (by decide), lv_neT k_1_1 (by decide), lv_neT (k := 2) (fun z => k_1_0 (by simp [z])) (by decide), lv_neT (k := 3) (fun z => k_1_0 (by simp [z])) (by decide), lv_neT (k := 4) (fun z => k_1_4 (by simp [z])) (by decide), lv_neT (k := 5) (fun z => k_1_4 (by simp [z])) (by decide), lv_neT (k := 6) (fun z => k_1_4 (by simp [z])) (by decide), lv_neT (k := 7) (fun z => k_1_4 (by simp [z])) (by decide), lv_neT (k := 8) (fun z => k_1_8 (by simp [z])) (by decide), lv_neT k_1_9 (by decide), lv_neT (k := 10) (fun z => k_1_8 (by simp [z])) (by decide), lv_neT (k := 11) (fun z => k_1_8 (by simp [z])) (by decide), lv_neT (k := 12) (fun z => k_1_8 (by simp [z])) (by decide), lv_neT (k := 13) (fun z => k_1_8 (by simp [z])) (by decide), lv_neT k_1_14 (by decide), lv_neT k_1_15 (by decide), lv_neT k_1_16 (by decide)⟩
    refine lv_tableOut (tgt := 193) hx hb dX2_hasKnownParts_1 (by omega) (by decide) ?_
    refine lv_iconst (v := 0) hx hb dX2_hasKnownParts_193 (by decide) ?_
    exact roZ hx hb hr hlk dX2_hasKnownParts_194 (nar0) (by simp only [not_or] at k_1_0 k_1_4 k_1_8; simp [knB, bI, k_1_0, k_1_1, k_1_4, k_1_8, k_1_9, k_1_14, k_1_15, k_1_16])

theorem z1 : (1 : Int32).toInt = 1 := rfl
theorem z1000 : (1000 : Int32).toInt = 1000 := rfl
set_option maxRecDepth 100000 in
set_option maxHeartbeats 4000000 in
/-- hasFitNumbers -/
theorem c_X2_hasFitNumbers {l : Launch} {D : va_G} {tys : List (ClassId × FieldType)} {w : va_W} (k_ a_ b_ c_ d_ e_ : Int32) : RoI l yX2_hasFitNumbers wsX2_hasFitNumbers (rk 0) D (tys) (w) [.int k_, .int a_, .int b_, .int c_, .int d_, .int e_] (fun r => r = bI (fiB k_ a_ b_ c_ d_ e_)) := by
  refine roEnter (cc := cX2_hasFitNumbers) (maxL := 6) (ret := (some .boolean)) (by decide) rfl (Nat.le_of_ble_eq_true rfl) ?_
  intro p e s m below meth c hx hb hr hml hown hts hlk hP hK hN ls hl
  have hown : s.vm.findClass RX2 = some m.cls := hown
  have hl : lv_has ls 6 [(0, .int k_), (1, .int a_), (2, .int b_), (3, .int c_), (4, .int d_), (5, .int e_)] := hl
  refine lv_iload_n hx hb dX2_hasFitNumbers_0 rfl (lv_at hl 0 rfl) ?_
  by_cases k_1_8 : k_ = 8
  · refine lv_lookup (off := 35) (tgt := 36) hx hb dX2_hasFitNumbers_1 (by decide) (by rw [k_1_8]; rfl) (by decide) ?_
    refine lv_iload_n hx hb dX2_hasFitNumbers_36 rfl (lv_at hl 3 rfl) ?_
    refine lv_iconst (v := 1) hx hb dX2_hasFitNumbers_37 (by decide) ?_
    refine lv_icmp_lt (tgt := 52) hx hb dX2_hasFitNumbers_38 (by decide) (fun c_38 => ?_) (fun c_38 => ?_)
    · refine lv_iconst (v := 0) hx hb dX2_hasFitNumbers_52 (by decide) ?_
      exact roZ hx hb hr hlk dX2_hasFitNumbers_53 (nar0) (by rw [k_1_8]; simp only [gt_iff_lt, i_lt, z1, z1000] at c_38; rw [fiB, if_pos rfl, decide_eq_false (by omega)]; rfl)
    · refine lv_iload_n hx hb dX2_hasFitNumbers_41 rfl (lv_at hl 3 rfl) ?_
      refine lv_sipush (v := 1000) hx hb dX2_hasFitNumbers_42 (by decide) ?_
      refine lv_icmp_gt (tgt := 52) hx hb dX2_hasFitNumbers_45 (by decide) (fun c_45 => ?_) (fun c_45 => ?_)
      · refine lv_iconst (v := 0) hx hb dX2_hasFitNumbers_52 (by decide) ?_
        exact roZ hx hb hr hlk dX2_hasFitNumbers_53 (nar0) (by rw [k_1_8]; simp only [gt_iff_lt, i_lt, z1, z1000] at c_38 c_45; rw [fiB, if_pos rfl, decide_eq_false (by omega)]; rfl)
      · refine lv_iconst (v := 1) hx hb dX2_hasFitNumbers_48 (by decide) ?_
        refine lv_goto (tgt := 53) hx hb dX2_hasFitNumbers_49 (by decide) ?_
        exact roZ hx hb hr hlk dX2_hasFitNumbers_53 (nar1) (by rw [k_1_8]; simp only [gt_iff_lt, i_lt, z1, z1000] at c_38 c_45; rw [fiB, if_pos rfl, decide_eq_true (by omega)]; rfl)
  by_cases k_1_11 : k_ = 11
  · refine lv_lookup (off := 53) (tgt := 54) hx hb dX2_hasFitNumbers_1 (by decide) (by rw [k_1_11]; rfl) (by decide) ?_
    refine lv_iload hx hb dX2_hasFitNumbers_54 (lv_at hl 4 rfl) ?_
    refine lv_iload hx hb dX2_hasFitNumbers_56 (lv_at hl 5 rfl) ?_
    refine lv_icmp_gt (tgt := 65) hx hb dX2_hasFitNumbers_58 (by decide) (fun c_58 => ?_) (fun c_58 => ?_)
    · refine lv_iconst (v := 0) hx hb dX2_hasFitNumbers_65 (by decide) ?_
      exact roZ hx hb hr hlk dX2_hasFitNumbers_66 (nar0) (by rw [k_1_11]; simp only [gt_iff_lt, i_lt] at c_58; rw [fiB, if_neg (by decide), if_pos rfl, decide_eq_false (by rw [i_le]; omega)]; rfl)
    · refine lv_iconst (v := 1) hx hb dX2_hasFitNumbers_61 (by decide) ?_
      refine lv_goto (tgt := 66) hx hb dX2_hasFitNumbers_62 (by decide) ?_
      exact roZ hx hb hr hlk dX2_hasFitNumbers_66 (nar1) (by rw [k_1_11]; simp only [gt_iff_lt, i_lt] at c_58; rw [fiB, if_neg (by decide), if_pos rfl, decide_eq_true (by rw [i_le]; omega)]; rfl)
  by_cases k_1_16 : k_ = 16
  · refine lv_lookup (off := 66) (tgt := 67) hx hb dX2_hasFitNumbers_1 (by decide) (by rw [k_1_16]; rfl) (by decide) ?_
    refine lv_iload_n hx hb dX2_hasFitNumbers_67 rfl (lv_at hl 1 rfl) ?_
    refine lv_iload_n hx hb dX2_hasFitNumbers_68 rfl (lv_at hl 2 rfl) ?_
    refine lv_icmp_gt (tgt := 76) hx hb dX2_hasFitNumbers_69 (by decide) (fun c_69 => ?_) (fun c_69 => ?_)
    · refine lv_iconst (v := 0) hx hb dX2_hasFitNumbers_76 (by decide) ?_
      exact roZ hx hb hr hlk dX2_hasFitNumbers_77 (nar0) (by rw [k_1_16]; simp only [gt_iff_lt, i_lt] at c_69; rw [fiB, if_neg (by decide), if_neg (by decide), if_pos rfl, decide_eq_false (by rw [i_le]; omega)]; rfl)
    · refine lv_iconst (v := 1) hx hb dX2_hasFitNumbers_72 (by decide) ?_
      refine lv_goto (tgt := 77) hx hb dX2_hasFitNumbers_73 (by decide) ?_
      exact roZ hx hb hr hlk dX2_hasFitNumbers_77 (nar1) (by rw [k_1_16]; simp only [gt_iff_lt, i_lt] at c_69; rw [fiB, if_neg (by decide), if_neg (by decide), if_pos rfl, decide_eq_true (by rw [i_le]; omega)]; rfl)
  · refine lv_lookup (off := 77) (tgt := 78) hx hb dX2_hasFitNumbers_1 (by decide) (by show Op.lookupswitch.offset [(8, 35), (11, 53), (16, 66)] _ _ = _; rw [lv_osw k_1_8 (by decide)]; rw [lv_osw k_1_11 (by decide)]; rw [lv_osw k_1_16 (by decide)]; rfl) (by decide) ?_
    refine lv_iconst (v := 1) hx hb dX2_hasFitNumbers_78 (by decide) ?_
    exact roZ hx hb hr hlk dX2_hasFitNumbers_79 (nar1) (by simp [fiB, bI, k_1_8, k_1_11, k_1_16])
end
section
/-! the class: a rule is asked, and what it was made of -/
theorem ev_16' {n : Nat} {mn : Int32} {lv sl kd pt : Nat → Int32} {he : Nat → Int64} {d : Nat} {x h : Int32} {st st1 : Nat} {fl fl1 : Int32} {ct : Nat → Int32} (hs : stS n x st fl = (st1, fl1, true)) (hk : kd (ix x) = 16) : evA (ev (n, mn, lv, sl, kd, pt, he) d) sl h (ix (pt (5 * ix x + 1)) + 1 - ix (pt (5 * ix x))) (ix (pt (5 * ix x))) 0 (st1, fl1, ct) = ev (n, mn, lv, sl, kd, pt, he) (d + 1) x h (st, fl, ct) := by
  rw [ev_go hs]; simp [evB, hk]
theorem xRel.cell {n sN : Nat} {kd pt : Nat → Int32} {he : Nat → Int64} {ct fr to rl : Nat → Int32} {ru su : Nat → Option Nat} {L : List Nat} {f : Nat → va_E} (h : xRel n sN kd pt he ct fr to rl ru su L f) {k a : Nat} (hk : k < n) (ra : ru k = some a) : a ∈ L ∧ f a = ruE kd pt he ct k := by
  obtain ⟨a', h1, h2, h3⟩ := h.1 k hk
  rw [ra] at h1; cases h1
  exact ⟨h2, h3⟩
theorem xRel.tick {n sN : Nat} {kd pt : Nat → Int32} {he : Nat → Int64} {ct fr to rl : Nat → Int32} {ru su : Nat → Option Nat} {L : List Nat} {f : Nat → va_E} (h : xRel n sN kd pt he ct fr to rl ru su L f) {k a : Nat} (hk : k < n) (ra : ru k = some a) (v : Int32) : xRel n sN kd pt he (upd ct k v) fr to rl ru su L (va_up f a (.inr (0, [.int (kd k), .int (pt (5 * k)), .int (pt (5 * k + 1)), .int (pt (5 * k + 2)), .int (pt (5 * k + 3)), .int (pt (5 * k + 4)), .long (he k), .int v]))) := by
  obtain ⟨h1, h2, h3, h4, h5⟩ := h
  refine ⟨fun j hj => ?_, h2, h3, fun j hj => ?_, h5⟩
  · obtain ⟨a', g1, g2, g3⟩ := h1 j hj
    by_cases hjk : j = k
    · subst hjk
      rw [ra] at g1; cases g1
      exact ⟨a, ra, g2, by rw [va_up_self]; simp [ruE, upd]⟩
    · have ne : a' ≠ a := fun z => hjk (h3 j k a hj hk (by rw [g1, z]) ra)
      exact ⟨a', g1, g2, by rw [va_up_ne _ _ ne, g3]; simp [ruE, upd, hjk]⟩
  · obtain ⟨a', g1, g2, g3⟩ := h4 j hj
    have ne : a' ≠ a := fun z => by
      obtain ⟨a2, q1, q2, q3⟩ := h1 k hk
      rw [ra] at q1; cases q1
      rw [z, q3] at g3; simp [ruE, suE] at g3
    exact ⟨a', g1, g2, by rw [va_up_ne _ _ ne, g3]⟩

/-- valueOf, with d more steps to go at the most -/
def VO (d : Nat) : Prop := ∀ {l : Launch} {D : va_G} {F : Nat → Nat} {Y : Nat → ClassId} {mn fl : Int32} {gv : Int64} {fs fb wo : Int32} {lv sl : Nat → Int32} {ru su : Nat → Option Nat} {L : List Nat} {f : Nat → va_E} {b n sN st : Nat} {kd pt : Nat → Int32} {he : Nat → Int64} {ct fr to rl : Nat → Int32}, xRel n sN kd pt he ct fr to rl ru su L f → n ≤ 40 → b ≤ 8 → wfA b n sl kd pt → st ≤ 120 → 120 ≤ st + d → ∀ (x h : Int32), WrL l yX2_valueOf wsX2_valueOf (rk (8 + d)) D (xty Y) (xw F Y (nI b) mn (nI n) (nI sN) (nI st) fl gv fs fb wo lv sl ru su L f) [.ref (F 0), .int x, .int h] (σ := SS × (Nat → va_E)) (fun u => xw F Y (nI b) mn (nI n) (nI sN) (nI u.1.1) u.1.2.1 gv fs fb wo lv sl ru su L u.2) (fun r u => (r, u.1) = ev (n, mn, lv, sl, kd, pt, he) d x h (st, fl, ct) ∧ xRel n sN kd pt he u.1.2.2 fr to rl ru su L u.2) 0 0
theorem iw_X2_valueOf_X2 : ∀ w ∈ u_ws RX2 TX2 14, w ∈ wsX2_valueOf := by decide +kernel
theorem iw_X2_valueOf_X0 : ∀ w ∈ u_ws RX0 TX0 8, w ∈ wsX2_valueOf := by decide +kernel
set_option maxRecDepth 100000 in
set_option maxHeartbeats 4000000 in
theorem c_X2_valueOf_0 : VO 0 := by
  intro l D F Y mn fl gv fs fb wo lv sl ru su L f b n sN st kd pt he ct fr to rl hR hn40 hb8 hW hst hd x h sz
  refine wrEnter (cc := cX2_valueOf) (maxL := 7) (ret := (some .long)) (by decide) rfl (Nat.le_of_ble_eq_true rfl) ?_
  intro p e s m below meth c hx hb hr hml hown hts hlk hP hK hN hsz hD hS hA hin ls hl
  have hown : s.vm.findClass RX2 = some m.cls := hown
  have hl : lv_has ls 7 [(0, .ref (F 0)), (1, .int x), (2, .int h)] := hl
  refine lv_aload_n hx hb dX2_valueOf_0 rfl (lv_at hl 0 rfl) ?_
  refine lv_iload_n hx hb dX2_valueOf_1 rfl (lv_at hl 1 rfl) ?_
  refine WrQ.callV (As := [.int x]) (rest := []) (c_X2_stepTo hR hn40 hst x) ⟨hx, hb, hml, hown, hts⟩ (cwV 1 hts gX2_valueOf_X2_stepTo rfl rfl rfl (by decide +kernel) ⟨by show 1 + 1 ≤ 8 + 0; omega, by show 8 + (3 + 11) + 40 * 1 ≤ 40 * (8 + 0); omega⟩) hP hD hS hA hK hN 0 2 rfl rfl rfl hl.1 rfl (Nat.le_of_ble_eq_true rfl) dX2_valueOf_2 ⟨Nat.le_of_ble_eq_true rfl, Nat.le_of_ble_eq_true rfl⟩ (fun r_1 ur_1 H locs hr_1 hP hD hS => ?_)
  obtain ⟨st1, fl1⟩ := ur_1
  obtain ⟨hs, hrx⟩ := hr_1
  have hP : va_P D vwCl (xw F Y (nI b) mn (nI n) (nI sN) (nI st1) fl1 gv fs fb wo lv sl ru su L f) H := hP
  have hD : va_D (va_A (xw F Y (nI b) mn (nI n) (nI sN) (nI st) fl gv fs fb wo lv sl ru su L f) sz) (xw F Y (nI b) mn (nI n) (nI sN) (nI st1) fl1 gv fs fb wo lv sl ru su L f) := hD
  rcases r_1 with _ | ar_1
  · have hs : stS n x st fl = (st1, fl1, false) := hs.symm
    refine lv_astore_nN (lv' := [(3, .null), (0, .ref (F 0)), (1, .int x), (2, .int h)]) hx hb dX2_valueOf_5 rfl hl (by decide) rfl (fun ls hl => ?_)
    refine lv_aload_nN hx hb dX2_valueOf_6 rfl (lv_at hl 0 rfl) ?_
    refine lv_ifnonnullN hx hb dX2_valueOf_7 ?_
    refine lv_lconst (v := 0) hx hb dX2_valueOf_10 (by decide) ?_
    exact wrL ((st1, fl1, ct), f) hx hb hr hlk dX2_valueOf_11 hP hD hS ⟨ev_no hs, hR⟩
  · have hs : stS n x st fl = (st1, fl1, true) := hs.symm
    obtain ⟨hi, ra, -, -⟩ := hR.rule (hrx _ rfl)
    have hk := inB_ix hi
    obtain ⟨t1, t2, -, t3, t4⟩ := stS_t hs
    exact absurd hd (by omega)
set_option maxRecDepth 100000 in
set_option maxHeartbeats 4000000 in
theorem c_X2_valueOf_s {d : Nat} (ih : VO d) : VO (d + 1) := by
  intro l D F Y mn fl gv fs fb wo lv sl ru su L f b n sN st kd pt he ct fr to rl hR hn40 hb8 hW hst hd x h sz
  refine wrEnter (cc := cX2_valueOf) (maxL := 7) (ret := (some .long)) (by decide) rfl (Nat.le_of_ble_eq_true rfl) ?_
  intro p e s m below meth c hx hb hr hml hown hts hlk hP hK hN hsz hD hS hA hin ls hl
  have hown : s.vm.findClass RX2 = some m.cls := hown
  have hl : lv_has ls 7 [(0, .ref (F 0)), (1, .int x), (2, .int h)] := hl
  refine lv_aload_n hx hb dX2_valueOf_0 rfl (lv_at hl 0 rfl) ?_
  refine lv_iload_n hx hb dX2_valueOf_1 rfl (lv_at hl 1 rfl) ?_
  refine WrQ.callV (As := [.int x]) (rest := []) (c_X2_stepTo hR hn40 hst x) ⟨hx, hb, hml, hown, hts⟩ (cwV 1 hts gX2_valueOf_X2_stepTo rfl rfl rfl (by decide +kernel) ⟨by show 1 + 1 ≤ 8 + (d + 1); omega, by show 8 + (3 + 11) + 40 * 1 ≤ 40 * (8 + (d + 1)); omega⟩) hP hD hS hA hK hN 0 2 rfl rfl rfl hl.1 rfl (Nat.le_of_ble_eq_true rfl) dX2_valueOf_2 ⟨Nat.le_of_ble_eq_true rfl, Nat.le_of_ble_eq_true rfl⟩ (fun r_1 ur_1 H locs hr_1 hP hD hS => ?_)
  obtain ⟨st1, fl1⟩ := ur_1
  obtain ⟨hs, hrx⟩ := hr_1
  have hP : va_P D vwCl (xw F Y (nI b) mn (nI n) (nI sN) (nI st1) fl1 gv fs fb wo lv sl ru su L f) H := hP
  have hD : va_D (va_A (xw F Y (nI b) mn (nI n) (nI sN) (nI st) fl gv fs fb wo lv sl ru su L f) sz) (xw F Y (nI b) mn (nI n) (nI sN) (nI st1) fl1 gv fs fb wo lv sl ru su L f) := hD
  rcases r_1 with _ | ar_1
  · have hs : stS n x st fl = (st1, fl1, false) := hs.symm
    refine lv_astore_nN (lv' := [(3, .null), (0, .ref (F 0)), (1, .int x), (2, .int h)]) hx hb dX2_valueOf_5 rfl hl (by decide) rfl (fun ls hl => ?_)
    refine lv_aload_nN hx hb dX2_valueOf_6 rfl (lv_at hl 0 rfl) ?_
    refine lv_ifnonnullN hx hb dX2_valueOf_7 ?_
    refine lv_lconst (v := 0) hx hb dX2_valueOf_10 (by decide) ?_
    exact wrL ((st1, fl1, ct), f) hx hb hr hlk dX2_valueOf_11 hP hD hS ⟨ev_no hs, hR⟩
  · have hs : stS n x st fl = (st1, fl1, true) := hs.symm
    obtain ⟨hi, ra, -, -⟩ := hR.rule (hrx _ rfl)
    have hk := inB_ix hi
    obtain ⟨t1, t2, -, t3, t4⟩ := stS_t hs
    have hst1 : st1 ≤ 120 := by omega
    have hd1 : 120 ≤ st1 + d := by omega
    obtain ⟨la_z_2, fa_z_2⟩ := hR.cell hk ra
    obtain ⟨p_z_2, e_z_2⟩ : ∃ q : Nat, (xw F Y (nI b) mn (nI n) (nI sN) (nI st1) fl1 gv fs fb wo lv sl ru su L f)[q]? = some (ar_1, ruE kd pt he ct (ix x)) := pl_at la_z_2 fa_z_2
    refine lv_astore_n (lv' := [(3, .ref ar_1), (0, .ref (F 0)), (1, .int x), (2, .int h)]) hx hb dX2_valueOf_5 rfl hl (by decide) rfl (fun ls hl => ?_)
    refine lv_aload_n hx hb dX2_valueOf_6 rfl (lv_at hl 0 rfl) ?_
    refine lv_ifnonnull (tgt := 12) hx hb dX2_valueOf_7 (by decide) ?_
    refine lv_aload_n hx hb dX2_valueOf_12 rfl (lv_at hl 0 rfl) ?_
    refine va_getN (D := D) (ci := 0) (v := .int (kd (ix x))) (C := RX0) (T := TX0) (N := 8) (host := RX2) hx hb hts iw_X2_valueOf_X0 hown hK hP p_z_2 e_z_2 rfl 0 (by decide) (nf_108 hN) (fun _ h9 => h9) rfl dX2_valueOf_13 ?_
    by_cases k_16_4 : (kd (ix x)) = 4
    · refine lv_tableIn (off := 68) (tgt := 84) hx hb dX2_valueOf_16 (by rw [k_16_4]; decide) (by rw [k_16_4]; decide) (by rw [k_16_4]; rfl) (by decide) ?_
      refine lv_aload_n hx hb dX2_valueOf_84 rfl (lv_at hl 1 rfl) ?_
      refine lv_aload_n hx hb dX2_valueOf_85 rfl (lv_at hl 0 rfl) ?_
      refine va_getN (D := D) (ci := 0) (v := .int (pt (5 * (ix x)))) (C := RX0) (T := TX0) (N := 8) (host := RX2) hx hb hts iw_X2_valueOf_X0 hown hK hP p_z_2 e_z_2 rfl 1 (by decide) (nf_117 hN) (fun _ h9 => h9) rfl dX2_valueOf_86 ?_
      refine lv_iload_n hx hb dX2_valueOf_89 rfl (lv_at hl 3 rfl) ?_
      refine WrL.callV (As := [.int (pt (5 * (ix x))), .int h]) (rest := []) (ih hR hn40 hb8 hW hst1 hd1 (pt (5 * (ix x))) h) ⟨hx, hb, hml, hown, hts⟩ (cwV 2 hts gX2_valueOf_X2_valueOf rfl rfl rfl (by decide +kernel) ⟨by show 8 + d + 1 ≤ 8 + (d + 1); omega, by show 8 + (7 + 11) + 40 * (8 + d) ≤ 40 * (8 + (d + 1)); omega⟩) hP hD hS hA hK hN 0 2 rfl rfl rfl hl.1 rfl (Nat.le_of_ble_eq_true rfl) dX2_valueOf_90 ⟨Nat.le_of_ble_eq_true rfl, Nat.le_of_ble_eq_true rfl⟩ (fun r_3 ur_3 H locs hr_3 hP hD hS => ?_)
      obtain ⟨⟨st_3, fl_3, ct_3⟩, f_3⟩ := ur_3
      obtain ⟨e_3, hR_3⟩ := hr_3
      have e_3 : (r_3, (st_3, fl_3, ct_3)) = ev (n, mn, lv, sl, kd, pt, he) d (pt (5 * (ix x))) h (st1, fl1, ct) := e_3
      have hR_3 : xRel n sN kd pt he ct_3 fr to rl ru su L f_3 := hR_3
      have g_3 := ev_st (n, mn, lv, sl, kd, pt, he) d (pt (5 * (ix x))) h (st1, fl1, ct)
      rw [← e_3] at g_3
      have hst_3 : st_3 ≤ 120 := g_3.2 hst1
      have hd_3 : 120 ≤ st_3 + d := Nat.le_trans hd1 (Nat.add_le_add_right g_3.1 d)
      have hP : va_P D vwCl (xw F Y (nI b) mn (nI n) (nI sN) (nI st_3) fl_3 gv fs fb wo lv sl ru su L f_3) H := hP
      have hD : va_D (va_A (xw F Y (nI b) mn (nI n) (nI sN) (nI st) fl gv fs fb wo lv sl ru su L f) sz) (xw F Y (nI b) mn (nI n) (nI sN) (nI st_3) fl_3 gv fs fb wo lv sl ru su L f_3) := hD
      obtain ⟨la_z_4, fa_z_4⟩ := hR_3.cell hk ra
      obtain ⟨p_z_4, e_z_4⟩ : ∃ q : Nat, (xw F Y (nI b) mn (nI n) (nI sN) (nI st_3) fl_3 gv fs fb wo lv sl ru su L f_3)[q]? = some (ar_1, ruE kd pt he ct_3 (ix x)) := pl_at la_z_4 fa_z_4
      refine lv_aload_n hx hb dX2_valueOf_93 rfl (lv_at hl 1 rfl) ?_
      refine lv_aload_n hx hb dX2_valueOf_94 rfl (lv_at hl 0 rfl) ?_
      refine va_getN (D := D) (ci := 0) (v := .int (pt (5 * (ix x) + 1))) (C := RX0) (T := TX0) (N := 8) (host := RX2) hx hb hts iw_X2_valueOf_X0 hown hK hP p_z_4 e_z_4 rfl 2 (by decide) (nf_120 hN) (fun _ h9 => h9) rfl dX2_valueOf_95 ?_
      refine lv_iload_n hx hb dX2_valueOf_98 rfl (lv_at hl 3 rfl) ?_
      refine WrL.callV (As := [.int (pt (5 * (ix x) + 1)), .int h]) (rest := [.long r_3]) (ih hR_3 hn40 hb8 hW hst_3 hd_3 (pt (5 * (ix x) + 1)) h) ⟨hx, hb, hml, hown, hts⟩ (cwV 2 hts gX2_valueOf_X2_valueOf rfl rfl rfl (by decide +kernel) ⟨by show 8 + d + 1 ≤ 8 + (d + 1); omega, by show 8 + (7 + 11) + 40 * (8 + d) ≤ 40 * (8 + (d + 1)); omega⟩) hP hD hS hA hK hN 0 2 rfl rfl rfl hl.1 rfl (Nat.le_of_ble_eq_true rfl) dX2_valueOf_99 ⟨Nat.le_of_ble_eq_true rfl, Nat.le_of_ble_eq_true rfl⟩ (fun r_5 ur_5 H locs hr_5 hP hD hS => ?_)
      obtain ⟨⟨st_5, fl_5, ct_5⟩, f_5⟩ := ur_5
      obtain ⟨e_5, hR_5⟩ := hr_5
      have e_5 : (r_5, (st_5, fl_5, ct_5)) = ev (n, mn, lv, sl, kd, pt, he) d (pt (5 * (ix x) + 1)) h (st_3, fl_3, ct_3) := e_5
      have hR_5 : xRel n sN kd pt he ct_5 fr to rl ru su L f_5 := hR_5
      have g_5 := ev_st (n, mn, lv, sl, kd, pt, he) d (pt (5 * (ix x) + 1)) h (st_3, fl_3, ct_3)
      rw [← e_5] at g_5
      have hst_5 : st_5 ≤ 120 := g_5.2 hst_3
      have hd_5 : 120 ≤ st_5 + d := Nat.le_trans hd_3 (Nat.add_le_add_right g_5.1 d)
      have hP : va_P D vwCl (xw F Y (nI b) mn (nI n) (nI sN) (nI st_5) fl_5 gv fs fb wo lv sl ru su L f_5) H := hP
      have hD : va_D (va_A (xw F Y (nI b) mn (nI n) (nI sN) (nI st) fl gv fs fb wo lv sl ru su L f) sz) (xw F Y (nI b) mn (nI n) (nI sN) (nI st_5) fl_5 gv fs fb wo lv sl ru su L f_5) := hD
      obtain ⟨la_z_6, fa_z_6⟩ := hR_5.cell hk ra
      obtain ⟨p_z_6, e_z_6⟩ : ∃ q : Nat, (xw F Y (nI b) mn (nI n) (nI sN) (nI st_5) fl_5 gv fs fb wo lv sl ru su L f_5)[q]? = some (ar_1, ruE kd pt he ct_5 (ix x)) := pl_at la_z_6 fa_z_6
      refine lv_ladd hx hb dX2_valueOf_102 ?_
      exact wrL ((st_5, fl_5, ct_5), f_5) hx hb hr hlk dX2_valueOf_103 hP hD hS ⟨ev_4 hs k_16_4 e_3 e_5, hR_5⟩
    by_cases k_16_5 : (kd (ix x)) = 5
    · refine lv_tableIn (off := 88) (tgt := 104) hx hb dX2_valueOf_16 (by rw [k_16_5]; decide) (by rw [k_16_5]; decide) (by rw [k_16_5]; rfl) (by decide) ?_
      refine lv_aload_n hx hb dX2_valueOf_104 rfl (lv_at hl 1 rfl) ?_
      refine lv_aload_n hx hb dX2_valueOf_105 rfl (lv_at hl 0 rfl) ?_
      refine va_getN (D := D) (ci := 0) (v := .int (pt (5 * (ix x)))) (C := RX0) (T := TX0) (N := 8) (host := RX2) hx hb hts iw_X2_valueOf_X0 hown hK hP p_z_2 e_z_2 rfl 1 (by decide) (nf_117 hN) (fun _ h9 => h9) rfl dX2_valueOf_106 ?_
      refine lv_iload_n hx hb dX2_valueOf_109 rfl (lv_at hl 3 rfl) ?_
      refine WrL.callV (As := [.int (pt (5 * (ix x))), .int h]) (rest := []) (ih hR hn40 hb8 hW hst1 hd1 (pt (5 * (ix x))) h) ⟨hx, hb, hml, hown, hts⟩ (cwV 2 hts gX2_valueOf_X2_valueOf rfl rfl rfl (by decide +kernel) ⟨by show 8 + d + 1 ≤ 8 + (d + 1); omega, by show 8 + (7 + 11) + 40 * (8 + d) ≤ 40 * (8 + (d + 1)); omega⟩) hP hD hS hA hK hN 0 2 rfl rfl rfl hl.1 rfl (Nat.le_of_ble_eq_true rfl) dX2_valueOf_110 ⟨Nat.le_of_ble_eq_true rfl, Nat.le_of_ble_eq_true rfl⟩ (fun r_7 ur_7 H locs hr_7 hP hD hS => ?_)
      obtain ⟨⟨st_7, fl_7, ct_7⟩, f_7⟩ := ur_7
      obtain ⟨e_7, hR_7⟩ := hr_7
      have e_7 : (r_7, (st_7, fl_7, ct_7)) = ev (n, mn, lv, sl, kd, pt, he) d (pt (5 * (ix x))) h (st1, fl1, ct) := e_7
      have hR_7 : xRel n sN kd pt he ct_7 fr to rl ru su L f_7 := hR_7
      have g_7 := ev_st (n, mn, lv, sl, kd, pt, he) d (pt (5 * (ix x))) h (st1, fl1, ct)
      rw [← e_7] at g_7
      have hst_7 : st_7 ≤ 120 := g_7.2 hst1
      have hd_7 : 120 ≤ st_7 + d := Nat.le_trans hd1 (Nat.add_le_add_right g_7.1 d)
      have hP : va_P D vwCl (xw F Y (nI b) mn (nI n) (nI sN) (nI st_7) fl_7 gv fs fb wo lv sl ru su L f_7) H := hP
      have hD : va_D (va_A (xw F Y (nI b) mn (nI n) (nI sN) (nI st) fl gv fs fb wo lv sl ru su L f) sz) (xw F Y (nI b) mn (nI n) (nI sN) (nI st_7) fl_7 gv fs fb wo lv sl ru su L f_7) := hD
      obtain ⟨la_z_8, fa_z_8⟩ := hR_7.cell hk ra
      obtain ⟨p_z_8, e_z_8⟩ : ∃ q : Nat, (xw F Y (nI b) mn (nI n) (nI sN) (nI st_7) fl_7 gv fs fb wo lv sl ru su L f_7)[q]? = some (ar_1, ruE kd pt he ct_7 (ix x)) := pl_at la_z_8 fa_z_8
      refine lv_aload_n hx hb dX2_valueOf_113 rfl (lv_at hl 1 rfl) ?_
      refine lv_aload_n hx hb dX2_valueOf_114 rfl (lv_at hl 0 rfl) ?_
      refine va_getN (D := D) (ci := 0) (v := .int (pt (5 * (ix x) + 1))) (C := RX0) (T := TX0) (N := 8) (host := RX2) hx hb hts iw_X2_valueOf_X0 hown hK hP p_z_8 e_z_8 rfl 2 (by decide) (nf_120 hN) (fun _ h9 => h9) rfl dX2_valueOf_115 ?_
      refine lv_iload_n hx hb dX2_valueOf_118 rfl (lv_at hl 3 rfl) ?_
      refine WrL.callV (As := [.int (pt (5 * (ix x) + 1)), .int h]) (rest := [.long r_7]) (ih hR_7 hn40 hb8 hW hst_7 hd_7 (pt (5 * (ix x) + 1)) h) ⟨hx, hb, hml, hown, hts⟩ (cwV 2 hts gX2_valueOf_X2_valueOf rfl rfl rfl (by decide +kernel) ⟨by show 8 + d + 1 ≤ 8 + (d + 1); omega, by show 8 + (7 + 11) + 40 * (8 + d) ≤ 40 * (8 + (d + 1)); omega⟩) hP hD hS hA hK hN 0 2 rfl rfl rfl hl.1 rfl (Nat.le_of_ble_eq_true rfl) dX2_valueOf_119 ⟨Nat.le_of_ble_eq_true rfl, Nat.le_of_ble_eq_true rfl⟩ (fun r_9 ur_9 H locs hr_9 hP hD hS => ?_)
      obtain ⟨⟨st_9, fl_9, ct_9⟩, f_9⟩ := ur_9
      obtain ⟨e_9, hR_9⟩ := hr_9
      have e_9 : (r_9, (st_9, fl_9, ct_9)) = ev (n, mn, lv, sl, kd, pt, he) d (pt (5 * (ix x) + 1)) h (st_7, fl_7, ct_7) := e_9
      have hR_9 : xRel n sN kd pt he ct_9 fr to rl ru su L f_9 := hR_9
      have g_9 := ev_st (n, mn, lv, sl, kd, pt, he) d (pt (5 * (ix x) + 1)) h (st_7, fl_7, ct_7)
      rw [← e_9] at g_9
      have hst_9 : st_9 ≤ 120 := g_9.2 hst_7
      have hd_9 : 120 ≤ st_9 + d := Nat.le_trans hd_7 (Nat.add_le_add_right g_9.1 d)
      have hP : va_P D vwCl (xw F Y (nI b) mn (nI n) (nI sN) (nI st_9) fl_9 gv fs fb wo lv sl ru su L f_9) H := hP
      have hD : va_D (va_A (xw F Y (nI b) mn (nI n) (nI sN) (nI st) fl gv fs fb wo lv sl ru su L f) sz) (xw F Y (nI b) mn (nI n) (nI sN) (nI st_9) fl_9 gv fs fb wo lv sl ru su L f_9) := hD
      obtain ⟨la_z_10, fa_z_10⟩ := hR_9.cell hk ra
      obtain ⟨p_z_10, e_z_10⟩ : ∃ q : Nat, (xw F Y (nI b) mn (nI n) (nI sN) (nI st_9) fl_9 gv fs fb wo lv sl ru su L f_9)[q]? = some (ar_1, ruE kd pt he ct_9 (ix x)) := pl_at la_z_10 fa_z_10
      refine lv_lsub hx hb dX2_valueOf_122 ?_
      exact wrL ((st_9, fl_9, ct_9), f_9) hx hb hr hlk dX2_valueOf_123 hP hD hS ⟨ev_5 hs k_16_5 e_7 e_9, hR_9⟩
    by_cases k_16_6 : (kd (ix x)) = 6
    · refine lv_tableIn (off := 108) (tgt := 124) hx hb dX2_valueOf_16 (by rw [k_16_6]; decide) (by rw [k_16_6]; decide) (by rw [k_16_6]; rfl) (by decide) ?_
      refine lv_aload_n hx hb dX2_valueOf_124 rfl (lv_at hl 1 rfl) ?_
      refine lv_aload_n hx hb dX2_valueOf_125 rfl (lv_at hl 0 rfl) ?_
      refine va_getN (D := D) (ci := 0) (v := .int (pt (5 * (ix x)))) (C := RX0) (T := TX0) (N := 8) (host := RX2) hx hb hts iw_X2_valueOf_X0 hown hK hP p_z_2 e_z_2 rfl 1 (by decide) (nf_117 hN) (fun _ h9 => h9) rfl dX2_valueOf_126 ?_
      refine lv_iload_n hx hb dX2_valueOf_129 rfl (lv_at hl 3 rfl) ?_
      refine WrL.callV (As := [.int (pt (5 * (ix x))), .int h]) (rest := []) (ih hR hn40 hb8 hW hst1 hd1 (pt (5 * (ix x))) h) ⟨hx, hb, hml, hown, hts⟩ (cwV 2 hts gX2_valueOf_X2_valueOf rfl rfl rfl (by decide +kernel) ⟨by show 8 + d + 1 ≤ 8 + (d + 1); omega, by show 8 + (7 + 11) + 40 * (8 + d) ≤ 40 * (8 + (d + 1)); omega⟩) hP hD hS hA hK hN 0 2 rfl rfl rfl hl.1 rfl (Nat.le_of_ble_eq_true rfl) dX2_valueOf_130 ⟨Nat.le_of_ble_eq_true rfl, Nat.le_of_ble_eq_true rfl⟩ (fun r_11 ur_11 H locs hr_11 hP hD hS => ?_)
      obtain ⟨⟨st_11, fl_11, ct_11⟩, f_11⟩ := ur_11
      obtain ⟨e_11, hR_11⟩ := hr_11
      have e_11 : (r_11, (st_11, fl_11, ct_11)) = ev (n, mn, lv, sl, kd, pt, he) d (pt (5 * (ix x))) h (st1, fl1, ct) := e_11
      have hR_11 : xRel n sN kd pt he ct_11 fr to rl ru su L f_11 := hR_11
      have g_11 := ev_st (n, mn, lv, sl, kd, pt, he) d (pt (5 * (ix x))) h (st1, fl1, ct)
      rw [← e_11] at g_11
      have hst_11 : st_11 ≤ 120 := g_11.2 hst1
      have hd_11 : 120 ≤ st_11 + d := Nat.le_trans hd1 (Nat.add_le_add_right g_11.1 d)
      have hP : va_P D vwCl (xw F Y (nI b) mn (nI n) (nI sN) (nI st_11) fl_11 gv fs fb wo lv sl ru su L f_11) H := hP
      have hD : va_D (va_A (xw F Y (nI b) mn (nI n) (nI sN) (nI st) fl gv fs fb wo lv sl ru su L f) sz) (xw F Y (nI b) mn (nI n) (nI sN) (nI st_11) fl_11 gv fs fb wo lv sl ru su L f_11) := hD
      obtain ⟨la_z_12, fa_z_12⟩ := hR_11.cell hk ra
      obtain ⟨p_z_12, e_z_12⟩ : ∃ q : Nat, (xw F Y (nI b) mn (nI n) (nI sN) (nI st_11) fl_11 gv fs fb wo lv sl ru su L f_11)[q]? = some (ar_1, ruE kd pt he ct_11 (ix x)) := pl_at la_z_12 fa_z_12
      refine lv_aload_n hx hb dX2_valueOf_133 rfl (lv_at hl 1 rfl) ?_
      refine lv_aload_n hx hb dX2_valueOf_134 rfl (lv_at hl 0 rfl) ?_
      refine va_getN (D := D) (ci := 0) (v := .int (pt (5 * (ix x) + 1))) (C := RX0) (T := TX0) (N := 8) (host := RX2) hx hb hts iw_X2_valueOf_X0 hown hK hP p_z_12 e_z_12 rfl 2 (by decide) (nf_120 hN) (fun _ h9 => h9) rfl dX2_valueOf_135 ?_
      refine lv_iload_n hx hb dX2_valueOf_138 rfl (lv_at hl 3 rfl) ?_
      refine WrL.callV (As := [.int (pt (5 * (ix x) + 1)), .int h]) (rest := [.long r_11]) (ih hR_11 hn40 hb8 hW hst_11 hd_11 (pt (5 * (ix x) + 1)) h) ⟨hx, hb, hml, hown, hts⟩ (cwV 2 hts gX2_valueOf_X2_valueOf rfl rfl rfl (by decide +kernel) ⟨by show 8 + d + 1 ≤ 8 + (d + 1); omega, by show 8 + (7 + 11) + 40 * (8 + d) ≤ 40 * (8 + (d + 1)); omega⟩) hP hD hS hA hK hN 0 2 rfl rfl rfl hl.1 rfl (Nat.le_of_ble_eq_true rfl) dX2_valueOf_139 ⟨Nat.le_of_ble_eq_true rfl, Nat.le_of_ble_eq_true rfl⟩ (fun r_13 ur_13 H locs hr_13 hP hD hS => ?_)
      obtain ⟨⟨st_13, fl_13, ct_13⟩, f_13⟩ := ur_13
      obtain ⟨e_13, hR_13⟩ := hr_13
      have e_13 : (r_13, (st_13, fl_13, ct_13)) = ev (n, mn, lv, sl, kd, pt, he) d (pt (5 * (ix x) + 1)) h (st_11, fl_11, ct_11) := e_13
      have hR_13 : xRel n sN kd pt he ct_13 fr to rl ru su L f_13 := hR_13
      have g_13 := ev_st (n, mn, lv, sl, kd, pt, he) d (pt (5 * (ix x) + 1)) h (st_11, fl_11, ct_11)
      rw [← e_13] at g_13
      have hst_13 : st_13 ≤ 120 := g_13.2 hst_11
      have hd_13 : 120 ≤ st_13 + d := Nat.le_trans hd_11 (Nat.add_le_add_right g_13.1 d)
      have hP : va_P D vwCl (xw F Y (nI b) mn (nI n) (nI sN) (nI st_13) fl_13 gv fs fb wo lv sl ru su L f_13) H := hP
      have hD : va_D (va_A (xw F Y (nI b) mn (nI n) (nI sN) (nI st) fl gv fs fb wo lv sl ru su L f) sz) (xw F Y (nI b) mn (nI n) (nI sN) (nI st_13) fl_13 gv fs fb wo lv sl ru su L f_13) := hD
      obtain ⟨la_z_14, fa_z_14⟩ := hR_13.cell hk ra
      obtain ⟨p_z_14, e_z_14⟩ : ∃ q : Nat, (xw F Y (nI b) mn (nI n) (nI sN) (nI st_13) fl_13 gv fs fb wo lv sl ru su L f_13)[q]? = some (ar_1, ruE kd pt he ct_13 (ix x)) := pl_at la_z_14 fa_z_14
      refine va_mmin_long hx hb (hml.trans hl.1.symm) hown (hts (.methodLink RX2 123 Lib.MathLoose.min_long.x) (by decide +kernel)) (hts (.static Lib.MathLoose.min_long.x) (by decide +kernel)) (hts (.initialized "java/lang/Math") (by decide +kernel)) (hts (.code Lib.MathLoose.min_long.x Lib.MathLoose.min_long.code 4 (some .long)) (by decide +kernel)) (by show 1 ≤ 8 + (d + 1); omega) (Nat.le_trans (m := 40) (Nat.le_of_ble_eq_true rfl) (by show 40 ≤ 40 * (8 + (d + 1)); omega)) (Nat.zero_le _) (Nat.zero_le _) dX2_valueOf_142 ?_
      exact wrL ((st_13, fl_13, ct_13), f_13) hx hb hr hlk dX2_valueOf_145 hP hD hS ⟨ev_6 hs k_16_6 e_11 e_13, hR_13⟩
    by_cases k_16_7 : (kd (ix x)) = 7
    · refine lv_tableIn (off := 130) (tgt := 146) hx hb dX2_valueOf_16 (by rw [k_16_7]; decide) (by rw [k_16_7]; decide) (by rw [k_16_7]; rfl) (by decide) ?_
      refine lv_aload_n hx hb dX2_valueOf_146 rfl (lv_at hl 1 rfl) ?_
      refine lv_aload_n hx hb dX2_valueOf_147 rfl (lv_at hl 0 rfl) ?_
      refine va_getN (D := D) (ci := 0) (v := .int (pt (5 * (ix x)))) (C := RX0) (T := TX0) (N := 8) (host := RX2) hx hb hts iw_X2_valueOf_X0 hown hK hP p_z_2 e_z_2 rfl 1 (by decide) (nf_117 hN) (fun _ h9 => h9) rfl dX2_valueOf_148 ?_
      refine lv_iload_n hx hb dX2_valueOf_151 rfl (lv_at hl 3 rfl) ?_
      refine WrL.callV (As := [.int (pt (5 * (ix x))), .int h]) (rest := []) (ih hR hn40 hb8 hW hst1 hd1 (pt (5 * (ix x))) h) ⟨hx, hb, hml, hown, hts⟩ (cwV 2 hts gX2_valueOf_X2_valueOf rfl rfl rfl (by decide +kernel) ⟨by show 8 + d + 1 ≤ 8 + (d + 1); omega, by show 8 + (7 + 11) + 40 * (8 + d) ≤ 40 * (8 + (d + 1)); omega⟩) hP hD hS hA hK hN 0 2 rfl rfl rfl hl.1 rfl (Nat.le_of_ble_eq_true rfl) dX2_valueOf_152 ⟨Nat.le_of_ble_eq_true rfl, Nat.le_of_ble_eq_true rfl⟩ (fun r_15 ur_15 H locs hr_15 hP hD hS => ?_)
      obtain ⟨⟨st_15, fl_15, ct_15⟩, f_15⟩ := ur_15
      obtain ⟨e_15, hR_15⟩ := hr_15
      have e_15 : (r_15, (st_15, fl_15, ct_15)) = ev (n, mn, lv, sl, kd, pt, he) d (pt (5 * (ix x))) h (st1, fl1, ct) := e_15
      have hR_15 : xRel n sN kd pt he ct_15 fr to rl ru su L f_15 := hR_15
      have g_15 := ev_st (n, mn, lv, sl, kd, pt, he) d (pt (5 * (ix x))) h (st1, fl1, ct)
      rw [← e_15] at g_15
      have hst_15 : st_15 ≤ 120 := g_15.2 hst1
      have hd_15 : 120 ≤ st_15 + d := Nat.le_trans hd1 (Nat.add_le_add_right g_15.1 d)
      have hP : va_P D vwCl (xw F Y (nI b) mn (nI n) (nI sN) (nI st_15) fl_15 gv fs fb wo lv sl ru su L f_15) H := hP
      have hD : va_D (va_A (xw F Y (nI b) mn (nI n) (nI sN) (nI st) fl gv fs fb wo lv sl ru su L f) sz) (xw F Y (nI b) mn (nI n) (nI sN) (nI st_15) fl_15 gv fs fb wo lv sl ru su L f_15) := hD
      obtain ⟨la_z_16, fa_z_16⟩ := hR_15.cell hk ra
      obtain ⟨p_z_16, e_z_16⟩ : ∃ q : Nat, (xw F Y (nI b) mn (nI n) (nI sN) (nI st_15) fl_15 gv fs fb wo lv sl ru su L f_15)[q]? = some (ar_1, ruE kd pt he ct_15 (ix x)) := pl_at la_z_16 fa_z_16
      refine lv_aload_n hx hb dX2_valueOf_155 rfl (lv_at hl 1 rfl) ?_
      refine lv_aload_n hx hb dX2_valueOf_156 rfl (lv_at hl 0 rfl) ?_
      refine va_getN (D := D) (ci := 0) (v := .int (pt (5 * (ix x) + 1))) (C := RX0) (T := TX0) (N := 8) (host := RX2) hx hb hts iw_X2_valueOf_X0 hown hK hP p_z_16 e_z_16 rfl 2 (by decide) (nf_120 hN) (fun _ h9 => h9) rfl dX2_valueOf_157 ?_
      refine lv_iload_n hx hb dX2_valueOf_160 rfl (lv_at hl 3 rfl) ?_
      refine WrL.callV (As := [.int (pt (5 * (ix x) + 1)), .int h]) (rest := [.long r_15]) (ih hR_15 hn40 hb8 hW hst_15 hd_15 (pt (5 * (ix x) + 1)) h) ⟨hx, hb, hml, hown, hts⟩ (cwV 2 hts gX2_valueOf_X2_valueOf rfl rfl rfl (by decide +kernel) ⟨by show 8 + d + 1 ≤ 8 + (d + 1); omega, by show 8 + (7 + 11) + 40 * (8 + d) ≤ 40 * (8 + (d + 1)); omega⟩) hP hD hS hA hK hN 0 2 rfl rfl rfl hl.1 rfl (Nat.le_of_ble_eq_true rfl) dX2_valueOf_161 ⟨Nat.le_of_ble_eq_true rfl, Nat.le_of_ble_eq_true rfl⟩ (fun r_17 ur_17 H locs hr_17 hP hD hS => ?_)
      obtain ⟨⟨st_17, fl_17, ct_17⟩, f_17⟩ := ur_17
      obtain ⟨e_17, hR_17⟩ := hr_17
      have e_17 : (r_17, (st_17, fl_17, ct_17)) = ev (n, mn, lv, sl, kd, pt, he) d (pt (5 * (ix x) + 1)) h (st_15, fl_15, ct_15) := e_17
      have hR_17 : xRel n sN kd pt he ct_17 fr to rl ru su L f_17 := hR_17
      have g_17 := ev_st (n, mn, lv, sl, kd, pt, he) d (pt (5 * (ix x) + 1)) h (st_15, fl_15, ct_15)
      rw [← e_17] at g_17
      have hst_17 : st_17 ≤ 120 := g_17.2 hst_15
      have hd_17 : 120 ≤ st_17 + d := Nat.le_trans hd_15 (Nat.add_le_add_right g_17.1 d)
      have hP : va_P D vwCl (xw F Y (nI b) mn (nI n) (nI sN) (nI st_17) fl_17 gv fs fb wo lv sl ru su L f_17) H := hP
      have hD : va_D (va_A (xw F Y (nI b) mn (nI n) (nI sN) (nI st) fl gv fs fb wo lv sl ru su L f) sz) (xw F Y (nI b) mn (nI n) (nI sN) (nI st_17) fl_17 gv fs fb wo lv sl ru su L f_17) := hD
      obtain ⟨la_z_18, fa_z_18⟩ := hR_17.cell hk ra
      obtain ⟨p_z_18, e_z_18⟩ : ∃ q : Nat, (xw F Y (nI b) mn (nI n) (nI sN) (nI st_17) fl_17 gv fs fb wo lv sl ru su L f_17)[q]? = some (ar_1, ruE kd pt he ct_17 (ix x)) := pl_at la_z_18 fa_z_18
      refine va_mmax_long hx hb (hml.trans hl.1.symm) hown (hts (.methodLink RX2 129 Lib.MathLoose.max_long.x) (by decide +kernel)) (hts (.static Lib.MathLoose.max_long.x) (by decide +kernel)) (hts (.initialized "java/lang/Math") (by decide +kernel)) (hts (.code Lib.MathLoose.max_long.x Lib.MathLoose.max_long.code 4 (some .long)) (by decide +kernel)) (by show 1 ≤ 8 + (d + 1); omega) (Nat.le_trans (m := 40) (Nat.le_of_ble_eq_true rfl) (by show 40 ≤ 40 * (8 + (d + 1)); omega)) (Nat.zero_le _) (Nat.zero_le _) dX2_valueOf_164 ?_
      exact wrL ((st_17, fl_17, ct_17), f_17) hx hb hr hlk dX2_valueOf_167 hP hD hS ⟨ev_7 hs k_16_7 e_15 e_17, hR_17⟩
    by_cases k_16_8 : (kd (ix x)) = 8
    · refine lv_tableIn (off := 152) (tgt := 168) hx hb dX2_valueOf_16 (by rw [k_16_8]; decide) (by rw [k_16_8]; decide) (by rw [k_16_8]; rfl) (by decide) ?_
      refine lv_aload_n hx hb dX2_valueOf_168 rfl (lv_at hl 1 rfl) ?_
      refine lv_aload_n hx hb dX2_valueOf_169 rfl (lv_at hl 0 rfl) ?_
      refine va_getN (D := D) (ci := 0) (v := .int (pt (5 * (ix x)))) (C := RX0) (T := TX0) (N := 8) (host := RX2) hx hb hts iw_X2_valueOf_X0 hown hK hP p_z_2 e_z_2 rfl 1 (by decide) (nf_117 hN) (fun _ h9 => h9) rfl dX2_valueOf_170 ?_
      refine lv_iload_n hx hb dX2_valueOf_173 rfl (lv_at hl 3 rfl) ?_
      refine WrL.callV (As := [.int (pt (5 * (ix x))), .int h]) (rest := []) (ih hR hn40 hb8 hW hst1 hd1 (pt (5 * (ix x))) h) ⟨hx, hb, hml, hown, hts⟩ (cwV 2 hts gX2_valueOf_X2_valueOf rfl rfl rfl (by decide +kernel) ⟨by show 8 + d + 1 ≤ 8 + (d + 1); omega, by show 8 + (7 + 11) + 40 * (8 + d) ≤ 40 * (8 + (d + 1)); omega⟩) hP hD hS hA hK hN 0 2 rfl rfl rfl hl.1 rfl (Nat.le_of_ble_eq_true rfl) dX2_valueOf_174 ⟨Nat.le_of_ble_eq_true rfl, Nat.le_of_ble_eq_true rfl⟩ (fun r_19 ur_19 H locs hr_19 hP hD hS => ?_)
      obtain ⟨⟨st_19, fl_19, ct_19⟩, f_19⟩ := ur_19
      obtain ⟨e_19, hR_19⟩ := hr_19
      have e_19 : (r_19, (st_19, fl_19, ct_19)) = ev (n, mn, lv, sl, kd, pt, he) d (pt (5 * (ix x))) h (st1, fl1, ct) := e_19
      have hR_19 : xRel n sN kd pt he ct_19 fr to rl ru su L f_19 := hR_19
      have g_19 := ev_st (n, mn, lv, sl, kd, pt, he) d (pt (5 * (ix x))) h (st1, fl1, ct)
      rw [← e_19] at g_19
      have hst_19 : st_19 ≤ 120 := g_19.2 hst1
      have hd_19 : 120 ≤ st_19 + d := Nat.le_trans hd1 (Nat.add_le_add_right g_19.1 d)
      have hP : va_P D vwCl (xw F Y (nI b) mn (nI n) (nI sN) (nI st_19) fl_19 gv fs fb wo lv sl ru su L f_19) H := hP
      have hD : va_D (va_A (xw F Y (nI b) mn (nI n) (nI sN) (nI st) fl gv fs fb wo lv sl ru su L f) sz) (xw F Y (nI b) mn (nI n) (nI sN) (nI st_19) fl_19 gv fs fb wo lv sl ru su L f_19) := hD
      obtain ⟨la_z_20, fa_z_20⟩ := hR_19.cell hk ra
      obtain ⟨p_z_20, e_z_20⟩ : ∃ q : Nat, (xw F Y (nI b) mn (nI n) (nI sN) (nI st_19) fl_19 gv fs fb wo lv sl ru su L f_19)[q]? = some (ar_1, ruE kd pt he ct_19 (ix x)) := pl_at la_z_20 fa_z_20
      refine lv_aload_n hx hb dX2_valueOf_177 rfl (lv_at hl 0 rfl) ?_
      refine va_getN (D := D) (ci := 0) (v := .int (pt (5 * (ix x) + 1))) (C := RX0) (T := TX0) (N := 8) (host := RX2) hx hb hts iw_X2_valueOf_X0 hown hK hP p_z_20 e_z_20 rfl 2 (by decide) (nf_120 hN) (fun _ h9 => h9) rfl dX2_valueOf_178 ?_
      refine lv_aload_n hx hb dX2_valueOf_181 rfl (lv_at hl 0 rfl) ?_
      refine va_getN (D := D) (ci := 0) (v := .int (pt (5 * (ix x) + 2))) (C := RX0) (T := TX0) (N := 8) (host := RX2) hx hb hts iw_X2_valueOf_X0 hown hK hP p_z_20 e_z_20 rfl 3 (by decide) (nf_132 hN) (fun _ h9 => h9) rfl dX2_valueOf_182 ?_
      refine RoL.callS (As := [.long r_19, .int (pt (5 * (ix x) + 1)), .int (pt (5 * (ix x) + 2))]) (rest := []) (c_X2_scaled r_19 (pt (5 * (ix x) + 1)) (pt (5 * (ix x) + 2)) (wf_8 (hW.1 _ hk) k_16_8).1) ⟨hx, hb, hml, hown, hts⟩ (va_cwS 3 hts gX2_valueOf_X2_scaled rfl rfl rfl (by decide +kernel) ⟨by show 1 + 1 ≤ 8 + (d + 1); omega, by show 8 + (4 + 11) + 40 * 1 ≤ 40 * (8 + (d + 1)); omega⟩) hP hK hN rfl hl.1 rfl (Nat.le_of_ble_eq_true rfl) dX2_valueOf_185 ⟨Nat.le_of_ble_eq_true rfl, Nat.le_of_ble_eq_true rfl⟩ (fun r_21 hr_21 => ?_)
      exact wrL ((st_19, fl_19, ct_19), f_19) hx hb hr hlk dX2_valueOf_188 hP hD hS ⟨by rw [hr_21]; exact ev_8 hs k_16_8 e_19, hR_19⟩
    by_cases k_16_9 : (kd (ix x)) = 9
    · refine lv_tableIn (off := 173) (tgt := 189) hx hb dX2_valueOf_16 (by rw [k_16_9]; decide) (by rw [k_16_9]; decide) (by rw [k_16_9]; rfl) (by decide) ?_
      refine lv_aload_n hx hb dX2_valueOf_189 rfl (lv_at hl 1 rfl) ?_
      refine lv_aload_n hx hb dX2_valueOf_190 rfl (lv_at hl 1 rfl) ?_
      refine lv_aload_n hx hb dX2_valueOf_191 rfl (lv_at hl 0 rfl) ?_
      refine va_getN (D := D) (ci := 0) (v := .int (pt (5 * (ix x)))) (C := RX0) (T := TX0) (N := 8) (host := RX2) hx hb hts iw_X2_valueOf_X0 hown hK hP p_z_2 e_z_2 rfl 1 (by decide) (nf_117 hN) (fun _ h9 => h9) rfl dX2_valueOf_192 ?_
      refine lv_iload_n hx hb dX2_valueOf_195 rfl (lv_at hl 3 rfl) ?_
      refine WrL.callV (As := [.int (pt (5 * (ix x))), .int h]) (rest := [.ref (F 0)]) (ih hR hn40 hb8 hW hst1 hd1 (pt (5 * (ix x))) h) ⟨hx, hb, hml, hown, hts⟩ (cwV 2 hts gX2_valueOf_X2_valueOf rfl rfl rfl (by decide +kernel) ⟨by show 8 + d + 1 ≤ 8 + (d + 1); omega, by show 8 + (7 + 11) + 40 * (8 + d) ≤ 40 * (8 + (d + 1)); omega⟩) hP hD hS hA hK hN 0 2 rfl rfl rfl hl.1 rfl (Nat.le_of_ble_eq_true rfl) dX2_valueOf_196 ⟨Nat.le_of_ble_eq_true rfl, Nat.le_of_ble_eq_true rfl⟩ (fun r_22 ur_22 H locs hr_22 hP hD hS => ?_)
      obtain ⟨⟨st_22, fl_22, ct_22⟩, f_22⟩ := ur_22
      obtain ⟨e_22, hR_22⟩ := hr_22
      have e_22 : (r_22, (st_22, fl_22, ct_22)) = ev (n, mn, lv, sl, kd, pt, he) d (pt (5 * (ix x))) h (st1, fl1, ct) := e_22
      have hR_22 : xRel n sN kd pt he ct_22 fr to rl ru su L f_22 := hR_22
      have g_22 := ev_st (n, mn, lv, sl, kd, pt, he) d (pt (5 * (ix x))) h (st1, fl1, ct)
      rw [← e_22] at g_22
      have hst_22 : st_22 ≤ 120 := g_22.2 hst1
      have hd_22 : 120 ≤ st_22 + d := Nat.le_trans hd1 (Nat.add_le_add_right g_22.1 d)
      have hP : va_P D vwCl (xw F Y (nI b) mn (nI n) (nI sN) (nI st_22) fl_22 gv fs fb wo lv sl ru su L f_22) H := hP
      have hD : va_D (va_A (xw F Y (nI b) mn (nI n) (nI sN) (nI st) fl gv fs fb wo lv sl ru su L f) sz) (xw F Y (nI b) mn (nI n) (nI sN) (nI st_22) fl_22 gv fs fb wo lv sl ru su L f_22) := hD
      obtain ⟨la_z_23, fa_z_23⟩ := hR_22.cell hk ra
      obtain ⟨p_z_23, e_z_23⟩ : ∃ q : Nat, (xw F Y (nI b) mn (nI n) (nI sN) (nI st_22) fl_22 gv fs fb wo lv sl ru su L f_22)[q]? = some (ar_1, ruE kd pt he ct_22 (ix x)) := pl_at la_z_23 fa_z_23
      refine lv_lconst (v := 0) hx hb dX2_valueOf_199 (by decide) ?_
      refine W.lcmp hx hb dX2_valueOf_200 ?_
      refine lv_if_le (tgt := 211) hx hb dX2_valueOf_201 (by decide) (fun c_201 => ?_) (fun c_201 => ?_)
      · have c_201 := lc_lep c_201
        refine lv_aload_n hx hb dX2_valueOf_211 rfl (lv_at hl 0 rfl) ?_
        refine va_getN (D := D) (ci := 0) (v := .int (pt (5 * (ix x) + 2))) (C := RX0) (T := TX0) (N := 8) (host := RX2) hx hb hts iw_X2_valueOf_X0 hown hK hP p_z_23 e_z_23 rfl 3 (by decide) (nf_132 hN) (fun _ h9 => h9) rfl dX2_valueOf_212 ?_
        refine lv_iload_n hx hb dX2_valueOf_215 rfl (lv_at hl 3 rfl) ?_
        refine WrL.callV (As := [.int (pt (5 * (ix x) + 2)), .int h]) (rest := []) (ih hR_22 hn40 hb8 hW hst_22 hd_22 (pt (5 * (ix x) + 2)) h) ⟨hx, hb, hml, hown, hts⟩ (cwV 2 hts gX2_valueOf_X2_valueOf rfl rfl rfl (by decide +kernel) ⟨by show 8 + d + 1 ≤ 8 + (d + 1); omega, by show 8 + (7 + 11) + 40 * (8 + d) ≤ 40 * (8 + (d + 1)); omega⟩) hP hD hS hA hK hN 0 2 rfl rfl rfl hl.1 rfl (Nat.le_of_ble_eq_true rfl) dX2_valueOf_216 ⟨Nat.le_of_ble_eq_true rfl, Nat.le_of_ble_eq_true rfl⟩ (fun r_24 ur_24 H locs hr_24 hP hD hS => ?_)
        obtain ⟨⟨st_24, fl_24, ct_24⟩, f_24⟩ := ur_24
        obtain ⟨e_24, hR_24⟩ := hr_24
        have e_24 : (r_24, (st_24, fl_24, ct_24)) = ev (n, mn, lv, sl, kd, pt, he) d (pt (5 * (ix x) + 2)) h (st_22, fl_22, ct_22) := e_24
        have hR_24 : xRel n sN kd pt he ct_24 fr to rl ru su L f_24 := hR_24
        have g_24 := ev_st (n, mn, lv, sl, kd, pt, he) d (pt (5 * (ix x) + 2)) h (st_22, fl_22, ct_22)
        rw [← e_24] at g_24
        have hst_24 : st_24 ≤ 120 := g_24.2 hst_22
        have hd_24 : 120 ≤ st_24 + d := Nat.le_trans hd_22 (Nat.add_le_add_right g_24.1 d)
        have hP : va_P D vwCl (xw F Y (nI b) mn (nI n) (nI sN) (nI st_24) fl_24 gv fs fb wo lv sl ru su L f_24) H := hP
        have hD : va_D (va_A (xw F Y (nI b) mn (nI n) (nI sN) (nI st) fl gv fs fb wo lv sl ru su L f) sz) (xw F Y (nI b) mn (nI n) (nI sN) (nI st_24) fl_24 gv fs fb wo lv sl ru su L f_24) := hD
        obtain ⟨la_z_25, fa_z_25⟩ := hR_24.cell hk ra
        obtain ⟨p_z_25, e_z_25⟩ : ∃ q : Nat, (xw F Y (nI b) mn (nI n) (nI sN) (nI st_24) fl_24 gv fs fb wo lv sl ru su L f_24)[q]? = some (ar_1, ruE kd pt he ct_24 (ix x)) := pl_at la_z_25 fa_z_25
        exact wrL ((st_24, fl_24, ct_24), f_24) hx hb hr hlk dX2_valueOf_219 hP hD hS ⟨ev_9 hs k_16_9 e_22 (by rw [if_neg c_201]) e_24, hR_24⟩
      · have c_201 := lc_len c_201
        refine lv_aload_n hx hb dX2_valueOf_204 rfl (lv_at hl 0 rfl) ?_
        refine va_getN (D := D) (ci := 0) (v := .int (pt (5 * (ix x) + 1))) (C := RX0) (T := TX0) (N := 8) (host := RX2) hx hb hts iw_X2_valueOf_X0 hown hK hP p_z_23 e_z_23 rfl 2 (by decide) (nf_120 hN) (fun _ h9 => h9) rfl dX2_valueOf_205 ?_
        refine lv_goto (tgt := 215) hx hb dX2_valueOf_208 (by decide) ?_
        refine lv_iload_n hx hb dX2_valueOf_215 rfl (lv_at hl 3 rfl) ?_
        refine WrL.callV (As := [.int (pt (5 * (ix x) + 1)), .int h]) (rest := []) (ih hR_22 hn40 hb8 hW hst_22 hd_22 (pt (5 * (ix x) + 1)) h) ⟨hx, hb, hml, hown, hts⟩ (cwV 2 hts gX2_valueOf_X2_valueOf rfl rfl rfl (by decide +kernel) ⟨by show 8 + d + 1 ≤ 8 + (d + 1); omega, by show 8 + (7 + 11) + 40 * (8 + d) ≤ 40 * (8 + (d + 1)); omega⟩) hP hD hS hA hK hN 0 2 rfl rfl rfl hl.1 rfl (Nat.le_of_ble_eq_true rfl) dX2_valueOf_216 ⟨Nat.le_of_ble_eq_true rfl, Nat.le_of_ble_eq_true rfl⟩ (fun r_26 ur_26 H locs hr_26 hP hD hS => ?_)
        obtain ⟨⟨st_26, fl_26, ct_26⟩, f_26⟩ := ur_26
        obtain ⟨e_26, hR_26⟩ := hr_26
        have e_26 : (r_26, (st_26, fl_26, ct_26)) = ev (n, mn, lv, sl, kd, pt, he) d (pt (5 * (ix x) + 1)) h (st_22, fl_22, ct_22) := e_26
        have hR_26 : xRel n sN kd pt he ct_26 fr to rl ru su L f_26 := hR_26
        have g_26 := ev_st (n, mn, lv, sl, kd, pt, he) d (pt (5 * (ix x) + 1)) h (st_22, fl_22, ct_22)
        rw [← e_26] at g_26
        have hst_26 : st_26 ≤ 120 := g_26.2 hst_22
        have hd_26 : 120 ≤ st_26 + d := Nat.le_trans hd_22 (Nat.add_le_add_right g_26.1 d)
        have hP : va_P D vwCl (xw F Y (nI b) mn (nI n) (nI sN) (nI st_26) fl_26 gv fs fb wo lv sl ru su L f_26) H := hP
        have hD : va_D (va_A (xw F Y (nI b) mn (nI n) (nI sN) (nI st) fl gv fs fb wo lv sl ru su L f) sz) (xw F Y (nI b) mn (nI n) (nI sN) (nI st_26) fl_26 gv fs fb wo lv sl ru su L f_26) := hD
        obtain ⟨la_z_27, fa_z_27⟩ := hR_26.cell hk ra
        obtain ⟨p_z_27, e_z_27⟩ : ∃ q : Nat, (xw F Y (nI b) mn (nI n) (nI sN) (nI st_26) fl_26 gv fs fb wo lv sl ru su L f_26)[q]? = some (ar_1, ruE kd pt he ct_26 (ix x)) := pl_at la_z_27 fa_z_27
        exact wrL ((st_26, fl_26, ct_26), f_26) hx hb hr hlk dX2_valueOf_219 hP hD hS ⟨ev_9 hs k_16_9 e_22 (by rw [if_pos c_201]) e_26, hR_26⟩
    by_cases k_16_10 : (kd (ix x)) = 10
    · refine lv_tableIn (off := 204) (tgt := 220) hx hb dX2_valueOf_16 (by rw [k_16_10]; decide) (by rw [k_16_10]; decide) (by rw [k_16_10]; rfl) (by decide) ?_
      refine lv_aload_n hx hb dX2_valueOf_220 rfl (lv_at hl 1 rfl) ?_
      refine lv_aload_n hx hb dX2_valueOf_221 rfl (lv_at hl 0 rfl) ?_
      refine va_getN (D := D) (ci := 0) (v := .int (pt (5 * (ix x)))) (C := RX0) (T := TX0) (N := 8) (host := RX2) hx hb hts iw_X2_valueOf_X0 hown hK hP p_z_2 e_z_2 rfl 1 (by decide) (nf_117 hN) (fun _ h9 => h9) rfl dX2_valueOf_222 ?_
      refine lv_iload_n hx hb dX2_valueOf_225 rfl (lv_at hl 3 rfl) ?_
      refine lv_aload_n hx hb dX2_valueOf_226 rfl (lv_at hl 0 rfl) ?_
      refine va_getN (D := D) (ci := 0) (v := .int (pt (5 * (ix x) + 1))) (C := RX0) (T := TX0) (N := 8) (host := RX2) hx hb hts iw_X2_valueOf_X0 hown hK hP p_z_2 e_z_2 rfl 2 (by decide) (nf_120 hN) (fun _ h9 => h9) rfl dX2_valueOf_227 ?_
      refine lv_iadd hx hb dX2_valueOf_230 ?_
      refine WrL.callV (As := [.int (pt (5 * (ix x))), .int (h + (pt (5 * (ix x) + 1)))]) (rest := []) (ih hR hn40 hb8 hW hst1 hd1 (pt (5 * (ix x))) (h + (pt (5 * (ix x) + 1)))) ⟨hx, hb, hml, hown, hts⟩ (cwV 2 hts gX2_valueOf_X2_valueOf rfl rfl rfl (by decide +kernel) ⟨by show 8 + d + 1 ≤ 8 + (d + 1); omega, by show 8 + (7 + 11) + 40 * (8 + d) ≤ 40 * (8 + (d + 1)); omega⟩) hP hD hS hA hK hN 0 2 rfl rfl rfl hl.1 rfl (Nat.le_of_ble_eq_true rfl) dX2_valueOf_231 ⟨Nat.le_of_ble_eq_true rfl, Nat.le_of_ble_eq_true rfl⟩ (fun r_28 ur_28 H locs hr_28 hP hD hS => ?_)
      obtain ⟨⟨st_28, fl_28, ct_28⟩, f_28⟩ := ur_28
      obtain ⟨e_28, hR_28⟩ := hr_28
      have e_28 : (r_28, (st_28, fl_28, ct_28)) = ev (n, mn, lv, sl, kd, pt, he) d (pt (5 * (ix x))) (h + (pt (5 * (ix x) + 1))) (st1, fl1, ct) := e_28
      have hR_28 : xRel n sN kd pt he ct_28 fr to rl ru su L f_28 := hR_28
      have g_28 := ev_st (n, mn, lv, sl, kd, pt, he) d (pt (5 * (ix x))) (h + (pt (5 * (ix x) + 1))) (st1, fl1, ct)
      rw [← e_28] at g_28
      have hst_28 : st_28 ≤ 120 := g_28.2 hst1
      have hd_28 : 120 ≤ st_28 + d := Nat.le_trans hd1 (Nat.add_le_add_right g_28.1 d)
      have hP : va_P D vwCl (xw F Y (nI b) mn (nI n) (nI sN) (nI st_28) fl_28 gv fs fb wo lv sl ru su L f_28) H := hP
      have hD : va_D (va_A (xw F Y (nI b) mn (nI n) (nI sN) (nI st) fl gv fs fb wo lv sl ru su L f) sz) (xw F Y (nI b) mn (nI n) (nI sN) (nI st_28) fl_28 gv fs fb wo lv sl ru su L f_28) := hD
      obtain ⟨la_z_29, fa_z_29⟩ := hR_28.cell hk ra
      obtain ⟨p_z_29, e_z_29⟩ : ∃ q : Nat, (xw F Y (nI b) mn (nI n) (nI sN) (nI st_28) fl_28 gv fs fb wo lv sl ru su L f_28)[q]? = some (ar_1, ruE kd pt he ct_28 (ix x)) := pl_at la_z_29 fa_z_29
      exact wrL ((st_28, fl_28, ct_28), f_28) hx hb hr hlk dX2_valueOf_234 hP hD hS ⟨ev_10 hs k_16_10 e_28, hR_28⟩
    by_cases k_16_11 : (kd (ix x)) = 11
    · refine lv_tableIn (off := 219) (tgt := 235) hx hb dX2_valueOf_16 (by rw [k_16_11]; decide) (by rw [k_16_11]; decide) (by rw [k_16_11]; rfl) (by decide) ?_
      refine lv_aload_n hx hb dX2_valueOf_235 rfl (lv_at hl 1 rfl) ?_
      refine lv_aload_n hx hb dX2_valueOf_236 rfl (lv_at hl 0 rfl) ?_
      refine va_getN (D := D) (ci := 0) (v := .int (pt (5 * (ix x)))) (C := RX0) (T := TX0) (N := 8) (host := RX2) hx hb hts iw_X2_valueOf_X0 hown hK hP p_z_2 e_z_2 rfl 1 (by decide) (nf_117 hN) (fun _ h9 => h9) rfl dX2_valueOf_237 ?_
      refine lv_iload_n hx hb dX2_valueOf_240 rfl (lv_at hl 3 rfl) ?_
      refine WrL.callV (As := [.int (pt (5 * (ix x))), .int h]) (rest := []) (ih hR hn40 hb8 hW hst1 hd1 (pt (5 * (ix x))) h) ⟨hx, hb, hml, hown, hts⟩ (cwV 2 hts gX2_valueOf_X2_valueOf rfl rfl rfl (by decide +kernel) ⟨by show 8 + d + 1 ≤ 8 + (d + 1); omega, by show 8 + (7 + 11) + 40 * (8 + d) ≤ 40 * (8 + (d + 1)); omega⟩) hP hD hS hA hK hN 0 2 rfl rfl rfl hl.1 rfl (Nat.le_of_ble_eq_true rfl) dX2_valueOf_241 ⟨Nat.le_of_ble_eq_true rfl, Nat.le_of_ble_eq_true rfl⟩ (fun r_30 ur_30 H locs hr_30 hP hD hS => ?_)
      obtain ⟨⟨st_30, fl_30, ct_30⟩, f_30⟩ := ur_30
      obtain ⟨e_30, hR_30⟩ := hr_30
      have e_30 : (r_30, (st_30, fl_30, ct_30)) = ev (n, mn, lv, sl, kd, pt, he) d (pt (5 * (ix x))) h (st1, fl1, ct) := e_30
      have hR_30 : xRel n sN kd pt he ct_30 fr to rl ru su L f_30 := hR_30
      have g_30 := ev_st (n, mn, lv, sl, kd, pt, he) d (pt (5 * (ix x))) h (st1, fl1, ct)
      rw [← e_30] at g_30
      have hst_30 : st_30 ≤ 120 := g_30.2 hst1
      have hd_30 : 120 ≤ st_30 + d := Nat.le_trans hd1 (Nat.add_le_add_right g_30.1 d)
      have hP : va_P D vwCl (xw F Y (nI b) mn (nI n) (nI sN) (nI st_30) fl_30 gv fs fb wo lv sl ru su L f_30) H := hP
      have hD : va_D (va_A (xw F Y (nI b) mn (nI n) (nI sN) (nI st) fl gv fs fb wo lv sl ru su L f) sz) (xw F Y (nI b) mn (nI n) (nI sN) (nI st_30) fl_30 gv fs fb wo lv sl ru su L f_30) := hD
      obtain ⟨la_z_31, fa_z_31⟩ := hR_30.cell hk ra
      obtain ⟨p_z_31, e_z_31⟩ : ∃ q : Nat, (xw F Y (nI b) mn (nI n) (nI sN) (nI st_30) fl_30 gv fs fb wo lv sl ru su L f_30)[q]? = some (ar_1, ruE kd pt he ct_30 (ix x)) := pl_at la_z_31 fa_z_31
      refine lv_aload_n hx hb dX2_valueOf_244 rfl (lv_at hl 0 rfl) ?_
      refine RoL.callS (As := [.long r_30, .ref ar_1]) (rest := []) (c_X2_banded (sN := sN) la_z_31 fa_z_31 r_30) ⟨hx, hb, hml, hown, hts⟩ (va_cwS 2 hts gX2_valueOf_X2_banded rfl rfl rfl (by decide +kernel) ⟨by show 0 + 1 ≤ 8 + (d + 1); omega, by show 8 + (3 + 11) + 40 * 0 ≤ 40 * (8 + (d + 1)); omega⟩) hP hK hN rfl hl.1 rfl (Nat.le_of_ble_eq_true rfl) dX2_valueOf_245 ⟨Nat.le_of_ble_eq_true rfl, Nat.le_of_ble_eq_true rfl⟩ (fun r_32 hr_32 => ?_)
      exact wrL ((st_30, fl_30, ct_30), f_30) hx hb hr hlk dX2_valueOf_248 hP hD hS ⟨by rw [hr_32]; exact ev_11 hs k_16_11 e_30, hR_30⟩
    by_cases k_16_13 : (kd (ix x)) = 13
    · refine lv_tableIn (off := 233) (tgt := 249) hx hb dX2_valueOf_16 (by rw [k_16_13]; decide) (by rw [k_16_13]; decide) (by rw [k_16_13]; rfl) (by decide) ?_
      refine lv_aload_n hx hb dX2_valueOf_249 rfl (lv_at hl 0 rfl) ?_
      refine lv_dup hx hb dX2_valueOf_250 rfl ?_
      refine va_getN (D := D) (ci := 0) (v := .int (ct (ix x))) (C := RX0) (T := TX0) (N := 8) (host := RX2) hx hb hts iw_X2_valueOf_X0 hown hK hP p_z_2 e_z_2 rfl 7 (by decide) (nf_104 hN) (fun _ h9 => h9) rfl dX2_valueOf_251 ?_
      refine lv_iconst (v := 1) hx hb dX2_valueOf_254 (by decide) ?_
      refine lv_iadd hx hb dX2_valueOf_255 ?_
      have hset : (xw F Y (nI b) mn (nI n) (nI sN) (nI st1) fl1 gv fs fb wo lv sl ru su L f).set p_z_2 (ar_1, .inr (0, [.int (kd (ix x)), .int (pt (5 * ix x)), .int (pt (5 * ix x + 1)), .int (pt (5 * ix x + 2)), .int (pt (5 * ix x + 3)), .int (pt (5 * ix x + 4)), .long (he (ix x)), .int ((ct (ix x)) + 1)])) = xw F Y (nI b) mn (nI n) (nI sN) (nI st1) fl1 gv fs fb wo lv sl ru su L (va_up f ar_1 (.inr (0, [.int (kd (ix x)), .int (pt (5 * ix x)), .int (pt (5 * ix x + 1)), .int (pt (5 * ix x + 2)), .int (pt (5 * ix x + 3)), .int (pt (5 * ix x + 4)), .long (he (ix x)), .int ((ct (ix x)) + 1)]))) := va_pl_set hD la_z_2 (by rw [fa_z_2]; exact e_z_2)
      refine va_putN (D := D) (ci := 0) (v := .int ((ct (ix x)) + 1)) (ty := .int) (C := RX0) (T := TX0) (N := 8) (host := RX2) hx hb hts iw_X2_valueOf_X0 tyX0 tyX0_ok nmX0 hown hK hP hD hS p_z_2 e_z_2 rfl 7 (by decide) (nf_104 hN) (fun _ h9 => h9) rfl (by decide +kernel) rfl rfl (Nat.le_of_ble_eq_true rfl) dX2_valueOf_256 (fun H locs hP hD hS => ?_)
      have hP : va_P D vwCl (xw F Y (nI b) mn (nI n) (nI sN) (nI st1) fl1 gv fs fb wo lv sl ru su L (va_up f ar_1 (.inr (0, [.int (kd (ix x)), .int (pt (5 * ix x)), .int (pt (5 * ix x + 1)), .int (pt (5 * ix x + 2)), .int (pt (5 * ix x + 3)), .int (pt (5 * ix x + 4)), .long (he (ix x)), .int ((ct (ix x)) + 1)])))) H := (congrArg (fun w => va_P D vwCl w H) hset).mp hP
      have hD : va_D (va_A (xw F Y (nI b) mn (nI n) (nI sN) (nI st) fl gv fs fb wo lv sl ru su L f) sz) (xw F Y (nI b) mn (nI n) (nI sN) (nI st1) fl1 gv fs fb wo lv sl ru su L (va_up f ar_1 (.inr (0, [.int (kd (ix x)), .int (pt (5 * ix x)), .int (pt (5 * ix x + 1)), .int (pt (5 * ix x + 2)), .int (pt (5 * ix x + 3)), .int (pt (5 * ix x + 4)), .long (he (ix x)), .int ((ct (ix x)) + 1)])))) := (congrArg (fun w => va_D _ w) hset).mp hD
      have hRt := hR.tick hk ra ((ct (ix x)) + 1)
      obtain ⟨la_z_33, fa_z_33⟩ := hRt.cell hk ra
      obtain ⟨p_z_33, e_z_33⟩ : ∃ q : Nat, (xw F Y (nI b) mn (nI n) (nI sN) (nI st1) fl1 gv fs fb wo lv sl ru su L (va_up f ar_1 (.inr (0, [.int (kd (ix x)), .int (pt (5 * ix x)), .int (pt (5 * ix x + 1)), .int (pt (5 * ix x + 2)), .int (pt (5 * ix x + 3)), .int (pt (5 * ix x + 4)), .long (he (ix x)), .int ((ct (ix x)) + 1)]))))[q]? = some (ar_1, ruE kd pt he (upd ct (ix x) ((ct (ix x)) + 1)) (ix x)) := pl_at la_z_33 fa_z_33
      refine lv_aload_n hx hb dX2_valueOf_259 rfl (lv_at hl 1 rfl) ?_
      refine lv_aload_n hx hb dX2_valueOf_260 rfl (lv_at hl 0 rfl) ?_
      refine va_getN (D := D) (ci := 0) (v := .int (pt (5 * (ix x)))) (C := RX0) (T := TX0) (N := 8) (host := RX2) hx hb hts iw_X2_valueOf_X0 hown hK hP p_z_33 e_z_33 rfl 1 (by decide) (nf_117 hN) (fun _ h9 => h9) rfl dX2_valueOf_261 ?_
      refine lv_iload_n hx hb dX2_valueOf_264 rfl (lv_at hl 3 rfl) ?_
      refine WrL.callV (As := [.int (pt (5 * (ix x))), .int h]) (rest := []) (ih hRt hn40 hb8 hW hst1 hd1 (pt (5 * (ix x))) h) ⟨hx, hb, hml, hown, hts⟩ (cwV 2 hts gX2_valueOf_X2_valueOf rfl rfl rfl (by decide +kernel) ⟨by show 8 + d + 1 ≤ 8 + (d + 1); omega, by show 8 + (7 + 11) + 40 * (8 + d) ≤ 40 * (8 + (d + 1)); omega⟩) hP hD hS hA hK hN 0 2 rfl rfl rfl hl.1 rfl (Nat.le_of_ble_eq_true rfl) dX2_valueOf_265 ⟨Nat.le_of_ble_eq_true rfl, Nat.le_of_ble_eq_true rfl⟩ (fun r_34 ur_34 H locs hr_34 hP hD hS => ?_)
      obtain ⟨⟨st_34, fl_34, ct_34⟩, f_34⟩ := ur_34
      obtain ⟨e_34, hR_34⟩ := hr_34
      have e_34 : (r_34, (st_34, fl_34, ct_34)) = ev (n, mn, lv, sl, kd, pt, he) d (pt (5 * (ix x))) h (st1, fl1, upd ct (ix x) ((ct (ix x)) + 1)) := e_34
      have hR_34 : xRel n sN kd pt he ct_34 fr to rl ru su L f_34 := hR_34
      have g_34 := ev_st (n, mn, lv, sl, kd, pt, he) d (pt (5 * (ix x))) h (st1, fl1, upd ct (ix x) ((ct (ix x)) + 1))
      rw [← e_34] at g_34
      have hst_34 : st_34 ≤ 120 := g_34.2 hst1
      have hd_34 : 120 ≤ st_34 + d := Nat.le_trans hd1 (Nat.add_le_add_right g_34.1 d)
      have hP : va_P D vwCl (xw F Y (nI b) mn (nI n) (nI sN) (nI st_34) fl_34 gv fs fb wo lv sl ru su L f_34) H := hP
      have hD : va_D (va_A (xw F Y (nI b) mn (nI n) (nI sN) (nI st) fl gv fs fb wo lv sl ru su L f) sz) (xw F Y (nI b) mn (nI n) (nI sN) (nI st_34) fl_34 gv fs fb wo lv sl ru su L f_34) := hD
      obtain ⟨la_z_35, fa_z_35⟩ := hR_34.cell hk ra
      obtain ⟨p_z_35, e_z_35⟩ : ∃ q : Nat, (xw F Y (nI b) mn (nI n) (nI sN) (nI st_34) fl_34 gv fs fb wo lv sl ru su L f_34)[q]? = some (ar_1, ruE kd pt he ct_34 (ix x)) := pl_at la_z_35 fa_z_35
      exact wrL ((st_34, fl_34, ct_34), f_34) hx hb hr hlk dX2_valueOf_268 hP hD hS ⟨ev_13 hs k_16_13 e_34, hR_34⟩
    by_cases k_16_15 : (kd (ix x)) = 15
    · refine lv_tableIn (off := 253) (tgt := 269) hx hb dX2_valueOf_16 (by rw [k_16_15]; decide) (by rw [k_16_15]; decide) (by rw [k_16_15]; rfl) (by decide) ?_
      refine lv_aload_n hx hb dX2_valueOf_269 rfl (lv_at hl 1 rfl) ?_
      refine lv_aload_n hx hb dX2_valueOf_270 rfl (lv_at hl 1 rfl) ?_
      refine lv_aload_n hx hb dX2_valueOf_271 rfl (lv_at hl 0 rfl) ?_
      refine va_getN (D := D) (ci := 0) (v := .int (pt (5 * (ix x)))) (C := RX0) (T := TX0) (N := 8) (host := RX2) hx hb hts iw_X2_valueOf_X0 hown hK hP p_z_2 e_z_2 rfl 1 (by decide) (nf_117 hN) (fun _ h9 => h9) rfl dX2_valueOf_272 ?_
      refine RoI.callV (As := [.int (pt (5 * (ix x)))]) (rest := [.ref (F 0)]) (c_X2_ruleInSlot (pt (5 * (ix x)))) ⟨hx, hb, hml, hown, hts⟩ (cwV 1 hts gX2_valueOf_X2_ruleInSlot rfl rfl rfl (by decide +kernel) ⟨by show 1 + 1 ≤ 8 + (d + 1); omega, by show 8 + (2 + 11) + 40 * 1 ≤ 40 * (8 + (d + 1)); omega⟩) hP hK hN 0 2 rfl rfl rfl hl.1 rfl (Nat.le_of_ble_eq_true rfl) dX2_valueOf_275 ⟨Nat.le_of_ble_eq_true rfl, Nat.le_of_ble_eq_true rfl⟩ (fun r_36 hr_36 => ?_)
      refine lv_iload_n hx hb dX2_valueOf_278 rfl (lv_at hl 3 rfl) ?_
      refine WrL.callV (As := [.int r_36, .int h]) (rest := []) (ih hR hn40 hb8 hW hst1 hd1 r_36 h) ⟨hx, hb, hml, hown, hts⟩ (cwV 2 hts gX2_valueOf_X2_valueOf rfl rfl rfl (by decide +kernel) ⟨by show 8 + d + 1 ≤ 8 + (d + 1); omega, by show 8 + (7 + 11) + 40 * (8 + d) ≤ 40 * (8 + (d + 1)); omega⟩) hP hD hS hA hK hN 0 2 rfl rfl rfl hl.1 rfl (Nat.le_of_ble_eq_true rfl) dX2_valueOf_279 ⟨Nat.le_of_ble_eq_true rfl, Nat.le_of_ble_eq_true rfl⟩ (fun r_37 ur_37 H locs hr_37 hP hD hS => ?_)
      obtain ⟨⟨st_37, fl_37, ct_37⟩, f_37⟩ := ur_37
      obtain ⟨e_37, hR_37⟩ := hr_37
      have e_37 : (r_37, (st_37, fl_37, ct_37)) = ev (n, mn, lv, sl, kd, pt, he) d r_36 h (st1, fl1, ct) := e_37
      have hR_37 : xRel n sN kd pt he ct_37 fr to rl ru su L f_37 := hR_37
      have g_37 := ev_st (n, mn, lv, sl, kd, pt, he) d r_36 h (st1, fl1, ct)
      rw [← e_37] at g_37
      have hst_37 : st_37 ≤ 120 := g_37.2 hst1
      have hd_37 : 120 ≤ st_37 + d := Nat.le_trans hd1 (Nat.add_le_add_right g_37.1 d)
      have hP : va_P D vwCl (xw F Y (nI b) mn (nI n) (nI sN) (nI st_37) fl_37 gv fs fb wo lv sl ru su L f_37) H := hP
      have hD : va_D (va_A (xw F Y (nI b) mn (nI n) (nI sN) (nI st) fl gv fs fb wo lv sl ru su L f) sz) (xw F Y (nI b) mn (nI n) (nI sN) (nI st_37) fl_37 gv fs fb wo lv sl ru su L f_37) := hD
      obtain ⟨la_z_38, fa_z_38⟩ := hR_37.cell hk ra
      obtain ⟨p_z_38, e_z_38⟩ : ∃ q : Nat, (xw F Y (nI b) mn (nI n) (nI sN) (nI st_37) fl_37 gv fs fb wo lv sl ru su L f_37)[q]? = some (ar_1, ruE kd pt he ct_37 (ix x)) := pl_at la_z_38 fa_z_38
      exact wrL ((st_37, fl_37, ct_37), f_37) hx hb hr hlk dX2_valueOf_282 hP hD hS ⟨ev_15 hs k_16_15 (by rw [e_37, hr_36, sp_slot, if_pos (wf_15 (hW.1 _ hk) k_16_15)]), hR_37⟩
    by_cases k_16_16 : (kd (ix x)) = 16
    · refine lv_tableIn (off := 267) (tgt := 283) hx hb dX2_valueOf_16 (by rw [k_16_16]; decide) (by rw [k_16_16]; decide) (by rw [k_16_16]; rfl) (by decide) ?_
      refine lv_lconst (v := 0) hx hb dX2_valueOf_283 (by decide) ?_
      refine lv_lstore (lv' := [(4, .long 0), (3, .ref ar_1), (0, .ref (F 0)), (1, .int x), (2, .int h)]) hx hb dX2_valueOf_284 hl (by decide) rfl (fun ls hl => ?_)
      refine lv_aload_n hx hb dX2_valueOf_286 rfl (lv_at hl 1 rfl) ?_
      refine va_getN (D := D) (ci := 0) (v := .int (pt (5 * (ix x)))) (C := RX0) (T := TX0) (N := 8) (host := RX2) hx hb hts iw_X2_valueOf_X0 hown hK hP p_z_2 e_z_2 rfl 1 (by decide) (nf_117 hN) (fun _ h9 => h9) rfl dX2_valueOf_287 ?_
      refine lv_istore (lv' := [(6, .int (pt (5 * (ix x)))), (4, .long 0), (3, .ref ar_1), (0, .ref (F 0)), (1, .int x), (2, .int h)]) hx hb dX2_valueOf_290 hl (by decide) rfl (fun ls hl => ?_)
      obtain ⟨w1, w2, w3⟩ := wf_16 (hW.1 _ hk) k_16_16
      obtain ⟨ia, hia, eia⟩ := inB_of w1 (by decide)
      obtain ⟨ib, hib, eib⟩ := inB_of w2 (by decide)
      have hab : ia ≤ ib := by rw [eia, eib] at w3; exact (nI_leI (by omega) (by omega)).mp w3
      have loop : ∀ (c2 i2 : Nat) (acc : Int64) (st2 : Nat) (fl2 : Int32) (ct2 : Nat → Int32) (f2 : Nat → va_E) (H : Heap) (locs : List Loc) (ls : Array Slot), i2 + c2 = ib + 1 → st2 ≤ 120 → 120 ≤ st2 + d → xRel n sN kd pt he ct2 fr to rl ru su L f2 → evA (ev (n, mn, lv, sl, kd, pt, he) d) sl h c2 i2 acc (st2, fl2, ct2) = ev (n, mn, lv, sl, kd, pt, he) (d + 1) x h (st, fl, ct) → va_P D vwCl (xw F Y (nI b) mn (nI n) (nI sN) (nI st2) fl2 gv fs fb wo lv sl ru su L f2) H → va_D (va_A (xw F Y (nI b) mn (nI n) (nI sN) (nI st) fl gv fs fb wo lv sl ru su L f) sz) (xw F Y (nI b) mn (nI n) (nI sN) (nI st2) fl2 gv fs fb wo lv sl ru su L f2) → va_S (va_A (xw F Y (nI b) mn (nI n) (nI sN) (nI st) fl gv fs fb wo lv sl ru su L f) sz) s.heap H locs → lv_has ls 7 [(6, .int (nI i2)), (4, .long acc), (3, .ref ar_1), (0, .ref (F 0)), (1, .int x), (2, .int h)] → W p l e (rk (8 + (d + 1))) s m ([.ref (F 0), .int x, .int h] : List Value).toArray below meth c H locs 0 0 (MQ below (va_Ql (fun r u => (r, u.1) = ev (n, mn, lv, sl, kd, pt, he) (d + 1) x h (st, fl, ct) ∧ xRel n sN kd pt he u.1.2.2 fr to rl ru su L u.2) (wrB (σ := SS × (Nat → va_E)) D (xw F Y (nI b) mn (nI n) (nI sN) (nI st) fl gv fs fb wo lv sl ru su L f) (fun u => xw F Y (nI b) mn (nI n) (nI sN) (nI u.1.1) u.1.2.1 gv fs fb wo lv sl ru su L u.2) sz) (va_A (xw F Y (nI b) mn (nI n) (nI sN) (nI st) fl gv fs fb wo lv sl ru su L f) sz)) ([.ref (F 0), .int x, .int h] : List Value).toArray s 0 0 (va_A (xw F Y (nI b) mn (nI n) (nI sN) (nI st) fl gv fs fb wo lv sl ru su L f) sz)) (F0 m 292 ls []) := by
        intro c2
        induction c2 with
        | zero =>
          intro i2 acc st2 fl2 ct2 f2 H locs ls hic hst2 hd2 hR2 hev hP hD hS hl
          obtain ⟨la_z_39, fa_z_39⟩ := hR2.cell hk ra
          obtain ⟨p_z_39, e_z_39⟩ : ∃ q : Nat, (xw F Y (nI b) mn (nI n) (nI sN) (nI st2) fl2 gv fs fb wo lv sl ru su L f2)[q]? = some (ar_1, ruE kd pt he ct2 (ix x)) := pl_at la_z_39 fa_z_39
          refine lv_iload hx hb dX2_valueOf_292 (lv_at hl 0 rfl) ?_
          refine lv_aload_n hx hb dX2_valueOf_294 rfl (lv_at hl 2 rfl) ?_
          refine va_getN (D := D) (ci := 0) (v := .int (pt (5 * (ix x) + 1))) (C := RX0) (T := TX0) (N := 8) (host := RX2) hx hb hts iw_X2_valueOf_X0 hown hK hP p_z_39 e_z_39 rfl 2 (by decide) (nf_120 hN) (fun _ h9 => h9) rfl dX2_valueOf_295 ?_
          refine lv_icmp_gt (tgt := 330) hx hb dX2_valueOf_298 (by decide) (fun c_298 => ?_) (fun c_298 => ?_)
          · refine lv_lload hx hb dX2_valueOf_330 (lv_at hl 1 rfl) ?_
            exact wrL ((st2, fl2, ct2), f2) hx hb hr hlk dX2_valueOf_332 hP hD hS ⟨hev, hR2⟩
          · exact absurd (show nI i2 > pt (5 * ix x + 1) by rw [eib]; exact nI_lt (by omega) (by omega)) c_298
        | succ c2 ih2 =>
          intro i2 acc st2 fl2 ct2 f2 H locs ls hic hst2 hd2 hR2 hev hP hD hS hl
          obtain ⟨la_z_40, fa_z_40⟩ := hR2.cell hk ra
          obtain ⟨p_z_40, e_z_40⟩ : ∃ q : Nat, (xw F Y (nI b) mn (nI n) (nI sN) (nI st2) fl2 gv fs fb wo lv sl ru su L f2)[q]? = some (ar_1, ruE kd pt he ct2 (ix x)) := pl_at la_z_40 fa_z_40
          refine lv_iload hx hb dX2_valueOf_292 (lv_at hl 0 rfl) ?_
          refine lv_aload_n hx hb dX2_valueOf_294 rfl (lv_at hl 2 rfl) ?_
          refine va_getN (D := D) (ci := 0) (v := .int (pt (5 * (ix x) + 1))) (C := RX0) (T := TX0) (N := 8) (host := RX2) hx hb hts iw_X2_valueOf_X0 hown hK hP p_z_40 e_z_40 rfl 2 (by decide) (nf_120 hN) (fun _ h9 => h9) rfl dX2_valueOf_295 ?_
          refine lv_icmp_gt (tgt := 330) hx hb dX2_valueOf_298 (by decide) (fun c_298 => ?_) (fun c_298 => ?_)
          · exact absurd (show pt (5 * ix x + 1) < nI i2 from c_298) (by rw [eib]; exact nI_nlt (by omega) (by omega))
          · refine lv_iload hx hb dX2_valueOf_301 (lv_at hl 0 rfl) ?_
            refine lv_bipush (v := 8) hx hb dX2_valueOf_303 (by decide) ?_
            refine lv_icmp_ge (tgt := 330) hx hb dX2_valueOf_305 (by decide) (fun c_305 => ?_) (fun c_305 => ?_)
            · exact absurd (show (8 : Int32) ≤ nI i2 from c_305) (nI_ge (b := 8) (by omega) (by omega))
            · refine lv_lload hx hb dX2_valueOf_308 (lv_at hl 1 rfl) ?_
              refine lv_aload_n hx hb dX2_valueOf_310 rfl (lv_at hl 3 rfl) ?_
              refine lv_aload_n hx hb dX2_valueOf_311 rfl (lv_at hl 3 rfl) ?_
              refine lv_iload hx hb dX2_valueOf_312 (lv_at hl 0 rfl) ?_
              refine RoI.callV (As := [.int (nI i2)]) (rest := [.ref (F 0), .long acc]) (c_X2_ruleInSlot (nI i2)) ⟨hx, hb, hml, hown, hts⟩ (cwV 1 hts gX2_valueOf_X2_ruleInSlot rfl rfl rfl (by decide +kernel) ⟨by show 1 + 1 ≤ 8 + (d + 1); omega, by show 8 + (2 + 11) + 40 * 1 ≤ 40 * (8 + (d + 1)); omega⟩) hP hK hN 0 2 rfl rfl rfl hl.1 rfl (Nat.le_of_ble_eq_true rfl) dX2_valueOf_314 ⟨Nat.le_of_ble_eq_true rfl, Nat.le_of_ble_eq_true rfl⟩ (fun r_41 hr_41 => ?_)
              refine lv_iload_n hx hb dX2_valueOf_317 rfl (lv_at hl 5 rfl) ?_
              refine WrL.callV (As := [.int r_41, .int h]) (rest := [.long acc]) (ih hR2 hn40 hb8 hW hst2 hd2 r_41 h) ⟨hx, hb, hml, hown, hts⟩ (cwV 2 hts gX2_valueOf_X2_valueOf rfl rfl rfl (by decide +kernel) ⟨by show 8 + d + 1 ≤ 8 + (d + 1); omega, by show 8 + (7 + 11) + 40 * (8 + d) ≤ 40 * (8 + (d + 1)); omega⟩) hP hD hS hA hK hN 0 2 rfl rfl rfl hl.1 rfl (Nat.le_of_ble_eq_true rfl) dX2_valueOf_318 ⟨Nat.le_of_ble_eq_true rfl, Nat.le_of_ble_eq_true rfl⟩ (fun r_42 ur_42 H locs hr_42 hP hD hS => ?_)
              obtain ⟨⟨st_42, fl_42, ct_42⟩, f_42⟩ := ur_42
              obtain ⟨e_42, hR_42⟩ := hr_42
              have e_42 : (r_42, (st_42, fl_42, ct_42)) = ev (n, mn, lv, sl, kd, pt, he) d r_41 h (st2, fl2, ct2) := e_42
              have hR_42 : xRel n sN kd pt he ct_42 fr to rl ru su L f_42 := hR_42
              have g_42 := ev_st (n, mn, lv, sl, kd, pt, he) d r_41 h (st2, fl2, ct2)
              rw [← e_42] at g_42
              have hst_42 : st_42 ≤ 120 := g_42.2 hst2
              have hd_42 : 120 ≤ st_42 + d := Nat.le_trans hd2 (Nat.add_le_add_right g_42.1 d)
              have hP : va_P D vwCl (xw F Y (nI b) mn (nI n) (nI sN) (nI st_42) fl_42 gv fs fb wo lv sl ru su L f_42) H := hP
              have hD : va_D (va_A (xw F Y (nI b) mn (nI n) (nI sN) (nI st) fl gv fs fb wo lv sl ru su L f) sz) (xw F Y (nI b) mn (nI n) (nI sN) (nI st_42) fl_42 gv fs fb wo lv sl ru su L f_42) := hD
              obtain ⟨la_z_43, fa_z_43⟩ := hR_42.cell hk ra
              obtain ⟨p_z_43, e_z_43⟩ : ∃ q : Nat, (xw F Y (nI b) mn (nI n) (nI sN) (nI st_42) fl_42 gv fs fb wo lv sl ru su L f_42)[q]? = some (ar_1, ruE kd pt he ct_42 (ix x)) := pl_at la_z_43 fa_z_43
              refine lv_ladd hx hb dX2_valueOf_321 ?_
              refine lv_lstore (lv' := [(4, .long (acc + r_42)), (6, .int (nI i2)), (3, .ref ar_1), (0, .ref (F 0)), (1, .int x), (2, .int h)]) hx hb dX2_valueOf_322 hl (by decide) rfl (fun ls hl => ?_)
              refine lv_iinc (v := (nI i2) + 1) (lv' := [(6, .int ((nI i2) + 1)), (4, .long (acc + r_42)), (3, .ref ar_1), (0, .ref (F 0)), (1, .int x), (2, .int h)]) hx hb dX2_valueOf_324 hl (k := 1) rfl rfl (by decide) rfl (fun ls hl => ?_)
              refine lv_goto (tgt := 292) hx hb dX2_valueOf_327 (by decide) ?_
              refine ih2 (i2 + 1) (acc + r_42) st_42 fl_42 ct_42 f_42 _ _ _ (by omega) hst_42 hd_42 hR_42 ?_ hP hD hS (lv_sub (l' := [(6, .int (nI (i2 + 1))), (4, .long (acc + r_42)), (3, .ref ar_1), (0, .ref (F 0)), (1, .int x), (2, .int h)]) hl [0, 1, 2, 3, 4, 5] (by rw [← nI_1]; rfl))
              rw [← hev]
              have hsl : sl i2 = r_41 := by rw [hr_41, sp_slot, if_pos (by rw [inB_nI (by omega)]; exact decide_eq_true (by omega)), show ix (nI i2) = i2 from nI_clamp (by omega)]
              show _ = evA _ sl h c2 (i2 + 1) (acc + (ev (n, mn, lv, sl, kd, pt, he) d (sl i2) h (st2, fl2, ct2)).1) (ev (n, mn, lv, sl, kd, pt, he) d (sl i2) h (st2, fl2, ct2)).2
              rw [hsl, ← e_42]
      refine loop (ib + 1 - ia) ia 0 st1 fl1 ct f _ _ ls (by omega) hst1 hd1 hR ?_ hP hD hS (lv_sub (l' := [(6, .int (nI ia)), (4, .long 0), (3, .ref ar_1), (0, .ref (F 0)), (1, .int x), (2, .int h)]) hl [0, 1, 2, 3, 4, 5] (by rw [← eia]; rfl))
      have e16 := ev_16' (mn := mn) (lv := lv) (sl := sl) (pt := pt) (he := he) (h := h) (ct := ct) (d := d) hs k_16_16
      rw [show ix (pt (5 * ix x)) = ia by rw [eia]; exact nI_clamp (by omega), show ix (pt (5 * ix x + 1)) = ib by rw [eib]; exact nI_clamp (by omega)] at e16
      exact e16
    · have z_16 : ¬ (kd (ix x)).toInt = 4 ∧ ¬ (kd (ix x)).toInt = 5 ∧ ¬ (kd (ix x)).toInt = 6 ∧ ¬ (kd (ix x)).toInt = 7 ∧ ¬ (kd (ix x)).toInt = 8 ∧ ¬ (kd (ix x)).toInt = 9 ∧ ¬ (kd (ix x)).toInt = 10 ∧ ¬ (kd (ix x)).toInt = 11 ∧ ¬ (kd (ix x)).toInt = 13 ∧ ¬ (kd (ix x)).toInt = 15 ∧ ¬ (kd (ix x)).toInt = 16 := by
        exact ⟨lv_neT k_16_4 (by decide), lv_neT k_16_5 (by decide), lv_neT k_16_6 (by decide), lv_neT k_16_7 (by decide), lv_neT k_16_8 (by decide), lv_neT k_16_9 (by decide), lv_neT k_16_10 (by decide), lv_neT k_16_11 (by decide), lv_neT k_16_13 (by decide), lv_neT k_16_15 (by decide), lv_neT k_16_16 (by decide)⟩
      by_cases zo_16 : (kd (ix x)).toInt < 4 ∨ 16 < (kd (ix x)).toInt
      · refine lv_tableOut (tgt := 333) hx hb dX2_valueOf_16 zo_16 (by decide) ?_
        refine lv_aload_n hx hb dX2_valueOf_333 rfl (lv_at hl 1 rfl) ?_
        refine lv_aload_n hx hb dX2_valueOf_334 rfl (lv_at hl 0 rfl) ?_
        refine lv_iload_n hx hb dX2_valueOf_335 rfl (lv_at hl 3 rfl) ?_
        refine RoL.callV (As := [.ref ar_1, .int h]) (rest := []) (c_X2_valueOfLeaf hR hn40 hb8 la_z_2 fa_z_2 (hW.1 _ hk) h) ⟨hx, hb, hml, hown, hts⟩ (cwV 2 hts gX2_valueOf_X2_valueOfLeaf rfl rfl rfl (by decide +kernel) ⟨by show 3 + 1 ≤ 8 + (d + 1); omega, by show 8 + (3 + 11) + 40 * 3 ≤ 40 * (8 + (d + 1)); omega⟩) hP hK hN 0 2 rfl rfl rfl hl.1 rfl (Nat.le_of_ble_eq_true rfl) dX2_valueOf_336 ⟨Nat.le_of_ble_eq_true rfl, Nat.le_of_ble_eq_true rfl⟩ (fun r_44 hr_44 => ?_)
        exact wrL ((st1, fl1, ct), f) hx hb hr hlk dX2_valueOf_339 hP hD hS ⟨by rw [hr_44]; exact ev_lf hs k_16_4 k_16_5 k_16_6 k_16_7 k_16_8 k_16_9 k_16_10 k_16_11 k_16_13 k_16_15 k_16_16, hR⟩
      · have zi_16 : (kd (ix x)).toInt = 12 ∨ (kd (ix x)).toInt = 14 := by omega
        refine lv_tableIn (off := 317) (tgt := 333) hx hb dX2_valueOf_16 (by omega) (by omega) (by rcases zi_16 with z | z <;> rw [z] <;> rfl) (by decide) ?_
        refine lv_aload_n hx hb dX2_valueOf_333 rfl (lv_at hl 1 rfl) ?_
        refine lv_aload_n hx hb dX2_valueOf_334 rfl (lv_at hl 0 rfl) ?_
        refine lv_iload_n hx hb dX2_valueOf_335 rfl (lv_at hl 3 rfl) ?_
        refine RoL.callV (As := [.ref ar_1, .int h]) (rest := []) (c_X2_valueOfLeaf hR hn40 hb8 la_z_2 fa_z_2 (hW.1 _ hk) h) ⟨hx, hb, hml, hown, hts⟩ (cwV 2 hts gX2_valueOf_X2_valueOfLeaf rfl rfl rfl (by decide +kernel) ⟨by show 3 + 1 ≤ 8 + (d + 1); omega, by show 8 + (3 + 11) + 40 * 3 ≤ 40 * (8 + (d + 1)); omega⟩) hP hK hN 0 2 rfl rfl rfl hl.1 rfl (Nat.le_of_ble_eq_true rfl) dX2_valueOf_336 ⟨Nat.le_of_ble_eq_true rfl, Nat.le_of_ble_eq_true rfl⟩ (fun r_45 hr_45 => ?_)
        exact wrL ((st1, fl1, ct), f) hx hb hr hlk dX2_valueOf_339 hP hD hS ⟨by rw [hr_45]; exact ev_lf hs k_16_4 k_16_5 k_16_6 k_16_7 k_16_8 k_16_9 k_16_10 k_16_11 k_16_13 k_16_15 k_16_16, hR⟩
theorem c_X2_valueOf : ∀ d, VO d
  | 0 => c_X2_valueOf_0
  | d + 1 => c_X2_valueOf_s (c_X2_valueOf d)
end
section
/-! ask, make, sluice, run in numbers; the pool grows; a cell's own contract in a larger world -/
def sp_ask (E : EV) (x h : Int32) (st : Nat) (gv : Int64) (ct : Nat → Int32) : Int32 × Nat × Int64 × (Nat → Int32) :=
  if inB x E.1 = true then (if (ev E 120 x h (0, 0, ct)).2.2.1 = 0 then (1, (ev E 120 x h (0, 0, ct)).2.1, (ev E 120 x h (0, 0, ct)).1, (ev E 120 x h (0, 0, ct)).2.2.2) else ((ev E 120 x h (0, 0, ct)).2.2.1, (ev E 120 x h (0, 0, ct)).2.1, gv, (ev E 120 x h (0, 0, ct)).2.2.2)) else (-101, st, gv, ct)
abbrev MK : Type := Nat × (Nat → Int32) × (Nat → Int32) × (Nat → Int64) × (Nat → Int32) × Nat
def pt5 (pt : Nat → Int32) (n : Nat) (a b c d e : Int32) : Nat → Int32 := upd (upd (upd (upd (upd pt (5 * n) a) (5 * n + 1) b) (5 * n + 2) c) (5 * n + 3) d) (5 * n + 4) e
def mkS (n : Nat) (kd pt : Nat → Int32) (he : Nat → Int64) (k a b c d e : Int32) (v : Int64) (ct : Nat → Int32) (st : Nat) : Int32 × MK := (nI n, n + 1, upd kd n k, pt5 pt n a b c d e, vp_updL he n v, upd ct n 0, st)
def sp_make (b n : Nat) (mn : Int32) (lv sl kd pt : Nat → Int32) (he : Nat → Int64) (k a bb c d e : Int32) (ct : Nat → Int32) (st : Nat) : Int32 × MK :=
  if knB b n kd k a bb c = true then (if fiB k a bb c d e = true then (if n = 40 then (-103, n, kd, pt, he, ct, st) else if k = 12 then
    (if (ev (n, mn, lv, sl, kd, pt, he) 120 a bb (0, 0, ct)).2.2.1 = 0 then mkS n kd pt he k a bb c d e (ev (n, mn, lv, sl, kd, pt, he) 120 a bb (0, 0, ct)).1 (ev (n, mn, lv, sl, kd, pt, he) 120 a bb (0, 0, ct)).2.2.2 (ev (n, mn, lv, sl, kd, pt, he) 120 a bb (0, 0, ct)).2.1
     else ((ev (n, mn, lv, sl, kd, pt, he) 120 a bb (0, 0, ct)).2.2.1, n, kd, pt, he, (ev (n, mn, lv, sl, kd, pt, he) 120 a bb (0, 0, ct)).2.2.2, (ev (n, mn, lv, sl, kd, pt, he) 120 a bb (0, 0, ct)).2.1))
    else mkS n kd pt he k a bb c d e 0 ct st) else (-102, n, kd, pt, he, ct, st)) else (-101, n, kd, pt, he, ct, st)
def sp_sluice (b n sN : Nat) (fr to rl : Nat → Int32) (f t r : Int32) : Int32 × Nat × (Nat → Int32) × (Nat → Int32) × (Nat → Int32) :=
  if inB f b = true ∧ inB t b = true ∧ inB r n = true then (if f = t then (-102, sN, fr, to, rl) else if sN = 8 then (-103, sN, fr, to, rl) else (nI sN, sN + 1, upd fr sN f, upd to sN t, upd rl sN r)) else (-101, sN, fr, to, rl)
/-- how much goes over -/
def amt (lf_ lt_ : Int32) (v : Int64) : Int32 := if v < 0 then 0 else if (if lf_ < 1000000000 - lt_ then lf_ else 1000000000 - lt_).toInt64 < v then (if lf_ < 1000000000 - lt_ then lf_ else 1000000000 - lt_) else v.toInt32
def sp_over (lv : Nat → Int32) (f t : Nat) (v : Int64) : Int32 × (Nat → Int32) := (amt (lv f) (lv t) v, upd (upd lv f (lv f - amt (lv f) (lv t) v)) t (upd lv f (lv f - amt (lv f) (lv t) v) t + amt (lv f) (lv t) v))
abbrev PV : Type := Nat × Int32 × (Nat → Int32) × (Nat → Int32) × (Nat → Int32) × (Nat → Int64) × (Nat → Int32) × (Nat → Int32) × (Nat → Int32)
abbrev HS : Type := (Nat → Int32) × (Nat → Int32) × Nat × Int32 × Int32 × Int32
def flS (P : PV) (h : Int32) (k : Nat) (S : HS) : Bool × HS := match P, S with
  | (n, mn, sl, kd, pt, he, fr, to, rl), (lv, ct, _, ts, tw, tm) =>
    if (ev (n, mn, lv, sl, kd, pt, he) 120 (rl k) h (0, 0, ct)).2.2.1 = 0 then (true, (sp_over lv (ix (fr k)) (ix (to k)) (ev (n, mn, lv, sl, kd, pt, he) 120 (rl k) h (0, 0, ct)).1).2, (ev (n, mn, lv, sl, kd, pt, he) 120 (rl k) h (0, 0, ct)).2.2.2, (ev (n, mn, lv, sl, kd, pt, he) 120 (rl k) h (0, 0, ct)).2.1, ts, tw, (sp_over lv (ix (fr k)) (ix (to k)) (ev (n, mn, lv, sl, kd, pt, he) 120 (rl k) h (0, 0, ct)).1).1)
    else (false, lv, (ev (n, mn, lv, sl, kd, pt, he) 120 (rl k) h (0, 0, ct)).2.2.2, (ev (n, mn, lv, sl, kd, pt, he) 120 (rl k) h (0, 0, ct)).2.1, nI k, (ev (n, mn, lv, sl, kd, pt, he) 120 (rl k) h (0, 0, ct)).2.2.1, tm)
def hrS (P : PV) (h : Int32) : Nat → Nat → HS → Bool × HS
  | 0, _, S => (true, S)
  | c + 1, k, S => if (flS P h k S).1 = true then hrS P h c (k + 1) (flS P h k S).2 else (false, (flS P h k S).2)
def rnS (P : PV) (sN : Nat) (h : Int32) : Nat → Nat → HS → Nat × HS
  | 0, w, S => (w, S)
  | c + 1, w, S => if (hrS P (h + nI w) sN 0 S).1 = true then rnS P sN h c (w + 1) (hrS P (h + nI w) sN 0 S).2 else (w, (hrS P (h + nI w) sN 0 S).2)
def sp_run (P : PV) (sN : Nat) (h c : Int32) (S : HS) : Int32 × HS := if inB c 101 = true then (nI (rnS P sN h (ix c) 0 (S.1, S.2.1, S.2.2.1, -1, 0, 0)).1, (rnS P sN h (ix c) 0 (S.1, S.2.1, S.2.2.1, -1, 0, 0)).2) else (-102, S)
def wfL (b : Nat) (lv : Nat → Int32) : Prop := ∀ k, k < b → lvB (lv k) = true
def wfS (b n sN : Nat) (fr to rl : Nat → Int32) : Prop := ∀ k, k < sN → inB (fr k) b = true ∧ inB (to k) b = true ∧ ¬ fr k = to k ∧ inB (rl k) n = true
theorem lvB_iff {x : Int32} : lvB x = true ↔ 0 ≤ x.toInt ∧ x.toInt ≤ 1000000000 := by simp [lvB]
theorem m_toInt {y : Int32} (h : lvB y = true) : (1000000000 - y).toInt = 1000000000 - y.toInt := by
  have h := lvB_iff.mp h
  have e : (1000000000 : Int32).toInt = 1000000000 := rfl
  rw [Jvm.Kit.i32_sub (by rw [e]; omega) (by rw [e]; omega), e]
theorem amt_in {x y : Int32} {v : Int64} (hx : lvB x = true) (hy : lvB y = true) : 0 ≤ (amt x y v).toInt ∧ (amt x y v).toInt ≤ x.toInt ∧ (amt x y v).toInt ≤ 1000000000 - y.toInt := by
  have hx' := lvB_iff.mp hx
  have hy' := lvB_iff.mp hy
  have em := m_toInt hy
  unfold amt
  by_cases h0 : v < 0
  · rw [if_pos h0]
    have : (0 : Int32).toInt = 0 := rfl
    omega
  · rw [if_neg h0]
    by_cases h1 : x < 1000000000 - y
    · rw [if_pos h1]
      rw [i_lt, em] at h1
      by_cases h2 : x.toInt64 < v
      · rw [if_pos h2]; omega
      · rw [if_neg h2]
        rw [l_lt, Int32.toInt_toInt64] at h2
        rw [l_lt, Int64.toInt_zero] at h0
        rw [Jvm.Kit.i32_of_i64 (by omega) (by omega)]
        omega
    · rw [if_neg h1]
      rw [i_lt, em] at h1
      by_cases h2 : (1000000000 - y).toInt64 < v
      · rw [if_pos h2]; omega
      · rw [if_neg h2]
        rw [l_lt, Int32.toInt_toInt64, em] at h2
        rw [l_lt, Int64.toInt_zero] at h0
        rw [Jvm.Kit.i32_of_i64 (by omega) (by omega)]
        omega
theorem amt_lo {x y : Int32} {v : Int64} (hx : lvB x = true) (hy : lvB y = true) : lvB (x - amt x y v) = true := by
  have h := amt_in (v := v) hx hy
  have hx' := lvB_iff.mp hx
  rw [lvB_iff, Jvm.Kit.i32_sub (by omega) (by omega)]
  omega
theorem amt_hi {x y : Int32} {v : Int64} (hx : lvB x = true) (hy : lvB y = true) : lvB (y + amt x y v) = true := by
  have h := amt_in (v := v) hx hy
  have hy' := lvB_iff.mp hy
  have hx' := lvB_iff.mp hx
  rw [lvB_iff, Jvm.Kit.i32_add (by omega) (by omega)]
  omega
/-- the class's own words for it -/
theorem amt_x {x y : Int32} {v : Int64} (hx : lvB x = true) (hy : lvB y = true) : (if (if (if 1000000000 - y < x then 1000000000 - y else x).toInt64 < v then (if 1000000000 - y < x then 1000000000 - y else x).toInt64 else v) < 0 then 0 else (if (if 1000000000 - y < x then 1000000000 - y else x).toInt64 < v then (if 1000000000 - y < x then 1000000000 - y else x).toInt64 else v)).toInt32 = amt x y v := by
  have hx' := lvB_iff.mp hx
  have hy' := lvB_iff.mp hy
  have em := m_toInt hy
  have hmin : (if 1000000000 - y < x then 1000000000 - y else x) = if x < 1000000000 - y then x else 1000000000 - y := by
    by_cases h1 : x < 1000000000 - y
    · rw [if_pos h1, if_neg (fun z => by rw [i_lt] at h1 z; omega)]
    · rw [if_neg h1]
      by_cases h2 : 1000000000 - y < x
      · rw [if_pos h2]
      · rw [if_neg h2]
        rw [i_lt] at h1 h2
        exact Int32.toInt_inj.mp (by omega)
  rw [hmin]
  have hm : 0 ≤ (if x < 1000000000 - y then x else 1000000000 - y).toInt := by
    split
    · omega
    · omega
  unfold amt
  generalize (if x < 1000000000 - y then x else 1000000000 - y) = mo at hm ⊢
  have z0 : ∀ w : Int64, w < 0 ↔ w.toInt < 0 := fun w => by rw [l_lt, Int64.toInt_zero]
  by_cases h0 : v < 0
  · rw [if_pos h0, if_neg (show ¬ mo.toInt64 < v from fun z => by rw [l_lt, Int32.toInt_toInt64] at z; rw [z0] at h0; omega), if_pos h0]; rfl
  · rw [if_neg h0]
    by_cases h1 : mo.toInt64 < v
    · rw [if_pos h1, if_pos h1, if_neg (fun z => by rw [z0, Int32.toInt_toInt64] at z; omega)]
      exact Int32.toInt32_toInt64 mo
    · rw [if_neg h1, if_neg h1, if_neg h0]
theorem over_wfL {b : Nat} {lv : Nat → Int32} {f t : Nat} {v : Int64} (h : wfL b lv) (hf : f < b) (ht : t < b) (hne : ¬ t = f) : wfL b (sp_over lv f t v).2 := by
  intro k hk
  show lvB (upd (upd lv f (lv f - amt (lv f) (lv t) v)) t (upd lv f (lv f - amt (lv f) (lv t) v) t + amt (lv f) (lv t) v) k) = true
  rw [show upd lv f (lv f - amt (lv f) (lv t) v) t = lv t from pk_un hne]
  by_cases h1 : k = t
  · rw [h1, pk_us]; exact amt_hi (h f hf) (h t ht)
  · rw [pk_un h1]
    by_cases h2 : k = f
    · rw [h2, pk_us]; exact amt_lo (h f hf) (h t ht)
    · rw [pk_un h2]; exact h k hk
/-- the pool with one rule more -/
theorem xRel.push {n sN : Nat} {kd pt : Nat → Int32} {he : Nat → Int64} {ct fr to rl : Nat → Int32} {ru su : Nat → Option Nat} {L : List Nat} {f : Nat → va_E} (h : xRel n sN kd pt he ct fr to rl ru su L f) {q : Nat} (hq : q ∉ L) (k a b c d e : Int32) (v : Int64) : xRel (n + 1) sN (upd kd n k) (pt5 pt n a b c d e) (vp_updL he n v) (upd ct n 0) fr to rl (va_up ru n (some q)) su (L ++ [q]) (va_up f q (.inr (0, [.int k, .int a, .int b, .int c, .int d, .int e, .long v, .int 0]))) := by
  obtain ⟨h1, h2, h3, h4, h5⟩ := h
  refine ⟨fun j hj => ?_, fun j hj hj2 => ?_, fun i j a hi hj e1 e2 => ?_, fun j hj => ?_, h5⟩
  · by_cases hjn : j = n
    · subst hjn
      refine ⟨q, va_up_self _ _ _, List.mem_append.mpr (Or.inr (List.mem_singleton.mpr rfl)), ?_⟩
      rw [va_up_self]
      simp [ruE, upd, vp_updL, pt5]
    · obtain ⟨a', g1, g2, g3⟩ := h1 j (by omega)
      have ne : a' ≠ q := fun z => hq (z ▸ g2)
      refine ⟨a', by rw [va_up_ne _ _ hjn]; exact g1, List.mem_append.mpr (Or.inl g2), ?_⟩
      rw [va_up_ne _ _ ne, g3]
      have n0 : ¬ 5 * j = 5 * n := by omega
      have m0 : ∀ i : Nat, i < 5 → ∀ k : Nat, k < 5 → ¬ 5 * j + i = 5 * n + k := fun i _ k _ => by omega
      have m1 : ∀ k : Nat, k < 5 → ¬ 5 * j = 5 * n + k := fun k _ => by omega
      have m2 : ∀ i : Nat, i < 5 → ¬ 5 * j + i = 5 * n := fun i _ => by omega
      simp [ruE, upd, vp_updL, pt5, hjn, n0, m0, m1, m2]
  · rw [va_up_ne _ _ (by omega)]; exact h2 j (by omega) hj2
  · by_cases hin : i = n
    · by_cases hjn : j = n
      · omega
      · rw [hin, va_up_self] at e1
        rw [va_up_ne _ _ hjn] at e2
        obtain ⟨a', g1, g2, -⟩ := h1 j (by omega)
        rw [e2] at g1
        cases g1; cases e1
        exact absurd g2 hq
    · rw [va_up_ne _ _ hin] at e1
      by_cases hjn : j = n
      · rw [hjn, va_up_self] at e2
        obtain ⟨a', g1, g2, -⟩ := h1 i (by omega)
        rw [e1] at g1
        cases g1; cases e2
        exact absurd g2 hq
      · rw [va_up_ne _ _ hjn] at e2
        exact h3 i j a (by omega) (by omega) e1 e2
  · obtain ⟨a', g1, g2, g3⟩ := h4 j hj
    have ne : a' ≠ q := fun z => hq (z ▸ g2)
    exact ⟨a', g1, List.mem_append.mpr (Or.inl g2), by rw [va_up_ne _ _ ne, g3]⟩
/-- the pool with one sluice more -/
theorem xRel.pushS {n sN : Nat} {kd pt : Nat → Int32} {he : Nat → Int64} {ct fr to rl : Nat → Int32} {ru su : Nat → Option Nat} {L : List Nat} {f : Nat → va_E} (h : xRel n sN kd pt he ct fr to rl ru su L f) {q : Nat} (hq : q ∉ L) (a b c : Int32) : xRel n (sN + 1) kd pt he ct (upd fr sN a) (upd to sN b) (upd rl sN c) ru (va_up su sN (some q)) (L ++ [q]) (va_up f q (.inr (1, [.int a, .int b, .int c]))) := by
  obtain ⟨h1, h2, h3, h4, h5⟩ := h
  refine ⟨fun j hj => ?_, h2, h3, fun j hj => ?_, fun j hj hj2 => ?_⟩
  · obtain ⟨a', g1, g2, g3⟩ := h1 j hj
    have ne : a' ≠ q := fun z => hq (z ▸ g2)
    exact ⟨a', g1, List.mem_append.mpr (Or.inl g2), by rw [va_up_ne _ _ ne, g3]⟩
  · by_cases hjn : j = sN
    · subst hjn
      refine ⟨q, va_up_self _ _ _, List.mem_append.mpr (Or.inr (List.mem_singleton.mpr rfl)), ?_⟩
      rw [va_up_self]
      simp [suE, upd]
    · obtain ⟨a', g1, g2, g3⟩ := h4 j (by omega)
      have ne : a' ≠ q := fun z => hq (z ▸ g2)
      refine ⟨a', by rw [va_up_ne _ _ hjn]; exact g1, List.mem_append.mpr (Or.inl g2), ?_⟩
      rw [va_up_ne _ _ ne, g3]
      simp [suE, upd, hjn]
  · rw [va_up_ne _ _ (by omega)]; exact h5 j (by omega) hj2
theorem xRel.sluice {n sN : Nat} {kd pt : Nat → Int32} {he : Nat → Int64} {ct fr to rl : Nat → Int32} {ru su : Nat → Option Nat} {L : List Nat} {f : Nat → va_E} (h : xRel n sN kd pt he ct fr to rl ru su L f) {k : Nat} (hk : k < sN) : ∃ a, su k = some a ∧ a ∈ L ∧ f a = suE fr to rl k := h.2.2.2.1 k hk
theorem last_at {α : Type} (w : List α) (x : α) : (w ++ [x])[w.length]? = some x := by simp
theorem last_set {α : Type} (w : List α) (x y : α) : (w ++ [x]).set w.length y = w ++ [y] := by simp
theorem cell_join {D : va_G} {A : Nat → Prop} {ws : va_W} {p q : Nat} {e0 e1 : va_E} {H H1 : Heap} (hP : va_P D vwCl ws H) (hD : va_D A ws) (hp : ws[p]? = some (q, e0)) (hk : ∀ x : Nat, x < H.size → ¬ va_A [(q, e0)] H.size x → H1[x]? = H[x]?) (h1 : va_P D vwCl [(q, e1)] H1) : va_P D vwCl (ws.set p (q, e1)) H1 ∧ va_D A (ws.set p (q, e1)) := by
  have hl := (List.getElem?_eq_some_iff.mp hp).1
  refine ⟨fun k x hx => ?_, hD.set hp⟩
  by_cases hkp : k = p
  · subst hkp
    rw [List.getElem?_set_self hl] at hx
    cases hx
    exact h1 0 _ rfl
  · rw [List.getElem?_set_ne (Ne.symm hkp)] at hx
    have hlt := (hP k x hx).lt
    refine (hP k x hx).kept (hk x.1 hlt ?_)
    rintro (⟨j, e, hj⟩ | z)
    · have hj0 : j < 1 := (List.getElem?_eq_some_iff.mp hj).1
      rw [show j = 0 by omega] at hj
      cases hj
      exact hkp (hD.1 k p x (x.1, e0) hx hp rfl)
    · omega
section SPL
variable {b n sN st st2 : Nat} {mn fl2 k a bb c d e x h : Int32} {lv sl kd pt ct ct2 : Nat → Int32} {he : Nat → Int64} {r gv : Int64}
theorem sp_ask_1 (hi : inB x n = true) (e : (r, (st2, fl2, ct2)) = ev (n, mn, lv, sl, kd, pt, he) 120 x h (0, 0, ct)) (h0 : fl2 = 0) : ((1 : Int32), st2, r, ct2) = sp_ask (n, mn, lv, sl, kd, pt, he) x h st gv ct := by
  unfold sp_ask; rw [← e]; simp [hi, h0]
theorem sp_ask_f (hi : inB x n = true) (e : (r, (st2, fl2, ct2)) = ev (n, mn, lv, sl, kd, pt, he) 120 x h (0, 0, ct)) (h0 : ¬ fl2 = 0) : (fl2, st2, gv, ct2) = sp_ask (n, mn, lv, sl, kd, pt, he) x h st gv ct := by
  unfold sp_ask; rw [← e]; simp [hi, h0]
theorem sp_ask_u (hi : inB x n = false) : ((-101 : Int32), st, gv, ct) = sp_ask (n, mn, lv, sl, kd, pt, he) x h st gv ct := by
  unfold sp_ask; simp [hi]
theorem sp_make_u (hk : knB b n kd k a bb c = false) : ((-101 : Int32), n, kd, pt, he, ct, st) = sp_make b n mn lv sl kd pt he k a bb c d e ct st := by simp [sp_make, hk]
theorem sp_make_o (hk : knB b n kd k a bb c = true) (hf : fiB k a bb c d e = false) : ((-102 : Int32), n, kd, pt, he, ct, st) = sp_make b n mn lv sl kd pt he k a bb c d e ct st := by simp [sp_make, hk, hf]
theorem sp_make_r (hk : knB b n kd k a bb c = true) (hf : fiB k a bb c d e = true) (hn : n = 40) : ((-103 : Int32), n, kd, pt, he, ct, st) = sp_make b n mn lv sl kd pt he k a bb c d e ct st := by subst hn; simp [sp_make, hk, hf]
theorem sp_make_f (hk : knB b n kd k a bb c = true) (hf : fiB k a bb c d e = true) (hn : ¬ n = 40) (h12 : k = 12) (ee : (r, (st2, fl2, ct2)) = ev (n, mn, lv, sl, kd, pt, he) 120 a bb (0, 0, ct)) (h0 : ¬ fl2 = 0) : (fl2, n, kd, pt, he, ct2, st2) = sp_make b n mn lv sl kd pt he k a bb c d e ct st := by
  subst h12; unfold sp_make; rw [← ee]; simp [hk, hf, hn, h0]
theorem sp_make_h (hk : knB b n kd k a bb c = true) (hf : fiB k a bb c d e = true) (hn : ¬ n = 40) (h12 : k = 12) (ee : (r, (st2, fl2, ct2)) = ev (n, mn, lv, sl, kd, pt, he) 120 a bb (0, 0, ct)) (h0 : fl2 = 0) : mkS n kd pt he k a bb c d e r ct2 st2 = sp_make b n mn lv sl kd pt he k a bb c d e ct st := by
  subst h12; unfold sp_make; rw [← ee]; simp [hk, hf, hn, h0]
theorem sp_make_n (hk : knB b n kd k a bb c = true) (hf : fiB k a bb c d e = true) (hn : ¬ n = 40) (h12 : ¬ k = 12) : mkS n kd pt he k a bb c d e 0 ct st = sp_make b n mn lv sl kd pt he k a bb c d e ct st := by
  unfold sp_make; simp [hk, hf, hn, h12]
theorem sp_fill_ok {x v : Int32} (h1 : inB x b = true) (h2 : lvB v = true) : sp_fill b lv x v = (lv (ix x), upd lv (ix x) v) := by simp [sp_fill, h1, h2]
theorem sp_level_ok {x : Int32} (h1 : inB x b = true) : sp_level b lv x = lv (ix x) := by simp [sp_level, h1]
variable {fr to rl : Nat → Int32} {ts tw tm : Int32} {kq : Nat}
theorem flS_t (e : (r, (st2, fl2, ct2)) = ev (n, mn, lv, sl, kd, pt, he) 120 (rl kq) h (0, 0, ct)) (h0 : fl2 = 0) : flS (n, mn, sl, kd, pt, he, fr, to, rl) h kq (lv, ct, st, ts, tw, tm) = (true, (sp_over lv (ix (fr kq)) (ix (to kq)) r).2, ct2, st2, ts, tw, (sp_over lv (ix (fr kq)) (ix (to kq)) r).1) := by
  unfold flS; simp only [← e]; rw [if_pos h0]
theorem flS_f (e : (r, (st2, fl2, ct2)) = ev (n, mn, lv, sl, kd, pt, he) 120 (rl kq) h (0, 0, ct)) (h0 : ¬ fl2 = 0) : flS (n, mn, sl, kd, pt, he, fr, to, rl) h kq (lv, ct, st, ts, tw, tm) = (false, lv, ct2, st2, nI kq, fl2, tm) := by
  unfold flS; simp only [← e]; rw [if_neg h0]
theorem hrS_t {P : PV} {c k : Nat} {S S2 : HS} (e : flS P h k S = (true, S2)) : hrS P h (c + 1) k S = hrS P h c (k + 1) S2 := by simp [hrS, e]
theorem hrS_f {P : PV} {c k : Nat} {S S2 : HS} (e : flS P h k S = (false, S2)) : hrS P h (c + 1) k S = (false, S2) := by simp [hrS, e]
theorem rnS_t {P : PV} {c k : Nat} {S S2 : HS} (e : hrS P (h + nI k) sN 0 S = (true, S2)) : rnS P sN h (c + 1) k S = rnS P sN h c (k + 1) S2 := by simp [rnS, e]
theorem rnS_f {P : PV} {c k : Nat} {S S2 : HS} (e : hrS P (h + nI k) sN 0 S = (false, S2)) : rnS P sN h (c + 1) k S = (k, S2) := by simp [rnS, e]
end SPL
theorem xw_push {F : Nat → Nat} {Y : Nat → ClassId} {bc mn rc sc st fl : Int32} {gv : Int64} {fs fb wo : Int32} {lv sl : Nat → Int32} {ru su : Nat → Option Nat} {L : List Nat} {f : Nat → va_E} {q : Nat} {e : va_E} (hq : q ∉ L) : xw F Y bc mn rc sc st fl gv fs fb wo lv sl ru su L f ++ [(q, e)] = xw F Y bc mn rc sc st fl gv fs fb wo lv sl ru su (L ++ [q]) (va_up f q e) := by
  show (_ ++ va_pl L f) ++ [(q, e)] = _
  rw [List.append_assoc, va_pl_push hq]
section CIN
variable {p : Program} {l : Launch} {e : Env} {R : Room} {s : State} {m : MethodId} {args : Array Value} {below : List Frame} {meth : Method} {c : Code} {H : Heap} {locs : List Loc} {cells slots : Nat} {Q : State → Prop}
variable {cc : ByteArray} {pc : Nat} {ls : Array Slot} {rest st0 : List Value} {D : va_G} {A : Nat → Prop} {tys : List (ClassId × FieldType)} {w : va_W} {H0 : Heap}
variable {y : MethodName} {bytes : ByteArray} {maxL nL n index : Nat} {ws : List Cond} {rm : Room} {Ts : List Cond} {own host : String} {As : List Value} {σ : Type}
/-- a constructor of a nest mate, by its own cell's contract -/
theorem WrV.callIN {q : Nat} {e0 : va_E} {e1 : σ → va_E} {post : σ → Prop} (h : WrV l y ws rm D tys [(q, e0)] (.ref q :: As) (fun u => [(q, e1 u)]) post 0 0) (S : CallFix p m c cc nL s args Ts own) (cw : va_CN R s args own index y host bytes maxL none ws rm 0 0 n ∧ y.name = "<init>" ∧ (Cond.instanceMethod y).before args s = true) (hP : va_P D vwCl w H) (hD : va_D A w) (hS : va_S A H0 H locs) (hA : ∀ q, H0.size ≤ q → A q) (hK : va_K D vwCl tys s) (hN : nst s) (i : Nat) (hi : w[i]? = some (q, e0))
    (hn : As.length = n) (hsize : ls.size = nL) (hstack : st0 = As.reverse ++ .ref q :: rest) (hW : (rest.map fun v => v.category).sum ≤ 8) (hdg : decode cc pc = .ok (.invokespecial index, 3)) (hf : cells + 0 ≤ R.cells ∧ slots + 0 ≤ R.slots)
    (k : ∀ (u : σ) (H1 : Heap) (locs1 : List Loc), post u → va_P D vwCl (w.set i (q, e1 u)) H1 → va_D A (w.set i (q, e1 u)) → va_S A H0 H1 locs1 → W p l e R s m args below meth c H1 locs1 (cells + 0) (slots + 0) Q (F0 m (pc + 3) ls rest)) : W p l e R s m args below meth c H locs cells slots Q (F0 m pc ls st0) := by
  have hP1 : va_P D vwCl [(q, e0)] H := fun j x hx => by
    have hj0 : j < 1 := (List.getElem?_eq_some_iff.mp hx).1
    rw [show j = 0 by omega] at hx
    cases hx
    exact hP i _ hi
  have hD1 : va_D (fun _ => True) [(q, e0)] := ⟨fun i j x y h1 h2 _ => by
    have a1 : i < 1 := (List.getElem?_eq_some_iff.mp h1).1
    have a2 : j < 1 := (List.getElem?_eq_some_iff.mp h2).1
    omega, fun _ _ _ => trivial⟩
  have hF : ∀ x, va_A [(q, e0)] H.size x → A x := by
    rintro x (⟨j, z, hj⟩ | z)
    · have hj0 : j < 1 := (List.getElem?_eq_some_iff.mp hj).1
      rw [show j = 0 by omega] at hj
      cases hj
      exact hD.2 i _ hi
    · exact hA x (Nat.le_trans hS.1 z)
  refine va_callv (va_runIN S (h H.size) cw ⟨wrP.blind, fun U hU hW => ⟨rfl, by rw [hU], by rw [hU]; exact hP1, kk.warm hW ⟨hK, hN⟩, hD1⟩⟩ rfl hn hsize hstack (lv_room hW) hdg hf) hS (fun q _ h => hF q h) hF (fun u t H1 locs1 ht _ hp hB _ hk1 hS1 => ?_)
  obtain ⟨hP2, -⟩ := hB
  rw [ht] at hP2
  obtain ⟨g1, g2⟩ := cell_join hP hD hi hk1 hP2
  exact k u H1 locs1 hp g1 g2 hS1
theorem my_astq {a : Nat} {ws : va_W} (hx : p.tables.exec = Jvm.exec) (hb : c.code = cc) (hK : va_K D vwCl tys s) (hP : va_P D vwCl ws H) (hD : va_D A ws) (hS : va_S A H0 H locs) (q0 t0 qk ci : Nat) {cA : ClassId} {r : vw_C} {n v : Nat} {vs : List Value} {f : Nat → Option Nat} (ha : ws[q0]? = some (a, .inl (cA, n, .inr (.inr (.inr (.inr f)))))) (ht : tys[t0]? = some (cA, .object r.1)) (hv : ws[qk]? = some (v, .inr (ci, vs))) (hc : vwCl[ci]? = some r) {i : Int32} {j : Nat} (hi : i = nI j) (hj : j < n) (hn : n < 2 ^ 31) (hdg : decode cc pc = .ok (.aastore, 1))
    (kk : ∀ (H1 : Heap) (locs1 : List Loc), va_P D vwCl (ws.set q0 (a, .inl (cA, n, .inr (.inr (.inr (.inr (va_up f j (some v)))))))) H1 → va_D A (ws.set q0 (a, .inl (cA, n, .inr (.inr (.inr (.inr (va_up f j (some v)))))))) → va_S A H0 H1 locs1 → W p l e R s m args below meth c H1 locs1 cells slots Q (F0 m (pc + 1) ls rest)) : W p l e R s m args below meth c H locs cells slots Q (F0 m pc ls (.ref v :: .int i :: .ref a :: rest)) := by
  subst hi
  exact va_astq hx hb hK hP hD hS q0 t0 qk ci ha ht hv hc (vp_in_nI hj hn) hdg (by rw [nI_clamp (by omega)]; exact kk)
end CIN
end
section
/-! the class: constructors of rules and sluices, askByCall, ask, make, sluice, letOver, goesWhole, run -/
theorem iw_X0_init_X0 : ∀ w ∈ u_ws RX0 TX0 8, w ∈ wsX0_init := by decide +kernel
set_option maxRecDepth 100000 in
set_option maxHeartbeats 4000000 in
theorem c_X0_init {l : Launch} {D : va_G} {tys : List (ClassId × FieldType)} {q : Nat} (k_ : Int32) (a_ : Int32) (b_ : Int32) (c_ : Int32) (d_ : Int32) (e_ : Int32) : WrV l yX0_init wsX0_init (rk 1) D tys [(q, .inr (0, [.int 0, .int 0, .int 0, .int 0, .int 0, .int 0, .long 0, .int 0]))] [.ref q, .int k_, .int a_, .int b_, .int c_, .int d_, .int e_] (σ := Unit) (fun _ => [(q, .inr (0, [.int k_, .int a_, .int b_, .int c_, .int d_, .int e_, .long 0, .int 0]))]) (fun _ => True) 0 0 := by
  intro sz
  refine wrEnter (cc := cX0_init) (maxL := 7) (ret := none) (by decide) rfl (Nat.le_of_ble_eq_true rfl) ?_
  intro p e s m below meth c hx hb hr hml hown hts hlk hP hK hN hsz hD hS hA hin ls hl
  have hown : s.vm.findClass RX0 = some m.cls := hown
  have hl : lv_has ls 7 [(0, .ref q), (1, .int k_), (2, .int a_), (3, .int b_), (4, .int c_), (5, .int d_), (6, .int e_)] := hl
  have hin : meth.name = "<init>" := hin
  refine lv_aload_n hx hb dX0_init_0 rfl (lv_at hl 0 rfl) ?_
  refine W.objInit hx hb hown (hts (.methodLink RX0 1 objectInit) (by decide +kernel)) (hts (.instanceMethod objectInit) (by decide +kernel)) (hts _ (List.mem_cons_of_mem _ (List.mem_append_left _ (List.mem_of_getElem? (i := 2) rfl)))) rfl (by rw [hml]; exact hl.1) rfl dX0_init_1 (Nat.le_of_ble_eq_true rfl) (Nat.le_of_ble_eq_true rfl) ?_
  refine W.eq (g2 := F0 m 4 ls []) rfl ?_
  refine lv_aload_n hx hb dX0_init_4 rfl (lv_at hl 0 rfl) ?_
  refine lv_lconst (v := 0) hx hb dX0_init_5 (by decide) ?_
  refine va_put (D := D) (ci := 0) (v := .long 0) (ty := .long) (C := RX0) (T := TX0) (N := 8) hx hb hts iw_X0_init_X0 tyX0 tyX0_ok nmX0 hown hK hP hD hS 0 rfl rfl 6 (by decide) (hts (.fieldLink RX0 7 "SluiceRules$Rule" "held" "J") (by decide +kernel)) (fun _ h9 => h9) rfl (by decide +kernel) rfl rfl (Nat.le_of_ble_eq_true rfl) dX0_init_6 (fun H locs hP hD hS => ?_)
  have hP : va_P D vwCl ([(q, .inr (0, [.int 0, .int 0, .int 0, .int 0, .int 0, .int 0, .long 0, .int 0]))]) H := hP
  have hD : va_D (va_A _ sz) ([(q, .inr (0, [.int 0, .int 0, .int 0, .int 0, .int 0, .int 0, .long 0, .int 0]))]) := hD
  refine lv_aload_n hx hb dX0_init_9 rfl (lv_at hl 0 rfl) ?_
  refine lv_iconst (v := 0) hx hb dX0_init_10 (by decide) ?_
  refine va_put (D := D) (ci := 0) (v := .int 0) (ty := .int) (C := RX0) (T := TX0) (N := 8) hx hb hts iw_X0_init_X0 tyX0 tyX0_ok nmX0 hown hK hP hD hS 0 rfl rfl 7 (by decide) (hts (.fieldLink RX0 13 "SluiceRules$Rule" "counter" "I") (by decide +kernel)) (fun _ h9 => h9) rfl (by decide +kernel) rfl rfl (Nat.le_of_ble_eq_true rfl) dX0_init_11 (fun H locs hP hD hS => ?_)
  have hP : va_P D vwCl ([(q, .inr (0, [.int 0, .int 0, .int 0, .int 0, .int 0, .int 0, .long 0, .int 0]))]) H := hP
  have hD : va_D (va_A _ sz) ([(q, .inr (0, [.int 0, .int 0, .int 0, .int 0, .int 0, .int 0, .long 0, .int 0]))]) := hD
  refine lv_aload_n hx hb dX0_init_14 rfl (lv_at hl 0 rfl) ?_
  refine lv_iload_n hx hb dX0_init_15 rfl (lv_at hl 1 rfl) ?_
  refine va_putF (D := D) (ci := 0) (v := .int k_) (ty := .int) (C := RX0) (T := TX0) (N := 8) hx hb hts iw_X0_init_X0 tyX0 tyX0_ok nmX0 hown hK hP hD hS 0 rfl rfl 0 (by decide) (hts (.fieldLink RX0 17 "SluiceRules$Rule" "kind" "I") (by decide +kernel)) (fun _ h9 => h9) rfl hin rfl (by decide +kernel) rfl rfl (Nat.le_of_ble_eq_true rfl) dX0_init_16 (fun H locs hP hD hS => ?_)
  have hP : va_P D vwCl ([(q, .inr (0, [.int k_, .int 0, .int 0, .int 0, .int 0, .int 0, .long 0, .int 0]))]) H := hP
  have hD : va_D (va_A _ sz) ([(q, .inr (0, [.int k_, .int 0, .int 0, .int 0, .int 0, .int 0, .long 0, .int 0]))]) := hD
  refine lv_aload_n hx hb dX0_init_19 rfl (lv_at hl 0 rfl) ?_
  refine lv_iload_n hx hb dX0_init_20 rfl (lv_at hl 2 rfl) ?_
  refine va_putF (D := D) (ci := 0) (v := .int a_) (ty := .int) (C := RX0) (T := TX0) (N := 8) hx hb hts iw_X0_init_X0 tyX0 tyX0_ok nmX0 hown hK hP hD hS 0 rfl rfl 1 (by decide) (hts (.fieldLink RX0 20 "SluiceRules$Rule" "a" "I") (by decide +kernel)) (fun _ h9 => h9) rfl hin rfl (by decide +kernel) rfl rfl (Nat.le_of_ble_eq_true rfl) dX0_init_21 (fun H locs hP hD hS => ?_)
  have hP : va_P D vwCl ([(q, .inr (0, [.int k_, .int a_, .int 0, .int 0, .int 0, .int 0, .long 0, .int 0]))]) H := hP
  have hD : va_D (va_A _ sz) ([(q, .inr (0, [.int k_, .int a_, .int 0, .int 0, .int 0, .int 0, .long 0, .int 0]))]) := hD
  refine lv_aload_n hx hb dX0_init_24 rfl (lv_at hl 0 rfl) ?_
  refine lv_iload_n hx hb dX0_init_25 rfl (lv_at hl 3 rfl) ?_
  refine va_putF (D := D) (ci := 0) (v := .int b_) (ty := .int) (C := RX0) (T := TX0) (N := 8) hx hb hts iw_X0_init_X0 tyX0 tyX0_ok nmX0 hown hK hP hD hS 0 rfl rfl 2 (by decide) (hts (.fieldLink RX0 23 "SluiceRules$Rule" "b" "I") (by decide +kernel)) (fun _ h9 => h9) rfl hin rfl (by decide +kernel) rfl rfl (Nat.le_of_ble_eq_true rfl) dX0_init_26 (fun H locs hP hD hS => ?_)
  have hP : va_P D vwCl ([(q, .inr (0, [.int k_, .int a_, .int b_, .int 0, .int 0, .int 0, .long 0, .int 0]))]) H := hP
  have hD : va_D (va_A _ sz) ([(q, .inr (0, [.int k_, .int a_, .int b_, .int 0, .int 0, .int 0, .long 0, .int 0]))]) := hD
  refine lv_aload_n hx hb dX0_init_29 rfl (lv_at hl 0 rfl) ?_
  refine lv_iload hx hb dX0_init_30 (lv_at hl 4 rfl) ?_
  refine va_putF (D := D) (ci := 0) (v := .int c_) (ty := .int) (C := RX0) (T := TX0) (N := 8) hx hb hts iw_X0_init_X0 tyX0 tyX0_ok nmX0 hown hK hP hD hS 0 rfl rfl 3 (by decide) (hts (.fieldLink RX0 26 "SluiceRules$Rule" "c" "I") (by decide +kernel)) (fun _ h9 => h9) rfl hin rfl (by decide +kernel) rfl rfl (Nat.le_of_ble_eq_true rfl) dX0_init_32 (fun H locs hP hD hS => ?_)
  have hP : va_P D vwCl ([(q, .inr (0, [.int k_, .int a_, .int b_, .int c_, .int 0, .int 0, .long 0, .int 0]))]) H := hP
  have hD : va_D (va_A _ sz) ([(q, .inr (0, [.int k_, .int a_, .int b_, .int c_, .int 0, .int 0, .long 0, .int 0]))]) := hD
  refine lv_aload_n hx hb dX0_init_35 rfl (lv_at hl 0 rfl) ?_
  refine lv_iload hx hb dX0_init_36 (lv_at hl 5 rfl) ?_
  refine va_putF (D := D) (ci := 0) (v := .int d_) (ty := .int) (C := RX0) (T := TX0) (N := 8) hx hb hts iw_X0_init_X0 tyX0 tyX0_ok nmX0 hown hK hP hD hS 0 rfl rfl 4 (by decide) (hts (.fieldLink RX0 29 "SluiceRules$Rule" "d" "I") (by decide +kernel)) (fun _ h9 => h9) rfl hin rfl (by decide +kernel) rfl rfl (Nat.le_of_ble_eq_true rfl) dX0_init_38 (fun H locs hP hD hS => ?_)
  have hP : va_P D vwCl ([(q, .inr (0, [.int k_, .int a_, .int b_, .int c_, .int d_, .int 0, .long 0, .int 0]))]) H := hP
  have hD : va_D (va_A _ sz) ([(q, .inr (0, [.int k_, .int a_, .int b_, .int c_, .int d_, .int 0, .long 0, .int 0]))]) := hD
  refine lv_aload_n hx hb dX0_init_41 rfl (lv_at hl 0 rfl) ?_
  refine lv_iload hx hb dX0_init_42 (lv_at hl 6 rfl) ?_
  refine va_putF (D := D) (ci := 0) (v := .int e_) (ty := .int) (C := RX0) (T := TX0) (N := 8) hx hb hts iw_X0_init_X0 tyX0 tyX0_ok nmX0 hown hK hP hD hS 0 rfl rfl 5 (by decide) (hts (.fieldLink RX0 32 "SluiceRules$Rule" "e" "I") (by decide +kernel)) (fun _ h9 => h9) rfl hin rfl (by decide +kernel) rfl rfl (Nat.le_of_ble_eq_true rfl) dX0_init_44 (fun H locs hP hD hS => ?_)
  have hP : va_P D vwCl ([(q, .inr (0, [.int k_, .int a_, .int b_, .int c_, .int d_, .int e_, .long 0, .int 0]))]) H := hP
  have hD : va_D (va_A _ sz) ([(q, .inr (0, [.int k_, .int a_, .int b_, .int c_, .int d_, .int e_, .long 0, .int 0]))]) := hD
  exact wrV () hx hb hr hlk dX0_init_47 hP hD hS trivial

theorem iw_X1_init_X1 : ∀ w ∈ u_ws RX1 TX1 3, w ∈ wsX1_init := by decide +kernel
set_option maxRecDepth 100000 in
set_option maxHeartbeats 4000000 in
theorem c_X1_init {l : Launch} {D : va_G} {tys : List (ClassId × FieldType)} {q : Nat} (a_ : Int32) (b_ : Int32) (c_ : Int32) : WrV l yX1_init wsX1_init (rk 1) D tys [(q, .inr (1, [.int 0, .int 0, .int 0]))] [.ref q, .int a_, .int b_, .int c_] (σ := Unit) (fun _ => [(q, .inr (1, [.int a_, .int b_, .int c_]))]) (fun _ => True) 0 0 := by
  intro sz
  refine wrEnter (cc := cX1_init) (maxL := 4) (ret := none) (by decide) rfl (Nat.le_of_ble_eq_true rfl) ?_
  intro p e s m below meth c hx hb hr hml hown hts hlk hP hK hN hsz hD hS hA hin ls hl
  have hown : s.vm.findClass RX1 = some m.cls := hown
  have hl : lv_has ls 4 [(0, .ref q), (1, .int a_), (2, .int b_), (3, .int c_)] := hl
  have hin : meth.name = "<init>" := hin
  refine lv_aload_n hx hb dX1_init_0 rfl (lv_at hl 0 rfl) ?_
  refine W.objInit hx hb hown (hts (.methodLink RX1 1 objectInit) (by decide +kernel)) (hts (.instanceMethod objectInit) (by decide +kernel)) (hts _ (List.mem_cons_of_mem _ (List.mem_append_left _ (List.mem_of_getElem? (i := 2) rfl)))) rfl (by rw [hml]; exact hl.1) rfl dX1_init_1 (Nat.le_of_ble_eq_true rfl) (Nat.le_of_ble_eq_true rfl) ?_
  refine W.eq (g2 := F0 m 4 ls []) rfl ?_
  refine lv_aload_n hx hb dX1_init_4 rfl (lv_at hl 0 rfl) ?_
  refine lv_iload_n hx hb dX1_init_5 rfl (lv_at hl 1 rfl) ?_
  refine va_putF (D := D) (ci := 1) (v := .int a_) (ty := .int) (C := RX1) (T := TX1) (N := 3) hx hb hts iw_X1_init_X1 tyX1 tyX1_ok nmX1 hown hK hP hD hS 0 rfl rfl 0 (by decide) (hts (.fieldLink RX1 7 "SluiceRules$Sluice" "from" "I") (by decide +kernel)) (fun _ h9 => h9) rfl hin rfl (by decide +kernel) rfl rfl (Nat.le_of_ble_eq_true rfl) dX1_init_6 (fun H locs hP hD hS => ?_)
  have hP : va_P D vwCl ([(q, .inr (1, [.int a_, .int 0, .int 0]))]) H := hP
  have hD : va_D (va_A _ sz) ([(q, .inr (1, [.int a_, .int 0, .int 0]))]) := hD
  refine lv_aload_n hx hb dX1_init_9 rfl (lv_at hl 0 rfl) ?_
  refine lv_iload_n hx hb dX1_init_10 rfl (lv_at hl 2 rfl) ?_
  refine va_putF (D := D) (ci := 1) (v := .int b_) (ty := .int) (C := RX1) (T := TX1) (N := 3) hx hb hts iw_X1_init_X1 tyX1 tyX1_ok nmX1 hown hK hP hD hS 0 rfl rfl 1 (by decide) (hts (.fieldLink RX1 13 "SluiceRules$Sluice" "to" "I") (by decide +kernel)) (fun _ h9 => h9) rfl hin rfl (by decide +kernel) rfl rfl (Nat.le_of_ble_eq_true rfl) dX1_init_11 (fun H locs hP hD hS => ?_)
  have hP : va_P D vwCl ([(q, .inr (1, [.int a_, .int b_, .int 0]))]) H := hP
  have hD : va_D (va_A _ sz) ([(q, .inr (1, [.int a_, .int b_, .int 0]))]) := hD
  refine lv_aload_n hx hb dX1_init_14 rfl (lv_at hl 0 rfl) ?_
  refine lv_iload_n hx hb dX1_init_15 rfl (lv_at hl 3 rfl) ?_
  refine va_putF (D := D) (ci := 1) (v := .int c_) (ty := .int) (C := RX1) (T := TX1) (N := 3) hx hb hts iw_X1_init_X1 tyX1 tyX1_ok nmX1 hown hK hP hD hS 0 rfl rfl 2 (by decide) (hts (.fieldLink RX1 16 "SluiceRules$Sluice" "rule" "I") (by decide +kernel)) (fun _ h9 => h9) rfl hin rfl (by decide +kernel) rfl rfl (Nat.le_of_ble_eq_true rfl) dX1_init_16 (fun H locs hP hD hS => ?_)
  have hP : va_P D vwCl ([(q, .inr (1, [.int a_, .int b_, .int c_]))]) H := hP
  have hD : va_D (va_A _ sz) ([(q, .inr (1, [.int a_, .int b_, .int c_]))]) := hD
  exact wrV () hx hb hr hlk dX1_init_19 hP hD hS trivial

theorem iw_X2_askByCall_X2 : ∀ w ∈ u_ws RX2 TX2 14, w ∈ wsX2_askByCall := by decide +kernel
set_option maxRecDepth 100000 in
set_option maxHeartbeats 4000000 in
/-- askByCall -/
theorem c_X2_askByCall {l : Launch} {D : va_G} {F : Nat → Nat} {Y : Nat → ClassId} {mn fl : Int32} {gv : Int64} {fs fb wo : Int32} {lv sl : Nat → Int32} {ru su : Nat → Option Nat} {L : List Nat} {f : Nat → va_E} {b n sN st : Nat} {kd pt : Nat → Int32} {he : Nat → Int64} {ct fr to rl : Nat → Int32} (hR : xRel n sN kd pt he ct fr to rl ru su L f) (hn40 : n ≤ 40) (hb8 : b ≤ 8) (hW : wfA b n sl kd pt) (x h : Int32) : WrL l yX2_askByCall wsX2_askByCall (rk 129) D (xty Y) (xw F Y (nI b) mn (nI n) (nI sN) (nI st) fl gv fs fb wo lv sl ru su L f) [.ref (F 0), .int x, .int h] (σ := SS × (Nat → va_E)) (fun u => xw F Y (nI b) mn (nI n) (nI sN) (nI u.1.1) u.1.2.1 gv fs fb wo lv sl ru su L u.2) (fun r u => (r, u.1) = ev (n, mn, lv, sl, kd, pt, he) 120 x h (0, 0, ct) ∧ xRel n sN kd pt he u.1.2.2 fr to rl ru su L u.2) 0 0 := by
  intro sz
  refine wrEnter (cc := cX2_askByCall) (maxL := 3) (ret := (some .long)) (by decide) rfl (Nat.le_of_ble_eq_true rfl) ?_
  intro p e s m below meth c hx hb hr hml hown hts hlk hP hK hN hsz hD hS hA hin ls hl
  have hown : s.vm.findClass RX2 = some m.cls := hown
  have hl : lv_has ls 3 [(0, .ref (F 0)), (1, .int x), (2, .int h)] := hl
  refine lv_aload_n hx hb dX2_askByCall_0 rfl (lv_at hl 0 rfl) ?_
  refine lv_iconst (v := 0) hx hb dX2_askByCall_1 (by decide) ?_
  refine va_put (D := D) (ci := 2) (v := .int 0) (ty := .int) (C := RX2) (T := TX2) (N := 14) hx hb hts iw_X2_askByCall_X2 tyX2 tyX2_ok nmX2 hown hK hP hD hS 0 rfl rfl 8 (by decide) (hts (.fieldLink RX2 41 "SluiceRules" "steps" "I") (by decide +kernel)) (fun _ h9 => h9) rfl (by decide +kernel) rfl rfl (Nat.le_of_ble_eq_true rfl) dX2_askByCall_2 (fun H locs hP hD hS => ?_)
  have hP : va_P D vwCl (xw F Y (nI b) mn (nI n) (nI sN) 0 fl gv fs fb wo lv sl ru su L f) H := hP
  have hD : va_D (va_A (xw F Y (nI b) mn (nI n) (nI sN) (nI st) fl gv fs fb wo lv sl ru su L f) sz) (xw F Y (nI b) mn (nI n) (nI sN) 0 fl gv fs fb wo lv sl ru su L f) := hD
  refine lv_aload_n hx hb dX2_askByCall_5 rfl (lv_at hl 0 rfl) ?_
  refine lv_iconst (v := 0) hx hb dX2_askByCall_6 (by decide) ?_
  refine va_put (D := D) (ci := 2) (v := .int 0) (ty := .int) (C := RX2) (T := TX2) (N := 14) hx hb hts iw_X2_askByCall_X2 tyX2 tyX2_ok nmX2 hown hK hP hD hS 0 rfl rfl 9 (by decide) (hts (.fieldLink RX2 44 "SluiceRules" "failure" "I") (by decide +kernel)) (fun _ h9 => h9) rfl (by decide +kernel) rfl rfl (Nat.le_of_ble_eq_true rfl) dX2_askByCall_7 (fun H locs hP hD hS => ?_)
  have hP : va_P D vwCl (xw F Y (nI b) mn (nI n) (nI sN) 0 0 gv fs fb wo lv sl ru su L f) H := hP
  have hD : va_D (va_A (xw F Y (nI b) mn (nI n) (nI sN) (nI st) fl gv fs fb wo lv sl ru su L f) sz) (xw F Y (nI b) mn (nI n) (nI sN) 0 0 gv fs fb wo lv sl ru su L f) := hD
  have hP : va_P D vwCl (xw F Y (nI b) mn (nI n) (nI sN) (nI 0) 0 gv fs fb wo lv sl ru su L f) H := by rw [nI_0]; exact hP
  have hD : va_D (va_A (xw F Y (nI b) mn (nI n) (nI sN) (nI st) fl gv fs fb wo lv sl ru su L f) sz) (xw F Y (nI b) mn (nI n) (nI sN) (nI 0) 0 gv fs fb wo lv sl ru su L f) := by rw [nI_0]; exact hD
  refine lv_aload_n hx hb dX2_askByCall_10 rfl (lv_at hl 0 rfl) ?_
  refine lv_iload_n hx hb dX2_askByCall_11 rfl (lv_at hl 1 rfl) ?_
  refine lv_iload_n hx hb dX2_askByCall_12 rfl (lv_at hl 2 rfl) ?_
  refine WrL.callV (As := [.int x, .int h]) (rest := []) (c_X2_valueOf 120 hR hn40 hb8 hW (Nat.zero_le _) (by decide) x h) ⟨hx, hb, hml, hown, hts⟩ (cwV 2 hts gX2_askByCall_X2_valueOf rfl rfl rfl (by decide +kernel) ⟨by decide, by decide⟩) hP hD hS hA hK hN 0 2 rfl rfl rfl hl.1 rfl (Nat.le_of_ble_eq_true rfl) dX2_askByCall_13 ⟨Nat.le_of_ble_eq_true rfl, Nat.le_of_ble_eq_true rfl⟩ (fun r_1 ur_1 H locs hr_1 hP hD hS => ?_)
  exact wrL ur_1 hx hb hr hlk dX2_askByCall_16 hP hD hS hr_1

theorem iw_X2_ask_X2 : ∀ w ∈ u_ws RX2 TX2 14, w ∈ wsX2_ask := by decide +kernel
set_option maxRecDepth 100000 in
set_option maxHeartbeats 4000000 in
/-- ask -/
theorem c_X2_ask {l : Launch} {D : va_G} {F : Nat → Nat} {Y : Nat → ClassId} {mn fl : Int32} {gv : Int64} {fs fb wo : Int32} {lv sl : Nat → Int32} {ru su : Nat → Option Nat} {L : List Nat} {f : Nat → va_E} {b n sN st : Nat} {kd pt : Nat → Int32} {he : Nat → Int64} {ct fr to rl : Nat → Int32} (hR : xRel n sN kd pt he ct fr to rl ru su L f) (hn40 : n ≤ 40) (hb8 : b ≤ 8) (hW : wfA b n sl kd pt) (x h : Int32) : WrI l yX2_ask wsX2_ask (rk 130) D (xty Y) (xw F Y (nI b) mn (nI n) (nI sN) (nI st) fl gv fs fb wo lv sl ru su L f) [.ref (F 0), .int x, .int h] (σ := (Nat × Int64 × (Nat → Int32)) × Int32 × (Nat → va_E)) (fun u => xw F Y (nI b) mn (nI n) (nI sN) (nI u.1.1) u.2.1 u.1.2.1 fs fb wo lv sl ru su L u.2.2) (fun r u => (r, u.1) = sp_ask (n, mn, lv, sl, kd, pt, he) x h st gv ct ∧ xRel n sN kd pt he u.1.2.2 fr to rl ru su L u.2.2) 0 0 := by
  intro sz
  refine wrEnter (cc := cX2_ask) (maxL := 5) (ret := (some .int)) (by decide) rfl (Nat.le_of_ble_eq_true rfl) ?_
  intro p e s m below meth c hx hb hr hml hown hts hlk hP hK hN hsz hD hS hA hin ls hl
  have hown : s.vm.findClass RX2 = some m.cls := hown
  have hl : lv_has ls 5 [(0, .ref (F 0)), (1, .int x), (2, .int h)] := hl
  refine lv_aload_n hx hb dX2_ask_0 rfl (lv_at hl 0 rfl) ?_
  refine lv_iload_n hx hb dX2_ask_1 rfl (lv_at hl 1 rfl) ?_
  refine RoQ.callV (As := [.int x]) (rest := []) (c_X2_ruleAt hR hn40 x) ⟨hx, hb, hml, hown, hts⟩ (cwV 1 hts gX2_ask_X2_ruleAt rfl rfl rfl (by decide +kernel) ⟨by decide, by decide⟩) hP hK hN 0 2 rfl rfl rfl hl.1 rfl (Nat.le_of_ble_eq_true rfl) dX2_ask_2 ⟨Nat.le_of_ble_eq_true rfl, Nat.le_of_ble_eq_true rfl⟩ (fun r_1 hr_1 => ?_)
  rcases r_1 with _ | ar_1
  · have q_r_1 := hR.norule hr_1.symm
    refine lv_ifnonnullN hx hb dX2_ask_5 ?_
    refine lv_bipush (v := (-101)) hx hb dX2_ask_8 (by decide) ?_
    exact wrI ((st, gv, ct), fl, f) hx hb hr hlk dX2_ask_10 hP hD hS ⟨sp_ask_u q_r_1, hR⟩
  · have q_r_1 := (hR.rule hr_1.symm).1
    refine lv_ifnonnull (tgt := 11) hx hb dX2_ask_5 (by decide) ?_
    refine lv_aload_n hx hb dX2_ask_11 rfl (lv_at hl 0 rfl) ?_
    refine lv_iload_n hx hb dX2_ask_12 rfl (lv_at hl 1 rfl) ?_
    refine lv_iload_n hx hb dX2_ask_13 rfl (lv_at hl 2 rfl) ?_
    refine WrL.callV (As := [.int x, .int h]) (rest := []) (c_X2_askByCall hR hn40 hb8 hW x h) ⟨hx, hb, hml, hown, hts⟩ (cwV 2 hts gX2_ask_X2_askByCall rfl rfl rfl (by decide +kernel) ⟨by decide, by decide⟩) hP hD hS hA hK hN 0 2 rfl rfl rfl hl.1 rfl (Nat.le_of_ble_eq_true rfl) dX2_ask_14 ⟨Nat.le_of_ble_eq_true rfl, Nat.le_of_ble_eq_true rfl⟩ (fun r_2 ur_2 H locs hr_2 hP hD hS => ?_)
    obtain ⟨⟨st_2, fl_2, ct_2⟩, f_2⟩ := ur_2
    obtain ⟨e_2, hR_2⟩ := hr_2
    have e_2 : (r_2, (st_2, fl_2, ct_2)) = ev (n, mn, lv, sl, kd, pt, he) 120 x h (0, 0, ct) := e_2
    have hR_2 : xRel n sN kd pt he ct_2 fr to rl ru su L f_2 := hR_2
    have hP : va_P D vwCl (xw F Y (nI b) mn (nI n) (nI sN) (nI st_2) fl_2 gv fs fb wo lv sl ru su L f_2) H := hP
    have hD : va_D (va_A (xw F Y (nI b) mn (nI n) (nI sN) (nI st) fl gv fs fb wo lv sl ru su L f) sz) (xw F Y (nI b) mn (nI n) (nI sN) (nI st_2) fl_2 gv fs fb wo lv sl ru su L f_2) := hD
    refine lv_lstore_n (lv' := [(3, .long r_2), (0, .ref (F 0)), (1, .int x), (2, .int h)]) hx hb dX2_ask_17 rfl hl (by decide) rfl (fun ls hl => ?_)
    refine lv_aload_n hx hb dX2_ask_18 rfl (lv_at hl 1 rfl) ?_
    refine va_get (D := D) (ci := 2) (v := .int fl_2) (C := RX2) (T := TX2) (N := 14) hx hb hts iw_X2_ask_X2 hown hK hP 0 rfl rfl 9 (by decide) (hts (.fieldLink RX2 44 "SluiceRules" "failure" "I") (by decide +kernel)) (fun _ h9 => h9) rfl dX2_ask_19 ?_
    refine lv_if_eq (tgt := 30) hx hb dX2_ask_22 (by decide) (fun c_22 => ?_) (fun c_22 => ?_)
    · refine lv_aload_n hx hb dX2_ask_30 rfl (lv_at hl 1 rfl) ?_
      refine lv_lload_n hx hb dX2_ask_31 rfl (lv_at hl 0 rfl) ?_
      refine va_put (D := D) (ci := 2) (v := .long r_2) (ty := .long) (C := RX2) (T := TX2) (N := 14) hx hb hts iw_X2_ask_X2 tyX2 tyX2_ok nmX2 hown hK hP hD hS 0 rfl rfl 10 (by decide) (hts (.fieldLink RX2 47 "SluiceRules" "latestGiven" "J") (by decide +kernel)) (fun _ h9 => h9) rfl (by decide +kernel) rfl rfl (Nat.le_of_ble_eq_true rfl) dX2_ask_32 (fun H locs hP hD hS => ?_)
      have hP : va_P D vwCl (xw F Y (nI b) mn (nI n) (nI sN) (nI st_2) fl_2 r_2 fs fb wo lv sl ru su L f_2) H := hP
      have hD : va_D (va_A (xw F Y (nI b) mn (nI n) (nI sN) (nI st) fl gv fs fb wo lv sl ru su L f) sz) (xw F Y (nI b) mn (nI n) (nI sN) (nI st_2) fl_2 r_2 fs fb wo lv sl ru su L f_2) := hD
      refine lv_iconst (v := 1) hx hb dX2_ask_35 (by decide) ?_
      exact wrI ((st_2, r_2, ct_2), fl_2, f_2) hx hb hr hlk dX2_ask_36 hP hD hS ⟨sp_ask_1 q_r_1 e_2 c_22, hR_2⟩
    · refine lv_aload_n hx hb dX2_ask_25 rfl (lv_at hl 1 rfl) ?_
      refine va_get (D := D) (ci := 2) (v := .int fl_2) (C := RX2) (T := TX2) (N := 14) hx hb hts iw_X2_ask_X2 hown hK hP 0 rfl rfl 9 (by decide) (hts (.fieldLink RX2 44 "SluiceRules" "failure" "I") (by decide +kernel)) (fun _ h9 => h9) rfl dX2_ask_26 ?_
      exact wrI ((st_2, gv, ct_2), fl_2, f_2) hx hb hr hlk dX2_ask_29 hP hD hS ⟨sp_ask_f q_r_1 e_2 c_22, hR_2⟩

theorem iw_X2_make_X2 : ∀ w ∈ u_ws RX2 TX2 14, w ∈ wsX2_make := by decide +kernel
theorem iw_X2_make_X0 : ∀ w ∈ u_ws RX0 TX0 8, w ∈ wsX2_make := by decide +kernel
set_option maxRecDepth 100000 in
set_option maxHeartbeats 4000000 in
/-- make -/
theorem c_X2_make {l : Launch} {D : va_G} {F : Nat → Nat} {Y : Nat → ClassId} {mn fl : Int32} {gv : Int64} {fs fb wo : Int32} {lv sl : Nat → Int32} {ru su : Nat → Option Nat} {L : List Nat} {f : Nat → va_E} {b n sN st : Nat} {kd pt : Nat → Int32} {he : Nat → Int64} {ct fr to rl : Nat → Int32} (hR : xRel n sN kd pt he ct fr to rl ru su L f) (hn40 : n ≤ 40) (hb8 : b ≤ 8) (hW : wfA b n sl kd pt) (k_ a_ b_ c_ d_ e_ : Int32) : WrI l yX2_make wsX2_make (rkc 130 1 8) D (xty Y) (xw F Y (nI b) mn (nI n) (nI sN) (nI st) fl gv fs fb wo lv sl ru su L f) [.ref (F 0), .int k_, .int a_, .int b_, .int c_, .int d_, .int e_] (σ := MK × Int32 × (Nat → Option Nat) × List Nat × (Nat → va_E)) (fun u => xw F Y (nI b) mn (nI u.1.1) (nI sN) (nI u.1.2.2.2.2.2) u.2.1 gv fs fb wo lv sl u.2.2.1 su u.2.2.2.1 u.2.2.2.2) (fun r u => (r, u.1) = sp_make b n mn lv sl kd pt he k_ a_ b_ c_ d_ e_ ct st ∧ xRel u.1.1 sN u.1.2.1 u.1.2.2.1 u.1.2.2.2.1 u.1.2.2.2.2.1 fr to rl u.2.2.1 su u.2.2.2.1 u.2.2.2.2) 1 8 := by
  intro sz
  refine wrEnter (cc := cX2_make) (maxL := 10) (ret := (some .int)) (by decide) rfl (Nat.le_of_ble_eq_true rfl) ?_
  intro p e s m below meth c hx hb hr hml hown hts hlk hP hK hN hsz hD hS hA hin ls hl
  have hown : s.vm.findClass RX2 = some m.cls := hown
  have hl : lv_has ls 10 [(0, .ref (F 0)), (1, .int k_), (2, .int a_), (3, .int b_), (4, .int c_), (5, .int d_), (6, .int e_)] := hl
  refine lv_aload_n hx hb dX2_make_0 rfl (lv_at hl 0 rfl) ?_
  refine lv_iload_n hx hb dX2_make_1 rfl (lv_at hl 1 rfl) ?_
  refine lv_iload_n hx hb dX2_make_2 rfl (lv_at hl 2 rfl) ?_
  refine lv_iload_n hx hb dX2_make_3 rfl (lv_at hl 3 rfl) ?_
  refine lv_iload hx hb dX2_make_4 (lv_at hl 4 rfl) ?_
  refine RoI.callV (As := [.int k_, .int a_, .int b_, .int c_]) (rest := []) (c_X2_hasKnownParts hR hn40 hb8 k_ a_ b_ c_) ⟨hx, hb, hml, hown, hts⟩ (cwV 4 hts gX2_make_X2_hasKnownParts rfl rfl rfl (by decide +kernel) ⟨by decide, by decide⟩) hP hK hN 0 2 rfl rfl rfl hl.1 rfl (Nat.le_of_ble_eq_true rfl) dX2_make_6 ⟨Nat.le_of_ble_eq_true rfl, Nat.le_of_ble_eq_true rfl⟩ (fun r_1 hr_1 => ?_)
  refine lv_if_ne (tgt := 15) hx hb dX2_make_9 (by decide) (fun c_9 => ?_) (fun c_9 => ?_)
  · have b_9 : knB b n kd k_ a_ b_ c_ = true := bI_n (by rw [← hr_1]; exact c_9)
    refine lv_iload_n hx hb dX2_make_15 rfl (lv_at hl 1 rfl) ?_
    refine lv_iload_n hx hb dX2_make_16 rfl (lv_at hl 2 rfl) ?_
    refine lv_iload_n hx hb dX2_make_17 rfl (lv_at hl 3 rfl) ?_
    refine lv_iload hx hb dX2_make_18 (lv_at hl 4 rfl) ?_
    refine lv_iload hx hb dX2_make_20 (lv_at hl 5 rfl) ?_
    refine lv_iload hx hb dX2_make_22 (lv_at hl 6 rfl) ?_
    refine RoI.callS (As := [.int k_, .int a_, .int b_, .int c_, .int d_, .int e_]) (rest := []) (c_X2_hasFitNumbers k_ a_ b_ c_ d_ e_) ⟨hx, hb, hml, hown, hts⟩ (va_cwS 6 hts gX2_make_X2_hasFitNumbers rfl rfl rfl (by decide +kernel) ⟨by decide, by decide⟩) hP hK hN rfl hl.1 rfl (Nat.le_of_ble_eq_true rfl) dX2_make_24 ⟨Nat.le_of_ble_eq_true rfl, Nat.le_of_ble_eq_true rfl⟩ (fun r_2 hr_2 => ?_)
    refine lv_if_ne (tgt := 33) hx hb dX2_make_27 (by decide) (fun c_27 => ?_) (fun c_27 => ?_)
    · have b_27 : fiB k_ a_ b_ c_ d_ e_ = true := bI_n (by rw [← hr_2]; exact c_27)
      refine lv_aload_n hx hb dX2_make_33 rfl (lv_at hl 0 rfl) ?_
      refine va_get (D := D) (ci := 2) (v := .int (nI n)) (C := RX2) (T := TX2) (N := 14) hx hb hts iw_X2_make_X2 hown hK hP 0 rfl rfl 5 (by decide) (hts (.fieldLink RX2 29 "SluiceRules" "ruleCount" "I") (by decide +kernel)) (fun _ h9 => h9) rfl dX2_make_34 ?_
      refine lv_aload_n hx hb dX2_make_37 rfl (lv_at hl 0 rfl) ?_
      refine va_get (D := D) (ci := 2) (v := .ref (F 3)) (C := RX2) (T := TX2) (N := 14) hx hb hts iw_X2_make_X2 hown hK hP 0 rfl rfl 4 (by decide) (hts (.fieldLink RX2 25 "SluiceRules" "rules" "[LSluiceRules$Rule;") (by decide +kernel)) (fun _ h9 => h9) rfl dX2_make_38 ?_
      refine va_alen (v := 40) hx hb hK hP 3 2 rfl rfl rfl dX2_make_41 ?_
      refine lv_icmp_lt (tgt := 48) hx hb dX2_make_42 (by decide) (fun c_42 => ?_) (fun c_42 => ?_)
      · have n_l40 : n < 40 := by rw [i_lt, nI_toInt (by omega)] at c_42; have : (40 : Int32).toInt = 40 := rfl; omega
        have n_40 : ¬ n = 40 := by omega
        refine lv_lconst (v := 0) hx hb dX2_make_48 (by decide) ?_
        refine lv_lstore (lv' := [(7, .long 0), (0, .ref (F 0)), (1, .int k_), (2, .int a_), (3, .int b_), (4, .int c_), (5, .int d_), (6, .int e_)]) hx hb dX2_make_49 hl (by decide) rfl (fun ls hl => ?_)
        refine lv_iload_n hx hb dX2_make_51 rfl (lv_at hl 2 rfl) ?_
        refine lv_bipush (v := 12) hx hb dX2_make_52 (by decide) ?_
        refine lv_icmp_ne (tgt := 77) hx hb dX2_make_54 (by decide) (fun c_54 => ?_) (fun c_54 => ?_)
        · refine va_new (ci := 0) (fs := [.int 0, .int 0, .int 0, .int 0, .int 0, .int 0, .long 0, .int 0]) (C := RX0) (T := TX0) (N := 8) hx hb hts iw_X2_make_X0 tyX0 tyX0_ok hown (hts (.classLink RX2 23 RX0) (by decide +kernel)) (hts (.instantiable RX0 8) (by decide +kernel)) (hts (.initialized RX0) (by decide +kernel)) hK hP hD hS hA rfl (fun j hj => by rcases (show j = 0 ∨ j = 1 ∨ j = 2 ∨ j = 3 ∨ j = 4 ∨ j = 5 ∨ j = 6 ∨ j = 7 by omega) with rfl | rfl | rfl | rfl | rfl | rfl | rfl | rfl <;> rfl) (Nat.le_of_ble_eq_true rfl) (Nat.le_of_ble_eq_true rfl) dX2_make_77 (fun q77 H hP hD hS => ?_)
          refine W.widen (k := 1) (n := 8) (by omega) (by omega) ?_
          have hP : va_P D vwCl (xw F Y (nI b) mn (nI n) (nI sN) (nI st) fl gv fs fb wo lv sl ru su L f ++ [(q77, .inr (0, [.int 0, .int 0, .int 0, .int 0, .int 0, .int 0, .long 0, .int 0]))]) H := hP
          have hD : va_D (va_A (xw F Y (nI b) mn (nI n) (nI sN) (nI st) fl gv fs fb wo lv sl ru su L f) sz) (xw F Y (nI b) mn (nI n) (nI sN) (nI st) fl gv fs fb wo lv sl ru su L f ++ [(q77, .inr (0, [.int 0, .int 0, .int 0, .int 0, .int 0, .int 0, .long 0, .int 0]))]) := hD
          have hq := va_pl_fresh2 hD
          refine lv_dup hx hb dX2_make_80 rfl ?_
          refine lv_iload_n hx hb dX2_make_81 rfl (lv_at hl 2 rfl) ?_
          refine lv_iload_n hx hb dX2_make_82 rfl (lv_at hl 3 rfl) ?_
          refine lv_iload_n hx hb dX2_make_83 rfl (lv_at hl 4 rfl) ?_
          refine lv_iload hx hb dX2_make_84 (lv_at hl 5 rfl) ?_
          refine lv_iload hx hb dX2_make_86 (lv_at hl 6 rfl) ?_
          refine lv_iload hx hb dX2_make_88 (lv_at hl 7 rfl) ?_
          refine WrV.callIN (As := [.int k_, .int a_, .int b_, .int c_, .int d_, .int e_]) (rest := [.ref q77]) (c_X0_init k_ a_ b_ c_ d_ e_) ⟨hx, hb, hml, hown, hts⟩ ⟨va_cnB 6 hts gX2_make_X0_init_n79 rfl rfl rfl (nm_79 hN) (hts (.initialized RX0) (by decide +kernel)) (by decide +kernel) ⟨by decide, by decide⟩, rfl, hts (.instanceMethod yX0_init) (by decide +kernel)⟩ hP hD hS hA hK hN _ (last_at _ _) rfl hl.1 rfl (Nat.le_of_ble_eq_true rfl) dX2_make_90 ⟨Nat.le_of_ble_eq_true rfl, Nat.le_of_ble_eq_true rfl⟩ (fun _ H locs _ hP hD hS => ?_)
          rw [last_set] at hP hD
          have hP : va_P D vwCl (xw F Y (nI b) mn (nI n) (nI sN) (nI st) fl gv fs fb wo lv sl ru su L f ++ [(q77, .inr (0, [.int k_, .int a_, .int b_, .int c_, .int d_, .int e_, .long 0, .int 0]))]) H := hP
          have hD : va_D (va_A (xw F Y (nI b) mn (nI n) (nI sN) (nI st) fl gv fs fb wo lv sl ru su L f) sz) (xw F Y (nI b) mn (nI n) (nI sN) (nI st) fl gv fs fb wo lv sl ru su L f ++ [(q77, .inr (0, [.int k_, .int a_, .int b_, .int c_, .int d_, .int e_, .long 0, .int 0]))]) := hD
          refine lv_astore (lv' := [(9, .ref q77), (7, .long 0), (0, .ref (F 0)), (1, .int k_), (2, .int a_), (3, .int b_), (4, .int c_), (5, .int d_), (6, .int e_)]) hx hb dX2_make_93 hl (by decide) rfl (fun ls hl => ?_)
          refine lv_aload hx hb dX2_make_95 (lv_at hl 0 rfl) ?_
          refine lv_lload hx hb dX2_make_97 (lv_at hl 1 rfl) ?_
          refine va_putN (D := D) (ci := 0) (v := .long 0) (ty := .long) (C := RX0) (T := TX0) (N := 8) (host := RX2) hx hb hts iw_X2_make_X0 tyX0 tyX0_ok nmX0 hown hK hP hD hS _ (last_at _ _) rfl 6 (by decide) (nf_82 hN) (fun _ h9 => h9) rfl (by decide +kernel) rfl rfl (Nat.le_of_ble_eq_true rfl) dX2_make_99 (fun H locs hP hD hS => ?_)
          rw [last_set] at hP hD
          have hP : va_P D vwCl (xw F Y (nI b) mn (nI n) (nI sN) (nI st) fl gv fs fb wo lv sl ru su L f ++ [(q77, .inr (0, [.int k_, .int a_, .int b_, .int c_, .int d_, .int e_, .long 0, .int 0]))]) H := hP
          have hD : va_D (va_A (xw F Y (nI b) mn (nI n) (nI sN) (nI st) fl gv fs fb wo lv sl ru su L f) sz) (xw F Y (nI b) mn (nI n) (nI sN) (nI st) fl gv fs fb wo lv sl ru su L f ++ [(q77, .inr (0, [.int k_, .int a_, .int b_, .int c_, .int d_, .int e_, .long 0, .int 0]))]) := hD
          refine lv_aload_n hx hb dX2_make_102 rfl (lv_at hl 2 rfl) ?_
          refine va_get (D := D) (ci := 2) (v := .ref (F 3)) (C := RX2) (T := TX2) (N := 14) hx hb hts iw_X2_make_X2 hown hK hP 0 rfl rfl 4 (by decide) (hts (.fieldLink RX2 25 "SluiceRules" "rules" "[LSluiceRules$Rule;") (by decide +kernel)) (fun _ h9 => h9) rfl dX2_make_103 ?_
          refine lv_aload_n hx hb dX2_make_106 rfl (lv_at hl 2 rfl) ?_
          refine va_get (D := D) (ci := 2) (v := .int (nI n)) (C := RX2) (T := TX2) (N := 14) hx hb hts iw_X2_make_X2 hown hK hP 0 rfl rfl 5 (by decide) (hts (.fieldLink RX2 29 "SluiceRules" "ruleCount" "I") (by decide +kernel)) (fun _ h9 => h9) rfl dX2_make_107 ?_
          refine lv_aload hx hb dX2_make_110 (lv_at hl 0 rfl) ?_
          refine my_astq (j := n) (r := (RX0, TX0, 8)) hx hb hK hP hD hS 3 2 _ 0 rfl rfl (last_at _ _) rfl (rfl) (n_l40) (by decide) dX2_make_112 (fun H locs hP hD hS => ?_)
          have hP : va_P D vwCl (xw F Y (nI b) mn (nI n) (nI sN) (nI st) fl gv fs fb wo lv sl (va_up ru n (some q77)) su L f ++ [(q77, .inr (0, [.int k_, .int a_, .int b_, .int c_, .int d_, .int e_, .long 0, .int 0]))]) H := hP
          have hD : va_D (va_A (xw F Y (nI b) mn (nI n) (nI sN) (nI st) fl gv fs fb wo lv sl ru su L f) sz) (xw F Y (nI b) mn (nI n) (nI sN) (nI st) fl gv fs fb wo lv sl (va_up ru n (some q77)) su L f ++ [(q77, .inr (0, [.int k_, .int a_, .int b_, .int c_, .int d_, .int e_, .long 0, .int 0]))]) := hD
          refine lv_aload_n hx hb dX2_make_113 rfl (lv_at hl 2 rfl) ?_
          refine lv_dup hx hb dX2_make_114 rfl ?_
          refine va_get (D := D) (ci := 2) (v := .int (nI n)) (C := RX2) (T := TX2) (N := 14) hx hb hts iw_X2_make_X2 hown hK hP 0 rfl rfl 5 (by decide) (hts (.fieldLink RX2 29 "SluiceRules" "ruleCount" "I") (by decide +kernel)) (fun _ h9 => h9) rfl dX2_make_115 ?_
          refine lv_iconst (v := 1) hx hb dX2_make_118 (by decide) ?_
          refine lv_iadd hx hb dX2_make_119 ?_
          refine va_put (D := D) (ci := 2) (v := .int ((nI n) + 1)) (ty := .int) (C := RX2) (T := TX2) (N := 14) hx hb hts iw_X2_make_X2 tyX2 tyX2_ok nmX2 hown hK hP hD hS 0 rfl rfl 5 (by decide) (hts (.fieldLink RX2 29 "SluiceRules" "ruleCount" "I") (by decide +kernel)) (fun _ h9 => h9) rfl (by decide +kernel) rfl rfl (Nat.le_of_ble_eq_true rfl) dX2_make_120 (fun H locs hP hD hS => ?_)
          have hP : va_P D vwCl (xw F Y (nI b) mn ((nI n) + 1) (nI sN) (nI st) fl gv fs fb wo lv sl (va_up ru n (some q77)) su L f ++ [(q77, .inr (0, [.int k_, .int a_, .int b_, .int c_, .int d_, .int e_, .long 0, .int 0]))]) H := hP
          have hD : va_D (va_A (xw F Y (nI b) mn (nI n) (nI sN) (nI st) fl gv fs fb wo lv sl ru su L f) sz) (xw F Y (nI b) mn ((nI n) + 1) (nI sN) (nI st) fl gv fs fb wo lv sl (va_up ru n (some q77)) su L f ++ [(q77, .inr (0, [.int k_, .int a_, .int b_, .int c_, .int d_, .int e_, .long 0, .int 0]))]) := hD
          refine lv_aload_n hx hb dX2_make_123 rfl (lv_at hl 2 rfl) ?_
          refine va_get (D := D) (ci := 2) (v := .int ((nI n) + 1)) (C := RX2) (T := TX2) (N := 14) hx hb hts iw_X2_make_X2 hown hK hP 0 rfl rfl 5 (by decide) (hts (.fieldLink RX2 29 "SluiceRules" "ruleCount" "I") (by decide +kernel)) (fun _ h9 => h9) rfl dX2_make_124 ?_
          refine lv_iconst (v := 1) hx hb dX2_make_127 (by decide) ?_
          refine lv_isub hx hb dX2_make_128 ?_
          rw [nI_1] at hP hD
          have hP : va_P D vwCl (xw F Y (nI b) mn (nI (n + 1)) (nI sN) (nI st) fl gv fs fb wo lv sl (va_up ru n (some q77)) su (L ++ [q77]) (va_up f q77 (.inr (0, [.int k_, .int a_, .int b_, .int c_, .int d_, .int e_, .long 0, .int 0])))) H := (congrArg (fun w => va_P D vwCl w H) (xw_push hq)).mp hP
          have hD : va_D (va_A (xw F Y (nI b) mn (nI n) (nI sN) (nI st) fl gv fs fb wo lv sl ru su L f) sz) (xw F Y (nI b) mn (nI (n + 1)) (nI sN) (nI st) fl gv fs fb wo lv sl (va_up ru n (some q77)) su (L ++ [q77]) (va_up f q77 (.inr (0, [.int k_, .int a_, .int b_, .int c_, .int d_, .int e_, .long 0, .int 0])))) := (congrArg (fun w => va_D _ w) (xw_push hq)).mp hD
          exact wrI ((n + 1, upd kd n k_, pt5 pt n a_ b_ c_ d_ e_, vp_updL he n 0, upd ct n 0, st), fl, va_up ru n (some q77), L ++ [q77], va_up f q77 (.inr (0, [.int k_, .int a_, .int b_, .int c_, .int d_, .int e_, .long 0, .int 0]))) hx hb hr hlk dX2_make_129 hP hD hS ⟨by rw [nI_1, nI_pred]; exact sp_make_n b_9 b_27 n_40 (by simpa using c_54), hR.push hq k_ a_ b_ c_ d_ e_ 0⟩
        · refine lv_aload_n hx hb dX2_make_57 rfl (lv_at hl 1 rfl) ?_
          refine lv_iload_n hx hb dX2_make_58 rfl (lv_at hl 3 rfl) ?_
          refine lv_iload_n hx hb dX2_make_59 rfl (lv_at hl 4 rfl) ?_
          refine WrL.callV (As := [.int a_, .int b_]) (rest := []) (c_X2_askByCall hR hn40 hb8 hW a_ b_) ⟨hx, hb, hml, hown, hts⟩ (cwV 2 hts gX2_make_X2_askByCall rfl rfl rfl (by decide +kernel) ⟨by decide, by decide⟩) hP hD hS hA hK hN 0 2 rfl rfl rfl hl.1 rfl (Nat.le_of_ble_eq_true rfl) dX2_make_60 ⟨Nat.le_of_ble_eq_true rfl, Nat.le_of_ble_eq_true rfl⟩ (fun r_3 ur_3 H locs hr_3 hP hD hS => ?_)
          obtain ⟨⟨st_2, fl_2, ct_2⟩, f_2⟩ := ur_3
          obtain ⟨e_2, hR_2⟩ := hr_3
          have e_2 : (r_3, (st_2, fl_2, ct_2)) = ev (n, mn, lv, sl, kd, pt, he) 120 a_ b_ (0, 0, ct) := e_2
          have hR_2 : xRel n sN kd pt he ct_2 fr to rl ru su L f_2 := hR_2
          have hP : va_P D vwCl (xw F Y (nI b) mn (nI n) (nI sN) (nI st_2) fl_2 gv fs fb wo lv sl ru su L f_2) H := hP
          have hD : va_D (va_A (xw F Y (nI b) mn (nI n) (nI sN) (nI st) fl gv fs fb wo lv sl ru su L f) sz) (xw F Y (nI b) mn (nI n) (nI sN) (nI st_2) fl_2 gv fs fb wo lv sl ru su L f_2) := hD
          refine lv_lstore (lv' := [(7, .long r_3), (0, .ref (F 0)), (1, .int k_), (2, .int a_), (3, .int b_), (4, .int c_), (5, .int d_), (6, .int e_)]) hx hb dX2_make_63 hl (by decide) rfl (fun ls hl => ?_)
          refine lv_aload_n hx hb dX2_make_65 rfl (lv_at hl 1 rfl) ?_
          refine va_get (D := D) (ci := 2) (v := .int fl_2) (C := RX2) (T := TX2) (N := 14) hx hb hts iw_X2_make_X2 hown hK hP 0 rfl rfl 9 (by decide) (hts (.fieldLink RX2 44 "SluiceRules" "failure" "I") (by decide +kernel)) (fun _ h9 => h9) rfl dX2_make_66 ?_
          refine lv_if_eq (tgt := 77) hx hb dX2_make_69 (by decide) (fun c_69 => ?_) (fun c_69 => ?_)
          · refine va_new (ci := 0) (fs := [.int 0, .int 0, .int 0, .int 0, .int 0, .int 0, .long 0, .int 0]) (C := RX0) (T := TX0) (N := 8) hx hb hts iw_X2_make_X0 tyX0 tyX0_ok hown (hts (.classLink RX2 23 RX0) (by decide +kernel)) (hts (.instantiable RX0 8) (by decide +kernel)) (hts (.initialized RX0) (by decide +kernel)) hK hP hD hS hA rfl (fun j hj => by rcases (show j = 0 ∨ j = 1 ∨ j = 2 ∨ j = 3 ∨ j = 4 ∨ j = 5 ∨ j = 6 ∨ j = 7 by omega) with rfl | rfl | rfl | rfl | rfl | rfl | rfl | rfl <;> rfl) (Nat.le_of_ble_eq_true rfl) (Nat.le_of_ble_eq_true rfl) dX2_make_77 (fun q77 H hP hD hS => ?_)
            refine W.widen (k := 1) (n := 8) (by omega) (by omega) ?_
            have hP : va_P D vwCl (xw F Y (nI b) mn (nI n) (nI sN) (nI st_2) fl_2 gv fs fb wo lv sl ru su L f_2 ++ [(q77, .inr (0, [.int 0, .int 0, .int 0, .int 0, .int 0, .int 0, .long 0, .int 0]))]) H := hP
            have hD : va_D (va_A (xw F Y (nI b) mn (nI n) (nI sN) (nI st) fl gv fs fb wo lv sl ru su L f) sz) (xw F Y (nI b) mn (nI n) (nI sN) (nI st_2) fl_2 gv fs fb wo lv sl ru su L f_2 ++ [(q77, .inr (0, [.int 0, .int 0, .int 0, .int 0, .int 0, .int 0, .long 0, .int 0]))]) := hD
            have hq := va_pl_fresh2 hD
            refine lv_dup hx hb dX2_make_80 rfl ?_
            refine lv_iload_n hx hb dX2_make_81 rfl (lv_at hl 2 rfl) ?_
            refine lv_iload_n hx hb dX2_make_82 rfl (lv_at hl 3 rfl) ?_
            refine lv_iload_n hx hb dX2_make_83 rfl (lv_at hl 4 rfl) ?_
            refine lv_iload hx hb dX2_make_84 (lv_at hl 5 rfl) ?_
            refine lv_iload hx hb dX2_make_86 (lv_at hl 6 rfl) ?_
            refine lv_iload hx hb dX2_make_88 (lv_at hl 7 rfl) ?_
            refine WrV.callIN (As := [.int k_, .int a_, .int b_, .int c_, .int d_, .int e_]) (rest := [.ref q77]) (c_X0_init k_ a_ b_ c_ d_ e_) ⟨hx, hb, hml, hown, hts⟩ ⟨va_cnB 6 hts gX2_make_X0_init_n79 rfl rfl rfl (nm_79 hN) (hts (.initialized RX0) (by decide +kernel)) (by decide +kernel) ⟨by decide, by decide⟩, rfl, hts (.instanceMethod yX0_init) (by decide +kernel)⟩ hP hD hS hA hK hN _ (last_at _ _) rfl hl.1 rfl (Nat.le_of_ble_eq_true rfl) dX2_make_90 ⟨Nat.le_of_ble_eq_true rfl, Nat.le_of_ble_eq_true rfl⟩ (fun _ H locs _ hP hD hS => ?_)
            rw [last_set] at hP hD
            have hP : va_P D vwCl (xw F Y (nI b) mn (nI n) (nI sN) (nI st_2) fl_2 gv fs fb wo lv sl ru su L f_2 ++ [(q77, .inr (0, [.int k_, .int a_, .int b_, .int c_, .int d_, .int e_, .long 0, .int 0]))]) H := hP
            have hD : va_D (va_A (xw F Y (nI b) mn (nI n) (nI sN) (nI st) fl gv fs fb wo lv sl ru su L f) sz) (xw F Y (nI b) mn (nI n) (nI sN) (nI st_2) fl_2 gv fs fb wo lv sl ru su L f_2 ++ [(q77, .inr (0, [.int k_, .int a_, .int b_, .int c_, .int d_, .int e_, .long 0, .int 0]))]) := hD
            refine lv_astore (lv' := [(9, .ref q77), (7, .long r_3), (0, .ref (F 0)), (1, .int k_), (2, .int a_), (3, .int b_), (4, .int c_), (5, .int d_), (6, .int e_)]) hx hb dX2_make_93 hl (by decide) rfl (fun ls hl => ?_)
            refine lv_aload hx hb dX2_make_95 (lv_at hl 0 rfl) ?_
            refine lv_lload hx hb dX2_make_97 (lv_at hl 1 rfl) ?_
            refine va_putN (D := D) (ci := 0) (v := .long r_3) (ty := .long) (C := RX0) (T := TX0) (N := 8) (host := RX2) hx hb hts iw_X2_make_X0 tyX0 tyX0_ok nmX0 hown hK hP hD hS _ (last_at _ _) rfl 6 (by decide) (nf_82 hN) (fun _ h9 => h9) rfl (by decide +kernel) rfl rfl (Nat.le_of_ble_eq_true rfl) dX2_make_99 (fun H locs hP hD hS => ?_)
            rw [last_set] at hP hD
            have hP : va_P D vwCl (xw F Y (nI b) mn (nI n) (nI sN) (nI st_2) fl_2 gv fs fb wo lv sl ru su L f_2 ++ [(q77, .inr (0, [.int k_, .int a_, .int b_, .int c_, .int d_, .int e_, .long r_3, .int 0]))]) H := hP
            have hD : va_D (va_A (xw F Y (nI b) mn (nI n) (nI sN) (nI st) fl gv fs fb wo lv sl ru su L f) sz) (xw F Y (nI b) mn (nI n) (nI sN) (nI st_2) fl_2 gv fs fb wo lv sl ru su L f_2 ++ [(q77, .inr (0, [.int k_, .int a_, .int b_, .int c_, .int d_, .int e_, .long r_3, .int 0]))]) := hD
            refine lv_aload_n hx hb dX2_make_102 rfl (lv_at hl 2 rfl) ?_
            refine va_get (D := D) (ci := 2) (v := .ref (F 3)) (C := RX2) (T := TX2) (N := 14) hx hb hts iw_X2_make_X2 hown hK hP 0 rfl rfl 4 (by decide) (hts (.fieldLink RX2 25 "SluiceRules" "rules" "[LSluiceRules$Rule;") (by decide +kernel)) (fun _ h9 => h9) rfl dX2_make_103 ?_
            refine lv_aload_n hx hb dX2_make_106 rfl (lv_at hl 2 rfl) ?_
            refine va_get (D := D) (ci := 2) (v := .int (nI n)) (C := RX2) (T := TX2) (N := 14) hx hb hts iw_X2_make_X2 hown hK hP 0 rfl rfl 5 (by decide) (hts (.fieldLink RX2 29 "SluiceRules" "ruleCount" "I") (by decide +kernel)) (fun _ h9 => h9) rfl dX2_make_107 ?_
            refine lv_aload hx hb dX2_make_110 (lv_at hl 0 rfl) ?_
            refine my_astq (j := n) (r := (RX0, TX0, 8)) hx hb hK hP hD hS 3 2 _ 0 rfl rfl (last_at _ _) rfl (rfl) (n_l40) (by decide) dX2_make_112 (fun H locs hP hD hS => ?_)
            have hP : va_P D vwCl (xw F Y (nI b) mn (nI n) (nI sN) (nI st_2) fl_2 gv fs fb wo lv sl (va_up ru n (some q77)) su L f_2 ++ [(q77, .inr (0, [.int k_, .int a_, .int b_, .int c_, .int d_, .int e_, .long r_3, .int 0]))]) H := hP
            have hD : va_D (va_A (xw F Y (nI b) mn (nI n) (nI sN) (nI st) fl gv fs fb wo lv sl ru su L f) sz) (xw F Y (nI b) mn (nI n) (nI sN) (nI st_2) fl_2 gv fs fb wo lv sl (va_up ru n (some q77)) su L f_2 ++ [(q77, .inr (0, [.int k_, .int a_, .int b_, .int c_, .int d_, .int e_, .long r_3, .int 0]))]) := hD
            refine lv_aload_n hx hb dX2_make_113 rfl (lv_at hl 2 rfl) ?_
            refine lv_dup hx hb dX2_make_114 rfl ?_
            refine va_get (D := D) (ci := 2) (v := .int (nI n)) (C := RX2) (T := TX2) (N := 14) hx hb hts iw_X2_make_X2 hown hK hP 0 rfl rfl 5 (by decide) (hts (.fieldLink RX2 29 "SluiceRules" "ruleCount" "I") (by decide +kernel)) (fun _ h9 => h9) rfl dX2_make_115 ?_
            refine lv_iconst (v := 1) hx hb dX2_make_118 (by decide) ?_
            refine lv_iadd hx hb dX2_make_119 ?_
            refine va_put (D := D) (ci := 2) (v := .int ((nI n) + 1)) (ty := .int) (C := RX2) (T := TX2) (N := 14) hx hb hts iw_X2_make_X2 tyX2 tyX2_ok nmX2 hown hK hP hD hS 0 rfl rfl 5 (by decide) (hts (.fieldLink RX2 29 "SluiceRules" "ruleCount" "I") (by decide +kernel)) (fun _ h9 => h9) rfl (by decide +kernel) rfl rfl (Nat.le_of_ble_eq_true rfl) dX2_make_120 (fun H locs hP hD hS => ?_)
            have hP : va_P D vwCl (xw F Y (nI b) mn ((nI n) + 1) (nI sN) (nI st_2) fl_2 gv fs fb wo lv sl (va_up ru n (some q77)) su L f_2 ++ [(q77, .inr (0, [.int k_, .int a_, .int b_, .int c_, .int d_, .int e_, .long r_3, .int 0]))]) H := hP
            have hD : va_D (va_A (xw F Y (nI b) mn (nI n) (nI sN) (nI st) fl gv fs fb wo lv sl ru su L f) sz) (xw F Y (nI b) mn ((nI n) + 1) (nI sN) (nI st_2) fl_2 gv fs fb wo lv sl (va_up ru n (some q77)) su L f_2 ++ [(q77, .inr (0, [.int k_, .int a_, .int b_, .int c_, .int d_, .int e_, .long r_3, .int 0]))]) := hD
            refine lv_aload_n hx hb dX2_make_123 rfl (lv_at hl 2 rfl) ?_
            refine va_get (D := D) (ci := 2) (v := .int ((nI n) + 1)) (C := RX2) (T := TX2) (N := 14) hx hb hts iw_X2_make_X2 hown hK hP 0 rfl rfl 5 (by decide) (hts (.fieldLink RX2 29 "SluiceRules" "ruleCount" "I") (by decide +kernel)) (fun _ h9 => h9) rfl dX2_make_124 ?_
            refine lv_iconst (v := 1) hx hb dX2_make_127 (by decide) ?_
            refine lv_isub hx hb dX2_make_128 ?_
            rw [nI_1] at hP hD
            have hP : va_P D vwCl (xw F Y (nI b) mn (nI (n + 1)) (nI sN) (nI st_2) fl_2 gv fs fb wo lv sl (va_up ru n (some q77)) su (L ++ [q77]) (va_up f_2 q77 (.inr (0, [.int k_, .int a_, .int b_, .int c_, .int d_, .int e_, .long r_3, .int 0])))) H := (congrArg (fun w => va_P D vwCl w H) (xw_push hq)).mp hP
            have hD : va_D (va_A (xw F Y (nI b) mn (nI n) (nI sN) (nI st) fl gv fs fb wo lv sl ru su L f) sz) (xw F Y (nI b) mn (nI (n + 1)) (nI sN) (nI st_2) fl_2 gv fs fb wo lv sl (va_up ru n (some q77)) su (L ++ [q77]) (va_up f_2 q77 (.inr (0, [.int k_, .int a_, .int b_, .int c_, .int d_, .int e_, .long r_3, .int 0])))) := (congrArg (fun w => va_D _ w) (xw_push hq)).mp hD
            exact wrI ((n + 1, upd kd n k_, pt5 pt n a_ b_ c_ d_ e_, vp_updL he n r_3, upd ct_2 n 0, st_2), fl_2, va_up ru n (some q77), L ++ [q77], va_up f_2 q77 (.inr (0, [.int k_, .int a_, .int b_, .int c_, .int d_, .int e_, .long r_3, .int 0]))) hx hb hr hlk dX2_make_129 hP hD hS ⟨by rw [nI_1, nI_pred]; exact sp_make_h b_9 b_27 n_40 (by simpa using c_54) e_2 c_69, hR_2.push hq k_ a_ b_ c_ d_ e_ r_3⟩
          · refine lv_aload_n hx hb dX2_make_72 rfl (lv_at hl 1 rfl) ?_
            refine va_get (D := D) (ci := 2) (v := .int fl_2) (C := RX2) (T := TX2) (N := 14) hx hb hts iw_X2_make_X2 hown hK hP 0 rfl rfl 9 (by decide) (hts (.fieldLink RX2 44 "SluiceRules" "failure" "I") (by decide +kernel)) (fun _ h9 => h9) rfl dX2_make_73 ?_
            refine W.widen (k := 1) (n := 8) (by omega) (by omega) ?_
            exact wrI ((n, kd, pt, he, ct_2, st_2), fl_2, ru, L, f_2) hx hb hr hlk dX2_make_76 hP hD hS ⟨sp_make_f b_9 b_27 n_40 (by simpa using c_54) e_2 c_69, hR_2⟩
      · have n_40 : n = 40 := by rw [i_lt, nI_toInt (by omega)] at c_42; have : (40 : Int32).toInt = 40 := rfl; omega
        refine lv_bipush (v := (-103)) hx hb dX2_make_45 (by decide) ?_
        refine W.widen (k := 1) (n := 8) (by omega) (by omega) ?_
        exact wrI ((n, kd, pt, he, ct, st), fl, ru, L, f) hx hb hr hlk dX2_make_47 hP hD hS ⟨sp_make_r b_9 b_27 n_40, hR⟩
    · have b_27 : fiB k_ a_ b_ c_ d_ e_ = false := bI_z (by rw [← hr_2]; exact c_27)
      refine lv_bipush (v := (-102)) hx hb dX2_make_30 (by decide) ?_
      refine W.widen (k := 1) (n := 8) (by omega) (by omega) ?_
      exact wrI ((n, kd, pt, he, ct, st), fl, ru, L, f) hx hb hr hlk dX2_make_32 hP hD hS ⟨sp_make_o b_9 b_27, hR⟩
  · have b_9 : knB b n kd k_ a_ b_ c_ = false := bI_z (by rw [← hr_1]; exact c_9)
    refine lv_bipush (v := (-101)) hx hb dX2_make_12 (by decide) ?_
    refine W.widen (k := 1) (n := 8) (by omega) (by omega) ?_
    exact wrI ((n, kd, pt, he, ct, st), fl, ru, L, f) hx hb hr hlk dX2_make_14 hP hD hS ⟨sp_make_u b_9, hR⟩

theorem iw_X2_sluice_X2 : ∀ w ∈ u_ws RX2 TX2 14, w ∈ wsX2_sluice := by decide +kernel
theorem iw_X2_sluice_X1 : ∀ w ∈ u_ws RX1 TX1 3, w ∈ wsX2_sluice := by decide +kernel
set_option maxRecDepth 100000 in
set_option maxHeartbeats 4000000 in
/-- sluice -/
theorem c_X2_sluice {l : Launch} {D : va_G} {F : Nat → Nat} {Y : Nat → ClassId} {mn fl : Int32} {gv : Int64} {fs fb wo : Int32} {lv sl : Nat → Int32} {ru su : Nat → Option Nat} {L : List Nat} {f : Nat → va_E} {b n sN st : Nat} {kd pt : Nat → Int32} {he : Nat → Int64} {ct fr to rl : Nat → Int32} (hR : xRel n sN kd pt he ct fr to rl ru su L f) (hn40 : n ≤ 40) (hb8 : b ≤ 8) (hs8 : sN ≤ 8) (f_ t_ r_ : Int32) : WrI l yX2_sluice wsX2_sluice (rkc 2 1 3) D (xty Y) (xw F Y (nI b) mn (nI n) (nI sN) (nI st) fl gv fs fb wo lv sl ru su L f) [.ref (F 0), .int f_, .int t_, .int r_] (σ := (Nat × (Nat → Int32) × (Nat → Int32) × (Nat → Int32)) × (Nat → Option Nat) × List Nat × (Nat → va_E)) (fun u => xw F Y (nI b) mn (nI n) (nI u.1.1) (nI st) fl gv fs fb wo lv sl ru u.2.1 u.2.2.1 u.2.2.2) (fun r u => (r, u.1) = sp_sluice b n sN fr to rl f_ t_ r_ ∧ xRel n u.1.1 kd pt he ct u.1.2.1 u.1.2.2.1 u.1.2.2.2 ru u.2.1 u.2.2.1 u.2.2.2) 1 3 := by
  intro sz
  refine wrEnter (cc := cX2_sluice) (maxL := 4) (ret := (some .int)) (by decide) rfl (Nat.le_of_ble_eq_true rfl) ?_
  intro p e s m below meth c hx hb hr hml hown hts hlk hP hK hN hsz hD hS hA hin ls hl
  have hown : s.vm.findClass RX2 = some m.cls := hown
  have hl : lv_has ls 4 [(0, .ref (F 0)), (1, .int f_), (2, .int t_), (3, .int r_)] := hl
  refine lv_aload_n hx hb dX2_sluice_0 rfl (lv_at hl 0 rfl) ?_
  refine lv_iload_n hx hb dX2_sluice_1 rfl (lv_at hl 1 rfl) ?_
  refine RoI.callV (As := [.int f_]) (rest := []) (c_X2_isBasin hb8 f_) ⟨hx, hb, hml, hown, hts⟩ (cwV 1 hts gX2_sluice_X2_isBasin rfl rfl rfl (by decide +kernel) ⟨by decide, by decide⟩) hP hK hN 0 2 rfl rfl rfl hl.1 rfl (Nat.le_of_ble_eq_true rfl) dX2_sluice_2 ⟨Nat.le_of_ble_eq_true rfl, Nat.le_of_ble_eq_true rfl⟩ (fun r_1 hr_1 => ?_)
  refine lv_if_eq (tgt := 24) hx hb dX2_sluice_5 (by decide) (fun c_5 => ?_) (fun c_5 => ?_)
  · have b_5 : inB f_ b = false := bI_z (by rw [← hr_1]; exact c_5)
    refine lv_bipush (v := (-101)) hx hb dX2_sluice_24 (by decide) ?_
    refine W.widen (k := 1) (n := 3) (by omega) (by omega) ?_
    exact wrI ((sN, fr, to, rl), su, L, f) hx hb hr hlk dX2_sluice_26 hP hD hS ⟨by rw [sp_sluice, if_neg (fun z => by rw [b_5] at z; exact absurd z.1 Bool.false_ne_true)], hR⟩
  · have b_5 : inB f_ b = true := bI_n (by rw [← hr_1]; exact c_5)
    refine lv_aload_n hx hb dX2_sluice_8 rfl (lv_at hl 0 rfl) ?_
    refine lv_iload_n hx hb dX2_sluice_9 rfl (lv_at hl 2 rfl) ?_
    refine RoI.callV (As := [.int t_]) (rest := []) (c_X2_isBasin hb8 t_) ⟨hx, hb, hml, hown, hts⟩ (cwV 1 hts gX2_sluice_X2_isBasin rfl rfl rfl (by decide +kernel) ⟨by decide, by decide⟩) hP hK hN 0 2 rfl rfl rfl hl.1 rfl (Nat.le_of_ble_eq_true rfl) dX2_sluice_10 ⟨Nat.le_of_ble_eq_true rfl, Nat.le_of_ble_eq_true rfl⟩ (fun r_2 hr_2 => ?_)
    refine lv_if_eq (tgt := 24) hx hb dX2_sluice_13 (by decide) (fun c_13 => ?_) (fun c_13 => ?_)
    · have b_13 : inB t_ b = false := bI_z (by rw [← hr_2]; exact c_13)
      refine lv_bipush (v := (-101)) hx hb dX2_sluice_24 (by decide) ?_
      refine W.widen (k := 1) (n := 3) (by omega) (by omega) ?_
      exact wrI ((sN, fr, to, rl), su, L, f) hx hb hr hlk dX2_sluice_26 hP hD hS ⟨by rw [sp_sluice, if_neg (fun z => by rw [b_13] at z; exact absurd z.2.1 Bool.false_ne_true)], hR⟩
    · have b_13 : inB t_ b = true := bI_n (by rw [← hr_2]; exact c_13)
      refine lv_aload_n hx hb dX2_sluice_16 rfl (lv_at hl 0 rfl) ?_
      refine lv_iload_n hx hb dX2_sluice_17 rfl (lv_at hl 3 rfl) ?_
      refine RoQ.callV (As := [.int r_]) (rest := []) (c_X2_ruleAt hR hn40 r_) ⟨hx, hb, hml, hown, hts⟩ (cwV 1 hts gX2_sluice_X2_ruleAt rfl rfl rfl (by decide +kernel) ⟨by decide, by decide⟩) hP hK hN 0 2 rfl rfl rfl hl.1 rfl (Nat.le_of_ble_eq_true rfl) dX2_sluice_18 ⟨Nat.le_of_ble_eq_true rfl, Nat.le_of_ble_eq_true rfl⟩ (fun r_3 hr_3 => ?_)
      rcases r_3 with _ | ar_3
      · have q_r_3 := hR.norule hr_3.symm
        refine lv_ifnonnullN hx hb dX2_sluice_21 ?_
        refine lv_bipush (v := (-101)) hx hb dX2_sluice_24 (by decide) ?_
        refine W.widen (k := 1) (n := 3) (by omega) (by omega) ?_
        exact wrI ((sN, fr, to, rl), su, L, f) hx hb hr hlk dX2_sluice_26 hP hD hS ⟨by rw [sp_sluice, if_neg (fun z => by rw [q_r_3] at z; exact absurd z.2.2 Bool.false_ne_true)], hR⟩
      · have q_r_3 := (hR.rule hr_3.symm).1
        refine lv_ifnonnull (tgt := 27) hx hb dX2_sluice_21 (by decide) ?_
        refine lv_iload_n hx hb dX2_sluice_27 rfl (lv_at hl 1 rfl) ?_
        refine lv_iload_n hx hb dX2_sluice_28 rfl (lv_at hl 2 rfl) ?_
        refine lv_icmp_ne (tgt := 35) hx hb dX2_sluice_29 (by decide) (fun c_29 => ?_) (fun c_29 => ?_)
        · refine lv_aload_n hx hb dX2_sluice_35 rfl (lv_at hl 0 rfl) ?_
          refine va_get (D := D) (ci := 2) (v := .int (nI sN)) (C := RX2) (T := TX2) (N := 14) hx hb hts iw_X2_sluice_X2 hown hK hP 0 rfl rfl 7 (by decide) (hts (.fieldLink RX2 38 "SluiceRules" "sluiceCount" "I") (by decide +kernel)) (fun _ h9 => h9) rfl dX2_sluice_36 ?_
          refine lv_aload_n hx hb dX2_sluice_39 rfl (lv_at hl 0 rfl) ?_
          refine va_get (D := D) (ci := 2) (v := .ref (F 4)) (C := RX2) (T := TX2) (N := 14) hx hb hts iw_X2_sluice_X2 hown hK hP 0 rfl rfl 6 (by decide) (hts (.fieldLink RX2 34 "SluiceRules" "sluices" "[LSluiceRules$Sluice;") (by decide +kernel)) (fun _ h9 => h9) rfl dX2_sluice_40 ?_
          refine va_alen (v := 8) hx hb hK hP 4 3 rfl rfl rfl dX2_sluice_43 ?_
          refine lv_icmp_lt (tgt := 50) hx hb dX2_sluice_44 (by decide) (fun c_44 => ?_) (fun c_44 => ?_)
          · have s_l8 : sN < 8 := by rw [i_lt, nI_toInt (by omega)] at c_44; have : (8 : Int32).toInt = 8 := rfl; omega
            have s_8 : ¬ sN = 8 := by omega
            refine lv_aload_n hx hb dX2_sluice_50 rfl (lv_at hl 0 rfl) ?_
            refine va_get (D := D) (ci := 2) (v := .ref (F 4)) (C := RX2) (T := TX2) (N := 14) hx hb hts iw_X2_sluice_X2 hown hK hP 0 rfl rfl 6 (by decide) (hts (.fieldLink RX2 34 "SluiceRules" "sluices" "[LSluiceRules$Sluice;") (by decide +kernel)) (fun _ h9 => h9) rfl dX2_sluice_51 ?_
            refine lv_aload_n hx hb dX2_sluice_54 rfl (lv_at hl 0 rfl) ?_
            refine va_get (D := D) (ci := 2) (v := .int (nI sN)) (C := RX2) (T := TX2) (N := 14) hx hb hts iw_X2_sluice_X2 hown hK hP 0 rfl rfl 7 (by decide) (hts (.fieldLink RX2 38 "SluiceRules" "sluiceCount" "I") (by decide +kernel)) (fun _ h9 => h9) rfl dX2_sluice_55 ?_
            refine va_new (ci := 1) (fs := [.int 0, .int 0, .int 0]) (C := RX1) (T := TX1) (N := 3) hx hb hts iw_X2_sluice_X1 tyX1 tyX1_ok hown (hts (.classLink RX2 32 RX1) (by decide +kernel)) (hts (.instantiable RX1 3) (by decide +kernel)) (hts (.initialized RX1) (by decide +kernel)) hK hP hD hS hA rfl (fun j hj => by rcases (show j = 0 ∨ j = 1 ∨ j = 2 by omega) with rfl | rfl | rfl <;> rfl) (Nat.le_of_ble_eq_true rfl) (Nat.le_of_ble_eq_true rfl) dX2_sluice_58 (fun q58 H hP hD hS => ?_)
            refine W.widen (k := 1) (n := 3) (by omega) (by omega) ?_
            have hP : va_P D vwCl (xw F Y (nI b) mn (nI n) (nI sN) (nI st) fl gv fs fb wo lv sl ru su L f ++ [(q58, .inr (1, [.int 0, .int 0, .int 0]))]) H := hP
            have hD : va_D (va_A (xw F Y (nI b) mn (nI n) (nI sN) (nI st) fl gv fs fb wo lv sl ru su L f) sz) (xw F Y (nI b) mn (nI n) (nI sN) (nI st) fl gv fs fb wo lv sl ru su L f ++ [(q58, .inr (1, [.int 0, .int 0, .int 0]))]) := hD
            have hq := va_pl_fresh2 hD
            refine lv_dup hx hb dX2_sluice_61 rfl ?_
            refine lv_iload_n hx hb dX2_sluice_62 rfl (lv_at hl 1 rfl) ?_
            refine lv_iload_n hx hb dX2_sluice_63 rfl (lv_at hl 2 rfl) ?_
            refine lv_iload_n hx hb dX2_sluice_64 rfl (lv_at hl 3 rfl) ?_
            refine WrV.callIN (As := [.int f_, .int t_, .int r_]) (rest := [.ref q58, .int (nI sN), .ref (F 4)]) (c_X1_init f_ t_ r_) ⟨hx, hb, hml, hown, hts⟩ ⟨va_cnB 3 hts gX2_sluice_X1_init_n95 rfl rfl rfl (nm_95 hN) (hts (.initialized RX1) (by decide +kernel)) (by decide +kernel) ⟨by decide, by decide⟩, rfl, hts (.instanceMethod yX1_init) (by decide +kernel)⟩ hP hD hS hA hK hN _ (last_at _ _) rfl hl.1 rfl (Nat.le_of_ble_eq_true rfl) dX2_sluice_65 ⟨Nat.le_of_ble_eq_true rfl, Nat.le_of_ble_eq_true rfl⟩ (fun _ H locs _ hP hD hS => ?_)
            rw [last_set] at hP hD
            have hP : va_P D vwCl (xw F Y (nI b) mn (nI n) (nI sN) (nI st) fl gv fs fb wo lv sl ru su L f ++ [(q58, .inr (1, [.int f_, .int t_, .int r_]))]) H := hP
            have hD : va_D (va_A (xw F Y (nI b) mn (nI n) (nI sN) (nI st) fl gv fs fb wo lv sl ru su L f) sz) (xw F Y (nI b) mn (nI n) (nI sN) (nI st) fl gv fs fb wo lv sl ru su L f ++ [(q58, .inr (1, [.int f_, .int t_, .int r_]))]) := hD
            refine my_astq (j := sN) (r := (RX1, TX1, 3)) hx hb hK hP hD hS 4 3 _ 1 rfl rfl (last_at _ _) rfl (rfl) (s_l8) (by decide) dX2_sluice_68 (fun H locs hP hD hS => ?_)
            have hP : va_P D vwCl (xw F Y (nI b) mn (nI n) (nI sN) (nI st) fl gv fs fb wo lv sl ru (va_up su sN (some q58)) L f ++ [(q58, .inr (1, [.int f_, .int t_, .int r_]))]) H := hP
            have hD : va_D (va_A (xw F Y (nI b) mn (nI n) (nI sN) (nI st) fl gv fs fb wo lv sl ru su L f) sz) (xw F Y (nI b) mn (nI n) (nI sN) (nI st) fl gv fs fb wo lv sl ru (va_up su sN (some q58)) L f ++ [(q58, .inr (1, [.int f_, .int t_, .int r_]))]) := hD
            refine lv_aload_n hx hb dX2_sluice_69 rfl (lv_at hl 0 rfl) ?_
            refine lv_dup hx hb dX2_sluice_70 rfl ?_
            refine va_get (D := D) (ci := 2) (v := .int (nI sN)) (C := RX2) (T := TX2) (N := 14) hx hb hts iw_X2_sluice_X2 hown hK hP 0 rfl rfl 7 (by decide) (hts (.fieldLink RX2 38 "SluiceRules" "sluiceCount" "I") (by decide +kernel)) (fun _ h9 => h9) rfl dX2_sluice_71 ?_
            refine lv_iconst (v := 1) hx hb dX2_sluice_74 (by decide) ?_
            refine lv_iadd hx hb dX2_sluice_75 ?_
            refine va_put (D := D) (ci := 2) (v := .int ((nI sN) + 1)) (ty := .int) (C := RX2) (T := TX2) (N := 14) hx hb hts iw_X2_sluice_X2 tyX2 tyX2_ok nmX2 hown hK hP hD hS 0 rfl rfl 7 (by decide) (hts (.fieldLink RX2 38 "SluiceRules" "sluiceCount" "I") (by decide +kernel)) (fun _ h9 => h9) rfl (by decide +kernel) rfl rfl (Nat.le_of_ble_eq_true rfl) dX2_sluice_76 (fun H locs hP hD hS => ?_)
            have hP : va_P D vwCl (xw F Y (nI b) mn (nI n) ((nI sN) + 1) (nI st) fl gv fs fb wo lv sl ru (va_up su sN (some q58)) L f ++ [(q58, .inr (1, [.int f_, .int t_, .int r_]))]) H := hP
            have hD : va_D (va_A (xw F Y (nI b) mn (nI n) (nI sN) (nI st) fl gv fs fb wo lv sl ru su L f) sz) (xw F Y (nI b) mn (nI n) ((nI sN) + 1) (nI st) fl gv fs fb wo lv sl ru (va_up su sN (some q58)) L f ++ [(q58, .inr (1, [.int f_, .int t_, .int r_]))]) := hD
            refine lv_aload_n hx hb dX2_sluice_79 rfl (lv_at hl 0 rfl) ?_
            refine va_get (D := D) (ci := 2) (v := .int ((nI sN) + 1)) (C := RX2) (T := TX2) (N := 14) hx hb hts iw_X2_sluice_X2 hown hK hP 0 rfl rfl 7 (by decide) (hts (.fieldLink RX2 38 "SluiceRules" "sluiceCount" "I") (by decide +kernel)) (fun _ h9 => h9) rfl dX2_sluice_80 ?_
            refine lv_iconst (v := 1) hx hb dX2_sluice_83 (by decide) ?_
            refine lv_isub hx hb dX2_sluice_84 ?_
            rw [nI_1] at hP hD
            have hP : va_P D vwCl (xw F Y (nI b) mn (nI n) (nI (sN + 1)) (nI st) fl gv fs fb wo lv sl ru (va_up su sN (some q58)) (L ++ [q58]) (va_up f q58 (.inr (1, [.int f_, .int t_, .int r_])))) H := (congrArg (fun w => va_P D vwCl w H) (xw_push hq)).mp hP
            have hD : va_D (va_A (xw F Y (nI b) mn (nI n) (nI sN) (nI st) fl gv fs fb wo lv sl ru su L f) sz) (xw F Y (nI b) mn (nI n) (nI (sN + 1)) (nI st) fl gv fs fb wo lv sl ru (va_up su sN (some q58)) (L ++ [q58]) (va_up f q58 (.inr (1, [.int f_, .int t_, .int r_])))) := (congrArg (fun w => va_D _ w) (xw_push hq)).mp hD
            exact wrI ((sN + 1, upd fr sN f_, upd to sN t_, upd rl sN r_), va_up su sN (some q58), L ++ [q58], va_up f q58 (.inr (1, [.int f_, .int t_, .int r_]))) hx hb hr hlk dX2_sluice_85 hP hD hS ⟨by rw [sp_sluice, if_pos ⟨b_5, b_13, q_r_3⟩, if_neg (by simpa using c_29), if_neg s_8, nI_1, nI_pred], hR.pushS hq f_ t_ r_⟩
          · have s_8 : sN = 8 := by rw [i_lt, nI_toInt (by omega)] at c_44; have : (8 : Int32).toInt = 8 := rfl; omega
            refine lv_bipush (v := (-103)) hx hb dX2_sluice_47 (by decide) ?_
            refine W.widen (k := 1) (n := 3) (by omega) (by omega) ?_
            exact wrI ((sN, fr, to, rl), su, L, f) hx hb hr hlk dX2_sluice_49 hP hD hS ⟨by rw [sp_sluice, if_pos ⟨b_5, b_13, q_r_3⟩, if_neg (by simpa using c_29), if_pos s_8], hR⟩
        · refine lv_bipush (v := (-102)) hx hb dX2_sluice_32 (by decide) ?_
          refine W.widen (k := 1) (n := 3) (by omega) (by omega) ?_
          exact wrI ((sN, fr, to, rl), su, L, f) hx hb hr hlk dX2_sluice_34 hP hD hS ⟨by rw [sp_sluice, if_pos ⟨b_5, b_13, q_r_3⟩, if_pos (by simpa using c_29)], hR⟩

theorem iw_X2_letOver_X2 : ∀ w ∈ u_ws RX2 TX2 14, w ∈ wsX2_letOver := by decide +kernel
theorem iw_X2_letOver_X1 : ∀ w ∈ u_ws RX1 TX1 3, w ∈ wsX2_letOver := by decide +kernel
set_option maxRecDepth 100000 in
set_option maxHeartbeats 4000000 in
/-- letOver -/
theorem c_X2_letOver {l : Launch} {D : va_G} {F : Nat → Nat} {Y : Nat → ClassId} {mn fl : Int32} {gv : Int64} {fs fb wo : Int32} {lv sl : Nat → Int32} {ru su : Nat → Option Nat} {L : List Nat} {f : Nat → va_E} {b n sN st : Nat} (hb8 : b ≤ 8) {fr to rl : Nat → Int32} {a k : Nat} (hL : a ∈ L) (hf : f a = suE fr to rl k) (hf1 : inB (fr k) b = true) (hf2 : inB (to k) b = true) (hft : ¬ fr k = to k) (hwl : wfL b lv) (v : Int64) : WrI l yX2_letOver wsX2_letOver (rk 2) D (xty Y) (xw F Y (nI b) mn (nI n) (nI sN) (nI st) fl gv fs fb wo lv sl ru su L f) [.ref (F 0), .ref a, .long v] (σ := Nat → Int32) (fun u => xw F Y (nI b) mn (nI n) (nI sN) (nI st) fl gv fs fb wo u sl ru su L f) (fun r u => (r, u) = sp_over lv (ix (fr k)) (ix (to k)) v) 0 0 := by
  intro sz
  refine wrEnter (cc := cX2_letOver) (maxL := 7) (ret := (some .int)) (by decide) rfl (Nat.le_of_ble_eq_true rfl) ?_
  intro p e s m below meth c hx hb hr hml hown hts hlk hP hK hN hsz hD hS hA hin ls hl
  have hown : s.vm.findClass RX2 = some m.cls := hown
  have hl : lv_has ls 7 [(0, .ref (F 0)), (1, .ref a), (2, .long v)] := hl
  obtain ⟨p_a, e_a⟩ : ∃ q : Nat, (xw F Y (nI b) mn (nI n) (nI sN) (nI st) fl gv fs fb wo lv sl ru su L f)[q]? = some (a, suE fr to rl k) := pl_at hL hf
  refine lv_aload_n hx hb dX2_letOver_0 rfl (lv_at hl 0 rfl) ?_
  refine lv_aload_n hx hb dX2_letOver_1 rfl (lv_at hl 1 rfl) ?_
  refine va_getN (D := D) (ci := 1) (v := .int (fr k)) (C := RX1) (T := TX1) (N := 3) (host := RX2) hx hb hts iw_X2_letOver_X1 hown hK hP p_a e_a rfl 0 (by decide) (nf_188 hN) (fun _ h9 => h9) rfl dX2_letOver_2 ?_
  refine RoI.callV (As := [.int (fr k)]) (rest := []) (c_X2_level hb8 (fr k)) ⟨hx, hb, hml, hown, hts⟩ (cwV 1 hts gX2_letOver_X2_level rfl rfl rfl (by decide +kernel) ⟨by decide, by decide⟩) hP hK hN 0 2 rfl rfl rfl hl.1 rfl (Nat.le_of_ble_eq_true rfl) dX2_letOver_5 ⟨Nat.le_of_ble_eq_true rfl, Nat.le_of_ble_eq_true rfl⟩ (fun r_1 hr_1 => ?_)
  have xr_1 : r_1 = lv (ix (fr k)) := by rw [hr_1]; exact sp_level_ok hf1
  subst xr_1
  refine lv_istore (lv' := [(4, .int (lv (ix (fr k)))), (0, .ref (F 0)), (1, .ref a), (2, .long v)]) hx hb dX2_letOver_8 hl (by decide) rfl (fun ls hl => ?_)
  refine lv_ldc (v := 1000000000) hx hb hown (hts (.constant RX2 107 (1000000000)) (by decide +kernel)) dX2_letOver_10 ?_
  refine lv_aload_n hx hb dX2_letOver_12 rfl (lv_at hl 1 rfl) ?_
  refine lv_aload_n hx hb dX2_letOver_13 rfl (lv_at hl 2 rfl) ?_
  refine va_getN (D := D) (ci := 1) (v := .int (to k)) (C := RX1) (T := TX1) (N := 3) (host := RX2) hx hb hts iw_X2_letOver_X1 hown hK hP p_a e_a rfl 1 (by decide) (nf_191 hN) (fun _ h9 => h9) rfl dX2_letOver_14 ?_
  refine RoI.callV (As := [.int (to k)]) (rest := [.int 1000000000]) (c_X2_level hb8 (to k)) ⟨hx, hb, hml, hown, hts⟩ (cwV 1 hts gX2_letOver_X2_level rfl rfl rfl (by decide +kernel) ⟨by decide, by decide⟩) hP hK hN 0 2 rfl rfl rfl hl.1 rfl (Nat.le_of_ble_eq_true rfl) dX2_letOver_17 ⟨Nat.le_of_ble_eq_true rfl, Nat.le_of_ble_eq_true rfl⟩ (fun r_2 hr_2 => ?_)
  have xr_2 : r_2 = lv (ix (to k)) := by rw [hr_2]; exact sp_level_ok hf2
  subst xr_2
  refine lv_isub hx hb dX2_letOver_20 ?_
  refine lv_istore (lv' := [(5, .int (1000000000 - (lv (ix (to k))))), (4, .int (lv (ix (fr k)))), (0, .ref (F 0)), (1, .ref a), (2, .long v)]) hx hb dX2_letOver_21 hl (by decide) rfl (fun ls hl => ?_)
  refine lv_lconst (v := 0) hx hb dX2_letOver_23 (by decide) ?_
  refine lv_lload_n hx hb dX2_letOver_24 rfl (lv_at hl 4 rfl) ?_
  refine lv_iload hx hb dX2_letOver_25 (lv_at hl 1 rfl) ?_
  refine lv_iload hx hb dX2_letOver_27 (lv_at hl 0 rfl) ?_
  refine va_mmin hx hb (hml.trans hl.1.symm) hown (hts (.methodLink RX2 194 Lib.Math.min.name) (by decide +kernel)) (hts (.static Lib.Math.min.name) (by decide +kernel)) (hts (.initialized "java/lang/Math") (by decide +kernel)) (hts (.code Lib.Math.min.name Lib.Math.min.code 2 (some .int)) (by decide +kernel)) (Nat.le_of_ble_eq_true rfl) (Nat.le_of_ble_eq_true rfl) (Nat.zero_le _) (Nat.zero_le _) dX2_letOver_29 ?_
  refine lv_i2l hx hb dX2_letOver_32 rfl ?_
  refine va_mmin_long hx hb (hml.trans hl.1.symm) hown (hts (.methodLink RX2 123 Lib.MathLoose.min_long.x) (by decide +kernel)) (hts (.static Lib.MathLoose.min_long.x) (by decide +kernel)) (hts (.initialized "java/lang/Math") (by decide +kernel)) (hts (.code Lib.MathLoose.min_long.x Lib.MathLoose.min_long.code 4 (some .long)) (by decide +kernel)) (Nat.le_of_ble_eq_true rfl) (Nat.le_of_ble_eq_true rfl) (Nat.zero_le _) (Nat.zero_le _) dX2_letOver_33 ?_
  refine va_mmax_long hx hb (hml.trans hl.1.symm) hown (hts (.methodLink RX2 129 Lib.MathLoose.max_long.x) (by decide +kernel)) (hts (.static Lib.MathLoose.max_long.x) (by decide +kernel)) (hts (.initialized "java/lang/Math") (by decide +kernel)) (hts (.code Lib.MathLoose.max_long.x Lib.MathLoose.max_long.code 4 (some .long)) (by decide +kernel)) (Nat.le_of_ble_eq_true rfl) (Nat.le_of_ble_eq_true rfl) (Nat.zero_le _) (Nat.zero_le _) dX2_letOver_36 ?_
  refine lv_l2i hx hb dX2_letOver_39 rfl ?_
  refine lv_topi (fun am eam => ?_)
  have eam : am = amt (lv (ix (fr k))) (lv (ix (to k))) v := eam.trans (amt_x (hwl _ (inB_ix hf1)) (hwl _ (inB_ix hf2)))
  subst eam
  refine lv_istore (lv' := [(6, .int (amt (lv (ix (fr k))) (lv (ix (to k))) v)), (5, .int (1000000000 - (lv (ix (to k))))), (4, .int (lv (ix (fr k)))), (0, .ref (F 0)), (1, .ref a), (2, .long v)]) hx hb dX2_letOver_40 hl (by decide) rfl (fun ls hl => ?_)
  refine lv_aload_n hx hb dX2_letOver_42 rfl (lv_at hl 3 rfl) ?_
  refine lv_aload_n hx hb dX2_letOver_43 rfl (lv_at hl 4 rfl) ?_
  refine va_getN (D := D) (ci := 1) (v := .int (fr k)) (C := RX1) (T := TX1) (N := 3) (host := RX2) hx hb hts iw_X2_letOver_X1 hown hK hP p_a e_a rfl 0 (by decide) (nf_188 hN) (fun _ h9 => h9) rfl dX2_letOver_44 ?_
  refine lv_iload hx hb dX2_letOver_47 (lv_at hl 2 rfl) ?_
  refine lv_iload hx hb dX2_letOver_49 (lv_at hl 0 rfl) ?_
  refine lv_isub hx hb dX2_letOver_51 ?_
  refine WrI.callV (As := [.int (fr k), .int ((lv (ix (fr k))) - (amt (lv (ix (fr k))) (lv (ix (to k))) v))]) (rest := []) (c_X2_fill hb8 (fr k) ((lv (ix (fr k))) - (amt (lv (ix (fr k))) (lv (ix (to k))) v))) ⟨hx, hb, hml, hown, hts⟩ (cwV 2 hts gX2_letOver_X2_fill rfl rfl rfl (by decide +kernel) ⟨by decide, by decide⟩) hP hD hS hA hK hN 0 2 rfl rfl rfl hl.1 rfl (Nat.le_of_ble_eq_true rfl) dX2_letOver_52 ⟨Nat.le_of_ble_eq_true rfl, Nat.le_of_ble_eq_true rfl⟩ (fun r_3 ur_3 H locs hr_3 hP hD hS => ?_)
  have xur_3 : ur_3 = upd lv (ix (fr k)) ((lv (ix (fr k))) - (amt (lv (ix (fr k))) (lv (ix (to k))) v)) := (Prod.mk.inj (hr_3.trans (sp_fill_ok hf1 (amt_lo (hwl _ (inB_ix hf1)) (hwl _ (inB_ix hf2)))))).2
  subst xur_3
  have hP : va_P D vwCl (xw F Y (nI b) mn (nI n) (nI sN) (nI st) fl gv fs fb wo (upd lv (ix (fr k)) ((lv (ix (fr k))) - (amt (lv (ix (fr k))) (lv (ix (to k))) v))) sl ru su L f) H := hP
  have hD : va_D (va_A (xw F Y (nI b) mn (nI n) (nI sN) (nI st) fl gv fs fb wo lv sl ru su L f) sz) (xw F Y (nI b) mn (nI n) (nI sN) (nI st) fl gv fs fb wo (upd lv (ix (fr k)) ((lv (ix (fr k))) - (amt (lv (ix (fr k))) (lv (ix (to k))) v))) sl ru su L f) := hD
  obtain ⟨p_a, e_a⟩ : ∃ q : Nat, (xw F Y (nI b) mn (nI n) (nI sN) (nI st) fl gv fs fb wo (upd lv (ix (fr k)) ((lv (ix (fr k))) - (amt (lv (ix (fr k))) (lv (ix (to k))) v))) sl ru su L f)[q]? = some (a, suE fr to rl k) := pl_at hL hf
  refine lv_pop hx hb dX2_letOver_55 rfl ?_
  refine lv_aload_n hx hb dX2_letOver_56 rfl (lv_at hl 3 rfl) ?_
  refine lv_aload_n hx hb dX2_letOver_57 rfl (lv_at hl 4 rfl) ?_
  refine va_getN (D := D) (ci := 1) (v := .int (to k)) (C := RX1) (T := TX1) (N := 3) (host := RX2) hx hb hts iw_X2_letOver_X1 hown hK hP p_a e_a rfl 1 (by decide) (nf_191 hN) (fun _ h9 => h9) rfl dX2_letOver_58 ?_
  refine lv_aload_n hx hb dX2_letOver_61 rfl (lv_at hl 3 rfl) ?_
  refine lv_aload_n hx hb dX2_letOver_62 rfl (lv_at hl 4 rfl) ?_
  refine va_getN (D := D) (ci := 1) (v := .int (to k)) (C := RX1) (T := TX1) (N := 3) (host := RX2) hx hb hts iw_X2_letOver_X1 hown hK hP p_a e_a rfl 1 (by decide) (nf_191 hN) (fun _ h9 => h9) rfl dX2_letOver_63 ?_
  refine RoI.callV (As := [.int (to k)]) (rest := [.int (to k), .ref (F 0)]) (c_X2_level hb8 (to k)) ⟨hx, hb, hml, hown, hts⟩ (cwV 1 hts gX2_letOver_X2_level rfl rfl rfl (by decide +kernel) ⟨by decide, by decide⟩) hP hK hN 0 2 rfl rfl rfl hl.1 rfl (Nat.le_of_ble_eq_true rfl) dX2_letOver_66 ⟨Nat.le_of_ble_eq_true rfl, Nat.le_of_ble_eq_true rfl⟩ (fun r_4 hr_4 => ?_)
  have xr_4 : r_4 = (upd lv (ix (fr k)) ((lv (ix (fr k))) - (amt (lv (ix (fr k))) (lv (ix (to k))) v))) (ix (to k)) := by rw [hr_4]; exact sp_level_ok hf2
  subst xr_4
  refine lv_iload hx hb dX2_letOver_69 (lv_at hl 0 rfl) ?_
  refine lv_iadd hx hb dX2_letOver_71 ?_
  have hne : ¬ ix (to k) = ix (fr k) := fun z => hft (by obtain ⟨j1, g1, e1⟩ := inB_of hf1 (by omega); obtain ⟨j2, g2, e2⟩ := inB_of hf2 (by omega); rw [e1, e2] at z ⊢; rw [show ix (nI j2) = j2 from nI_clamp (by omega), show ix (nI j1) = j1 from nI_clamp (by omega)] at z; rw [z])
  have lvo : lvB (((upd lv (ix (fr k)) ((lv (ix (fr k))) - (amt (lv (ix (fr k))) (lv (ix (to k))) v))) (ix (to k))) + (amt (lv (ix (fr k))) (lv (ix (to k))) v)) = true := by rw [show (upd lv (ix (fr k)) ((lv (ix (fr k))) - (amt (lv (ix (fr k))) (lv (ix (to k))) v))) (ix (to k)) = lv (ix (to k)) from pk_un hne]; exact amt_hi (hwl _ (inB_ix hf1)) (hwl _ (inB_ix hf2))
  refine WrI.callV (As := [.int (to k), .int (((upd lv (ix (fr k)) ((lv (ix (fr k))) - (amt (lv (ix (fr k))) (lv (ix (to k))) v))) (ix (to k))) + (amt (lv (ix (fr k))) (lv (ix (to k))) v))]) (rest := []) (c_X2_fill hb8 (to k) (((upd lv (ix (fr k)) ((lv (ix (fr k))) - (amt (lv (ix (fr k))) (lv (ix (to k))) v))) (ix (to k))) + (amt (lv (ix (fr k))) (lv (ix (to k))) v))) ⟨hx, hb, hml, hown, hts⟩ (cwV 2 hts gX2_letOver_X2_fill rfl rfl rfl (by decide +kernel) ⟨by decide, by decide⟩) hP hD hS hA hK hN 0 2 rfl rfl rfl hl.1 rfl (Nat.le_of_ble_eq_true rfl) dX2_letOver_72 ⟨Nat.le_of_ble_eq_true rfl, Nat.le_of_ble_eq_true rfl⟩ (fun r_5 ur_5 H locs hr_5 hP hD hS => ?_)
  have xur_5 : ur_5 = upd (upd lv (ix (fr k)) ((lv (ix (fr k))) - (amt (lv (ix (fr k))) (lv (ix (to k))) v))) (ix (to k)) (((upd lv (ix (fr k)) ((lv (ix (fr k))) - (amt (lv (ix (fr k))) (lv (ix (to k))) v))) (ix (to k))) + (amt (lv (ix (fr k))) (lv (ix (to k))) v)) := (Prod.mk.inj (hr_5.trans (sp_fill_ok hf2 (lvo)))).2
  subst xur_5
  have hP : va_P D vwCl (xw F Y (nI b) mn (nI n) (nI sN) (nI st) fl gv fs fb wo (upd (upd lv (ix (fr k)) ((lv (ix (fr k))) - (amt (lv (ix (fr k))) (lv (ix (to k))) v))) (ix (to k)) (((upd lv (ix (fr k)) ((lv (ix (fr k))) - (amt (lv (ix (fr k))) (lv (ix (to k))) v))) (ix (to k))) + (amt (lv (ix (fr k))) (lv (ix (to k))) v))) sl ru su L f) H := hP
  have hD : va_D (va_A (xw F Y (nI b) mn (nI n) (nI sN) (nI st) fl gv fs fb wo lv sl ru su L f) sz) (xw F Y (nI b) mn (nI n) (nI sN) (nI st) fl gv fs fb wo (upd (upd lv (ix (fr k)) ((lv (ix (fr k))) - (amt (lv (ix (fr k))) (lv (ix (to k))) v))) (ix (to k)) (((upd lv (ix (fr k)) ((lv (ix (fr k))) - (amt (lv (ix (fr k))) (lv (ix (to k))) v))) (ix (to k))) + (amt (lv (ix (fr k))) (lv (ix (to k))) v))) sl ru su L f) := hD
  obtain ⟨p_a, e_a⟩ : ∃ q : Nat, (xw F Y (nI b) mn (nI n) (nI sN) (nI st) fl gv fs fb wo (upd (upd lv (ix (fr k)) ((lv (ix (fr k))) - (amt (lv (ix (fr k))) (lv (ix (to k))) v))) (ix (to k)) (((upd lv (ix (fr k)) ((lv (ix (fr k))) - (amt (lv (ix (fr k))) (lv (ix (to k))) v))) (ix (to k))) + (amt (lv (ix (fr k))) (lv (ix (to k))) v))) sl ru su L f)[q]? = some (a, suE fr to rl k) := pl_at hL hf
  refine lv_pop hx hb dX2_letOver_75 rfl ?_
  refine lv_iload hx hb dX2_letOver_76 (lv_at hl 0 rfl) ?_
  exact wrI (sp_over lv (ix (fr k)) (ix (to k)) v).2 hx hb hr hlk dX2_letOver_78 hP hD hS rfl

theorem iw_X2_goesWhole_X2 : ∀ w ∈ u_ws RX2 TX2 14, w ∈ wsX2_goesWhole := by decide +kernel
theorem iw_X2_goesWhole_X1 : ∀ w ∈ u_ws RX1 TX1 3, w ∈ wsX2_goesWhole := by decide +kernel
set_option maxRecDepth 100000 in
set_option maxHeartbeats 4000000 in
/-- goesWhole -/
theorem c_X2_goesWhole {l : Launch} {D : va_G} {F : Nat → Nat} {Y : Nat → ClassId} {mn fl : Int32} {gv : Int64} {fs fb wo : Int32} {lv sl : Nat → Int32} {ru su : Nat → Option Nat} {L : List Nat} {f : Nat → va_E} {b n sN st : Nat} {kd pt : Nat → Int32} {he : Nat → Int64} {ct fr to rl : Nat → Int32} (hR : xRel n sN kd pt he ct fr to rl ru su L f) (hn40 : n ≤ 40) (hb8 : b ≤ 8) (hW : wfA b n sl kd pt) (hs8 : sN ≤ 8) (hwl : wfL b lv) (hWS : wfS b n sN fr to rl) (h : Int32) : WrI l yX2_goesWhole wsX2_goesWhole (rk 130) D (xty Y) (xw F Y (nI b) mn (nI n) (nI sN) (nI st) fl gv fs fb wo lv sl ru su L f) [.ref (F 0), .int h] (σ := HS × Int32 × (Nat → va_E)) (fun u => xw F Y (nI b) mn (nI n) (nI sN) (nI u.1.2.2.1) u.2.1 gv u.1.2.2.2.1 u.1.2.2.2.2.1 u.1.2.2.2.2.2 u.1.1 sl ru su L u.2.2) (fun r u => (r, u.1) = (bI (hrS (n, mn, sl, kd, pt, he, fr, to, rl) h sN 0 (lv, ct, st, fs, fb, wo)).1, (hrS (n, mn, sl, kd, pt, he, fr, to, rl) h sN 0 (lv, ct, st, fs, fb, wo)).2) ∧ xRel n sN kd pt he u.1.2.1 fr to rl ru su L u.2.2 ∧ wfL b u.1.1) 0 0 := by
  intro sz
  refine wrEnter (cc := cX2_goesWhole) (maxL := 6) (ret := (some .boolean)) (by decide) rfl (Nat.le_of_ble_eq_true rfl) ?_
  intro p e s m below meth c hx hb hr hml hown hts hlk hP hK hN hsz hD hS hA hin ls hl
  have hown : s.vm.findClass RX2 = some m.cls := hown
  have hl : lv_has ls 6 [(0, .ref (F 0)), (1, .int h)] := hl
  refine lv_iconst (v := 0) hx hb dX2_goesWhole_0 (by decide) ?_
  refine lv_istore_n (lv' := [(2, .int 0), (0, .ref (F 0)), (1, .int h)]) hx hb dX2_goesWhole_1 rfl hl (by decide) rfl (fun ls hl => ?_)
  have loop : ∀ (c2 k2 : Nat) (lv2 ct2 : Nat → Int32) (st2 : Nat) (ts2 tw2 tm2 fl2 : Int32) (f2 : Nat → va_E) (H : Heap) (locs : List Loc) (ls : Array Slot), k2 + c2 = sN → xRel n sN kd pt he ct2 fr to rl ru su L f2 → wfL b lv2 → hrS (n, mn, sl, kd, pt, he, fr, to, rl) h c2 k2 (lv2, ct2, st2, ts2, tw2, tm2) = hrS (n, mn, sl, kd, pt, he, fr, to, rl) h sN 0 (lv, ct, st, fs, fb, wo) → va_P D vwCl (xw F Y (nI b) mn (nI n) (nI sN) (nI st2) fl2 gv ts2 tw2 tm2 lv2 sl ru su L f2) H → va_D (va_A (xw F Y (nI b) mn (nI n) (nI sN) (nI st) fl gv fs fb wo lv sl ru su L f) sz) (xw F Y (nI b) mn (nI n) (nI sN) (nI st2) fl2 gv ts2 tw2 tm2 lv2 sl ru su L f2) → va_S (va_A (xw F Y (nI b) mn (nI n) (nI sN) (nI st) fl gv fs fb wo lv sl ru su L f) sz) s.heap H locs → lv_has ls 6 [(2, .int (nI k2)), (0, .ref (F 0)), (1, .int h)] → W p l e (rk 130) s m ([.ref (F 0), .int h] : List Value).toArray below meth c H locs 0 0 (MQ below (va_Qi (fun r u => (r, u.1) = (bI (hrS (n, mn, sl, kd, pt, he, fr, to, rl) h sN 0 (lv, ct, st, fs, fb, wo)).1, (hrS (n, mn, sl, kd, pt, he, fr, to, rl) h sN 0 (lv, ct, st, fs, fb, wo)).2) ∧ xRel n sN kd pt he u.1.2.1 fr to rl ru su L u.2.2 ∧ wfL b u.1.1) (wrB (σ := HS × Int32 × (Nat → va_E)) D (xw F Y (nI b) mn (nI n) (nI sN) (nI st) fl gv fs fb wo lv sl ru su L f) (fun u => xw F Y (nI b) mn (nI n) (nI sN) (nI u.1.2.2.1) u.2.1 gv u.1.2.2.2.1 u.1.2.2.2.2.1 u.1.2.2.2.2.2 u.1.1 sl ru su L u.2.2) sz) (va_A (xw F Y (nI b) mn (nI n) (nI sN) (nI st) fl gv fs fb wo lv sl ru su L f) sz)) ([.ref (F 0), .int h] : List Value).toArray s 0 0 (va_A (xw F Y (nI b) mn (nI n) (nI sN) (nI st) fl gv fs fb wo lv sl ru su L f) sz)) (F0 m 2 ls []) := by
    intro c2
    induction c2 with
    | zero =>
      intro k2 lv2 ct2 st2 ts2 tw2 tm2 fl2 f2 H locs ls hkc hR2 hwl2 hev hP hD hS hl
      refine lv_iload_n hx hb dX2_goesWhole_2 rfl (lv_at hl 0 rfl) ?_
      refine lv_aload_n hx hb dX2_goesWhole_3 rfl (lv_at hl 1 rfl) ?_
      refine va_get (D := D) (ci := 2) (v := .ref (F 4)) (C := RX2) (T := TX2) (N := 14) hx hb hts iw_X2_goesWhole_X2 hown hK hP 0 rfl rfl 6 (by decide) (hts (.fieldLink RX2 34 "SluiceRules" "sluices" "[LSluiceRules$Sluice;") (by decide +kernel)) (fun _ h9 => h9) rfl dX2_goesWhole_4 ?_
      refine va_alen (v := 8) hx hb hK hP 4 3 rfl rfl rfl dX2_goesWhole_7 ?_
      refine lv_icmp_ge (tgt := 77) hx hb dX2_goesWhole_8 (by decide) (fun c_8 => ?_) (fun c_8 => ?_)
      · refine lv_iconst (v := 1) hx hb dX2_goesWhole_77 (by decide) ?_
        exact wrZ ((lv2, ct2, st2, ts2, tw2, tm2), fl2, f2) hx hb hr hlk dX2_goesWhole_78 nar1 hP hD hS ⟨by rw [← hev]; rfl, hR2, hwl2⟩
      · have k2l : k2 < 8 := by rw [i_le, nI_toInt (by omega)] at c_8; have : (8 : Int32).toInt = 8 := rfl; omega
        refine lv_aload_n hx hb dX2_goesWhole_11 rfl (lv_at hl 1 rfl) ?_
        refine va_get (D := D) (ci := 2) (v := .ref (F 4)) (C := RX2) (T := TX2) (N := 14) hx hb hts iw_X2_goesWhole_X2 hown hK hP 0 rfl rfl 6 (by decide) (hts (.fieldLink RX2 34 "SluiceRules" "sluices" "[LSluiceRules$Sluice;") (by decide +kernel)) (fun _ h9 => h9) rfl dX2_goesWhole_12 ?_
        refine lv_iload_n hx hb dX2_goesWhole_15 rfl (lv_at hl 0 rfl) ?_
        refine my_aldq (j := k2) hx hb hK hP 4 3 rfl rfl (rfl) (k2l) (by decide) dX2_goesWhole_16 ?_
        refine W.eq (g2 := F0 m 17 ls [.null]) (by rw [hR2.2.2.2.2 k2 (by omega) k2l]; rfl) ?_
        refine lv_ifnullN (tgt := 77) hx hb dX2_goesWhole_17 (by decide) ?_
        refine lv_iconst (v := 1) hx hb dX2_goesWhole_77 (by decide) ?_
        exact wrZ ((lv2, ct2, st2, ts2, tw2, tm2), fl2, f2) hx hb hr hlk dX2_goesWhole_78 nar1 hP hD hS ⟨by rw [← hev]; rfl, hR2, hwl2⟩
    | succ c2 ih2 =>
      intro k2 lv2 ct2 st2 ts2 tw2 tm2 fl2 f2 H locs ls hkc hR2 hwl2 hev hP hD hS hl
      have k2l : k2 < 8 := by omega
      obtain ⟨aq9, hsu, la, fa⟩ := hR2.sluice (k := k2) (by omega)
      obtain ⟨hf1, hf2, hft, hf3⟩ := hWS k2 (by omega)
      obtain ⟨p_a, e_a⟩ : ∃ q : Nat, (xw F Y (nI b) mn (nI n) (nI sN) (nI st2) fl2 gv ts2 tw2 tm2 lv2 sl ru su L f2)[q]? = some (aq9, suE fr to rl k2) := pl_at la fa
      have hne : ¬ ix (to k2) = ix (fr k2) := fun z => hft (by obtain ⟨j1, g1, e1⟩ := inB_of hf1 (by omega); obtain ⟨j2, g2, e2⟩ := inB_of hf2 (by omega); rw [e1, e2] at z ⊢; rw [show ix (nI j2) = j2 from nI_clamp (by omega), show ix (nI j1) = j1 from nI_clamp (by omega)] at z; rw [z])
      refine lv_iload_n hx hb dX2_goesWhole_2 rfl (lv_at hl 0 rfl) ?_
      refine lv_aload_n hx hb dX2_goesWhole_3 rfl (lv_at hl 1 rfl) ?_
      refine va_get (D := D) (ci := 2) (v := .ref (F 4)) (C := RX2) (T := TX2) (N := 14) hx hb hts iw_X2_goesWhole_X2 hown hK hP 0 rfl rfl 6 (by decide) (hts (.fieldLink RX2 34 "SluiceRules" "sluices" "[LSluiceRules$Sluice;") (by decide +kernel)) (fun _ h9 => h9) rfl dX2_goesWhole_4 ?_
      refine va_alen (v := 8) hx hb hK hP 4 3 rfl rfl rfl dX2_goesWhole_7 ?_
      refine lv_icmp_ge (tgt := 77) hx hb dX2_goesWhole_8 (by decide) (fun c_8 => ?_) (fun c_8 => ?_)
      · exact absurd (show (8 : Int32) ≤ nI k2 from c_8) (nI_ge (b := 8) (by omega) (by omega))
      · refine lv_aload_n hx hb dX2_goesWhole_11 rfl (lv_at hl 1 rfl) ?_
        refine va_get (D := D) (ci := 2) (v := .ref (F 4)) (C := RX2) (T := TX2) (N := 14) hx hb hts iw_X2_goesWhole_X2 hown hK hP 0 rfl rfl 6 (by decide) (hts (.fieldLink RX2 34 "SluiceRules" "sluices" "[LSluiceRules$Sluice;") (by decide +kernel)) (fun _ h9 => h9) rfl dX2_goesWhole_12 ?_
        refine lv_iload_n hx hb dX2_goesWhole_15 rfl (lv_at hl 0 rfl) ?_
        refine my_aldq (j := k2) hx hb hK hP 4 3 rfl rfl (rfl) (k2l) (by decide) dX2_goesWhole_16 ?_
        refine W.eq (g2 := F0 m 17 ls [.ref aq9]) (by rw [hsu]; rfl) ?_
        refine lv_ifnull hx hb dX2_goesWhole_17 ?_
        refine lv_aload_n hx hb dX2_goesWhole_20 rfl (lv_at hl 1 rfl) ?_
        refine va_get (D := D) (ci := 2) (v := .ref (F 4)) (C := RX2) (T := TX2) (N := 14) hx hb hts iw_X2_goesWhole_X2 hown hK hP 0 rfl rfl 6 (by decide) (hts (.fieldLink RX2 34 "SluiceRules" "sluices" "[LSluiceRules$Sluice;") (by decide +kernel)) (fun _ h9 => h9) rfl dX2_goesWhole_21 ?_
        refine lv_iload_n hx hb dX2_goesWhole_24 rfl (lv_at hl 0 rfl) ?_
        refine my_aldq (j := k2) hx hb hK hP 4 3 rfl rfl (rfl) (k2l) (by decide) dX2_goesWhole_25 ?_
        refine W.eq (g2 := F0 m 26 ls [.ref aq9]) (by rw [hsu]; rfl) ?_
        refine lv_astore_n (lv' := [(3, .ref aq9), (2, .int (nI k2)), (0, .ref (F 0)), (1, .int h)]) hx hb dX2_goesWhole_26 rfl hl (by decide) rfl (fun ls hl => ?_)
        refine lv_aload_n hx hb dX2_goesWhole_27 rfl (lv_at hl 2 rfl) ?_
        refine lv_aload_n hx hb dX2_goesWhole_28 rfl (lv_at hl 0 rfl) ?_
        refine va_getN (D := D) (ci := 1) (v := .int (rl k2)) (C := RX1) (T := TX1) (N := 3) (host := RX2) hx hb hts iw_X2_goesWhole_X1 hown hK hP p_a e_a rfl 2 (by decide) (nf_181 hN) (fun _ h9 => h9) rfl dX2_goesWhole_29 ?_
        refine lv_iload_n hx hb dX2_goesWhole_32 rfl (lv_at hl 3 rfl) ?_
        refine WrL.callV (As := [.int (rl k2), .int h]) (rest := []) (c_X2_askByCall hR2 hn40 hb8 hW (rl k2) h) ⟨hx, hb, hml, hown, hts⟩ (cwV 2 hts gX2_goesWhole_X2_askByCall rfl rfl rfl (by decide +kernel) ⟨by decide, by decide⟩) hP hD hS hA hK hN 0 2 rfl rfl rfl hl.1 rfl (Nat.le_of_ble_eq_true rfl) dX2_goesWhole_33 ⟨Nat.le_of_ble_eq_true rfl, Nat.le_of_ble_eq_true rfl⟩ (fun r_1 ur_1 H locs hr_1 hP hD hS => ?_)
        obtain ⟨⟨st_3, fl_3, ct_3⟩, f_3⟩ := ur_1
        obtain ⟨e_3, hR_3⟩ := hr_1
        have e_3 : (r_1, (st_3, fl_3, ct_3)) = ev (n, mn, lv2, sl, kd, pt, he) 120 (rl k2) h (0, 0, ct2) := e_3
        have hR_3 : xRel n sN kd pt he ct_3 fr to rl ru su L f_3 := hR_3
        have hP : va_P D vwCl (xw F Y (nI b) mn (nI n) (nI sN) (nI st_3) fl_3 gv ts2 tw2 tm2 lv2 sl ru su L f_3) H := hP
        have hD : va_D (va_A (xw F Y (nI b) mn (nI n) (nI sN) (nI st) fl gv fs fb wo lv sl ru su L f) sz) (xw F Y (nI b) mn (nI n) (nI sN) (nI st_3) fl_3 gv ts2 tw2 tm2 lv2 sl ru su L f_3) := hD
        obtain ⟨a3, hsu3, la3, fa3⟩ := hR_3.sluice (k := k2) (by omega)
        have ea3 : aq9 = a3 := Option.some.inj (hsu.symm.trans hsu3)
        subst ea3
        refine lv_lstore (lv' := [(4, .long r_1), (3, .ref aq9), (2, .int (nI k2)), (0, .ref (F 0)), (1, .int h)]) hx hb dX2_goesWhole_36 hl (by decide) rfl (fun ls hl => ?_)
        refine lv_aload_n hx hb dX2_goesWhole_38 rfl (lv_at hl 3 rfl) ?_
        refine va_get (D := D) (ci := 2) (v := .int fl_3) (C := RX2) (T := TX2) (N := 14) hx hb hts iw_X2_goesWhole_X2 hown hK hP 0 rfl rfl 9 (by decide) (hts (.fieldLink RX2 44 "SluiceRules" "failure" "I") (by decide +kernel)) (fun _ h9 => h9) rfl dX2_goesWhole_39 ?_
        refine lv_if_eq (tgt := 60) hx hb dX2_goesWhole_42 (by decide) (fun c_42 => ?_) (fun c_42 => ?_)
        · refine lv_aload_n hx hb dX2_goesWhole_60 rfl (lv_at hl 3 rfl) ?_
          refine lv_aload_n hx hb dX2_goesWhole_61 rfl (lv_at hl 3 rfl) ?_
          refine lv_aload_n hx hb dX2_goesWhole_62 rfl (lv_at hl 1 rfl) ?_
          refine lv_lload hx hb dX2_goesWhole_63 (lv_at hl 0 rfl) ?_
          refine WrI.callV (As := [.ref aq9, .long r_1]) (rest := [.ref (F 0)]) (c_X2_letOver (sN := sN) hb8 la3 fa3 hf1 hf2 hft hwl2 r_1) ⟨hx, hb, hml, hown, hts⟩ (cwV 2 hts gX2_goesWhole_X2_letOver rfl rfl rfl (by decide +kernel) ⟨by decide, by decide⟩) hP hD hS hA hK hN 0 2 rfl rfl rfl hl.1 rfl (Nat.le_of_ble_eq_true rfl) dX2_goesWhole_65 ⟨Nat.le_of_ble_eq_true rfl, Nat.le_of_ble_eq_true rfl⟩ (fun r_2 ur_2 H locs hr_2 hP hD hS => ?_)
          have xr := (Prod.mk.inj hr_2).1
          have xu := (Prod.mk.inj hr_2).2
          have hP : va_P D vwCl (xw F Y (nI b) mn (nI n) (nI sN) (nI st_3) fl_3 gv ts2 tw2 tm2 ur_2 sl ru su L f_3) H := hP
          have hD : va_D (va_A (xw F Y (nI b) mn (nI n) (nI sN) (nI st) fl gv fs fb wo lv sl ru su L f) sz) (xw F Y (nI b) mn (nI n) (nI sN) (nI st_3) fl_3 gv ts2 tw2 tm2 ur_2 sl ru su L f_3) := hD
          refine va_put (D := D) (ci := 2) (v := .int r_2) (ty := .int) (C := RX2) (T := TX2) (N := 14) hx hb hts iw_X2_goesWhole_X2 tyX2 tyX2_ok nmX2 hown hK hP hD hS 0 rfl rfl 13 (by decide) (hts (.fieldLink RX2 57 "SluiceRules" "wentOver" "I") (by decide +kernel)) (fun _ h9 => h9) rfl (by decide +kernel) rfl rfl (Nat.le_of_ble_eq_true rfl) dX2_goesWhole_68 (fun H locs hP hD hS => ?_)
          have hP : va_P D vwCl (xw F Y (nI b) mn (nI n) (nI sN) (nI st_3) fl_3 gv ts2 tw2 r_2 ur_2 sl ru su L f_3) H := hP
          have hD : va_D (va_A (xw F Y (nI b) mn (nI n) (nI sN) (nI st) fl gv fs fb wo lv sl ru su L f) sz) (xw F Y (nI b) mn (nI n) (nI sN) (nI st_3) fl_3 gv ts2 tw2 r_2 ur_2 sl ru su L f_3) := hD
          refine lv_iinc (v := (nI k2) + 1) (lv' := [(2, .int ((nI k2) + 1)), (4, .long r_1), (3, .ref aq9), (0, .ref (F 0)), (1, .int h)]) hx hb dX2_goesWhole_71 hl (k := 2) rfl rfl (by decide) rfl (fun ls hl => ?_)
          refine lv_goto (tgt := 2) hx hb dX2_goesWhole_74 (by decide) ?_
          have hfl := flS_t (st := st2) (fr := fr) (to := to) (ts := ts2) (tw := tw2) (tm := tm2) e_3 c_42
          refine ih2 (k2 + 1) ur_2 ct_3 st_3 ts2 tw2 r_2 fl_3 f_3 _ _ _ (by omega) hR_3 (by rw [xu]; exact over_wfL hwl2 (inB_ix hf1) (inB_ix hf2) hne) ?_ hP hD hS (lv_sub (l' := [(2, .int (nI (k2 + 1))), (0, .ref (F 0)), (1, .int h)]) hl [0, 3, 4] (by rw [← nI_1]; rfl))
          rw [← hev, hrS_t hfl, xr, xu]
          rfl
        · refine lv_aload_n hx hb dX2_goesWhole_45 rfl (lv_at hl 3 rfl) ?_
          refine lv_iload_n hx hb dX2_goesWhole_46 rfl (lv_at hl 2 rfl) ?_
          refine va_put (D := D) (ci := 2) (v := .int (nI k2)) (ty := .int) (C := RX2) (T := TX2) (N := 14) hx hb hts iw_X2_goesWhole_X2 tyX2 tyX2_ok nmX2 hown hK hP hD hS 0 rfl rfl 11 (by decide) (hts (.fieldLink RX2 51 "SluiceRules" "failedSluice" "I") (by decide +kernel)) (fun _ h9 => h9) rfl (by decide +kernel) rfl rfl (Nat.le_of_ble_eq_true rfl) dX2_goesWhole_47 (fun H locs hP hD hS => ?_)
          have hP : va_P D vwCl (xw F Y (nI b) mn (nI n) (nI sN) (nI st_3) fl_3 gv (nI k2) tw2 tm2 lv2 sl ru su L f_3) H := hP
          have hD : va_D (va_A (xw F Y (nI b) mn (nI n) (nI sN) (nI st) fl gv fs fb wo lv sl ru su L f) sz) (xw F Y (nI b) mn (nI n) (nI sN) (nI st_3) fl_3 gv (nI k2) tw2 tm2 lv2 sl ru su L f_3) := hD
          refine lv_aload_n hx hb dX2_goesWhole_50 rfl (lv_at hl 3 rfl) ?_
          refine lv_aload_n hx hb dX2_goesWhole_51 rfl (lv_at hl 3 rfl) ?_
          refine va_get (D := D) (ci := 2) (v := .int fl_3) (C := RX2) (T := TX2) (N := 14) hx hb hts iw_X2_goesWhole_X2 hown hK hP 0 rfl rfl 9 (by decide) (hts (.fieldLink RX2 44 "SluiceRules" "failure" "I") (by decide +kernel)) (fun _ h9 => h9) rfl dX2_goesWhole_52 ?_
          refine va_put (D := D) (ci := 2) (v := .int fl_3) (ty := .int) (C := RX2) (T := TX2) (N := 14) hx hb hts iw_X2_goesWhole_X2 tyX2 tyX2_ok nmX2 hown hK hP hD hS 0 rfl rfl 12 (by decide) (hts (.fieldLink RX2 54 "SluiceRules" "failedBy" "I") (by decide +kernel)) (fun _ h9 => h9) rfl (by decide +kernel) rfl rfl (Nat.le_of_ble_eq_true rfl) dX2_goesWhole_55 (fun H locs hP hD hS => ?_)
          have hP : va_P D vwCl (xw F Y (nI b) mn (nI n) (nI sN) (nI st_3) fl_3 gv (nI k2) fl_3 tm2 lv2 sl ru su L f_3) H := hP
          have hD : va_D (va_A (xw F Y (nI b) mn (nI n) (nI sN) (nI st) fl gv fs fb wo lv sl ru su L f) sz) (xw F Y (nI b) mn (nI n) (nI sN) (nI st_3) fl_3 gv (nI k2) fl_3 tm2 lv2 sl ru su L f_3) := hD
          refine lv_iconst (v := 0) hx hb dX2_goesWhole_58 (by decide) ?_
          have hfl := flS_f (st := st2) (fr := fr) (to := to) (ts := ts2) (tw := tw2) (tm := tm2) e_3 c_42
          exact wrZ ((lv2, ct_3, st_3, nI k2, fl_3, tm2), fl_3, f_3) hx hb hr hlk dX2_goesWhole_59 nar0 hP hD hS ⟨by rw [← hev, hrS_f hfl]; rfl, hR_3, hwl2⟩
  exact loop sN 0 lv ct st fs fb wo fl f _ _ ls (by omega) hR hwl rfl hP hD hS (lv_sub (l' := [(2, .int (nI 0)), (0, .ref (F 0)), (1, .int h)]) hl [0, 1, 2] (by rw [nI_0]; rfl))

theorem iw_X2_run_X2 : ∀ w ∈ u_ws RX2 TX2 14, w ∈ wsX2_run := by decide +kernel
set_option maxRecDepth 100000 in
set_option maxHeartbeats 4000000 in
/-- run -/
theorem c_X2_run {l : Launch} {D : va_G} {F : Nat → Nat} {Y : Nat → ClassId} {mn fl : Int32} {gv : Int64} {fs fb wo : Int32} {lv sl : Nat → Int32} {ru su : Nat → Option Nat} {L : List Nat} {f : Nat → va_E} {b n sN st : Nat} {kd pt : Nat → Int32} {he : Nat → Int64} {ct fr to rl : Nat → Int32} (hR : xRel n sN kd pt he ct fr to rl ru su L f) (hn40 : n ≤ 40) (hb8 : b ≤ 8) (hW : wfA b n sl kd pt) (hs8 : sN ≤ 8) (hwl : wfL b lv) (hWS : wfS b n sN fr to rl) (h c_ : Int32) : WrI l yX2_run wsX2_run (rk 131) D (xty Y) (xw F Y (nI b) mn (nI n) (nI sN) (nI st) fl gv fs fb wo lv sl ru su L f) [.ref (F 0), .int h, .int c_] (σ := HS × Int32 × (Nat → va_E)) (fun u => xw F Y (nI b) mn (nI n) (nI sN) (nI u.1.2.2.1) u.2.1 gv u.1.2.2.2.1 u.1.2.2.2.2.1 u.1.2.2.2.2.2 u.1.1 sl ru su L u.2.2) (fun r u => (r, u.1) = sp_run (n, mn, sl, kd, pt, he, fr, to, rl) sN h c_ (lv, ct, st, fs, fb, wo) ∧ xRel n sN kd pt he u.1.2.1 fr to rl ru su L u.2.2 ∧ wfL b u.1.1) 0 0 := by
  intro sz
  refine wrEnter (cc := cX2_run) (maxL := 4) (ret := (some .int)) (by decide) rfl (Nat.le_of_ble_eq_true rfl) ?_
  intro p e s m below meth c hx hb hr hml hown hts hlk hP hK hN hsz hD hS hA hin ls hl
  have hown : s.vm.findClass RX2 = some m.cls := hown
  have hl : lv_has ls 4 [(0, .ref (F 0)), (1, .int h), (2, .int c_)] := hl
  refine lv_iload_n hx hb dX2_run_0 rfl (lv_at hl 2 rfl) ?_
  refine lv_if_lt (tgt := 10) hx hb dX2_run_1 (by decide) (fun c_1 => ?_) (fun c_1 => ?_)
  · refine lv_bipush (v := (-102)) hx hb dX2_run_10 (by decide) ?_
    exact wrI ((lv, ct, st, fs, fb, wo), fl, f) hx hb hr hlk dX2_run_12 hP hD hS ⟨by rw [sp_run, if_neg (by rw [inB_lo c_1]; exact Bool.false_ne_true)], hR, hwl⟩
  · refine lv_iload_n hx hb dX2_run_4 rfl (lv_at hl 2 rfl) ?_
    refine lv_bipush (v := 100) hx hb dX2_run_5 (by decide) ?_
    refine lv_icmp_le (tgt := 13) hx hb dX2_run_7 (by decide) (fun c_7 => ?_) (fun c_7 => ?_)
    · have b_c : inB c_ 101 = true := inB_in (n := 101) (by decide) c_1 (fun z => by rw [i_le] at c_7 z; have z1 : (100 : Int32).toInt = 100 := rfl; have z2 : (nI 101).toInt = 101 := rfl; omega)
      refine lv_aload_n hx hb dX2_run_13 rfl (lv_at hl 0 rfl) ?_
      refine lv_iconst (v := (-1)) hx hb dX2_run_14 (by decide) ?_
      refine va_put (D := D) (ci := 2) (v := .int (-1)) (ty := .int) (C := RX2) (T := TX2) (N := 14) hx hb hts iw_X2_run_X2 tyX2 tyX2_ok nmX2 hown hK hP hD hS 0 rfl rfl 11 (by decide) (hts (.fieldLink RX2 51 "SluiceRules" "failedSluice" "I") (by decide +kernel)) (fun _ h9 => h9) rfl (by decide +kernel) rfl rfl (Nat.le_of_ble_eq_true rfl) dX2_run_15 (fun H locs hP hD hS => ?_)
      have hP : va_P D vwCl (xw F Y (nI b) mn (nI n) (nI sN) (nI st) fl gv (-1) fb wo lv sl ru su L f) H := hP
      have hD : va_D (va_A (xw F Y (nI b) mn (nI n) (nI sN) (nI st) fl gv fs fb wo lv sl ru su L f) sz) (xw F Y (nI b) mn (nI n) (nI sN) (nI st) fl gv (-1) fb wo lv sl ru su L f) := hD
      refine lv_aload_n hx hb dX2_run_18 rfl (lv_at hl 0 rfl) ?_
      refine lv_iconst (v := 0) hx hb dX2_run_19 (by decide) ?_
      refine va_put (D := D) (ci := 2) (v := .int 0) (ty := .int) (C := RX2) (T := TX2) (N := 14) hx hb hts iw_X2_run_X2 tyX2 tyX2_ok nmX2 hown hK hP hD hS 0 rfl rfl 12 (by decide) (hts (.fieldLink RX2 54 "SluiceRules" "failedBy" "I") (by decide +kernel)) (fun _ h9 => h9) rfl (by decide +kernel) rfl rfl (Nat.le_of_ble_eq_true rfl) dX2_run_20 (fun H locs hP hD hS => ?_)
      have hP : va_P D vwCl (xw F Y (nI b) mn (nI n) (nI sN) (nI st) fl gv (-1) 0 wo lv sl ru su L f) H := hP
      have hD : va_D (va_A (xw F Y (nI b) mn (nI n) (nI sN) (nI st) fl gv fs fb wo lv sl ru su L f) sz) (xw F Y (nI b) mn (nI n) (nI sN) (nI st) fl gv (-1) 0 wo lv sl ru su L f) := hD
      refine lv_aload_n hx hb dX2_run_23 rfl (lv_at hl 0 rfl) ?_
      refine lv_iconst (v := 0) hx hb dX2_run_24 (by decide) ?_
      refine va_put (D := D) (ci := 2) (v := .int 0) (ty := .int) (C := RX2) (T := TX2) (N := 14) hx hb hts iw_X2_run_X2 tyX2 tyX2_ok nmX2 hown hK hP hD hS 0 rfl rfl 13 (by decide) (hts (.fieldLink RX2 57 "SluiceRules" "wentOver" "I") (by decide +kernel)) (fun _ h9 => h9) rfl (by decide +kernel) rfl rfl (Nat.le_of_ble_eq_true rfl) dX2_run_25 (fun H locs hP hD hS => ?_)
      have hP : va_P D vwCl (xw F Y (nI b) mn (nI n) (nI sN) (nI st) fl gv (-1) 0 0 lv sl ru su L f) H := hP
      have hD : va_D (va_A (xw F Y (nI b) mn (nI n) (nI sN) (nI st) fl gv fs fb wo lv sl ru su L f) sz) (xw F Y (nI b) mn (nI n) (nI sN) (nI st) fl gv (-1) 0 0 lv sl ru su L f) := hD
      refine lv_iconst (v := 0) hx hb dX2_run_28 (by decide) ?_
      refine lv_istore_n (lv' := [(3, .int 0), (0, .ref (F 0)), (1, .int h), (2, .int c_)]) hx hb dX2_run_29 rfl hl (by decide) rfl (fun ls hl => ?_)
      obtain ⟨cn, hcn, ecn⟩ := inB_of b_c (by decide)
      have hixc : ix c_ = cn := by rw [ecn]; exact nI_clamp (by omega)
      have hspec : sp_run (n, mn, sl, kd, pt, he, fr, to, rl) sN h c_ (lv, ct, st, fs, fb, wo) = (nI (rnS (n, mn, sl, kd, pt, he, fr, to, rl) sN h cn 0 (lv, ct, st, -1, 0, 0)).1, (rnS (n, mn, sl, kd, pt, he, fr, to, rl) sN h cn 0 (lv, ct, st, -1, 0, 0)).2) := by rw [sp_run, if_pos b_c, hixc]
      have loop : ∀ (c2 k2 : Nat) (lv2 ct2 : Nat → Int32) (st2 : Nat) (ts2 tw2 tm2 fl2 : Int32) (f2 : Nat → va_E) (H : Heap) (locs : List Loc) (ls : Array Slot), k2 + c2 = cn → xRel n sN kd pt he ct2 fr to rl ru su L f2 → wfL b lv2 → rnS (n, mn, sl, kd, pt, he, fr, to, rl) sN h c2 k2 (lv2, ct2, st2, ts2, tw2, tm2) = rnS (n, mn, sl, kd, pt, he, fr, to, rl) sN h cn 0 (lv, ct, st, -1, 0, 0) → va_P D vwCl (xw F Y (nI b) mn (nI n) (nI sN) (nI st2) fl2 gv ts2 tw2 tm2 lv2 sl ru su L f2) H → va_D (va_A (xw F Y (nI b) mn (nI n) (nI sN) (nI st) fl gv fs fb wo lv sl ru su L f) sz) (xw F Y (nI b) mn (nI n) (nI sN) (nI st2) fl2 gv ts2 tw2 tm2 lv2 sl ru su L f2) → va_S (va_A (xw F Y (nI b) mn (nI n) (nI sN) (nI st) fl gv fs fb wo lv sl ru su L f) sz) s.heap H locs → lv_has ls 4 [(3, .int (nI k2)), (0, .ref (F 0)), (1, .int h), (2, .int c_)] → W p l e (rk 131) s m ([.ref (F 0), .int h, .int c_] : List Value).toArray below meth c H locs 0 0 (MQ below (va_Qi (fun r u => (r, u.1) = sp_run (n, mn, sl, kd, pt, he, fr, to, rl) sN h c_ (lv, ct, st, fs, fb, wo) ∧ xRel n sN kd pt he u.1.2.1 fr to rl ru su L u.2.2 ∧ wfL b u.1.1) (wrB (σ := HS × Int32 × (Nat → va_E)) D (xw F Y (nI b) mn (nI n) (nI sN) (nI st) fl gv fs fb wo lv sl ru su L f) (fun u => xw F Y (nI b) mn (nI n) (nI sN) (nI u.1.2.2.1) u.2.1 gv u.1.2.2.2.1 u.1.2.2.2.2.1 u.1.2.2.2.2.2 u.1.1 sl ru su L u.2.2) sz) (va_A (xw F Y (nI b) mn (nI n) (nI sN) (nI st) fl gv fs fb wo lv sl ru su L f) sz)) ([.ref (F 0), .int h, .int c_] : List Value).toArray s 0 0 (va_A (xw F Y (nI b) mn (nI n) (nI sN) (nI st) fl gv fs fb wo lv sl ru su L f) sz)) (F0 m 30 ls []) := by
        intro c2
        induction c2 with
        | zero =>
          intro k2 lv2 ct2 st2 ts2 tw2 tm2 fl2 f2 H locs ls hkc hR2 hwl2 hev hP hD hS hl
          refine lv_iload_n hx hb dX2_run_30 rfl (lv_at hl 0 rfl) ?_
          refine lv_iload_n hx hb dX2_run_31 rfl (lv_at hl 3 rfl) ?_
          refine lv_icmp_ge (tgt := 53) hx hb dX2_run_32 (by decide) (fun c_32 => ?_) (fun c_32 => ?_)
          · refine lv_iload_n hx hb dX2_run_53 rfl (lv_at hl 3 rfl) ?_
            exact wrI ((lv2, ct2, st2, ts2, tw2, tm2), fl2, f2) hx hb hr hlk dX2_run_54 hP hD hS ⟨by rw [hspec, ← hev, ecn, show cn = k2 by omega]; rfl, hR2, hwl2⟩
          · exact absurd (show nI k2 ≥ c_ by rw [ecn, show k2 = cn by omega]; exact Int32.le_refl _) c_32
        | succ c2 ih2 =>
          intro k2 lv2 ct2 st2 ts2 tw2 tm2 fl2 f2 H locs ls hkc hR2 hwl2 hev hP hD hS hl
          refine lv_iload_n hx hb dX2_run_30 rfl (lv_at hl 0 rfl) ?_
          refine lv_iload_n hx hb dX2_run_31 rfl (lv_at hl 3 rfl) ?_
          refine lv_icmp_ge (tgt := 53) hx hb dX2_run_32 (by decide) (fun c_32 => ?_) (fun c_32 => ?_)
          · exact absurd (show c_ ≤ nI k2 from c_32) (by rw [ecn]; exact nI_ge (by omega) (by omega))
          · refine lv_aload_n hx hb dX2_run_35 rfl (lv_at hl 1 rfl) ?_
            refine lv_iload_n hx hb dX2_run_36 rfl (lv_at hl 2 rfl) ?_
            refine lv_iload_n hx hb dX2_run_37 rfl (lv_at hl 0 rfl) ?_
            refine lv_iadd hx hb dX2_run_38 ?_
            refine WrI.callV (As := [.int (h + (nI k2))]) (rest := []) (c_X2_goesWhole hR2 hn40 hb8 hW hs8 hwl2 hWS (h + (nI k2))) ⟨hx, hb, hml, hown, hts⟩ (cwV 1 hts gX2_run_X2_goesWhole rfl rfl rfl (by decide +kernel) ⟨by decide, by decide⟩) hP hD hS hA hK hN 0 2 rfl rfl rfl hl.1 rfl (Nat.le_of_ble_eq_true rfl) dX2_run_39 ⟨Nat.le_of_ble_eq_true rfl, Nat.le_of_ble_eq_true rfl⟩ (fun r_1 ur_1 H locs hr_1 hP hD hS => ?_)
            obtain ⟨⟨lv_3, ct_3, st_3, ts_3, tw_3, tm_3⟩, fl_3, f_3⟩ := ur_1
            obtain ⟨e_3, hR_3, hwl_3⟩ := hr_1
            have hR_3 : xRel n sN kd pt he ct_3 fr to rl ru su L f_3 := hR_3
            have hwl_3 : wfL b lv_3 := hwl_3
            have x_3 := (Prod.mk.inj e_3).1
            have y_3 := (Prod.mk.inj e_3).2
            have y_3 : (lv_3, ct_3, st_3, ts_3, tw_3, tm_3) = (hrS (n, mn, sl, kd, pt, he, fr, to, rl) (h + nI k2) sN 0 (lv2, ct2, st2, ts2, tw2, tm2)).2 := y_3
            have hP : va_P D vwCl (xw F Y (nI b) mn (nI n) (nI sN) (nI st_3) fl_3 gv ts_3 tw_3 tm_3 lv_3 sl ru su L f_3) H := hP
            have hD : va_D (va_A (xw F Y (nI b) mn (nI n) (nI sN) (nI st) fl gv fs fb wo lv sl ru su L f) sz) (xw F Y (nI b) mn (nI n) (nI sN) (nI st_3) fl_3 gv ts_3 tw_3 tm_3 lv_3 sl ru su L f_3) := hD
            refine lv_if_ne (tgt := 47) hx hb dX2_run_42 (by decide) (fun c_42 => ?_) (fun c_42 => ?_)
            · have b_42 : (hrS (n, mn, sl, kd, pt, he, fr, to, rl) (h + nI k2) sN 0 (lv2, ct2, st2, ts2, tw2, tm2)).1 = true := bI_n (by rw [← x_3]; exact c_42)
              refine lv_iinc (v := (nI k2) + 1) (lv' := [(3, .int ((nI k2) + 1)), (0, .ref (F 0)), (1, .int h), (2, .int c_)]) hx hb dX2_run_47 hl (k := 0) rfl rfl (by decide) rfl (fun ls hl => ?_)
              refine lv_goto (tgt := 30) hx hb dX2_run_50 (by decide) ?_
              have hfl : hrS (n, mn, sl, kd, pt, he, fr, to, rl) (h + nI k2) sN 0 (lv2, ct2, st2, ts2, tw2, tm2) = (true, (lv_3, ct_3, st_3, ts_3, tw_3, tm_3)) := Prod.ext b_42 y_3.symm
              refine ih2 (k2 + 1) lv_3 ct_3 st_3 ts_3 tw_3 tm_3 fl_3 f_3 _ _ _ (by omega) hR_3 hwl_3 ?_ hP hD hS (lv_sub (l' := [(3, .int (nI (k2 + 1))), (0, .ref (F 0)), (1, .int h), (2, .int c_)]) hl [0, 1, 2, 3] (by rw [← nI_1]; rfl))
              rw [← hev, rnS_t hfl]
            · have b_42 : (hrS (n, mn, sl, kd, pt, he, fr, to, rl) (h + nI k2) sN 0 (lv2, ct2, st2, ts2, tw2, tm2)).1 = false := bI_z (by rw [← x_3]; exact c_42)
              refine lv_iload_n hx hb dX2_run_45 rfl (lv_at hl 0 rfl) ?_
              have hfl : hrS (n, mn, sl, kd, pt, he, fr, to, rl) (h + nI k2) sN 0 (lv2, ct2, st2, ts2, tw2, tm2) = (false, (lv_3, ct_3, st_3, ts_3, tw_3, tm_3)) := Prod.ext b_42 y_3.symm
              exact wrI ((lv_3, ct_3, st_3, ts_3, tw_3, tm_3), fl_3, f_3) hx hb hr hlk dX2_run_46 hP hD hS ⟨by rw [hspec, ← hev, rnS_f hfl], hR_3, hwl_3⟩
      exact loop cn 0 lv ct st (-1) 0 0 fl f _ _ ls (by omega) hR hwl rfl hP hD hS (lv_sub (l' := [(3, .int (nI 0)), (0, .ref (F 0)), (1, .int h), (2, .int c_)]) hl [0, 1, 2, 3] (by rw [nI_0]; rfl))
    · refine lv_bipush (v := (-102)) hx hb dX2_run_10 (by decide) ?_
      exact wrI ((lv, ct, st, fs, fb, wo), fl, f) hx hb hr hlk dX2_run_12 hP hD hS ⟨by rw [sp_run, if_neg (by rw [inB_hi (n := 101) (by decide) (by rw [i_le] at c_7 ⊢; have z1 : (100 : Int32).toInt = 100 := rfl; have z2 : (nI 101).toInt = 101 := rfl; omega)]; exact Bool.false_ne_true)], hR, hwl⟩
end
section
/-! the reference: ranges, and its machine of open rules, a step at a time -/
def rgB (v lo hi : Int32) : Bool := decide (lo.toInt ≤ v.toInt ∧ v.toInt ≤ hi.toInt)
theorem rgB_lt {v lo hi : Int32} (h : v < lo) : rgB v lo hi = false := by
  rw [i_lt] at h; simp [rgB]; intro h2; omega
theorem rgB_gt {v lo hi : Int32} (h : hi < v) : rgB v lo hi = false := by
  rw [i_lt] at h; simp [rgB]; intro h2; omega
theorem rgB_in {v lo hi : Int32} (h1 : ¬ v < lo) (h2 : ¬ hi < v) : rgB v lo hi = true := by
  rw [i_lt] at h1 h2; simp [rgB]; omega
theorem nIm1 {n : Nat} (hn : n ≤ 200) : (nI n - 1).toInt = (n : Int) - 1 := pk_sub_toInt (a := n) (b := 1) (by omega) (by decide)
theorem rg_n {x : Int32} {n : Nat} (hn : n ≤ 200) : rgB x 0 (nI n - 1) = inB x n := by
  unfold rgB inB; rw [nIm1 hn, show (0 : Int32).toInt = 0 from rfl]
  congr 1; simp only [eq_iff_iff]; constructor
  · intro h; omega
  · intro h; omega
theorem rg_k {x hi : Int32} {n : Nat} (hh : hi.toInt + 1 = (n : Int)) : rgB x 0 hi = inB x n := by
  unfold rgB inB; rw [show (0 : Int32).toInt = 0 from rfl]
  congr 1; simp only [eq_iff_iff]; constructor
  · intro h; omega
  · intro h; omega
theorem rg_lv {x : Int32} : rgB x 0 1000000000 = lvB x := rfl
theorem rg_815 {x : Int32} : rgB x 8 15 = inB (x - 8) 8 := by
  unfold rgB inB
  have e8 : (8 : Int32).toInt = 8 := rfl
  have e15 : (15 : Int32).toInt = 15 := rfl
  rw [Int32.toInt_sub, e8, e15]
  congr 1; simp only [eq_iff_iff]
  have a := x.toInt_lt; have b := x.le_toInt
  rw [Int.bmod_def]
  constructor
  · intro h; omega
  · intro h; omega
theorem tp1 (T : Nat) : nI T - 1 + 1 = nI T := Int32.sub_add_cancel _ _
theorem mul5 (k : Nat) : (5 : Int32) * nI k = nI (5 * k) := pk_mul 5 k
theorem mul51 (k : Nat) : (5 : Int32) * nI k + 1 = nI (5 * k + 1) := by rw [mul5, nI_1]
theorem mul52 (k : Nat) : (5 : Int32) * nI k + 2 = nI (5 * k + 2) := by rw [mul5]; exact nI_add (5 * k) 2
theorem mul53 (k : Nat) : (5 : Int32) * nI k + 3 = nI (5 * k + 3) := by rw [mul5]; exact nI_add (5 * k) 3
theorem mul54 (k : Nat) : (5 : Int32) * nI k + 4 = nI (5 * k + 4) := by rw [mul5]; exact nI_add (5 * k) 4
abbrev MS : Type := Nat × Int32 × Int64 × Nat × (Nat → Int32) × (Nat → Int32) × (Nat → Int32) × (Nat → Int32) × (Nat → Int64)
def enS (r h : Int32) (M : MS) : MS := match M with
  | (st, fl, va, T, ct, pi, ph, ps, pm) => if r = -1 then (st, -201, va, T, ct, pi, ph, ps, pm) else if st = 120 then (st, -202, va, T, ct, pi, ph, ps, pm) else (st + 1, fl, va, T + 1, ct, upd pi T r, upd ph T h, upd ps T 0, vp_updL pm T 0)
def gvS (v : Int64) (M : MS) : MS := match M with
  | (st, fl, _, T, ct, pi, ph, ps, pm) => (st, fl, v, T - 1, ct, pi, ph, ps, pm)
def jn (k : Int32) (x y : Int64) : Int64 := if k = 4 then x + y else if k = 5 then x - y else if k = 6 then (if x < y then x else y) else if y < x then x else y
def prK (kd pt : Nat → Int32) (k : Nat) (h s : Int32) (M : MS) : MS := match M with
  | (st, fl, va, T, ct, pi, ph, ps, pm) => if s = 1 then enS (pt (5 * k + 1)) h (st, fl, va, T, ct, pi, ph, ps, vp_updL pm (T - 1) va) else gvS (jn (kd k) (pm (T - 1)) va) (st, fl, va, T, ct, pi, ph, ps, pm)
def chK (pt : Nat → Int32) (k : Nat) (h s : Int32) (M : MS) : MS := match M with
  | (st, fl, va, T, ct, pi, ph, ps, pm) => if s = 1 then enS (if 0 < va then pt (5 * k + 1) else pt (5 * k + 2)) h (st, fl, va, T, ct, pi, ph, ps, pm) else gvS va (st, fl, va, T, ct, pi, ph, ps, pm)
def slK (sl pt : Nat → Int32) (k : Nat) (h s : Int32) (M : MS) : MS := match M with
  | (st, fl, va, T, ct, pi, ph, ps, pm) => if pt (5 * k + 1) < pt (5 * k) + s then gvS (pm (T - 1) + (if 0 < s then va else 0)) (st, fl, va, T, ct, pi, ph, ps, vp_updL pm (T - 1) (pm (T - 1) + (if 0 < s then va else 0))) else enS (sl (ix (pt (5 * k) + s))) h (st, fl, va, T, ct, pi, ph, ps, vp_updL pm (T - 1) (pm (T - 1) + (if 0 < s then va else 0)))
def bhK (kd pt : Nat → Int32) (k : Nat) (M : MS) : MS := match M with
  | (st, fl, va, T, ct, pi, ph, ps, pm) => gvS (if kd k = 8 then sd (va * (pt (5 * k + 1)).toInt64) (pt (5 * k + 2)).toInt64 else if kd k = 11 then bd va (pt (5 * k + 1)) (pt (5 * k + 2)) (pt (5 * k + 3)) (pt (5 * k + 4)) else va) (st, fl, va, T, ct, pi, ph, ps, pm)
/-- one step of the rule k on the top -/
def goK (E : EV) (k : Nat) (M : MS) : MS := match E, M with
  | (n, mn, lv, sl, kd, pt, he), (st, fl, va, T, ct, pi, ph, ps, pm) =>
    if kd k ≤ 3 ∨ kd k = 12 ∨ kd k = 14 then gvS (lf (n, mn, lv, sl, kd, pt, he) k (ph (T - 1)) ct) (st, fl, va, T, ct, pi, ph, upd ps (T - 1) (ps (T - 1) + 1), pm)
    else if kd k = 16 then slK sl pt k (ph (T - 1)) (ps (T - 1)) (st, fl, va, T, ct, pi, ph, upd ps (T - 1) (ps (T - 1) + 1), pm)
    else if ps (T - 1) = 0 then enS (if kd k = 15 then sl (ix (pt (5 * k))) else pt (5 * k)) (if kd k = 10 then ph (T - 1) + pt (5 * k + 1) else ph (T - 1)) (st, fl, va, T, upd ct k (ct k + (if kd k = 13 then 1 else 0)), pi, ph, upd ps (T - 1) (ps (T - 1) + 1), pm)
    else if kd k ≤ 7 then prK kd pt k (ph (T - 1)) (ps (T - 1)) (st, fl, va, T, ct, pi, ph, upd ps (T - 1) (ps (T - 1) + 1), pm)
    else if kd k = 9 then chK pt k (ph (T - 1)) (ps (T - 1)) (st, fl, va, T, ct, pi, ph, upd ps (T - 1) (ps (T - 1) + 1), pm)
    else bhK kd pt k (st, fl, va, T, ct, pi, ph, upd ps (T - 1) (ps (T - 1) + 1), pm)
theorem wf_k {b n : Nat} {kd pt : Nat → Int32} {k : Nat} (h : wfR b n kd pt k) : kd k = 0 ∨ kd k = 1 ∨ kd k = 2 ∨ kd k = 3 ∨ kd k = 4 ∨ kd k = 5 ∨ kd k = 6 ∨ kd k = 7 ∨ kd k = 8 ∨ kd k = 9 ∨ kd k = 10 ∨ kd k = 11 ∨ kd k = 12 ∨ kd k = 13 ∨ kd k = 14 ∨ kd k = 15 ∨ kd k = 16 := by
  have h := h.1
  unfold knB at h
  by_cases h1 : kd k = 0 ∨ kd k = 2 ∨ kd k = 3
  · rcases h1 with z | z | z <;> simp [z]
  · rw [if_neg h1] at h
    by_cases h2 : kd k = 1
    · simp [h2]
    · rw [if_neg h2] at h
      by_cases h3 : kd k = 4 ∨ kd k = 5 ∨ kd k = 6 ∨ kd k = 7
      · rcases h3 with z | z | z | z <;> simp [z]
      · rw [if_neg h3] at h
        by_cases h4 : kd k = 9
        · simp [h4]
        · rw [if_neg h4] at h
          by_cases h5 : kd k = 8 ∨ kd k = 10 ∨ kd k = 11 ∨ kd k = 12 ∨ kd k = 13
          · rcases h5 with z | z | z | z | z <;> simp [z]
          · rw [if_neg h5] at h
            by_cases h6 : kd k = 14
            · simp [h6]
            · rw [if_neg h6] at h
              by_cases h7 : kd k = 15
              · simp [h7]
              · rw [if_neg h7] at h
                by_cases h8 : kd k = 16
                · simp [h8]
                · rw [if_neg h8] at h; cases h
theorem wf_lf {b n : Nat} {kd pt : Nat → Int32} {k : Nat} (h : wfR b n kd pt k) (e : kd k ≤ 3 ∨ kd k = 12 ∨ kd k = 14) : kd k = 0 ∨ kd k = 1 ∨ kd k = 2 ∨ kd k = 3 ∨ kd k = 12 ∨ kd k = 14 := by
  rcases wf_k h with z | z | z | z | z | z | z | z | z | z | z | z | z | z | z | z | z <;> rw [z] at e ⊢ <;> revert e <;> decide
end
section
/-! the reference: what is asked and set, without the machine -/
set_option maxRecDepth 100000 in
set_option maxHeartbeats 4000000 in
/-- in -/
theorem c_X3_in {l : Launch} {D : va_G} {tys : List (ClassId × FieldType)} {w : va_W} (x lo_ hi_ : Int32) : RoI l yX3_in wsX3_in (rk 0) D (tys) (w) [.int x, .int lo_, .int hi_] (fun r => r = bI (rgB x lo_ hi_)) := by
  refine roEnter (cc := cX3_in) (maxL := 3) (ret := (some .boolean)) (by decide) rfl (Nat.le_of_ble_eq_true rfl) ?_
  intro p e s m below meth c hx hb hr hml hown hts hlk hP hK hN ls hl
  have hown : s.vm.findClass RX3 = some m.cls := hown
  have hl : lv_has ls 3 [(0, .int x), (1, .int lo_), (2, .int hi_)] := hl
  refine lv_iload_n hx hb dX3_in_0 rfl (lv_at hl 0 rfl) ?_
  refine lv_iload_n hx hb dX3_in_1 rfl (lv_at hl 1 rfl) ?_
  refine lv_icmp_lt (tgt := 14) hx hb dX3_in_2 (by decide) (fun c_2 => ?_) (fun c_2 => ?_)
  · refine lv_iconst (v := 0) hx hb dX3_in_14 (by decide) ?_
    exact roZ hx hb hr hlk dX3_in_15 (nar0) (by rw [rgB_lt c_2]; rfl)
  · refine lv_iload_n hx hb dX3_in_5 rfl (lv_at hl 0 rfl) ?_
    refine lv_iload_n hx hb dX3_in_6 rfl (lv_at hl 2 rfl) ?_
    refine lv_icmp_gt (tgt := 14) hx hb dX3_in_7 (by decide) (fun c_7 => ?_) (fun c_7 => ?_)
    · refine lv_iconst (v := 0) hx hb dX3_in_14 (by decide) ?_
      exact roZ hx hb hr hlk dX3_in_15 (nar0) (by rw [rgB_gt c_7]; rfl)
    · refine lv_iconst (v := 1) hx hb dX3_in_10 (by decide) ?_
      refine lv_goto (tgt := 15) hx hb dX3_in_11 (by decide) ?_
      exact roZ hx hb hr hlk dX3_in_15 (nar1) (by rw [rgB_in c_2 c_7]; rfl)

theorem iw_X3_isBasin_X3 : ∀ w ∈ u_ws RX3 TX3 25, w ∈ wsX3_isBasin := by decide +kernel
set_option maxRecDepth 100000 in
set_option maxHeartbeats 4000000 in
/-- isBasin -/
theorem c_X3_isBasin {l : Launch} {D : va_G} {G : Nat → Nat} {Z : Nat → ClassId} {mn fl : Int32} {va gv : Int64} {tp ts tw tm : Int32} {lv sl kd pt : Nat → Int32} {he : Nat → Int64} {ct fr to rl pi ph ps : Nat → Int32} {pm : Nat → Int64} {b n sN st : Nat} (hb8 : b ≤ 8) (x : Int32) : RoI l yX3_isBasin wsX3_isBasin (rk 1) D (mty Z) (mw G Z (nI b) mn (nI n) (nI sN) (nI st) fl va tp gv ts tw tm lv sl kd pt he ct fr to rl pi ph ps pm) [.ref (G 0), .int x] (fun r => r = bI (inB x b)) := by
  refine roEnter (cc := cX3_isBasin) (maxL := 2) (ret := (some .boolean)) (by decide) rfl (Nat.le_of_ble_eq_true rfl) ?_
  intro p e s m below meth c hx hb hr hml hown hts hlk hP hK hN ls hl
  have hown : s.vm.findClass RX3 = some m.cls := hown
  have hl : lv_has ls 2 [(0, .ref (G 0)), (1, .int x)] := hl
  refine lv_iload_n hx hb dX3_isBasin_0 rfl (lv_at hl 1 rfl) ?_
  refine lv_iconst (v := 0) hx hb dX3_isBasin_1 (by decide) ?_
  refine lv_aload_n hx hb dX3_isBasin_2 rfl (lv_at hl 0 rfl) ?_
  refine va_get (D := D) (ci := 3) (v := .int (nI b)) (C := RX3) (T := TX3) (N := 25) hx hb hts iw_X3_isBasin_X3 hown hK hP 0 rfl rfl 0 (by decide) (hts (.fieldLink RX3 57 "SluiceRulesModel" "basins" "I") (by decide +kernel)) (fun _ h9 => h9) rfl dX3_isBasin_3 ?_
  refine lv_iconst (v := 1) hx hb dX3_isBasin_6 (by decide) ?_
  refine lv_isub hx hb dX3_isBasin_7 ?_
  refine RoI.callS (As := [.int x, .int 0, .int ((nI b) - 1)]) (rest := []) (c_X3_in x 0 ((nI b) - 1)) ⟨hx, hb, hml, hown, hts⟩ (va_cwS 3 hts gX3_isBasin_X3_in rfl rfl rfl (by decide +kernel) ⟨by decide, by decide⟩) hP hK hN rfl hl.1 rfl (Nat.le_of_ble_eq_true rfl) dX3_isBasin_8 ⟨Nat.le_of_ble_eq_true rfl, Nat.le_of_ble_eq_true rfl⟩ (fun r_1 hr_1 => ?_)
  exact roZ hx hb hr hlk dX3_isBasin_11 (by rw [hr_1]; exact bI_nar _) (by rw [hr_1, rg_n (by omega)])

theorem iw_X3_isRule_X3 : ∀ w ∈ u_ws RX3 TX3 25, w ∈ wsX3_isRule := by decide +kernel
set_option maxRecDepth 100000 in
set_option maxHeartbeats 4000000 in
/-- isRule -/
theorem c_X3_isRule {l : Launch} {D : va_G} {G : Nat → Nat} {Z : Nat → ClassId} {mn fl : Int32} {va gv : Int64} {tp ts tw tm : Int32} {lv sl kd pt : Nat → Int32} {he : Nat → Int64} {ct fr to rl pi ph ps : Nat → Int32} {pm : Nat → Int64} {b n sN st : Nat} (hn40 : n ≤ 40) (x : Int32) : RoI l yX3_isRule wsX3_isRule (rk 1) D (mty Z) (mw G Z (nI b) mn (nI n) (nI sN) (nI st) fl va tp gv ts tw tm lv sl kd pt he ct fr to rl pi ph ps pm) [.ref (G 0), .int x] (fun r => r = bI (inB x n)) := by
  refine roEnter (cc := cX3_isRule) (maxL := 2) (ret := (some .boolean)) (by decide) rfl (Nat.le_of_ble_eq_true rfl) ?_
  intro p e s m below meth c hx hb hr hml hown hts hlk hP hK hN ls hl
  have hown : s.vm.findClass RX3 = some m.cls := hown
  have hl : lv_has ls 2 [(0, .ref (G 0)), (1, .int x)] := hl
  refine lv_iload_n hx hb dX3_isRule_0 rfl (lv_at hl 1 rfl) ?_
  refine lv_iconst (v := 0) hx hb dX3_isRule_1 (by decide) ?_
  refine lv_aload_n hx hb dX3_isRule_2 rfl (lv_at hl 0 rfl) ?_
  refine va_get (D := D) (ci := 3) (v := .int (nI n)) (C := RX3) (T := TX3) (N := 25) hx hb hts iw_X3_isRule_X3 hown hK hP 0 rfl rfl 4 (by decide) (hts (.fieldLink RX3 64 "SluiceRulesModel" "rules" "I") (by decide +kernel)) (fun _ h9 => h9) rfl dX3_isRule_3 ?_
  refine lv_iconst (v := 1) hx hb dX3_isRule_6 (by decide) ?_
  refine lv_isub hx hb dX3_isRule_7 ?_
  refine RoI.callS (As := [.int x, .int 0, .int ((nI n) - 1)]) (rest := []) (c_X3_in x 0 ((nI n) - 1)) ⟨hx, hb, hml, hown, hts⟩ (va_cwS 3 hts gX3_isRule_X3_in rfl rfl rfl (by decide +kernel) ⟨by decide, by decide⟩) hP hK hN rfl hl.1 rfl (Nat.le_of_ble_eq_true rfl) dX3_isRule_8 ⟨Nat.le_of_ble_eq_true rfl, Nat.le_of_ble_eq_true rfl⟩ (fun r_1 hr_1 => ?_)
  exact roZ hx hb hr hlk dX3_isRule_11 (by rw [hr_1]; exact bI_nar _) (by rw [hr_1, rg_n (by omega)])

set_option maxRecDepth 100000 in
set_option maxHeartbeats 4000000 in
/-- isPart -/
theorem c_X3_isPart {l : Launch} {D : va_G} {G : Nat → Nat} {Z : Nat → ClassId} {mn fl : Int32} {va gv : Int64} {tp ts tw tm : Int32} {lv sl kd pt : Nat → Int32} {he : Nat → Int64} {ct fr to rl pi ph ps : Nat → Int32} {pm : Nat → Int64} {b n sN st : Nat} (hn40 : n ≤ 40) (x : Int32) : RoI l yX3_isPart wsX3_isPart (rk 2) D (mty Z) (mw G Z (nI b) mn (nI n) (nI sN) (nI st) fl va tp gv ts tw tm lv sl kd pt he ct fr to rl pi ph ps pm) [.ref (G 0), .int x] (fun r => r = bI (ptB x n)) := by
  refine roEnter (cc := cX3_isPart) (maxL := 2) (ret := (some .boolean)) (by decide) rfl (Nat.le_of_ble_eq_true rfl) ?_
  intro p e s m below meth c hx hb hr hml hown hts hlk hP hK hN ls hl
  have hown : s.vm.findClass RX3 = some m.cls := hown
  have hl : lv_has ls 2 [(0, .ref (G 0)), (1, .int x)] := hl
  refine lv_iload_n hx hb dX3_isPart_0 rfl (lv_at hl 1 rfl) ?_
  refine lv_iconst (v := (-1)) hx hb dX3_isPart_1 (by decide) ?_
  refine lv_icmp_eq (tgt := 13) hx hb dX3_isPart_2 (by decide) (fun c_2 => ?_) (fun c_2 => ?_)
  · refine lv_iconst (v := 1) hx hb dX3_isPart_13 (by decide) ?_
    refine lv_goto (tgt := 18) hx hb dX3_isPart_14 (by decide) ?_
    exact roZ hx hb hr hlk dX3_isPart_18 (nar1) (by rw [ptB, c_2]; rfl)
  · refine lv_aload_n hx hb dX3_isPart_5 rfl (lv_at hl 0 rfl) ?_
    refine lv_iload_n hx hb dX3_isPart_6 rfl (lv_at hl 1 rfl) ?_
    refine RoI.callV (As := [.int x]) (rest := []) (c_X3_isRule hn40 x) ⟨hx, hb, hml, hown, hts⟩ (cwV 1 hts gX3_isPart_X3_isRule rfl rfl rfl (by decide +kernel) ⟨by decide, by decide⟩) hP hK hN 0 3 rfl rfl rfl hl.1 rfl (Nat.le_of_ble_eq_true rfl) dX3_isPart_7 ⟨Nat.le_of_ble_eq_true rfl, Nat.le_of_ble_eq_true rfl⟩ (fun r_1 hr_1 => ?_)
    refine lv_if_eq (tgt := 17) hx hb dX3_isPart_10 (by decide) (fun c_10 => ?_) (fun c_10 => ?_)
    · have b_10 : inB x n = false := bI_z (by rw [← hr_1]; exact c_10)
      refine lv_iconst (v := 0) hx hb dX3_isPart_17 (by decide) ?_
      exact roZ hx hb hr hlk dX3_isPart_18 (nar0) (by rw [ptB, b_10, decide_eq_false c_2]; rfl)
    · have b_10 : inB x n = true := bI_n (by rw [← hr_1]; exact c_10)
      refine lv_iconst (v := 1) hx hb dX3_isPart_13 (by decide) ?_
      refine lv_goto (tgt := 18) hx hb dX3_isPart_14 (by decide) ?_
      exact roZ hx hb hr hlk dX3_isPart_18 (nar1) (by rw [ptB, b_10, decide_eq_false c_2]; rfl)

set_option maxRecDepth 100000 in
set_option maxHeartbeats 4000000 in
/-- isSlot -/
theorem c_X3_isSlot {l : Launch} {D : va_G} {tys : List (ClassId × FieldType)} {w : va_W} (x : Int32) : RoI l yX3_isSlot wsX3_isSlot (rk 1) D (tys) (w) [.int x] (fun r => r = bI (inB x 8)) := by
  refine roEnter (cc := cX3_isSlot) (maxL := 1) (ret := (some .boolean)) (by decide) rfl (Nat.le_of_ble_eq_true rfl) ?_
  intro p e s m below meth c hx hb hr hml hown hts hlk hP hK hN ls hl
  have hown : s.vm.findClass RX3 = some m.cls := hown
  have hl : lv_has ls 1 [(0, .int x)] := hl
  refine lv_iload_n hx hb dX3_isSlot_0 rfl (lv_at hl 0 rfl) ?_
  refine lv_iconst (v := 0) hx hb dX3_isSlot_1 (by decide) ?_
  refine lv_bipush (v := 7) hx hb dX3_isSlot_2 (by decide) ?_
  refine RoI.callS (As := [.int x, .int 0, .int 7]) (rest := []) (c_X3_in x 0 7) ⟨hx, hb, hml, hown, hts⟩ (va_cwS 3 hts gX3_isSlot_X3_in rfl rfl rfl (by decide +kernel) ⟨by decide, by decide⟩) hP hK hN rfl hl.1 rfl (Nat.le_of_ble_eq_true rfl) dX3_isSlot_4 ⟨Nat.le_of_ble_eq_true rfl, Nat.le_of_ble_eq_true rfl⟩ (fun r_1 hr_1 => ?_)
  exact roZ hx hb hr hlk dX3_isSlot_7 (by rw [hr_1]; exact bI_nar _) (by rw [hr_1, rg_k (n := 8) (by decide)])

theorem iw_X3_basin_X3 : ∀ w ∈ u_ws RX3 TX3 25, w ∈ wsX3_basin := by decide +kernel
set_option maxRecDepth 100000 in
set_option maxHeartbeats 4000000 in
/-- basin -/
theorem c_X3_basin {l : Launch} {D : va_G} {G : Nat → Nat} {Z : Nat → ClassId} {mn fl : Int32} {va gv : Int64} {tp ts tw tm : Int32} {lv sl kd pt : Nat → Int32} {he : Nat → Int64} {ct fr to rl pi ph ps : Nat → Int32} {pm : Nat → Int64} {b n sN st : Nat} (hb8 : b ≤ 8) (x : Int32) : WrI l yX3_basin wsX3_basin (rk 1) D (mty Z) (mw G Z (nI b) mn (nI n) (nI sN) (nI st) fl va tp gv ts tw tm lv sl kd pt he ct fr to rl pi ph ps pm) [.ref (G 0), .int x] (σ := Nat × (Nat → Int32)) (fun u => mw G Z (nI u.1) mn (nI n) (nI sN) (nI st) fl va tp gv ts tw tm u.2 sl kd pt he ct fr to rl pi ph ps pm) (fun r u => (r, u) = sp_basin b lv x) 0 0 := by
  intro sz
  refine wrEnter (cc := cX3_basin) (maxL := 2) (ret := (some .int)) (by decide) rfl (Nat.le_of_ble_eq_true rfl) ?_
  intro p e s m below meth c hx hb hr hml hown hts hlk hP hK hN hsz hD hS hA hin ls hl
  have hown : s.vm.findClass RX3 = some m.cls := hown
  have hl : lv_has ls 2 [(0, .ref (G 0)), (1, .int x)] := hl
  refine lv_iload_n hx hb dX3_basin_0 rfl (lv_at hl 1 rfl) ?_
  refine lv_iconst (v := 0) hx hb dX3_basin_1 (by decide) ?_
  refine lv_ldc (v := 1000000000) hx hb hown (hts (.constant RX3 71 (1000000000)) (by decide +kernel)) dX3_basin_2 ?_
  refine RoI.callS (As := [.int x, .int 0, .int 1000000000]) (rest := []) (c_X3_in x 0 1000000000) ⟨hx, hb, hml, hown, hts⟩ (va_cwS 3 hts gX3_basin_X3_in rfl rfl rfl (by decide +kernel) ⟨by decide, by decide⟩) hP hK hN rfl hl.1 rfl (Nat.le_of_ble_eq_true rfl) dX3_basin_4 ⟨Nat.le_of_ble_eq_true rfl, Nat.le_of_ble_eq_true rfl⟩ (fun r_1 hr_1 => ?_)
  refine lv_if_ne (tgt := 13) hx hb dX3_basin_7 (by decide) (fun c_7 => ?_) (fun c_7 => ?_)
  · have b_7 : rgB x 0 1000000000 = true := bI_n (by rw [← hr_1]; exact c_7)
    refine lv_aload_n hx hb dX3_basin_13 rfl (lv_at hl 0 rfl) ?_
    refine va_get (D := D) (ci := 3) (v := .int (nI b)) (C := RX3) (T := TX3) (N := 25) hx hb hts iw_X3_basin_X3 hown hK hP 0 rfl rfl 0 (by decide) (hts (.fieldLink RX3 57 "SluiceRulesModel" "basins" "I") (by decide +kernel)) (fun _ h9 => h9) rfl dX3_basin_14 ?_
    refine lv_bipush (v := 8) hx hb dX3_basin_17 (by decide) ?_
    refine lv_icmp_ne (tgt := 25) hx hb dX3_basin_19 (by decide) (fun c_19 => ?_) (fun c_19 => ?_)
    · have b_n8 : ¬ b = 8 := fun z => c_19 (by rw [z]; rfl)
      have b_l8 : b < 8 := by omega
      refine lv_aload_n hx hb dX3_basin_25 rfl (lv_at hl 0 rfl) ?_
      refine va_get (D := D) (ci := 3) (v := .ref (G 1)) (C := RX3) (T := TX3) (N := 25) hx hb hts iw_X3_basin_X3 hown hK hP 0 rfl rfl 1 (by decide) (hts (.fieldLink RX3 7 "SluiceRulesModel" "levels" "[I") (by decide +kernel)) (fun _ h9 => h9) rfl dX3_basin_26 ?_
      refine lv_aload_n hx hb dX3_basin_29 rfl (lv_at hl 0 rfl) ?_
      refine va_get (D := D) (ci := 3) (v := .int (nI b)) (C := RX3) (T := TX3) (N := 25) hx hb hts iw_X3_basin_X3 hown hK hP 0 rfl rfl 0 (by decide) (hts (.fieldLink RX3 57 "SluiceRulesModel" "basins" "I") (by decide +kernel)) (fun _ h9 => h9) rfl dX3_basin_30 ?_
      refine lv_iload_n hx hb dX3_basin_33 rfl (lv_at hl 1 rfl) ?_
      refine my_iast (j := b) hx hb hK hP hD hS 1 0 rfl rfl (rfl) (b_l8) (by decide) dX3_basin_34 (fun H locs hP hD hS => ?_)
      have hP : va_P D vwCl (mw G Z (nI b) mn (nI n) (nI sN) (nI st) fl va tp gv ts tw tm (upd lv b x) sl kd pt he ct fr to rl pi ph ps pm) H := hP
      have hD : va_D (va_A (mw G Z (nI b) mn (nI n) (nI sN) (nI st) fl va tp gv ts tw tm lv sl kd pt he ct fr to rl pi ph ps pm) sz) (mw G Z (nI b) mn (nI n) (nI sN) (nI st) fl va tp gv ts tw tm (upd lv b x) sl kd pt he ct fr to rl pi ph ps pm) := hD
      refine lv_aload_n hx hb dX3_basin_35 rfl (lv_at hl 0 rfl) ?_
      refine lv_dup hx hb dX3_basin_36 rfl ?_
      refine va_get (D := D) (ci := 3) (v := .int (nI b)) (C := RX3) (T := TX3) (N := 25) hx hb hts iw_X3_basin_X3 hown hK hP 0 rfl rfl 0 (by decide) (hts (.fieldLink RX3 57 "SluiceRulesModel" "basins" "I") (by decide +kernel)) (fun _ h9 => h9) rfl dX3_basin_37 ?_
      refine lv_iconst (v := 1) hx hb dX3_basin_40 (by decide) ?_
      refine lv_iadd hx hb dX3_basin_41 ?_
      refine va_put (D := D) (ci := 3) (v := .int ((nI b) + 1)) (ty := .int) (C := RX3) (T := TX3) (N := 25) hx hb hts iw_X3_basin_X3 tyX3 tyX3_ok nmX3 hown hK hP hD hS 0 rfl rfl 0 (by decide) (hts (.fieldLink RX3 57 "SluiceRulesModel" "basins" "I") (by decide +kernel)) (fun _ h9 => h9) rfl (by decide +kernel) rfl rfl (Nat.le_of_ble_eq_true rfl) dX3_basin_42 (fun H locs hP hD hS => ?_)
      have hP : va_P D vwCl (mw G Z ((nI b) + 1) mn (nI n) (nI sN) (nI st) fl va tp gv ts tw tm (upd lv b x) sl kd pt he ct fr to rl pi ph ps pm) H := hP
      have hD : va_D (va_A (mw G Z (nI b) mn (nI n) (nI sN) (nI st) fl va tp gv ts tw tm lv sl kd pt he ct fr to rl pi ph ps pm) sz) (mw G Z ((nI b) + 1) mn (nI n) (nI sN) (nI st) fl va tp gv ts tw tm (upd lv b x) sl kd pt he ct fr to rl pi ph ps pm) := hD
      refine lv_aload_n hx hb dX3_basin_45 rfl (lv_at hl 0 rfl) ?_
      refine va_get (D := D) (ci := 3) (v := .int ((nI b) + 1)) (C := RX3) (T := TX3) (N := 25) hx hb hts iw_X3_basin_X3 hown hK hP 0 rfl rfl 0 (by decide) (hts (.fieldLink RX3 57 "SluiceRulesModel" "basins" "I") (by decide +kernel)) (fun _ h9 => h9) rfl dX3_basin_46 ?_
      refine lv_iconst (v := 1) hx hb dX3_basin_49 (by decide) ?_
      refine lv_isub hx hb dX3_basin_50 ?_
      rw [nI_1] at hP hD
      exact wrI ((b + 1, upd lv b x)) hx hb hr hlk dX3_basin_51 hP hD hS (by rw [sp_basin, if_pos (by rw [← rg_lv, b_7]), if_neg b_n8, nI_1, nI_pred])
    · have b_e8 : b = 8 := (nI_eq (b := 8) (by omega) (by decide)).mp c_19
      refine lv_bipush (v := (-103)) hx hb dX3_basin_22 (by decide) ?_
      exact wrI ((b, lv)) hx hb hr hlk dX3_basin_24 hP hD hS (by rw [sp_basin, if_pos (by rw [← rg_lv, b_7]), if_pos b_e8])
  · have b_7 : rgB x 0 1000000000 = false := bI_z (by rw [← hr_1]; exact c_7)
    refine lv_bipush (v := (-102)) hx hb dX3_basin_10 (by decide) ?_
    exact wrI ((b, lv)) hx hb hr hlk dX3_basin_12 hP hD hS (by rw [sp_basin, if_neg (by rw [← rg_lv, b_7]; exact Bool.false_ne_true)])

theorem iw_X3_fill_X3 : ∀ w ∈ u_ws RX3 TX3 25, w ∈ wsX3_fill := by decide +kernel
set_option maxRecDepth 100000 in
set_option maxHeartbeats 4000000 in
/-- fill -/
theorem c_X3_fill {l : Launch} {D : va_G} {G : Nat → Nat} {Z : Nat → ClassId} {mn fl : Int32} {va gv : Int64} {tp ts tw tm : Int32} {lv sl kd pt : Nat → Int32} {he : Nat → Int64} {ct fr to rl pi ph ps : Nat → Int32} {pm : Nat → Int64} {b n sN st : Nat} (hb8 : b ≤ 8) (x v : Int32) : WrI l yX3_fill wsX3_fill (rk 2) D (mty Z) (mw G Z (nI b) mn (nI n) (nI sN) (nI st) fl va tp gv ts tw tm lv sl kd pt he ct fr to rl pi ph ps pm) [.ref (G 0), .int x, .int v] (σ := Nat → Int32) (fun u => mw G Z (nI b) mn (nI n) (nI sN) (nI st) fl va tp gv ts tw tm u sl kd pt he ct fr to rl pi ph ps pm) (fun r u => (r, u) = sp_fill b lv x v) 0 0 := by
  intro sz
  refine wrEnter (cc := cX3_fill) (maxL := 4) (ret := (some .int)) (by decide) rfl (Nat.le_of_ble_eq_true rfl) ?_
  intro p e s m below meth c hx hb hr hml hown hts hlk hP hK hN hsz hD hS hA hin ls hl
  have hown : s.vm.findClass RX3 = some m.cls := hown
  have hl : lv_has ls 4 [(0, .ref (G 0)), (1, .int x), (2, .int v)] := hl
  refine lv_aload_n hx hb dX3_fill_0 rfl (lv_at hl 0 rfl) ?_
  refine lv_iload_n hx hb dX3_fill_1 rfl (lv_at hl 1 rfl) ?_
  refine RoI.callV (As := [.int x]) (rest := []) (c_X3_isBasin hb8 x) ⟨hx, hb, hml, hown, hts⟩ (cwV 1 hts gX3_fill_X3_isBasin rfl rfl rfl (by decide +kernel) ⟨by decide, by decide⟩) hP hK hN 0 3 rfl rfl rfl hl.1 rfl (Nat.le_of_ble_eq_true rfl) dX3_fill_2 ⟨Nat.le_of_ble_eq_true rfl, Nat.le_of_ble_eq_true rfl⟩ (fun r_1 hr_1 => ?_)
  refine lv_if_ne (tgt := 11) hx hb dX3_fill_5 (by decide) (fun c_5 => ?_) (fun c_5 => ?_)
  · have b_5 : inB x b = true := bI_n (by rw [← hr_1]; exact c_5)
    refine lv_iload_n hx hb dX3_fill_11 rfl (lv_at hl 2 rfl) ?_
    refine lv_iconst (v := 0) hx hb dX3_fill_12 (by decide) ?_
    refine lv_ldc (v := 1000000000) hx hb hown (hts (.constant RX3 71 (1000000000)) (by decide +kernel)) dX3_fill_13 ?_
    refine RoI.callS (As := [.int v, .int 0, .int 1000000000]) (rest := []) (c_X3_in v 0 1000000000) ⟨hx, hb, hml, hown, hts⟩ (va_cwS 3 hts gX3_fill_X3_in rfl rfl rfl (by decide +kernel) ⟨by decide, by decide⟩) hP hK hN rfl hl.1 rfl (Nat.le_of_ble_eq_true rfl) dX3_fill_15 ⟨Nat.le_of_ble_eq_true rfl, Nat.le_of_ble_eq_true rfl⟩ (fun r_2 hr_2 => ?_)
    refine lv_if_ne (tgt := 24) hx hb dX3_fill_18 (by decide) (fun c_18 => ?_) (fun c_18 => ?_)
    · have b_18 : rgB v 0 1000000000 = true := bI_n (by rw [← hr_2]; exact c_18)
      refine lv_aload_n hx hb dX3_fill_24 rfl (lv_at hl 0 rfl) ?_
      refine va_get (D := D) (ci := 3) (v := .ref (G 1)) (C := RX3) (T := TX3) (N := 25) hx hb hts iw_X3_fill_X3 hown hK hP 0 rfl rfl 1 (by decide) (hts (.fieldLink RX3 7 "SluiceRulesModel" "levels" "[I") (by decide +kernel)) (fun _ h9 => h9) rfl dX3_fill_25 ?_
      refine lv_iload_n hx hb dX3_fill_28 rfl (lv_at hl 1 rfl) ?_
      refine va_iald hx hb hK hP 1 0 rfl rfl (inB_vp.mp (inB_up hb8 b_5)) dX3_fill_29 ?_
      refine lv_istore_n (lv' := [(3, .int (lv x.toNatClampNeg)), (0, .ref (G 0)), (1, .int x), (2, .int v)]) hx hb dX3_fill_30 rfl hl (by decide) rfl (fun ls hl => ?_)
      refine lv_aload_n hx hb dX3_fill_31 rfl (lv_at hl 1 rfl) ?_
      refine va_get (D := D) (ci := 3) (v := .ref (G 1)) (C := RX3) (T := TX3) (N := 25) hx hb hts iw_X3_fill_X3 hown hK hP 0 rfl rfl 1 (by decide) (hts (.fieldLink RX3 7 "SluiceRulesModel" "levels" "[I") (by decide +kernel)) (fun _ h9 => h9) rfl dX3_fill_32 ?_
      refine lv_iload_n hx hb dX3_fill_35 rfl (lv_at hl 2 rfl) ?_
      refine lv_iload_n hx hb dX3_fill_36 rfl (lv_at hl 3 rfl) ?_
      refine va_iast hx hb hK hP hD hS 1 0 rfl rfl (inB_vp.mp (inB_up hb8 b_5)) dX3_fill_37 (fun H locs hP hD hS => ?_)
      have hP : va_P D vwCl (mw G Z (nI b) mn (nI n) (nI sN) (nI st) fl va tp gv ts tw tm (upd lv x.toNatClampNeg v) sl kd pt he ct fr to rl pi ph ps pm) H := hP
      have hD : va_D (va_A (mw G Z (nI b) mn (nI n) (nI sN) (nI st) fl va tp gv ts tw tm lv sl kd pt he ct fr to rl pi ph ps pm) sz) (mw G Z (nI b) mn (nI n) (nI sN) (nI st) fl va tp gv ts tw tm (upd lv x.toNatClampNeg v) sl kd pt he ct fr to rl pi ph ps pm) := hD
      refine lv_iload_n hx hb dX3_fill_38 rfl (lv_at hl 0 rfl) ?_
      exact wrI (upd lv x.toNatClampNeg v) hx hb hr hlk dX3_fill_39 hP hD hS (by rw [sp_fill, if_pos b_5, if_pos (by rw [← rg_lv, b_18])])
    · have b_18 : rgB v 0 1000000000 = false := bI_z (by rw [← hr_2]; exact c_18)
      refine lv_bipush (v := (-102)) hx hb dX3_fill_21 (by decide) ?_
      exact wrI (lv) hx hb hr hlk dX3_fill_23 hP hD hS (by rw [sp_fill, if_pos b_5, if_neg (by rw [← rg_lv, b_18]; exact Bool.false_ne_true)])
  · have b_5 : inB x b = false := bI_z (by rw [← hr_1]; exact c_5)
    refine lv_bipush (v := (-101)) hx hb dX3_fill_8 (by decide) ?_
    exact wrI (lv) hx hb hr hlk dX3_fill_10 hP hD hS (by rw [sp_fill, if_neg (by rw [b_5]; exact Bool.false_ne_true)])

theorem iw_X3_moon_X3 : ∀ w ∈ u_ws RX3 TX3 25, w ∈ wsX3_moon := by decide +kernel
set_option maxRecDepth 100000 in
set_option maxHeartbeats 4000000 in
/-- moon -/
theorem c_X3_moon {l : Launch} {D : va_G} {G : Nat → Nat} {Z : Nat → ClassId} {mn fl : Int32} {va gv : Int64} {tp ts tw tm : Int32} {lv sl kd pt : Nat → Int32} {he : Nat → Int64} {ct fr to rl pi ph ps : Nat → Int32} {pm : Nat → Int64} {b n sN st : Nat} (x : Int32) : WrI l yX3_moon wsX3_moon (rk 1) D (mty Z) (mw G Z (nI b) mn (nI n) (nI sN) (nI st) fl va tp gv ts tw tm lv sl kd pt he ct fr to rl pi ph ps pm) [.ref (G 0), .int x] (σ := Int32) (fun u => mw G Z (nI b) u (nI n) (nI sN) (nI st) fl va tp gv ts tw tm lv sl kd pt he ct fr to rl pi ph ps pm) (fun r u => (r, u) = sp_moon mn x) 0 0 := by
  intro sz
  refine wrEnter (cc := cX3_moon) (maxL := 3) (ret := (some .int)) (by decide) rfl (Nat.le_of_ble_eq_true rfl) ?_
  intro p e s m below meth c hx hb hr hml hown hts hlk hP hK hN hsz hD hS hA hin ls hl
  have hown : s.vm.findClass RX3 = some m.cls := hown
  have hl : lv_has ls 3 [(0, .ref (G 0)), (1, .int x)] := hl
  refine lv_iload_n hx hb dX3_moon_0 rfl (lv_at hl 1 rfl) ?_
  refine lv_iconst (v := 0) hx hb dX3_moon_1 (by decide) ?_
  refine lv_bipush (v := 11) hx hb dX3_moon_2 (by decide) ?_
  refine RoI.callS (As := [.int x, .int 0, .int 11]) (rest := []) (c_X3_in x 0 11) ⟨hx, hb, hml, hown, hts⟩ (va_cwS 3 hts gX3_moon_X3_in rfl rfl rfl (by decide +kernel) ⟨by decide, by decide⟩) hP hK hN rfl hl.1 rfl (Nat.le_of_ble_eq_true rfl) dX3_moon_4 ⟨Nat.le_of_ble_eq_true rfl, Nat.le_of_ble_eq_true rfl⟩ (fun r_1 hr_1 => ?_)
  refine lv_if_ne (tgt := 13) hx hb dX3_moon_7 (by decide) (fun c_7 => ?_) (fun c_7 => ?_)
  · have b_7 : rgB x 0 11 = true := bI_n (by rw [← hr_1]; exact c_7)
    refine lv_aload_n hx hb dX3_moon_13 rfl (lv_at hl 0 rfl) ?_
    refine va_get (D := D) (ci := 3) (v := .int mn) (C := RX3) (T := TX3) (N := 25) hx hb hts iw_X3_moon_X3 hown hK hP 0 rfl rfl 2 (by decide) (hts (.fieldLink RX3 13 "SluiceRulesModel" "moon" "I") (by decide +kernel)) (fun _ h9 => h9) rfl dX3_moon_14 ?_
    refine lv_istore_n (lv' := [(2, .int mn), (0, .ref (G 0)), (1, .int x)]) hx hb dX3_moon_17 rfl hl (by decide) rfl (fun ls hl => ?_)
    refine lv_aload_n hx hb dX3_moon_18 rfl (lv_at hl 1 rfl) ?_
    refine lv_iload_n hx hb dX3_moon_19 rfl (lv_at hl 2 rfl) ?_
    refine va_put (D := D) (ci := 3) (v := .int x) (ty := .int) (C := RX3) (T := TX3) (N := 25) hx hb hts iw_X3_moon_X3 tyX3 tyX3_ok nmX3 hown hK hP hD hS 0 rfl rfl 2 (by decide) (hts (.fieldLink RX3 13 "SluiceRulesModel" "moon" "I") (by decide +kernel)) (fun _ h9 => h9) rfl (by decide +kernel) rfl rfl (Nat.le_of_ble_eq_true rfl) dX3_moon_20 (fun H locs hP hD hS => ?_)
    have hP : va_P D vwCl (mw G Z (nI b) x (nI n) (nI sN) (nI st) fl va tp gv ts tw tm lv sl kd pt he ct fr to rl pi ph ps pm) H := hP
    have hD : va_D (va_A (mw G Z (nI b) mn (nI n) (nI sN) (nI st) fl va tp gv ts tw tm lv sl kd pt he ct fr to rl pi ph ps pm) sz) (mw G Z (nI b) x (nI n) (nI sN) (nI st) fl va tp gv ts tw tm lv sl kd pt he ct fr to rl pi ph ps pm) := hD
    refine lv_iload_n hx hb dX3_moon_23 rfl (lv_at hl 0 rfl) ?_
    exact wrI (x) hx hb hr hlk dX3_moon_24 hP hD hS (by rw [sp_moon, if_pos (by rw [← rg_k (hi := 11) (n := 12) (by decide), b_7])])
  · have b_7 : rgB x 0 11 = false := bI_z (by rw [← hr_1]; exact c_7)
    refine lv_bipush (v := (-102)) hx hb dX3_moon_10 (by decide) ?_
    exact wrI (mn) hx hb hr hlk dX3_moon_12 hP hD hS (by rw [sp_moon, if_neg (by rw [← rg_k (hi := 11) (n := 12) (by decide), b_7]; exact Bool.false_ne_true)])

theorem iw_X3_put_X3 : ∀ w ∈ u_ws RX3 TX3 25, w ∈ wsX3_put := by decide +kernel
set_option maxRecDepth 100000 in
set_option maxHeartbeats 4000000 in
/-- put -/
theorem c_X3_put {l : Launch} {D : va_G} {G : Nat → Nat} {Z : Nat → ClassId} {mn fl : Int32} {va gv : Int64} {tp ts tw tm : Int32} {lv sl kd pt : Nat → Int32} {he : Nat → Int64} {ct fr to rl pi ph ps : Nat → Int32} {pm : Nat → Int64} {b n sN st : Nat} (hn40 : n ≤ 40) (s_ r_ : Int32) : WrI l yX3_put wsX3_put (rk 3) D (mty Z) (mw G Z (nI b) mn (nI n) (nI sN) (nI st) fl va tp gv ts tw tm lv sl kd pt he ct fr to rl pi ph ps pm) [.ref (G 0), .int s_, .int r_] (σ := Nat → Int32) (fun u => mw G Z (nI b) mn (nI n) (nI sN) (nI st) fl va tp gv ts tw tm lv u kd pt he ct fr to rl pi ph ps pm) (fun r u => (r, u) = sp_put n sl s_ r_) 0 0 := by
  intro sz
  refine wrEnter (cc := cX3_put) (maxL := 4) (ret := (some .int)) (by decide) rfl (Nat.le_of_ble_eq_true rfl) ?_
  intro p e s m below meth c hx hb hr hml hown hts hlk hP hK hN hsz hD hS hA hin ls hl
  have hown : s.vm.findClass RX3 = some m.cls := hown
  have hl : lv_has ls 4 [(0, .ref (G 0)), (1, .int s_), (2, .int r_)] := hl
  refine lv_iload_n hx hb dX3_put_0 rfl (lv_at hl 1 rfl) ?_
  refine RoI.callS (As := [.int s_]) (rest := []) (c_X3_isSlot s_) ⟨hx, hb, hml, hown, hts⟩ (va_cwS 1 hts gX3_put_X3_isSlot rfl rfl rfl (by decide +kernel) ⟨by decide, by decide⟩) hP hK hN rfl hl.1 rfl (Nat.le_of_ble_eq_true rfl) dX3_put_1 ⟨Nat.le_of_ble_eq_true rfl, Nat.le_of_ble_eq_true rfl⟩ (fun r_1 hr_1 => ?_)
  refine lv_if_eq (tgt := 15) hx hb dX3_put_4 (by decide) (fun c_4 => ?_) (fun c_4 => ?_)
  · have b_4 : inB s_ 8 = false := bI_z (by rw [← hr_1]; exact c_4)
    refine lv_bipush (v := (-101)) hx hb dX3_put_15 (by decide) ?_
    exact wrI (sl) hx hb hr hlk dX3_put_17 hP hD hS (by rw [sp_put, if_neg (fun z => by rw [b_4] at z; exact absurd z.1 Bool.false_ne_true)])
  · have b_4 : inB s_ 8 = true := bI_n (by rw [← hr_1]; exact c_4)
    refine lv_aload_n hx hb dX3_put_7 rfl (lv_at hl 0 rfl) ?_
    refine lv_iload_n hx hb dX3_put_8 rfl (lv_at hl 2 rfl) ?_
    refine RoI.callV (As := [.int r_]) (rest := []) (c_X3_isPart hn40 r_) ⟨hx, hb, hml, hown, hts⟩ (cwV 1 hts gX3_put_X3_isPart rfl rfl rfl (by decide +kernel) ⟨by decide, by decide⟩) hP hK hN 0 3 rfl rfl rfl hl.1 rfl (Nat.le_of_ble_eq_true rfl) dX3_put_9 ⟨Nat.le_of_ble_eq_true rfl, Nat.le_of_ble_eq_true rfl⟩ (fun r_2 hr_2 => ?_)
    refine lv_if_ne (tgt := 18) hx hb dX3_put_12 (by decide) (fun c_12 => ?_) (fun c_12 => ?_)
    · have b_12 : ptB r_ n = true := bI_n (by rw [← hr_2]; exact c_12)
      refine lv_aload_n hx hb dX3_put_18 rfl (lv_at hl 0 rfl) ?_
      refine va_get (D := D) (ci := 3) (v := .ref (G 2)) (C := RX3) (T := TX3) (N := 25) hx hb hts iw_X3_put_X3 hown hK hP 0 rfl rfl 3 (by decide) (hts (.fieldLink RX3 17 "SluiceRulesModel" "slot" "[I") (by decide +kernel)) (fun _ h9 => h9) rfl dX3_put_19 ?_
      refine lv_iload_n hx hb dX3_put_22 rfl (lv_at hl 1 rfl) ?_
      refine va_iald hx hb hK hP 2 1 rfl rfl (inB_vp.mp (b_4)) dX3_put_23 ?_
      refine lv_istore_n (lv' := [(3, .int (sl s_.toNatClampNeg)), (0, .ref (G 0)), (1, .int s_), (2, .int r_)]) hx hb dX3_put_24 rfl hl (by decide) rfl (fun ls hl => ?_)
      refine lv_aload_n hx hb dX3_put_25 rfl (lv_at hl 1 rfl) ?_
      refine va_get (D := D) (ci := 3) (v := .ref (G 2)) (C := RX3) (T := TX3) (N := 25) hx hb hts iw_X3_put_X3 hown hK hP 0 rfl rfl 3 (by decide) (hts (.fieldLink RX3 17 "SluiceRulesModel" "slot" "[I") (by decide +kernel)) (fun _ h9 => h9) rfl dX3_put_26 ?_
      refine lv_iload_n hx hb dX3_put_29 rfl (lv_at hl 2 rfl) ?_
      refine lv_iload_n hx hb dX3_put_30 rfl (lv_at hl 3 rfl) ?_
      refine va_iast hx hb hK hP hD hS 2 1 rfl rfl (inB_vp.mp (b_4)) dX3_put_31 (fun H locs hP hD hS => ?_)
      have hP : va_P D vwCl (mw G Z (nI b) mn (nI n) (nI sN) (nI st) fl va tp gv ts tw tm lv (upd sl s_.toNatClampNeg r_) kd pt he ct fr to rl pi ph ps pm) H := hP
      have hD : va_D (va_A (mw G Z (nI b) mn (nI n) (nI sN) (nI st) fl va tp gv ts tw tm lv sl kd pt he ct fr to rl pi ph ps pm) sz) (mw G Z (nI b) mn (nI n) (nI sN) (nI st) fl va tp gv ts tw tm lv (upd sl s_.toNatClampNeg r_) kd pt he ct fr to rl pi ph ps pm) := hD
      refine lv_iload_n hx hb dX3_put_32 rfl (lv_at hl 0 rfl) ?_
      exact wrI (upd sl s_.toNatClampNeg r_) hx hb hr hlk dX3_put_33 hP hD hS (by rw [sp_put, if_pos ⟨b_4, b_12⟩])
    · have b_12 : ptB r_ n = false := bI_z (by rw [← hr_2]; exact c_12)
      refine lv_bipush (v := (-101)) hx hb dX3_put_15 (by decide) ?_
      exact wrI (sl) hx hb hr hlk dX3_put_17 hP hD hS (by rw [sp_put, if_neg (fun z => by rw [b_12] at z; exact absurd z.2 Bool.false_ne_true)])

theorem iw_X3_told_X3 : ∀ w ∈ u_ws RX3 TX3 25, w ∈ wsX3_told := by decide +kernel
set_option maxRecDepth 100000 in
set_option maxHeartbeats 4000000 in
/-- told -/
theorem c_X3_told {l : Launch} {D : va_G} {G : Nat → Nat} {Z : Nat → ClassId} {mn fl : Int32} {va gv : Int64} {tp ts tw tm : Int32} {lv sl kd pt : Nat → Int32} {he : Nat → Int64} {ct fr to rl pi ph ps : Nat → Int32} {pm : Nat → Int64} {b n sN st : Nat} (x : Int32) : RoI l yX3_told wsX3_told (rk 0) D (mty Z) (mw G Z (nI b) mn (nI n) (nI sN) (nI st) fl va tp gv ts tw tm lv sl kd pt he ct fr to rl pi ph ps pm) [.ref (G 0), .int x] (fun r => r = sp_told ts tw tm x) := by
  refine roEnter (cc := cX3_told) (maxL := 2) (ret := (some .int)) (by decide) rfl (Nat.le_of_ble_eq_true rfl) ?_
  intro p e s m below meth c hx hb hr hml hown hts hlk hP hK hN ls hl
  have hown : s.vm.findClass RX3 = some m.cls := hown
  have hl : lv_has ls 2 [(0, .ref (G 0)), (1, .int x)] := hl
  refine lv_iload_n hx hb dX3_told_0 rfl (lv_at hl 1 rfl) ?_
  refine lv_if_ne (tgt := 11) hx hb dX3_told_1 (by decide) (fun c_1 => ?_) (fun c_1 => ?_)
  · refine lv_iload_n hx hb dX3_told_11 rfl (lv_at hl 1 rfl) ?_
    refine lv_iconst (v := 1) hx hb dX3_told_12 (by decide) ?_
    refine lv_icmp_ne (tgt := 23) hx hb dX3_told_13 (by decide) (fun c_13 => ?_) (fun c_13 => ?_)
    · refine lv_iload_n hx hb dX3_told_23 rfl (lv_at hl 1 rfl) ?_
      refine lv_iconst (v := 2) hx hb dX3_told_24 (by decide) ?_
      refine lv_icmp_ne (tgt := 35) hx hb dX3_told_25 (by decide) (fun c_25 => ?_) (fun c_25 => ?_)
      · refine lv_bipush (v := (-101)) hx hb dX3_told_35 (by decide) ?_
        exact roI hx hb hr hlk dX3_told_37 (by rw [sp_told, if_neg c_1, if_neg c_13, if_neg c_25])
      · refine lv_aload_n hx hb dX3_told_28 rfl (lv_at hl 0 rfl) ?_
        refine va_get (D := D) (ci := 3) (v := .int tm) (C := RX3) (T := TX3) (N := 25) hx hb hts iw_X3_told_X3 hown hK hP 0 rfl rfl 24 (by decide) (hts (.fieldLink RX3 155 "SluiceRulesModel" "toldMuch" "I") (by decide +kernel)) (fun _ h9 => h9) rfl dX3_told_29 ?_
        refine lv_goto (tgt := 37) hx hb dX3_told_32 (by decide) ?_
        exact roI hx hb hr hlk dX3_told_37 (by rw [sp_told, if_neg c_1, if_neg c_13, if_pos c_25])
    · refine lv_aload_n hx hb dX3_told_16 rfl (lv_at hl 0 rfl) ?_
      refine va_get (D := D) (ci := 3) (v := .int tw) (C := RX3) (T := TX3) (N := 25) hx hb hts iw_X3_told_X3 hown hK hP 0 rfl rfl 23 (by decide) (hts (.fieldLink RX3 152 "SluiceRulesModel" "toldWhy" "I") (by decide +kernel)) (fun _ h9 => h9) rfl dX3_told_17 ?_
      refine lv_goto (tgt := 37) hx hb dX3_told_20 (by decide) ?_
      exact roI hx hb hr hlk dX3_told_37 (by rw [sp_told, if_neg c_1, if_pos c_13])
  · refine lv_aload_n hx hb dX3_told_4 rfl (lv_at hl 0 rfl) ?_
    refine va_get (D := D) (ci := 3) (v := .int ts) (C := RX3) (T := TX3) (N := 25) hx hb hts iw_X3_told_X3 hown hK hP 0 rfl rfl 22 (by decide) (hts (.fieldLink RX3 54 "SluiceRulesModel" "toldSluice" "I") (by decide +kernel)) (fun _ h9 => h9) rfl dX3_told_5 ?_
    refine lv_goto (tgt := 37) hx hb dX3_told_8 (by decide) ?_
    exact roI hx hb hr hlk dX3_told_37 (by rw [sp_told, if_pos c_1])

theorem iw_X3_level_X3 : ∀ w ∈ u_ws RX3 TX3 25, w ∈ wsX3_level := by decide +kernel
set_option maxRecDepth 100000 in
set_option maxHeartbeats 4000000 in
/-- level -/
theorem c_X3_level {l : Launch} {D : va_G} {G : Nat → Nat} {Z : Nat → ClassId} {mn fl : Int32} {va gv : Int64} {tp ts tw tm : Int32} {lv sl kd pt : Nat → Int32} {he : Nat → Int64} {ct fr to rl pi ph ps : Nat → Int32} {pm : Nat → Int64} {b n sN st : Nat} (hb8 : b ≤ 8) (x : Int32) : RoI l yX3_level wsX3_level (rk 2) D (mty Z) (mw G Z (nI b) mn (nI n) (nI sN) (nI st) fl va tp gv ts tw tm lv sl kd pt he ct fr to rl pi ph ps pm) [.ref (G 0), .int x] (fun r => r = sp_level b lv x) := by
  refine roEnter (cc := cX3_level) (maxL := 2) (ret := (some .int)) (by decide) rfl (Nat.le_of_ble_eq_true rfl) ?_
  intro p e s m below meth c hx hb hr hml hown hts hlk hP hK hN ls hl
  have hown : s.vm.findClass RX3 = some m.cls := hown
  have hl : lv_has ls 2 [(0, .ref (G 0)), (1, .int x)] := hl
  refine lv_aload_n hx hb dX3_level_0 rfl (lv_at hl 0 rfl) ?_
  refine lv_iload_n hx hb dX3_level_1 rfl (lv_at hl 1 rfl) ?_
  refine RoI.callV (As := [.int x]) (rest := []) (c_X3_isBasin hb8 x) ⟨hx, hb, hml, hown, hts⟩ (cwV 1 hts gX3_level_X3_isBasin rfl rfl rfl (by decide +kernel) ⟨by decide, by decide⟩) hP hK hN 0 3 rfl rfl rfl hl.1 rfl (Nat.le_of_ble_eq_true rfl) dX3_level_2 ⟨Nat.le_of_ble_eq_true rfl, Nat.le_of_ble_eq_true rfl⟩ (fun r_1 hr_1 => ?_)
  refine lv_if_eq (tgt := 17) hx hb dX3_level_5 (by decide) (fun c_5 => ?_) (fun c_5 => ?_)
  · have b_5 : inB x b = false := bI_z (by rw [← hr_1]; exact c_5)
    refine lv_bipush (v := (-101)) hx hb dX3_level_17 (by decide) ?_
    exact roI hx hb hr hlk dX3_level_19 (by rw [sp_level, if_neg (by rw [b_5]; exact Bool.false_ne_true)])
  · have b_5 : inB x b = true := bI_n (by rw [← hr_1]; exact c_5)
    refine lv_aload_n hx hb dX3_level_8 rfl (lv_at hl 0 rfl) ?_
    refine va_get (D := D) (ci := 3) (v := .ref (G 1)) (C := RX3) (T := TX3) (N := 25) hx hb hts iw_X3_level_X3 hown hK hP 0 rfl rfl 1 (by decide) (hts (.fieldLink RX3 7 "SluiceRulesModel" "levels" "[I") (by decide +kernel)) (fun _ h9 => h9) rfl dX3_level_9 ?_
    refine lv_iload_n hx hb dX3_level_12 rfl (lv_at hl 1 rfl) ?_
    refine va_iald hx hb hK hP 1 0 rfl rfl (inB_vp.mp (inB_up hb8 b_5)) dX3_level_13 ?_
    refine lv_goto (tgt := 19) hx hb dX3_level_14 (by decide) ?_
    exact roI hx hb hr hlk dX3_level_19 (by rw [sp_level, if_pos (by rw [b_5])])

theorem iw_X3_counted_X3 : ∀ w ∈ u_ws RX3 TX3 25, w ∈ wsX3_counted := by decide +kernel
set_option maxRecDepth 100000 in
set_option maxHeartbeats 4000000 in
/-- counted -/
theorem c_X3_counted {l : Launch} {D : va_G} {G : Nat → Nat} {Z : Nat → ClassId} {mn fl : Int32} {va gv : Int64} {tp ts tw tm : Int32} {lv sl kd pt : Nat → Int32} {he : Nat → Int64} {ct fr to rl pi ph ps : Nat → Int32} {pm : Nat → Int64} {b n sN st : Nat} (hn40 : n ≤ 40) (x : Int32) : RoI l yX3_counted wsX3_counted (rk 2) D (mty Z) (mw G Z (nI b) mn (nI n) (nI sN) (nI st) fl va tp gv ts tw tm lv sl kd pt he ct fr to rl pi ph ps pm) [.ref (G 0), .int x] (fun r => r = sp_counted n kd ct x) := by
  refine roEnter (cc := cX3_counted) (maxL := 2) (ret := (some .int)) (by decide) rfl (Nat.le_of_ble_eq_true rfl) ?_
  intro p e s m below meth c hx hb hr hml hown hts hlk hP hK hN ls hl
  have hown : s.vm.findClass RX3 = some m.cls := hown
  have hl : lv_has ls 2 [(0, .ref (G 0)), (1, .int x)] := hl
  refine lv_aload_n hx hb dX3_counted_0 rfl (lv_at hl 0 rfl) ?_
  refine lv_iload_n hx hb dX3_counted_1 rfl (lv_at hl 1 rfl) ?_
  refine RoI.callV (As := [.int x]) (rest := []) (c_X3_isRule hn40 x) ⟨hx, hb, hml, hown, hts⟩ (cwV 1 hts gX3_counted_X3_isRule rfl rfl rfl (by decide +kernel) ⟨by decide, by decide⟩) hP hK hN 0 3 rfl rfl rfl hl.1 rfl (Nat.le_of_ble_eq_true rfl) dX3_counted_2 ⟨Nat.le_of_ble_eq_true rfl, Nat.le_of_ble_eq_true rfl⟩ (fun r_1 hr_1 => ?_)
  refine lv_if_eq (tgt := 28) hx hb dX3_counted_5 (by decide) (fun c_5 => ?_) (fun c_5 => ?_)
  · have b_5 : inB x n = false := bI_z (by rw [← hr_1]; exact c_5)
    refine lv_bipush (v := (-101)) hx hb dX3_counted_28 (by decide) ?_
    exact roI hx hb hr hlk dX3_counted_30 (by rw [sp_counted, if_neg (fun z => by rw [b_5] at z; exact absurd z.1 Bool.false_ne_true)])
  · have b_5 : inB x n = true := bI_n (by rw [← hr_1]; exact c_5)
    refine lv_aload_n hx hb dX3_counted_8 rfl (lv_at hl 0 rfl) ?_
    refine va_get (D := D) (ci := 3) (v := .ref (G 3)) (C := RX3) (T := TX3) (N := 25) hx hb hts iw_X3_counted_X3 hown hK hP 0 rfl rfl 5 (by decide) (hts (.fieldLink RX3 20 "SluiceRulesModel" "kindOf" "[I") (by decide +kernel)) (fun _ h9 => h9) rfl dX3_counted_9 ?_
    refine lv_iload_n hx hb dX3_counted_12 rfl (lv_at hl 1 rfl) ?_
    refine va_iald hx hb hK hP 3 2 rfl rfl (inB_vp.mp (inB_up hn40 b_5)) dX3_counted_13 ?_
    refine lv_bipush (v := 13) hx hb dX3_counted_14 (by decide) ?_
    refine lv_icmp_ne (tgt := 28) hx hb dX3_counted_16 (by decide) (fun c_16 => ?_) (fun c_16 => ?_)
    · refine lv_bipush (v := (-101)) hx hb dX3_counted_28 (by decide) ?_
      exact roI hx hb hr hlk dX3_counted_30 (by rw [sp_counted, if_neg (fun z => c_16 z.2)])
    · refine lv_aload_n hx hb dX3_counted_19 rfl (lv_at hl 0 rfl) ?_
      refine va_get (D := D) (ci := 3) (v := .ref (G 6)) (C := RX3) (T := TX3) (N := 25) hx hb hts iw_X3_counted_X3 hown hK hP 0 rfl rfl 8 (by decide) (hts (.fieldLink RX3 30 "SluiceRulesModel" "counter" "[I") (by decide +kernel)) (fun _ h9 => h9) rfl dX3_counted_20 ?_
      refine lv_iload_n hx hb dX3_counted_23 rfl (lv_at hl 1 rfl) ?_
      refine va_iald hx hb hK hP 6 5 rfl rfl (inB_vp.mp (inB_up hn40 b_5)) dX3_counted_24 ?_
      refine lv_goto (tgt := 30) hx hb dX3_counted_25 (by decide) ?_
      exact roI hx hb hr hlk dX3_counted_30 (by rw [sp_counted, if_pos ⟨b_5, c_16⟩])

theorem iw_X3_count_X3 : ∀ w ∈ u_ws RX3 TX3 25, w ∈ wsX3_count := by decide +kernel
set_option maxRecDepth 100000 in
set_option maxHeartbeats 4000000 in
/-- count -/
theorem c_X3_count {l : Launch} {D : va_G} {G : Nat → Nat} {Z : Nat → ClassId} {mn fl : Int32} {va gv : Int64} {tp ts tw tm : Int32} {lv sl kd pt : Nat → Int32} {he : Nat → Int64} {ct fr to rl pi ph ps : Nat → Int32} {pm : Nat → Int64} {b n sN st : Nat} (x : Int32) : RoI l yX3_count wsX3_count (rk 1) D (mty Z) (mw G Z (nI b) mn (nI n) (nI sN) (nI st) fl va tp gv ts tw tm lv sl kd pt he ct fr to rl pi ph ps pm) [.ref (G 0), .int x] (fun r => r = sp_count b n sN st sl x) := by
  refine roEnter (cc := cX3_count) (maxL := 2) (ret := (some .int)) (by decide) rfl (Nat.le_of_ble_eq_true rfl) ?_
  intro p e s m below meth c hx hb hr hml hown hts hlk hP hK hN ls hl
  have hown : s.vm.findClass RX3 = some m.cls := hown
  have hl : lv_has ls 2 [(0, .ref (G 0)), (1, .int x)] := hl
  refine lv_iload_n hx hb dX3_count_0 rfl (lv_at hl 1 rfl) ?_
  refine lv_bipush (v := 8) hx hb dX3_count_1 (by decide) ?_
  refine lv_bipush (v := 15) hx hb dX3_count_3 (by decide) ?_
  refine RoI.callS (As := [.int x, .int 8, .int 15]) (rest := []) (c_X3_in x 8 15) ⟨hx, hb, hml, hown, hts⟩ (va_cwS 3 hts gX3_count_X3_in rfl rfl rfl (by decide +kernel) ⟨by decide, by decide⟩) hP hK hN rfl hl.1 rfl (Nat.le_of_ble_eq_true rfl) dX3_count_5 ⟨Nat.le_of_ble_eq_true rfl, Nat.le_of_ble_eq_true rfl⟩ (fun r_1 hr_1 => ?_)
  refine lv_if_eq (tgt := 21) hx hb dX3_count_8 (by decide) (fun c_8 => ?_) (fun c_8 => ?_)
  · have b_8 : rgB x 8 15 = false := bI_z (by rw [← hr_1]; exact c_8)
    refine lv_iload_n hx hb dX3_count_21 rfl (lv_at hl 1 rfl) ?_
    refine lv_if_ne (tgt := 32) hx hb dX3_count_22 (by decide) (fun c_22 => ?_) (fun c_22 => ?_)
    · refine lv_iload_n hx hb dX3_count_32 rfl (lv_at hl 1 rfl) ?_
      refine lv_iconst (v := 1) hx hb dX3_count_33 (by decide) ?_
      refine lv_icmp_ne (tgt := 44) hx hb dX3_count_34 (by decide) (fun c_34 => ?_) (fun c_34 => ?_)
      · refine lv_iload_n hx hb dX3_count_44 rfl (lv_at hl 1 rfl) ?_
        refine lv_iconst (v := 2) hx hb dX3_count_45 (by decide) ?_
        refine lv_icmp_ne (tgt := 56) hx hb dX3_count_46 (by decide) (fun c_46 => ?_) (fun c_46 => ?_)
        · refine lv_iload_n hx hb dX3_count_56 rfl (lv_at hl 1 rfl) ?_
          refine lv_iconst (v := 3) hx hb dX3_count_57 (by decide) ?_
          refine lv_icmp_ne (tgt := 68) hx hb dX3_count_58 (by decide) (fun c_58 => ?_) (fun c_58 => ?_)
          · refine lv_bipush (v := (-101)) hx hb dX3_count_68 (by decide) ?_
            exact roI hx hb hr hlk dX3_count_70 (by rw [sp_count, if_neg (by rw [← rg_815, b_8]; exact Bool.false_ne_true), if_neg c_22, if_neg c_34, if_neg c_46, if_neg c_58])
          · refine lv_aload_n hx hb dX3_count_61 rfl (lv_at hl 0 rfl) ?_
            refine va_get (D := D) (ci := 3) (v := .int (nI st)) (C := RX3) (T := TX3) (N := 25) hx hb hts iw_X3_count_X3 hown hK hP 0 rfl rfl 13 (by decide) (hts (.fieldLink RX3 96 "SluiceRulesModel" "steps" "I") (by decide +kernel)) (fun _ h9 => h9) rfl dX3_count_62 ?_
            refine lv_goto (tgt := 70) hx hb dX3_count_65 (by decide) ?_
            exact roI hx hb hr hlk dX3_count_70 (by rw [sp_count, if_neg (by rw [← rg_815, b_8]; exact Bool.false_ne_true), if_neg c_22, if_neg c_34, if_neg c_46, if_pos c_58])
        · refine lv_aload_n hx hb dX3_count_49 rfl (lv_at hl 0 rfl) ?_
          refine va_get (D := D) (ci := 3) (v := .int (nI sN)) (C := RX3) (T := TX3) (N := 25) hx hb hts iw_X3_count_X3 hown hK hP 0 rfl rfl 9 (by decide) (hts (.fieldLink RX3 149 "SluiceRulesModel" "sluices" "I") (by decide +kernel)) (fun _ h9 => h9) rfl dX3_count_50 ?_
          refine lv_goto (tgt := 70) hx hb dX3_count_53 (by decide) ?_
          exact roI hx hb hr hlk dX3_count_70 (by rw [sp_count, if_neg (by rw [← rg_815, b_8]; exact Bool.false_ne_true), if_neg c_22, if_neg c_34, if_pos c_46])
      · refine lv_aload_n hx hb dX3_count_37 rfl (lv_at hl 0 rfl) ?_
        refine va_get (D := D) (ci := 3) (v := .int (nI n)) (C := RX3) (T := TX3) (N := 25) hx hb hts iw_X3_count_X3 hown hK hP 0 rfl rfl 4 (by decide) (hts (.fieldLink RX3 64 "SluiceRulesModel" "rules" "I") (by decide +kernel)) (fun _ h9 => h9) rfl dX3_count_38 ?_
        refine lv_goto (tgt := 70) hx hb dX3_count_41 (by decide) ?_
        exact roI hx hb hr hlk dX3_count_70 (by rw [sp_count, if_neg (by rw [← rg_815, b_8]; exact Bool.false_ne_true), if_neg c_22, if_pos c_34])
    · refine lv_aload_n hx hb dX3_count_25 rfl (lv_at hl 0 rfl) ?_
      refine va_get (D := D) (ci := 3) (v := .int (nI b)) (C := RX3) (T := TX3) (N := 25) hx hb hts iw_X3_count_X3 hown hK hP 0 rfl rfl 0 (by decide) (hts (.fieldLink RX3 57 "SluiceRulesModel" "basins" "I") (by decide +kernel)) (fun _ h9 => h9) rfl dX3_count_26 ?_
      refine lv_goto (tgt := 70) hx hb dX3_count_29 (by decide) ?_
      exact roI hx hb hr hlk dX3_count_70 (by rw [sp_count, if_neg (by rw [← rg_815, b_8]; exact Bool.false_ne_true), if_pos c_22])
  · have b_8 : rgB x 8 15 = true := bI_n (by rw [← hr_1]; exact c_8)
    have b_q : inB (x - 8) 8 = true := by rw [← rg_815, b_8]
    refine lv_aload_n hx hb dX3_count_11 rfl (lv_at hl 0 rfl) ?_
    refine va_get (D := D) (ci := 3) (v := .ref (G 2)) (C := RX3) (T := TX3) (N := 25) hx hb hts iw_X3_count_X3 hown hK hP 0 rfl rfl 3 (by decide) (hts (.fieldLink RX3 17 "SluiceRulesModel" "slot" "[I") (by decide +kernel)) (fun _ h9 => h9) rfl dX3_count_12 ?_
    refine lv_iload_n hx hb dX3_count_15 rfl (lv_at hl 1 rfl) ?_
    refine lv_bipush (v := 8) hx hb dX3_count_16 (by decide) ?_
    refine lv_isub hx hb dX3_count_18 ?_
    refine va_iald hx hb hK hP 2 1 rfl rfl (inB_vp.mp (b_q)) dX3_count_19 ?_
    exact roI hx hb hr hlk dX3_count_20 (by rw [sp_count, if_pos b_q])

theorem iw_X3_given_X3 : ∀ w ∈ u_ws RX3 TX3 25, w ∈ wsX3_given := by decide +kernel
set_option maxRecDepth 100000 in
set_option maxHeartbeats 4000000 in
/-- given -/
theorem c_X3_given {l : Launch} {D : va_G} {G : Nat → Nat} {Z : Nat → ClassId} {mn fl : Int32} {va gv : Int64} {tp ts tw tm : Int32} {lv sl kd pt : Nat → Int32} {he : Nat → Int64} {ct fr to rl pi ph ps : Nat → Int32} {pm : Nat → Int64} {b n sN st : Nat} : RoL l yX3_given wsX3_given (rk 0) D (mty Z) (mw G Z (nI b) mn (nI n) (nI sN) (nI st) fl va tp gv ts tw tm lv sl kd pt he ct fr to rl pi ph ps pm) [.ref (G 0)] (fun r => r = gv) := by
  refine roEnter (cc := cX3_given) (maxL := 1) (ret := (some .long)) (by decide) rfl (Nat.le_of_ble_eq_true rfl) ?_
  intro p e s m below meth c hx hb hr hml hown hts hlk hP hK hN ls hl
  have hown : s.vm.findClass RX3 = some m.cls := hown
  have hl : lv_has ls 1 [(0, .ref (G 0))] := hl
  refine lv_aload_n hx hb dX3_given_0 rfl (lv_at hl 0 rfl) ?_
  refine va_get (D := D) (ci := 3) (v := .long gv) (C := RX3) (T := TX3) (N := 25) hx hb hts iw_X3_given_X3 hown hK hP 0 rfl rfl 21 (by decide) (hts (.fieldLink RX3 146 "SluiceRulesModel" "given" "J") (by decide +kernel)) (fun _ h9 => h9) rfl dX3_given_1 ?_
  exact roL hx hb hr hlk dX3_given_4 rfl

theorem knB_dflt {b n : Nat} {kd : Nat → Int32} {k a bb c : Int32} (h1 : ¬ k = 1) (h4 : ¬ (k = 4 ∨ k = 5 ∨ k = 6 ∨ k = 7)) (h8 : ¬ (k = 8 ∨ k = 10 ∨ k = 11 ∨ k = 12 ∨ k = 13)) (h9 : ¬ k = 9) (h14 : ¬ k = 14) (h15 : ¬ k = 15) (h16 : ¬ k = 16) : bI (rgB k 0 16) = bI (knB b n kd k a bb c) := by
  unfold knB
  by_cases h0 : k = 0 ∨ k = 2 ∨ k = 3
  · rw [if_pos h0]; rcases h0 with z | z | z <;> rw [z] <;> rfl
  · rw [if_neg h0, if_neg h1, if_neg h4, if_neg h9, if_neg h8, if_neg h14, if_neg h15, if_neg h16]
    congr 1
    rw [rg_k (n := 17) (by decide)]
    by_cases q : inB k 17 = true
    · obtain ⟨j, hj, e⟩ := inB_of q (by decide)
      rw [e] at h0 h1 h4 h8 h9 h14 h15 h16
      exfalso
      have key : ∀ j : Nat, j < 17 → (nI j = 0 ∨ nI j = 2 ∨ nI j = 3) ∨ nI j = 1 ∨ (nI j = 4 ∨ nI j = 5 ∨ nI j = 6 ∨ nI j = 7) ∨ (nI j = 8 ∨ nI j = 10 ∨ nI j = 11 ∨ nI j = 12 ∨ nI j = 13) ∨ nI j = 9 ∨ nI j = 14 ∨ nI j = 15 ∨ nI j = 16 := by decide
      rcases key j hj with z | z | z | z | z | z | z | z
      · exact h0 z
      · exact h1 z
      · exact h4 z
      · exact h8 z
      · exact h9 z
      · exact h14 z
      · exact h15 z
      · exact h16 z
    · simpa using q

theorem iw_X3_areKnown_X3 : ∀ w ∈ u_ws RX3 TX3 25, w ∈ wsX3_areKnown := by decide +kernel
set_option maxRecDepth 100000 in
set_option maxHeartbeats 4000000 in
/-- areKnown -/
theorem c_X3_areKnown {l : Launch} {D : va_G} {G : Nat → Nat} {Z : Nat → ClassId} {mn fl : Int32} {va gv : Int64} {tp ts tw tm : Int32} {lv sl kd pt : Nat → Int32} {he : Nat → Int64} {ct fr to rl pi ph ps : Nat → Int32} {pm : Nat → Int64} {b n sN st : Nat} (hn40 : n ≤ 40) (hb8 : b ≤ 8) (k_ a_ b_ c_ : Int32) : RoI l yX3_areKnown wsX3_areKnown (rk 3) D (mty Z) (mw G Z (nI b) mn (nI n) (nI sN) (nI st) fl va tp gv ts tw tm lv sl kd pt he ct fr to rl pi ph ps pm) [.ref (G 0), .int k_, .int a_, .int b_, .int c_] (fun r => r = bI (knB b n kd k_ a_ b_ c_)) := by
  refine roEnter (cc := cX3_areKnown) (maxL := 5) (ret := (some .boolean)) (by decide) rfl (Nat.le_of_ble_eq_true rfl) ?_
  intro p e s m below meth c hx hb hr hml hown hts hlk hP hK hN ls hl
  have hown : s.vm.findClass RX3 = some m.cls := hown
  have hl : lv_has ls 5 [(0, .ref (G 0)), (1, .int k_), (2, .int a_), (3, .int b_), (4, .int c_)] := hl
  refine lv_iload_n hx hb dX3_areKnown_0 rfl (lv_at hl 1 rfl) ?_
  by_cases k_1_1 : k_ = 1
  · refine lv_tableIn (off := 79) (tgt := 80) hx hb dX3_areKnown_1 (by rw [k_1_1]; decide) (by rw [k_1_1]; decide) (by rw [k_1_1]; rfl) (by decide) ?_
    refine lv_aload_n hx hb dX3_areKnown_80 rfl (lv_at hl 0 rfl) ?_
    refine lv_iload_n hx hb dX3_areKnown_81 rfl (lv_at hl 2 rfl) ?_
    refine RoI.callV (As := [.int a_]) (rest := []) (c_X3_isBasin hb8 a_) ⟨hx, hb, hml, hown, hts⟩ (cwV 1 hts gX3_areKnown_X3_isBasin rfl rfl rfl (by decide +kernel) ⟨by decide, by decide⟩) hP hK hN 0 3 rfl rfl rfl hl.1 rfl (Nat.le_of_ble_eq_true rfl) dX3_areKnown_82 ⟨Nat.le_of_ble_eq_true rfl, Nat.le_of_ble_eq_true rfl⟩ (fun r_1 hr_1 => ?_)
    exact roZ hx hb hr hlk dX3_areKnown_85 (by rw [hr_1]; exact bI_nar _) (by rw [k_1_1]; rw [hr_1]; simp [knB])
  by_cases k_1_4 : k_ = 4 ∨ k_ = 5 ∨ k_ = 6 ∨ k_ = 7
  · refine lv_tableIn (off := 85) (tgt := 86) hx hb dX3_areKnown_1 (by rcases k_1_4 with z | z | z | z <;> rw [z] <;> decide) (by rcases k_1_4 with z | z | z | z <;> rw [z] <;> decide) (by rcases k_1_4 with z | z | z | z <;> rw [z] <;> rfl) (by decide) ?_
    refine lv_aload_n hx hb dX3_areKnown_86 rfl (lv_at hl 0 rfl) ?_
    refine lv_iload_n hx hb dX3_areKnown_87 rfl (lv_at hl 2 rfl) ?_
    refine RoI.callV (As := [.int a_]) (rest := []) (c_X3_isPart hn40 a_) ⟨hx, hb, hml, hown, hts⟩ (cwV 1 hts gX3_areKnown_X3_isPart rfl rfl rfl (by decide +kernel) ⟨by decide, by decide⟩) hP hK hN 0 3 rfl rfl rfl hl.1 rfl (Nat.le_of_ble_eq_true rfl) dX3_areKnown_88 ⟨Nat.le_of_ble_eq_true rfl, Nat.le_of_ble_eq_true rfl⟩ (fun r_2 hr_2 => ?_)
    refine lv_if_eq (tgt := 106) hx hb dX3_areKnown_91 (by decide) (fun c_91 => ?_) (fun c_91 => ?_)
    · have b_91 : ptB a_ n = false := bI_z (by rw [← hr_2]; exact c_91)
      refine lv_iconst (v := 0) hx hb dX3_areKnown_106 (by decide) ?_
      exact roZ hx hb hr hlk dX3_areKnown_107 (nar0) (by rcases k_1_4 with z | z | z | z <;> rw [z] <;> simp [knB, bI, b_91])
    · have b_91 : ptB a_ n = true := bI_n (by rw [← hr_2]; exact c_91)
      refine lv_aload_n hx hb dX3_areKnown_94 rfl (lv_at hl 0 rfl) ?_
      refine lv_iload_n hx hb dX3_areKnown_95 rfl (lv_at hl 3 rfl) ?_
      refine RoI.callV (As := [.int b_]) (rest := []) (c_X3_isPart hn40 b_) ⟨hx, hb, hml, hown, hts⟩ (cwV 1 hts gX3_areKnown_X3_isPart rfl rfl rfl (by decide +kernel) ⟨by decide, by decide⟩) hP hK hN 0 3 rfl rfl rfl hl.1 rfl (Nat.le_of_ble_eq_true rfl) dX3_areKnown_96 ⟨Nat.le_of_ble_eq_true rfl, Nat.le_of_ble_eq_true rfl⟩ (fun r_3 hr_3 => ?_)
      refine lv_if_eq (tgt := 106) hx hb dX3_areKnown_99 (by decide) (fun c_99 => ?_) (fun c_99 => ?_)
      · have b_99 : ptB b_ n = false := bI_z (by rw [← hr_3]; exact c_99)
        refine lv_iconst (v := 0) hx hb dX3_areKnown_106 (by decide) ?_
        exact roZ hx hb hr hlk dX3_areKnown_107 (nar0) (by rcases k_1_4 with z | z | z | z <;> rw [z] <;> simp [knB, bI, b_91, b_99])
      · have b_99 : ptB b_ n = true := bI_n (by rw [← hr_3]; exact c_99)
        refine lv_iconst (v := 1) hx hb dX3_areKnown_102 (by decide) ?_
        refine lv_goto (tgt := 107) hx hb dX3_areKnown_103 (by decide) ?_
        exact roZ hx hb hr hlk dX3_areKnown_107 (nar1) (by rcases k_1_4 with z | z | z | z <;> rw [z] <;> simp [knB, bI, b_91, b_99])
  by_cases k_1_8 : k_ = 8 ∨ k_ = 10 ∨ k_ = 11 ∨ k_ = 12 ∨ k_ = 13
  · refine lv_tableIn (off := 138) (tgt := 139) hx hb dX3_areKnown_1 (by rcases k_1_8 with z | z | z | z | z <;> rw [z] <;> decide) (by rcases k_1_8 with z | z | z | z | z <;> rw [z] <;> decide) (by rcases k_1_8 with z | z | z | z | z <;> rw [z] <;> rfl) (by decide) ?_
    refine lv_aload_n hx hb dX3_areKnown_139 rfl (lv_at hl 0 rfl) ?_
    refine lv_iload_n hx hb dX3_areKnown_140 rfl (lv_at hl 2 rfl) ?_
    refine RoI.callV (As := [.int a_]) (rest := []) (c_X3_isPart hn40 a_) ⟨hx, hb, hml, hown, hts⟩ (cwV 1 hts gX3_areKnown_X3_isPart rfl rfl rfl (by decide +kernel) ⟨by decide, by decide⟩) hP hK hN 0 3 rfl rfl rfl hl.1 rfl (Nat.le_of_ble_eq_true rfl) dX3_areKnown_141 ⟨Nat.le_of_ble_eq_true rfl, Nat.le_of_ble_eq_true rfl⟩ (fun r_4 hr_4 => ?_)
    exact roZ hx hb hr hlk dX3_areKnown_144 (by rw [hr_4]; exact bI_nar _) (by rcases k_1_8 with z | z | z | z | z <;> rw [z] <;> rw [hr_4] <;> simp [knB])
  by_cases k_1_9 : k_ = 9
  · refine lv_tableIn (off := 107) (tgt := 108) hx hb dX3_areKnown_1 (by rw [k_1_9]; decide) (by rw [k_1_9]; decide) (by rw [k_1_9]; rfl) (by decide) ?_
    refine lv_aload_n hx hb dX3_areKnown_108 rfl (lv_at hl 0 rfl) ?_
    refine lv_iload_n hx hb dX3_areKnown_109 rfl (lv_at hl 2 rfl) ?_
    refine RoI.callV (As := [.int a_]) (rest := []) (c_X3_isPart hn40 a_) ⟨hx, hb, hml, hown, hts⟩ (cwV 1 hts gX3_areKnown_X3_isPart rfl rfl rfl (by decide +kernel) ⟨by decide, by decide⟩) hP hK hN 0 3 rfl rfl rfl hl.1 rfl (Nat.le_of_ble_eq_true rfl) dX3_areKnown_110 ⟨Nat.le_of_ble_eq_true rfl, Nat.le_of_ble_eq_true rfl⟩ (fun r_5 hr_5 => ?_)
    refine lv_if_eq (tgt := 137) hx hb dX3_areKnown_113 (by decide) (fun c_113 => ?_) (fun c_113 => ?_)
    · have b_113 : ptB a_ n = false := bI_z (by rw [← hr_5]; exact c_113)
      refine lv_iconst (v := 0) hx hb dX3_areKnown_137 (by decide) ?_
      exact roZ hx hb hr hlk dX3_areKnown_138 (nar0) (by rw [k_1_9]; simp [knB, bI, b_113])
    · have b_113 : ptB a_ n = true := bI_n (by rw [← hr_5]; exact c_113)
      refine lv_aload_n hx hb dX3_areKnown_116 rfl (lv_at hl 0 rfl) ?_
      refine lv_iload_n hx hb dX3_areKnown_117 rfl (lv_at hl 3 rfl) ?_
      refine RoI.callV (As := [.int b_]) (rest := []) (c_X3_isPart hn40 b_) ⟨hx, hb, hml, hown, hts⟩ (cwV 1 hts gX3_areKnown_X3_isPart rfl rfl rfl (by decide +kernel) ⟨by decide, by decide⟩) hP hK hN 0 3 rfl rfl rfl hl.1 rfl (Nat.le_of_ble_eq_true rfl) dX3_areKnown_118 ⟨Nat.le_of_ble_eq_true rfl, Nat.le_of_ble_eq_true rfl⟩ (fun r_6 hr_6 => ?_)
      refine lv_if_eq (tgt := 137) hx hb dX3_areKnown_121 (by decide) (fun c_121 => ?_) (fun c_121 => ?_)
      · have b_121 : ptB b_ n = false := bI_z (by rw [← hr_6]; exact c_121)
        refine lv_iconst (v := 0) hx hb dX3_areKnown_137 (by decide) ?_
        exact roZ hx hb hr hlk dX3_areKnown_138 (nar0) (by rw [k_1_9]; simp [knB, bI, b_113, b_121])
      · have b_121 : ptB b_ n = true := bI_n (by rw [← hr_6]; exact c_121)
        refine lv_aload_n hx hb dX3_areKnown_124 rfl (lv_at hl 0 rfl) ?_
        refine lv_iload hx hb dX3_areKnown_125 (lv_at hl 4 rfl) ?_
        refine RoI.callV (As := [.int c_]) (rest := []) (c_X3_isPart hn40 c_) ⟨hx, hb, hml, hown, hts⟩ (cwV 1 hts gX3_areKnown_X3_isPart rfl rfl rfl (by decide +kernel) ⟨by decide, by decide⟩) hP hK hN 0 3 rfl rfl rfl hl.1 rfl (Nat.le_of_ble_eq_true rfl) dX3_areKnown_127 ⟨Nat.le_of_ble_eq_true rfl, Nat.le_of_ble_eq_true rfl⟩ (fun r_7 hr_7 => ?_)
        refine lv_if_eq (tgt := 137) hx hb dX3_areKnown_130 (by decide) (fun c_130 => ?_) (fun c_130 => ?_)
        · have b_130 : ptB c_ n = false := bI_z (by rw [← hr_7]; exact c_130)
          refine lv_iconst (v := 0) hx hb dX3_areKnown_137 (by decide) ?_
          exact roZ hx hb hr hlk dX3_areKnown_138 (nar0) (by rw [k_1_9]; simp [knB, bI, b_113, b_121, b_130])
        · have b_130 : ptB c_ n = true := bI_n (by rw [← hr_7]; exact c_130)
          refine lv_iconst (v := 1) hx hb dX3_areKnown_133 (by decide) ?_
          refine lv_goto (tgt := 138) hx hb dX3_areKnown_134 (by decide) ?_
          exact roZ hx hb hr hlk dX3_areKnown_138 (nar1) (by rw [k_1_9]; simp [knB, bI, b_113, b_121, b_130])
  by_cases k_1_14 : k_ = 14
  · refine lv_tableIn (off := 144) (tgt := 145) hx hb dX3_areKnown_1 (by rw [k_1_14]; decide) (by rw [k_1_14]; decide) (by rw [k_1_14]; rfl) (by decide) ?_
    refine lv_aload_n hx hb dX3_areKnown_145 rfl (lv_at hl 0 rfl) ?_
    refine lv_iload_n hx hb dX3_areKnown_146 rfl (lv_at hl 2 rfl) ?_
    refine RoI.callV (As := [.int a_]) (rest := []) (c_X3_isRule hn40 a_) ⟨hx, hb, hml, hown, hts⟩ (cwV 1 hts gX3_areKnown_X3_isRule rfl rfl rfl (by decide +kernel) ⟨by decide, by decide⟩) hP hK hN 0 3 rfl rfl rfl hl.1 rfl (Nat.le_of_ble_eq_true rfl) dX3_areKnown_147 ⟨Nat.le_of_ble_eq_true rfl, Nat.le_of_ble_eq_true rfl⟩ (fun r_8 hr_8 => ?_)
    refine lv_if_eq (tgt := 168) hx hb dX3_areKnown_150 (by decide) (fun c_150 => ?_) (fun c_150 => ?_)
    · have b_150 : inB a_ n = false := bI_z (by rw [← hr_8]; exact c_150)
      refine lv_iconst (v := 0) hx hb dX3_areKnown_168 (by decide) ?_
      exact roZ hx hb hr hlk dX3_areKnown_169 (nar0) (by rw [k_1_14]; simp [knB, bI, b_150])
    · have b_150 : inB a_ n = true := bI_n (by rw [← hr_8]; exact c_150)
      refine lv_aload_n hx hb dX3_areKnown_153 rfl (lv_at hl 0 rfl) ?_
      refine va_get (D := D) (ci := 3) (v := .ref (G 3)) (C := RX3) (T := TX3) (N := 25) hx hb hts iw_X3_areKnown_X3 hown hK hP 0 rfl rfl 5 (by decide) (hts (.fieldLink RX3 20 "SluiceRulesModel" "kindOf" "[I") (by decide +kernel)) (fun _ h9 => h9) rfl dX3_areKnown_154 ?_
      refine lv_iload_n hx hb dX3_areKnown_157 rfl (lv_at hl 2 rfl) ?_
      refine va_iald hx hb hK hP 3 2 rfl rfl (inB_vp.mp (inB_up hn40 b_150)) dX3_areKnown_158 ?_
      refine lv_bipush (v := 13) hx hb dX3_areKnown_159 (by decide) ?_
      refine lv_icmp_ne (tgt := 168) hx hb dX3_areKnown_161 (by decide) (fun c_161 => ?_) (fun c_161 => ?_)
      · refine lv_iconst (v := 0) hx hb dX3_areKnown_168 (by decide) ?_
        exact roZ hx hb hr hlk dX3_areKnown_169 (nar0) (by rw [k_1_14]; simp [knB, bI, b_150, c_161])
      · refine lv_iconst (v := 1) hx hb dX3_areKnown_164 (by decide) ?_
        refine lv_goto (tgt := 169) hx hb dX3_areKnown_165 (by decide) ?_
        exact roZ hx hb hr hlk dX3_areKnown_169 (nar1) (by rw [k_1_14]; simp [knB, bI, b_150, c_161])
  by_cases k_1_15 : k_ = 15
  · refine lv_tableIn (off := 169) (tgt := 170) hx hb dX3_areKnown_1 (by rw [k_1_15]; decide) (by rw [k_1_15]; decide) (by rw [k_1_15]; rfl) (by decide) ?_
    refine lv_iload_n hx hb dX3_areKnown_170 rfl (lv_at hl 2 rfl) ?_
    refine RoI.callS (As := [.int a_]) (rest := []) (c_X3_isSlot a_) ⟨hx, hb, hml, hown, hts⟩ (va_cwS 1 hts gX3_areKnown_X3_isSlot rfl rfl rfl (by decide +kernel) ⟨by decide, by decide⟩) hP hK hN rfl hl.1 rfl (Nat.le_of_ble_eq_true rfl) dX3_areKnown_171 ⟨Nat.le_of_ble_eq_true rfl, Nat.le_of_ble_eq_true rfl⟩ (fun r_9 hr_9 => ?_)
    exact roZ hx hb hr hlk dX3_areKnown_174 (by rw [hr_9]; exact bI_nar _) (by rw [k_1_15]; rw [hr_9]; simp [knB])
  by_cases k_1_16 : k_ = 16
  · refine lv_tableIn (off := 174) (tgt := 175) hx hb dX3_areKnown_1 (by rw [k_1_16]; decide) (by rw [k_1_16]; decide) (by rw [k_1_16]; rfl) (by decide) ?_
    refine lv_iload_n hx hb dX3_areKnown_175 rfl (lv_at hl 2 rfl) ?_
    refine RoI.callS (As := [.int a_]) (rest := []) (c_X3_isSlot a_) ⟨hx, hb, hml, hown, hts⟩ (va_cwS 1 hts gX3_areKnown_X3_isSlot rfl rfl rfl (by decide +kernel) ⟨by decide, by decide⟩) hP hK hN rfl hl.1 rfl (Nat.le_of_ble_eq_true rfl) dX3_areKnown_176 ⟨Nat.le_of_ble_eq_true rfl, Nat.le_of_ble_eq_true rfl⟩ (fun r_10 hr_10 => ?_)
    refine lv_if_eq (tgt := 193) hx hb dX3_areKnown_179 (by decide) (fun c_179 => ?_) (fun c_179 => ?_)
    · have b_179 : inB a_ 8 = false := bI_z (by rw [← hr_10]; exact c_179)
      refine lv_iconst (v := 0) hx hb dX3_areKnown_193 (by decide) ?_
      exact roZ hx hb hr hlk dX3_areKnown_194 (nar0) (by rw [k_1_16]; simp [knB, bI, b_179])
    · have b_179 : inB a_ 8 = true := bI_n (by rw [← hr_10]; exact c_179)
      refine lv_iload_n hx hb dX3_areKnown_182 rfl (lv_at hl 3 rfl) ?_
      refine RoI.callS (As := [.int b_]) (rest := []) (c_X3_isSlot b_) ⟨hx, hb, hml, hown, hts⟩ (va_cwS 1 hts gX3_areKnown_X3_isSlot rfl rfl rfl (by decide +kernel) ⟨by decide, by decide⟩) hP hK hN rfl hl.1 rfl (Nat.le_of_ble_eq_true rfl) dX3_areKnown_183 ⟨Nat.le_of_ble_eq_true rfl, Nat.le_of_ble_eq_true rfl⟩ (fun r_11 hr_11 => ?_)
      refine lv_if_eq (tgt := 193) hx hb dX3_areKnown_186 (by decide) (fun c_186 => ?_) (fun c_186 => ?_)
      · have b_186 : inB b_ 8 = false := bI_z (by rw [← hr_11]; exact c_186)
        refine lv_iconst (v := 0) hx hb dX3_areKnown_193 (by decide) ?_
        exact roZ hx hb hr hlk dX3_areKnown_194 (nar0) (by rw [k_1_16]; simp [knB, bI, b_179, b_186])
      · have b_186 : inB b_ 8 = true := bI_n (by rw [← hr_11]; exact c_186)
        refine lv_iconst (v := 1) hx hb dX3_areKnown_189 (by decide) ?_
        refine lv_goto (tgt := 194) hx hb dX3_areKnown_190 (by decide) ?_
        exact roZ hx hb hr hlk dX3_areKnown_194 (nar1) (by rw [k_1_16]; simp [knB, bI, b_179, b_186])
  · have z_1 : ¬ k_.toInt = 1 ∧ ¬ k_.toInt = 4 ∧ ¬ k_.toInt = 5 ∧ ¬ k_.toInt = 6 ∧ ¬ k_.toInt = 7 ∧ ¬ k_.toInt = 8 ∧ ¬ k_.toInt = 9 ∧ ¬ k_.toInt = 10 ∧ ¬ k_.toInt = 11 ∧ ¬ k_.toInt = 12 ∧ ¬ k_.toInt = 13 ∧ ¬ k_.toInt = 14 ∧ ¬ k_.toInt = 15 ∧ ¬ k_.toInt = 16 := by
      exact ⟨lv_neT k_1_1 (by decide), lv_neT (k := 4) (fun z => k_1_4 (by simp [z])) (by decide), lv_neT (k := 5) (fun z => k_1_4 (by simp [z])) (by decide), lv_neT (k := 6) (fun z => k_1_4 (by simp [z])) (by decide), lv_neT (k := 7) (fun z => k_1_4 (by simp [z])) (by decide), lv_neT (k := 8) (fun z => k_1_8 (by simp [z])) (by decide), lv_neT k_1_9 (by decide), lv_neT (k := 10) (fun z => k_1_8 (by simp [z])) (by decide), lv_neT (k := 11) (fun z => k_1_8 (by simp [z])) (by decide), lv_neT (k := 12) (fun z => k_1_8 (by simp [z])) (by decide), lv_neT (k := 13) (fun z => k_1_8 (by simp [z])) (by decide), lv_neT k_1_14 (by decide), lv_neT k_1_15 (by decide), lv_neT k_1_16 (by decide)⟩
    by_cases zo_1 : k_.toInt < 1 ∨ 16 < k_.toInt
    · refine lv_tableOut (tgt := 195) hx hb dX3_areKnown_1 zo_1 (by decide) ?_
      refine lv_iload_n hx hb dX3_areKnown_195 rfl (lv_at hl 1 rfl) ?_
      refine lv_iconst (v := 0) hx hb dX3_areKnown_196 (by decide) ?_
      refine lv_bipush (v := 16) hx hb dX3_areKnown_197 (by decide) ?_
      refine RoI.callS (As := [.int k_, .int 0, .int 16]) (rest := []) (c_X3_in k_ 0 16) ⟨hx, hb, hml, hown, hts⟩ (va_cwS 3 hts gX3_areKnown_X3_in rfl rfl rfl (by decide +kernel) ⟨by decide, by decide⟩) hP hK hN rfl hl.1 rfl (Nat.le_of_ble_eq_true rfl) dX3_areKnown_199 ⟨Nat.le_of_ble_eq_true rfl, Nat.le_of_ble_eq_true rfl⟩ (fun r_12 hr_12 => ?_)
      exact roZ hx hb hr hlk dX3_areKnown_202 (by rw [hr_12]; exact bI_nar _) (by rw [hr_12]; exact knB_dflt k_1_1 k_1_4 k_1_8 k_1_9 k_1_14 k_1_15 k_1_16)
    · have zi_1 : k_.toInt = 2 ∨ k_.toInt = 3 := by omega
      refine lv_tableIn (off := 194) (tgt := 195) hx hb dX3_areKnown_1 (by omega) (by omega) (by rcases zi_1 with z | z <;> rw [z] <;> rfl) (by decide) ?_
      refine lv_iload_n hx hb dX3_areKnown_195 rfl (lv_at hl 1 rfl) ?_
      refine lv_iconst (v := 0) hx hb dX3_areKnown_196 (by decide) ?_
      refine lv_bipush (v := 16) hx hb dX3_areKnown_197 (by decide) ?_
      refine RoI.callS (As := [.int k_, .int 0, .int 16]) (rest := []) (c_X3_in k_ 0 16) ⟨hx, hb, hml, hown, hts⟩ (va_cwS 3 hts gX3_areKnown_X3_in rfl rfl rfl (by decide +kernel) ⟨by decide, by decide⟩) hP hK hN rfl hl.1 rfl (Nat.le_of_ble_eq_true rfl) dX3_areKnown_199 ⟨Nat.le_of_ble_eq_true rfl, Nat.le_of_ble_eq_true rfl⟩ (fun r_13 hr_13 => ?_)
      exact roZ hx hb hr hlk dX3_areKnown_202 (by rw [hr_13]; exact bI_nar _) (by rw [hr_13]; exact knB_dflt k_1_1 k_1_4 k_1_8 k_1_9 k_1_14 k_1_15 k_1_16)

theorem iw_X3_sluice_X3 : ∀ w ∈ u_ws RX3 TX3 25, w ∈ wsX3_sluice := by decide +kernel
set_option maxRecDepth 100000 in
set_option maxHeartbeats 4000000 in
/-- sluice -/
theorem c_X3_sluice {l : Launch} {D : va_G} {G : Nat → Nat} {Z : Nat → ClassId} {mn fl : Int32} {va gv : Int64} {tp ts tw tm : Int32} {lv sl kd pt : Nat → Int32} {he : Nat → Int64} {ct fr to rl pi ph ps : Nat → Int32} {pm : Nat → Int64} {b n sN st : Nat} (hn40 : n ≤ 40) (hb8 : b ≤ 8) (hs8 : sN ≤ 8) (f_ t_ r_ : Int32) : WrI l yX3_sluice wsX3_sluice (rk 2) D (mty Z) (mw G Z (nI b) mn (nI n) (nI sN) (nI st) fl va tp gv ts tw tm lv sl kd pt he ct fr to rl pi ph ps pm) [.ref (G 0), .int f_, .int t_, .int r_] (σ := Nat × (Nat → Int32) × (Nat → Int32) × (Nat → Int32)) (fun u => mw G Z (nI b) mn (nI n) (nI u.1) (nI st) fl va tp gv ts tw tm lv sl kd pt he ct u.2.1 u.2.2.1 u.2.2.2 pi ph ps pm) (fun r u => (r, u) = sp_sluice b n sN fr to rl f_ t_ r_) 0 0 := by
  intro sz
  refine wrEnter (cc := cX3_sluice) (maxL := 4) (ret := (some .int)) (by decide) rfl (Nat.le_of_ble_eq_true rfl) ?_
  intro p e s m below meth c hx hb hr hml hown hts hlk hP hK hN hsz hD hS hA hin ls hl
  have hown : s.vm.findClass RX3 = some m.cls := hown
  have hl : lv_has ls 4 [(0, .ref (G 0)), (1, .int f_), (2, .int t_), (3, .int r_)] := hl
  refine lv_aload_n hx hb dX3_sluice_0 rfl (lv_at hl 0 rfl) ?_
  refine lv_iload_n hx hb dX3_sluice_1 rfl (lv_at hl 1 rfl) ?_
  refine RoI.callV (As := [.int f_]) (rest := []) (c_X3_isBasin hb8 f_) ⟨hx, hb, hml, hown, hts⟩ (cwV 1 hts gX3_sluice_X3_isBasin rfl rfl rfl (by decide +kernel) ⟨by decide, by decide⟩) hP hK hN 0 3 rfl rfl rfl hl.1 rfl (Nat.le_of_ble_eq_true rfl) dX3_sluice_2 ⟨Nat.le_of_ble_eq_true rfl, Nat.le_of_ble_eq_true rfl⟩ (fun r_1 hr_1 => ?_)
  refine lv_if_eq (tgt := 24) hx hb dX3_sluice_5 (by decide) (fun c_5 => ?_) (fun c_5 => ?_)
  · have b_5 : inB f_ b = false := bI_z (by rw [← hr_1]; exact c_5)
    refine lv_bipush (v := (-101)) hx hb dX3_sluice_24 (by decide) ?_
    exact wrI ((sN, fr, to, rl)) hx hb hr hlk dX3_sluice_26 hP hD hS (by rw [sp_sluice, if_neg (fun z => by rw [b_5] at z; exact absurd z.1 Bool.false_ne_true)])
  · have b_5 : inB f_ b = true := bI_n (by rw [← hr_1]; exact c_5)
    refine lv_aload_n hx hb dX3_sluice_8 rfl (lv_at hl 0 rfl) ?_
    refine lv_iload_n hx hb dX3_sluice_9 rfl (lv_at hl 2 rfl) ?_
    refine RoI.callV (As := [.int t_]) (rest := []) (c_X3_isBasin hb8 t_) ⟨hx, hb, hml, hown, hts⟩ (cwV 1 hts gX3_sluice_X3_isBasin rfl rfl rfl (by decide +kernel) ⟨by decide, by decide⟩) hP hK hN 0 3 rfl rfl rfl hl.1 rfl (Nat.le_of_ble_eq_true rfl) dX3_sluice_10 ⟨Nat.le_of_ble_eq_true rfl, Nat.le_of_ble_eq_true rfl⟩ (fun r_2 hr_2 => ?_)
    refine lv_if_eq (tgt := 24) hx hb dX3_sluice_13 (by decide) (fun c_13 => ?_) (fun c_13 => ?_)
    · have b_13 : inB t_ b = false := bI_z (by rw [← hr_2]; exact c_13)
      refine lv_bipush (v := (-101)) hx hb dX3_sluice_24 (by decide) ?_
      exact wrI ((sN, fr, to, rl)) hx hb hr hlk dX3_sluice_26 hP hD hS (by rw [sp_sluice, if_neg (fun z => by rw [b_13] at z; exact absurd z.2.1 Bool.false_ne_true)])
    · have b_13 : inB t_ b = true := bI_n (by rw [← hr_2]; exact c_13)
      refine lv_aload_n hx hb dX3_sluice_16 rfl (lv_at hl 0 rfl) ?_
      refine lv_iload_n hx hb dX3_sluice_17 rfl (lv_at hl 3 rfl) ?_
      refine RoI.callV (As := [.int r_]) (rest := []) (c_X3_isRule hn40 r_) ⟨hx, hb, hml, hown, hts⟩ (cwV 1 hts gX3_sluice_X3_isRule rfl rfl rfl (by decide +kernel) ⟨by decide, by decide⟩) hP hK hN 0 3 rfl rfl rfl hl.1 rfl (Nat.le_of_ble_eq_true rfl) dX3_sluice_18 ⟨Nat.le_of_ble_eq_true rfl, Nat.le_of_ble_eq_true rfl⟩ (fun r_3 hr_3 => ?_)
      refine lv_if_ne (tgt := 27) hx hb dX3_sluice_21 (by decide) (fun c_21 => ?_) (fun c_21 => ?_)
      · have b_21 : inB r_ n = true := bI_n (by rw [← hr_3]; exact c_21)
        refine lv_iload_n hx hb dX3_sluice_27 rfl (lv_at hl 1 rfl) ?_
        refine lv_iload_n hx hb dX3_sluice_28 rfl (lv_at hl 2 rfl) ?_
        refine lv_icmp_ne (tgt := 35) hx hb dX3_sluice_29 (by decide) (fun c_29 => ?_) (fun c_29 => ?_)
        · refine lv_aload_n hx hb dX3_sluice_35 rfl (lv_at hl 0 rfl) ?_
          refine va_get (D := D) (ci := 3) (v := .int (nI sN)) (C := RX3) (T := TX3) (N := 25) hx hb hts iw_X3_sluice_X3 hown hK hP 0 rfl rfl 9 (by decide) (hts (.fieldLink RX3 149 "SluiceRulesModel" "sluices" "I") (by decide +kernel)) (fun _ h9 => h9) rfl dX3_sluice_36 ?_
          refine lv_bipush (v := 8) hx hb dX3_sluice_39 (by decide) ?_
          refine lv_icmp_ne (tgt := 47) hx hb dX3_sluice_41 (by decide) (fun c_41 => ?_) (fun c_41 => ?_)
          · have s_n8 : ¬ sN = 8 := fun z => c_41 (by rw [z]; rfl)
            have s_l8 : sN < 8 := by omega
            refine lv_aload_n hx hb dX3_sluice_47 rfl (lv_at hl 0 rfl) ?_
            refine va_get (D := D) (ci := 3) (v := .ref (G 7)) (C := RX3) (T := TX3) (N := 25) hx hb hts iw_X3_sluice_X3 hown hK hP 0 rfl rfl 10 (by decide) (hts (.fieldLink RX3 33 "SluiceRulesModel" "fromOf" "[I") (by decide +kernel)) (fun _ h9 => h9) rfl dX3_sluice_48 ?_
            refine lv_aload_n hx hb dX3_sluice_51 rfl (lv_at hl 0 rfl) ?_
            refine va_get (D := D) (ci := 3) (v := .int (nI sN)) (C := RX3) (T := TX3) (N := 25) hx hb hts iw_X3_sluice_X3 hown hK hP 0 rfl rfl 9 (by decide) (hts (.fieldLink RX3 149 "SluiceRulesModel" "sluices" "I") (by decide +kernel)) (fun _ h9 => h9) rfl dX3_sluice_52 ?_
            refine lv_iload_n hx hb dX3_sluice_55 rfl (lv_at hl 1 rfl) ?_
            refine my_iast (j := sN) hx hb hK hP hD hS 7 6 rfl rfl (rfl) (s_l8) (by decide) dX3_sluice_56 (fun H locs hP hD hS => ?_)
            have hP : va_P D vwCl (mw G Z (nI b) mn (nI n) (nI sN) (nI st) fl va tp gv ts tw tm lv sl kd pt he ct (upd fr sN f_) to rl pi ph ps pm) H := hP
            have hD : va_D (va_A (mw G Z (nI b) mn (nI n) (nI sN) (nI st) fl va tp gv ts tw tm lv sl kd pt he ct fr to rl pi ph ps pm) sz) (mw G Z (nI b) mn (nI n) (nI sN) (nI st) fl va tp gv ts tw tm lv sl kd pt he ct (upd fr sN f_) to rl pi ph ps pm) := hD
            refine lv_aload_n hx hb dX3_sluice_57 rfl (lv_at hl 0 rfl) ?_
            refine va_get (D := D) (ci := 3) (v := .ref (G 8)) (C := RX3) (T := TX3) (N := 25) hx hb hts iw_X3_sluice_X3 hown hK hP 0 rfl rfl 11 (by decide) (hts (.fieldLink RX3 36 "SluiceRulesModel" "toOf" "[I") (by decide +kernel)) (fun _ h9 => h9) rfl dX3_sluice_58 ?_
            refine lv_aload_n hx hb dX3_sluice_61 rfl (lv_at hl 0 rfl) ?_
            refine va_get (D := D) (ci := 3) (v := .int (nI sN)) (C := RX3) (T := TX3) (N := 25) hx hb hts iw_X3_sluice_X3 hown hK hP 0 rfl rfl 9 (by decide) (hts (.fieldLink RX3 149 "SluiceRulesModel" "sluices" "I") (by decide +kernel)) (fun _ h9 => h9) rfl dX3_sluice_62 ?_
            refine lv_iload_n hx hb dX3_sluice_65 rfl (lv_at hl 2 rfl) ?_
            refine my_iast (j := sN) hx hb hK hP hD hS 8 7 rfl rfl (rfl) (s_l8) (by decide) dX3_sluice_66 (fun H locs hP hD hS => ?_)
            have hP : va_P D vwCl (mw G Z (nI b) mn (nI n) (nI sN) (nI st) fl va tp gv ts tw tm lv sl kd pt he ct (upd fr sN f_) (upd to sN t_) rl pi ph ps pm) H := hP
            have hD : va_D (va_A (mw G Z (nI b) mn (nI n) (nI sN) (nI st) fl va tp gv ts tw tm lv sl kd pt he ct fr to rl pi ph ps pm) sz) (mw G Z (nI b) mn (nI n) (nI sN) (nI st) fl va tp gv ts tw tm lv sl kd pt he ct (upd fr sN f_) (upd to sN t_) rl pi ph ps pm) := hD
            refine lv_aload_n hx hb dX3_sluice_67 rfl (lv_at hl 0 rfl) ?_
            refine va_get (D := D) (ci := 3) (v := .ref (G 9)) (C := RX3) (T := TX3) (N := 25) hx hb hts iw_X3_sluice_X3 hown hK hP 0 rfl rfl 12 (by decide) (hts (.fieldLink RX3 39 "SluiceRulesModel" "ruleOf" "[I") (by decide +kernel)) (fun _ h9 => h9) rfl dX3_sluice_68 ?_
            refine lv_aload_n hx hb dX3_sluice_71 rfl (lv_at hl 0 rfl) ?_
            refine va_get (D := D) (ci := 3) (v := .int (nI sN)) (C := RX3) (T := TX3) (N := 25) hx hb hts iw_X3_sluice_X3 hown hK hP 0 rfl rfl 9 (by decide) (hts (.fieldLink RX3 149 "SluiceRulesModel" "sluices" "I") (by decide +kernel)) (fun _ h9 => h9) rfl dX3_sluice_72 ?_
            refine lv_iload_n hx hb dX3_sluice_75 rfl (lv_at hl 3 rfl) ?_
            refine my_iast (j := sN) hx hb hK hP hD hS 9 8 rfl rfl (rfl) (s_l8) (by decide) dX3_sluice_76 (fun H locs hP hD hS => ?_)
            have hP : va_P D vwCl (mw G Z (nI b) mn (nI n) (nI sN) (nI st) fl va tp gv ts tw tm lv sl kd pt he ct (upd fr sN f_) (upd to sN t_) (upd rl sN r_) pi ph ps pm) H := hP
            have hD : va_D (va_A (mw G Z (nI b) mn (nI n) (nI sN) (nI st) fl va tp gv ts tw tm lv sl kd pt he ct fr to rl pi ph ps pm) sz) (mw G Z (nI b) mn (nI n) (nI sN) (nI st) fl va tp gv ts tw tm lv sl kd pt he ct (upd fr sN f_) (upd to sN t_) (upd rl sN r_) pi ph ps pm) := hD
            refine lv_aload_n hx hb dX3_sluice_77 rfl (lv_at hl 0 rfl) ?_
            refine lv_dup hx hb dX3_sluice_78 rfl ?_
            refine va_get (D := D) (ci := 3) (v := .int (nI sN)) (C := RX3) (T := TX3) (N := 25) hx hb hts iw_X3_sluice_X3 hown hK hP 0 rfl rfl 9 (by decide) (hts (.fieldLink RX3 149 "SluiceRulesModel" "sluices" "I") (by decide +kernel)) (fun _ h9 => h9) rfl dX3_sluice_79 ?_
            refine lv_iconst (v := 1) hx hb dX3_sluice_82 (by decide) ?_
            refine lv_iadd hx hb dX3_sluice_83 ?_
            refine va_put (D := D) (ci := 3) (v := .int ((nI sN) + 1)) (ty := .int) (C := RX3) (T := TX3) (N := 25) hx hb hts iw_X3_sluice_X3 tyX3 tyX3_ok nmX3 hown hK hP hD hS 0 rfl rfl 9 (by decide) (hts (.fieldLink RX3 149 "SluiceRulesModel" "sluices" "I") (by decide +kernel)) (fun _ h9 => h9) rfl (by decide +kernel) rfl rfl (Nat.le_of_ble_eq_true rfl) dX3_sluice_84 (fun H locs hP hD hS => ?_)
            have hP : va_P D vwCl (mw G Z (nI b) mn (nI n) ((nI sN) + 1) (nI st) fl va tp gv ts tw tm lv sl kd pt he ct (upd fr sN f_) (upd to sN t_) (upd rl sN r_) pi ph ps pm) H := hP
            have hD : va_D (va_A (mw G Z (nI b) mn (nI n) (nI sN) (nI st) fl va tp gv ts tw tm lv sl kd pt he ct fr to rl pi ph ps pm) sz) (mw G Z (nI b) mn (nI n) ((nI sN) + 1) (nI st) fl va tp gv ts tw tm lv sl kd pt he ct (upd fr sN f_) (upd to sN t_) (upd rl sN r_) pi ph ps pm) := hD
            refine lv_aload_n hx hb dX3_sluice_87 rfl (lv_at hl 0 rfl) ?_
            refine va_get (D := D) (ci := 3) (v := .int ((nI sN) + 1)) (C := RX3) (T := TX3) (N := 25) hx hb hts iw_X3_sluice_X3 hown hK hP 0 rfl rfl 9 (by decide) (hts (.fieldLink RX3 149 "SluiceRulesModel" "sluices" "I") (by decide +kernel)) (fun _ h9 => h9) rfl dX3_sluice_88 ?_
            refine lv_iconst (v := 1) hx hb dX3_sluice_91 (by decide) ?_
            refine lv_isub hx hb dX3_sluice_92 ?_
            rw [nI_1] at hP hD
            exact wrI ((sN + 1, upd fr sN f_, upd to sN t_, upd rl sN r_)) hx hb hr hlk dX3_sluice_93 hP hD hS (by rw [sp_sluice, if_pos ⟨b_5, b_13, b_21⟩, if_neg c_29, if_neg s_n8, nI_1, nI_pred])
          · have s_e8 : sN = 8 := (nI_eq (b := 8) (by omega) (by decide)).mp c_41
            refine lv_bipush (v := (-103)) hx hb dX3_sluice_44 (by decide) ?_
            exact wrI ((sN, fr, to, rl)) hx hb hr hlk dX3_sluice_46 hP hD hS (by rw [sp_sluice, if_pos ⟨b_5, b_13, b_21⟩, if_neg c_29, if_pos s_e8])
        · refine lv_bipush (v := (-102)) hx hb dX3_sluice_32 (by decide) ?_
          exact wrI ((sN, fr, to, rl)) hx hb hr hlk dX3_sluice_34 hP hD hS (by rw [sp_sluice, if_pos ⟨b_5, b_13, b_21⟩, if_pos c_29])
      · have b_21 : inB r_ n = false := bI_z (by rw [← hr_3]; exact c_21)
        refine lv_bipush (v := (-101)) hx hb dX3_sluice_24 (by decide) ?_
        exact wrI ((sN, fr, to, rl)) hx hb hr hlk dX3_sluice_26 hP hD hS (by rw [sp_sluice, if_neg (fun z => by rw [b_21] at z; exact absurd z.2.2 Bool.false_ne_true)])
end
section
/-! the reference: its machine of open rules -/
theorem iw_X3_gives_X3 : ∀ w ∈ u_ws RX3 TX3 25, w ∈ wsX3_gives := by decide +kernel
set_option maxRecDepth 100000 in
set_option maxHeartbeats 4000000 in
/-- gives -/
theorem c_X3_gives {l : Launch} {D : va_G} {G : Nat → Nat} {Z : Nat → ClassId} {mn fl : Int32} {va gv : Int64} {ts tw tm : Int32} {lv sl kd pt : Nat → Int32} {he : Nat → Int64} {ct fr to rl pi ph ps : Nat → Int32} {pm : Nat → Int64} {b n sN st : Nat} {t : Nat} (v : Int64) : WrV l yX3_gives wsX3_gives (rk 0) D (mty Z) (mw G Z (nI b) mn (nI n) (nI sN) (nI st) fl va (nI (t + 1) - 1) gv ts tw tm lv sl kd pt he ct fr to rl pi ph ps pm) [.ref (G 0), .long v] (σ := MS) (fun u => mw G Z (nI b) mn (nI n) (nI sN) (nI u.1) u.2.1 u.2.2.1 (nI u.2.2.2.1 - 1) gv ts tw tm lv sl kd pt he u.2.2.2.2.1 fr to rl u.2.2.2.2.2.1 u.2.2.2.2.2.2.1 u.2.2.2.2.2.2.2.1 u.2.2.2.2.2.2.2.2) (fun u => u = gvS v (st, fl, va, t + 1, ct, pi, ph, ps, pm)) 0 0 := by
  intro sz
  refine wrEnter (cc := cX3_gives) (maxL := 3) (ret := none) (by decide) rfl (Nat.le_of_ble_eq_true rfl) ?_
  intro p e s m below meth c hx hb hr hml hown hts hlk hP hK hN hsz hD hS hA hin ls hl
  have hown : s.vm.findClass RX3 = some m.cls := hown
  have hl : lv_has ls 3 [(0, .ref (G 0)), (1, .long v)] := hl
  refine lv_aload_n hx hb dX3_gives_0 rfl (lv_at hl 0 rfl) ?_
  refine lv_lload_n hx hb dX3_gives_1 rfl (lv_at hl 1 rfl) ?_
  refine va_put (D := D) (ci := 3) (v := .long v) (ty := .long) (C := RX3) (T := TX3) (N := 25) hx hb hts iw_X3_gives_X3 tyX3 tyX3_ok nmX3 hown hK hP hD hS 0 rfl rfl 15 (by decide) (hts (.fieldLink RX3 92 "SluiceRulesModel" "value" "J") (by decide +kernel)) (fun _ h9 => h9) rfl (by decide +kernel) rfl rfl (Nat.le_of_ble_eq_true rfl) dX3_gives_2 (fun H locs hP hD hS => ?_)
  have hP : va_P D vwCl (mw G Z (nI b) mn (nI n) (nI sN) (nI st) fl v (nI (t + 1) - 1) gv ts tw tm lv sl kd pt he ct fr to rl pi ph ps pm) H := hP
  have hD : va_D (va_A (mw G Z (nI b) mn (nI n) (nI sN) (nI st) fl va (nI (t + 1) - 1) gv ts tw tm lv sl kd pt he ct fr to rl pi ph ps pm) sz) (mw G Z (nI b) mn (nI n) (nI sN) (nI st) fl v (nI (t + 1) - 1) gv ts tw tm lv sl kd pt he ct fr to rl pi ph ps pm) := hD
  refine lv_aload_n hx hb dX3_gives_5 rfl (lv_at hl 0 rfl) ?_
  refine lv_dup hx hb dX3_gives_6 rfl ?_
  refine va_get (D := D) (ci := 3) (v := .int (nI (t + 1) - 1)) (C := RX3) (T := TX3) (N := 25) hx hb hts iw_X3_gives_X3 hown hK hP 0 rfl rfl 16 (by decide) (hts (.fieldLink RX3 99 "SluiceRulesModel" "top" "I") (by decide +kernel)) (fun _ h9 => h9) rfl dX3_gives_7 ?_
  refine lv_iconst (v := 1) hx hb dX3_gives_10 (by decide) ?_
  refine lv_isub hx hb dX3_gives_11 ?_
  refine va_put (D := D) (ci := 3) (v := .int ((nI (t + 1) - 1) - 1)) (ty := .int) (C := RX3) (T := TX3) (N := 25) hx hb hts iw_X3_gives_X3 tyX3 tyX3_ok nmX3 hown hK hP hD hS 0 rfl rfl 16 (by decide) (hts (.fieldLink RX3 99 "SluiceRulesModel" "top" "I") (by decide +kernel)) (fun _ h9 => h9) rfl (by decide +kernel) rfl rfl (Nat.le_of_ble_eq_true rfl) dX3_gives_12 (fun H locs hP hD hS => ?_)
  have hP : va_P D vwCl (mw G Z (nI b) mn (nI n) (nI sN) (nI st) fl v ((nI (t + 1) - 1) - 1) gv ts tw tm lv sl kd pt he ct fr to rl pi ph ps pm) H := hP
  have hD : va_D (va_A (mw G Z (nI b) mn (nI n) (nI sN) (nI st) fl va (nI (t + 1) - 1) gv ts tw tm lv sl kd pt he ct fr to rl pi ph ps pm) sz) (mw G Z (nI b) mn (nI n) (nI sN) (nI st) fl v ((nI (t + 1) - 1) - 1) gv ts tw tm lv sl kd pt he ct fr to rl pi ph ps pm) := hD
  have e9 : (nI (t + 1) - 1) - 1 = nI t - 1 := by rw [nI_pred]
  have hP : va_P D vwCl (mw G Z (nI b) mn (nI n) (nI sN) (nI st) fl v (nI t - 1) gv ts tw tm lv sl kd pt he ct fr to rl pi ph ps pm) H := (congrArg (fun z9 => va_P D vwCl (mw G Z (nI b) mn (nI n) (nI sN) (nI st) fl v z9 gv ts tw tm lv sl kd pt he ct fr to rl pi ph ps pm) H) e9).mp hP
  have hD : va_D (va_A (mw G Z (nI b) mn (nI n) (nI sN) (nI st) fl va (nI (t + 1) - 1) gv ts tw tm lv sl kd pt he ct fr to rl pi ph ps pm) sz) (mw G Z (nI b) mn (nI n) (nI sN) (nI st) fl v (nI t - 1) gv ts tw tm lv sl kd pt he ct fr to rl pi ph ps pm) := (congrArg (fun z9 => va_D (va_A (mw G Z (nI b) mn (nI n) (nI sN) (nI st) fl va (nI (t + 1) - 1) gv ts tw tm lv sl kd pt he ct fr to rl pi ph ps pm) sz) (mw G Z (nI b) mn (nI n) (nI sN) (nI st) fl v z9 gv ts tw tm lv sl kd pt he ct fr to rl pi ph ps pm)) e9).mp hD
  exact wrV (st, fl, v, t, ct, pi, ph, ps, pm) hx hb hr hlk dX3_gives_15 hP hD hS rfl

theorem iw_X3_enter_X3 : ∀ w ∈ u_ws RX3 TX3 25, w ∈ wsX3_enter := by decide +kernel
set_option maxRecDepth 100000 in
set_option maxHeartbeats 4000000 in
/-- enter -/
theorem c_X3_enter {l : Launch} {D : va_G} {G : Nat → Nat} {Z : Nat → ClassId} {mn fl : Int32} {va gv : Int64} {ts tw tm : Int32} {lv sl kd pt : Nat → Int32} {he : Nat → Int64} {ct fr to rl pi ph ps : Nat → Int32} {pm : Nat → Int64} {b n sN st : Nat} {T : Nat} (hst : st ≤ 120) (hT : T ≤ st) (x h : Int32) : WrV l yX3_enter wsX3_enter (rk 0) D (mty Z) (mw G Z (nI b) mn (nI n) (nI sN) (nI st) fl va (nI T - 1) gv ts tw tm lv sl kd pt he ct fr to rl pi ph ps pm) [.ref (G 0), .int x, .int h] (σ := MS) (fun u => mw G Z (nI b) mn (nI n) (nI sN) (nI u.1) u.2.1 u.2.2.1 (nI u.2.2.2.1 - 1) gv ts tw tm lv sl kd pt he u.2.2.2.2.1 fr to rl u.2.2.2.2.2.1 u.2.2.2.2.2.2.1 u.2.2.2.2.2.2.2.1 u.2.2.2.2.2.2.2.2) (fun u => u = enS x h (st, fl, va, T, ct, pi, ph, ps, pm)) 0 0 := by
  intro sz
  refine wrEnter (cc := cX3_enter) (maxL := 3) (ret := none) (by decide) rfl (Nat.le_of_ble_eq_true rfl) ?_
  intro p e s m below meth c hx hb hr hml hown hts hlk hP hK hN hsz hD hS hA hin ls hl
  have hown : s.vm.findClass RX3 = some m.cls := hown
  have hl : lv_has ls 3 [(0, .ref (G 0)), (1, .int x), (2, .int h)] := hl
  refine lv_iload_n hx hb dX3_enter_0 rfl (lv_at hl 1 rfl) ?_
  refine lv_iconst (v := (-1)) hx hb dX3_enter_1 (by decide) ?_
  refine lv_icmp_ne (tgt := 15) hx hb dX3_enter_2 (by decide) (fun c_2 => ?_) (fun c_2 => ?_)
  · refine lv_aload_n hx hb dX3_enter_15 rfl (lv_at hl 0 rfl) ?_
    refine va_get (D := D) (ci := 3) (v := .int (nI st)) (C := RX3) (T := TX3) (N := 25) hx hb hts iw_X3_enter_X3 hown hK hP 0 rfl rfl 13 (by decide) (hts (.fieldLink RX3 96 "SluiceRulesModel" "steps" "I") (by decide +kernel)) (fun _ h9 => h9) rfl dX3_enter_16 ?_
    refine lv_bipush (v := 120) hx hb dX3_enter_19 (by decide) ?_
    refine lv_icmp_ne (tgt := 34) hx hb dX3_enter_21 (by decide) (fun c_21 => ?_) (fun c_21 => ?_)
    · have s_n : ¬ st = 120 := fun z => c_21 (by rw [z]; rfl)
      have t_l : T < 120 := by omega
      refine lv_aload_n hx hb dX3_enter_34 rfl (lv_at hl 0 rfl) ?_
      refine lv_dup hx hb dX3_enter_35 rfl ?_
      refine va_get (D := D) (ci := 3) (v := .int (nI st)) (C := RX3) (T := TX3) (N := 25) hx hb hts iw_X3_enter_X3 hown hK hP 0 rfl rfl 13 (by decide) (hts (.fieldLink RX3 96 "SluiceRulesModel" "steps" "I") (by decide +kernel)) (fun _ h9 => h9) rfl dX3_enter_36 ?_
      refine lv_iconst (v := 1) hx hb dX3_enter_39 (by decide) ?_
      refine lv_iadd hx hb dX3_enter_40 ?_
      refine va_put (D := D) (ci := 3) (v := .int ((nI st) + 1)) (ty := .int) (C := RX3) (T := TX3) (N := 25) hx hb hts iw_X3_enter_X3 tyX3 tyX3_ok nmX3 hown hK hP hD hS 0 rfl rfl 13 (by decide) (hts (.fieldLink RX3 96 "SluiceRulesModel" "steps" "I") (by decide +kernel)) (fun _ h9 => h9) rfl (by decide +kernel) rfl rfl (Nat.le_of_ble_eq_true rfl) dX3_enter_41 (fun H locs hP hD hS => ?_)
      have hP : va_P D vwCl (mw G Z (nI b) mn (nI n) (nI sN) ((nI st) + 1) fl va (nI T - 1) gv ts tw tm lv sl kd pt he ct fr to rl pi ph ps pm) H := hP
      have hD : va_D (va_A (mw G Z (nI b) mn (nI n) (nI sN) (nI st) fl va (nI T - 1) gv ts tw tm lv sl kd pt he ct fr to rl pi ph ps pm) sz) (mw G Z (nI b) mn (nI n) (nI sN) ((nI st) + 1) fl va (nI T - 1) gv ts tw tm lv sl kd pt he ct fr to rl pi ph ps pm) := hD
      refine lv_aload_n hx hb dX3_enter_44 rfl (lv_at hl 0 rfl) ?_
      refine lv_dup hx hb dX3_enter_45 rfl ?_
      refine va_get (D := D) (ci := 3) (v := .int (nI T - 1)) (C := RX3) (T := TX3) (N := 25) hx hb hts iw_X3_enter_X3 hown hK hP 0 rfl rfl 16 (by decide) (hts (.fieldLink RX3 99 "SluiceRulesModel" "top" "I") (by decide +kernel)) (fun _ h9 => h9) rfl dX3_enter_46 ?_
      refine lv_iconst (v := 1) hx hb dX3_enter_49 (by decide) ?_
      refine lv_iadd hx hb dX3_enter_50 ?_
      refine va_put (D := D) (ci := 3) (v := .int ((nI T - 1) + 1)) (ty := .int) (C := RX3) (T := TX3) (N := 25) hx hb hts iw_X3_enter_X3 tyX3 tyX3_ok nmX3 hown hK hP hD hS 0 rfl rfl 16 (by decide) (hts (.fieldLink RX3 99 "SluiceRulesModel" "top" "I") (by decide +kernel)) (fun _ h9 => h9) rfl (by decide +kernel) rfl rfl (Nat.le_of_ble_eq_true rfl) dX3_enter_51 (fun H locs hP hD hS => ?_)
      have hP : va_P D vwCl (mw G Z (nI b) mn (nI n) (nI sN) ((nI st) + 1) fl va ((nI T - 1) + 1) gv ts tw tm lv sl kd pt he ct fr to rl pi ph ps pm) H := hP
      have hD : va_D (va_A (mw G Z (nI b) mn (nI n) (nI sN) (nI st) fl va (nI T - 1) gv ts tw tm lv sl kd pt he ct fr to rl pi ph ps pm) sz) (mw G Z (nI b) mn (nI n) (nI sN) ((nI st) + 1) fl va ((nI T - 1) + 1) gv ts tw tm lv sl kd pt he ct fr to rl pi ph ps pm) := hD
      refine lv_aload_n hx hb dX3_enter_54 rfl (lv_at hl 0 rfl) ?_
      refine va_get (D := D) (ci := 3) (v := .ref (G 10)) (C := RX3) (T := TX3) (N := 25) hx hb hts iw_X3_enter_X3 hown hK hP 0 rfl rfl 17 (by decide) (hts (.fieldLink RX3 42 "SluiceRulesModel" "pile" "[I") (by decide +kernel)) (fun _ h9 => h9) rfl dX3_enter_55 ?_
      refine lv_aload_n hx hb dX3_enter_58 rfl (lv_at hl 0 rfl) ?_
      refine va_get (D := D) (ci := 3) (v := .int ((nI T - 1) + 1)) (C := RX3) (T := TX3) (N := 25) hx hb hts iw_X3_enter_X3 hown hK hP 0 rfl rfl 16 (by decide) (hts (.fieldLink RX3 99 "SluiceRulesModel" "top" "I") (by decide +kernel)) (fun _ h9 => h9) rfl dX3_enter_59 ?_
      refine lv_iload_n hx hb dX3_enter_62 rfl (lv_at hl 1 rfl) ?_
      refine my_iast (j := T) hx hb hK hP hD hS 10 9 rfl rfl (tp1 T) (t_l) (by decide) dX3_enter_63 (fun H locs hP hD hS => ?_)
      have hP : va_P D vwCl (mw G Z (nI b) mn (nI n) (nI sN) ((nI st) + 1) fl va ((nI T - 1) + 1) gv ts tw tm lv sl kd pt he ct fr to rl (upd pi T x) ph ps pm) H := hP
      have hD : va_D (va_A (mw G Z (nI b) mn (nI n) (nI sN) (nI st) fl va (nI T - 1) gv ts tw tm lv sl kd pt he ct fr to rl pi ph ps pm) sz) (mw G Z (nI b) mn (nI n) (nI sN) ((nI st) + 1) fl va ((nI T - 1) + 1) gv ts tw tm lv sl kd pt he ct fr to rl (upd pi T x) ph ps pm) := hD
      refine lv_aload_n hx hb dX3_enter_64 rfl (lv_at hl 0 rfl) ?_
      refine va_get (D := D) (ci := 3) (v := .ref (G 11)) (C := RX3) (T := TX3) (N := 25) hx hb hts iw_X3_enter_X3 hown hK hP 0 rfl rfl 18 (by decide) (hts (.fieldLink RX3 45 "SluiceRulesModel" "pileHour" "[I") (by decide +kernel)) (fun _ h9 => h9) rfl dX3_enter_65 ?_
      refine lv_aload_n hx hb dX3_enter_68 rfl (lv_at hl 0 rfl) ?_
      refine va_get (D := D) (ci := 3) (v := .int ((nI T - 1) + 1)) (C := RX3) (T := TX3) (N := 25) hx hb hts iw_X3_enter_X3 hown hK hP 0 rfl rfl 16 (by decide) (hts (.fieldLink RX3 99 "SluiceRulesModel" "top" "I") (by decide +kernel)) (fun _ h9 => h9) rfl dX3_enter_69 ?_
      refine lv_iload_n hx hb dX3_enter_72 rfl (lv_at hl 2 rfl) ?_
      refine my_iast (j := T) hx hb hK hP hD hS 11 10 rfl rfl (tp1 T) (t_l) (by decide) dX3_enter_73 (fun H locs hP hD hS => ?_)
      have hP : va_P D vwCl (mw G Z (nI b) mn (nI n) (nI sN) ((nI st) + 1) fl va ((nI T - 1) + 1) gv ts tw tm lv sl kd pt he ct fr to rl (upd pi T x) (upd ph T h) ps pm) H := hP
      have hD : va_D (va_A (mw G Z (nI b) mn (nI n) (nI sN) (nI st) fl va (nI T - 1) gv ts tw tm lv sl kd pt he ct fr to rl pi ph ps pm) sz) (mw G Z (nI b) mn (nI n) (nI sN) ((nI st) + 1) fl va ((nI T - 1) + 1) gv ts tw tm lv sl kd pt he ct fr to rl (upd pi T x) (upd ph T h) ps pm) := hD
      refine lv_aload_n hx hb dX3_enter_74 rfl (lv_at hl 0 rfl) ?_
      refine va_get (D := D) (ci := 3) (v := .ref (G 12)) (C := RX3) (T := TX3) (N := 25) hx hb hts iw_X3_enter_X3 hown hK hP 0 rfl rfl 19 (by decide) (hts (.fieldLink RX3 48 "SluiceRulesModel" "pileState" "[I") (by decide +kernel)) (fun _ h9 => h9) rfl dX3_enter_75 ?_
      refine lv_aload_n hx hb dX3_enter_78 rfl (lv_at hl 0 rfl) ?_
      refine va_get (D := D) (ci := 3) (v := .int ((nI T - 1) + 1)) (C := RX3) (T := TX3) (N := 25) hx hb hts iw_X3_enter_X3 hown hK hP 0 rfl rfl 16 (by decide) (hts (.fieldLink RX3 99 "SluiceRulesModel" "top" "I") (by decide +kernel)) (fun _ h9 => h9) rfl dX3_enter_79 ?_
      refine lv_iconst (v := 0) hx hb dX3_enter_82 (by decide) ?_
      refine my_iast (j := T) hx hb hK hP hD hS 12 11 rfl rfl (tp1 T) (t_l) (by decide) dX3_enter_83 (fun H locs hP hD hS => ?_)
      have hP : va_P D vwCl (mw G Z (nI b) mn (nI n) (nI sN) ((nI st) + 1) fl va ((nI T - 1) + 1) gv ts tw tm lv sl kd pt he ct fr to rl (upd pi T x) (upd ph T h) (upd ps T 0) pm) H := hP
      have hD : va_D (va_A (mw G Z (nI b) mn (nI n) (nI sN) (nI st) fl va (nI T - 1) gv ts tw tm lv sl kd pt he ct fr to rl pi ph ps pm) sz) (mw G Z (nI b) mn (nI n) (nI sN) ((nI st) + 1) fl va ((nI T - 1) + 1) gv ts tw tm lv sl kd pt he ct fr to rl (upd pi T x) (upd ph T h) (upd ps T 0) pm) := hD
      refine lv_aload_n hx hb dX3_enter_84 rfl (lv_at hl 0 rfl) ?_
      refine va_get (D := D) (ci := 3) (v := .ref (G 13)) (C := RX3) (T := TX3) (N := 25) hx hb hts iw_X3_enter_X3 hown hK hP 0 rfl rfl 20 (by decide) (hts (.fieldLink RX3 51 "SluiceRulesModel" "pileSum" "[J") (by decide +kernel)) (fun _ h9 => h9) rfl dX3_enter_85 ?_
      refine lv_aload_n hx hb dX3_enter_88 rfl (lv_at hl 0 rfl) ?_
      refine va_get (D := D) (ci := 3) (v := .int ((nI T - 1) + 1)) (C := RX3) (T := TX3) (N := 25) hx hb hts iw_X3_enter_X3 hown hK hP 0 rfl rfl 16 (by decide) (hts (.fieldLink RX3 99 "SluiceRulesModel" "top" "I") (by decide +kernel)) (fun _ h9 => h9) rfl dX3_enter_89 ?_
      refine lv_lconst (v := 0) hx hb dX3_enter_92 (by decide) ?_
      refine my_last (j := T) hx hb hK hP hD hS 13 12 rfl rfl (tp1 T) (t_l) (by decide) dX3_enter_93 (fun H locs hP hD hS => ?_)
      have hP : va_P D vwCl (mw G Z (nI b) mn (nI n) (nI sN) ((nI st) + 1) fl va ((nI T - 1) + 1) gv ts tw tm lv sl kd pt he ct fr to rl (upd pi T x) (upd ph T h) (upd ps T 0) (vp_updL pm T 0)) H := hP
      have hD : va_D (va_A (mw G Z (nI b) mn (nI n) (nI sN) (nI st) fl va (nI T - 1) gv ts tw tm lv sl kd pt he ct fr to rl pi ph ps pm) sz) (mw G Z (nI b) mn (nI n) (nI sN) ((nI st) + 1) fl va ((nI T - 1) + 1) gv ts tw tm lv sl kd pt he ct fr to rl (upd pi T x) (upd ph T h) (upd ps T 0) (vp_updL pm T 0)) := hD
      have e9 : (nI T - 1) + 1 = nI (T + 1) - 1 := (tp1 T).trans (nI_pred T).symm
      have hP : va_P D vwCl (mw G Z (nI b) mn (nI n) (nI sN) ((nI st) + 1) fl va (nI (T + 1) - 1) gv ts tw tm lv sl kd pt he ct fr to rl (upd pi T x) (upd ph T h) (upd ps T 0) (vp_updL pm T 0)) H := (congrArg (fun z9 => va_P D vwCl (mw G Z (nI b) mn (nI n) (nI sN) ((nI st) + 1) fl va z9 gv ts tw tm lv sl kd pt he ct fr to rl (upd pi T x) (upd ph T h) (upd ps T 0) (vp_updL pm T 0)) H) e9).mp hP
      have hD : va_D (va_A (mw G Z (nI b) mn (nI n) (nI sN) (nI st) fl va (nI T - 1) gv ts tw tm lv sl kd pt he ct fr to rl pi ph ps pm) sz) (mw G Z (nI b) mn (nI n) (nI sN) ((nI st) + 1) fl va (nI (T + 1) - 1) gv ts tw tm lv sl kd pt he ct fr to rl (upd pi T x) (upd ph T h) (upd ps T 0) (vp_updL pm T 0)) := (congrArg (fun z9 => va_D (va_A (mw G Z (nI b) mn (nI n) (nI sN) (nI st) fl va (nI T - 1) gv ts tw tm lv sl kd pt he ct fr to rl pi ph ps pm) sz) (mw G Z (nI b) mn (nI n) (nI sN) ((nI st) + 1) fl va z9 gv ts tw tm lv sl kd pt he ct fr to rl (upd pi T x) (upd ph T h) (upd ps T 0) (vp_updL pm T 0))) e9).mp hD
      have e9 : (nI st) + 1 = nI (st + 1) := nI_1 st
      have hP : va_P D vwCl (mw G Z (nI b) mn (nI n) (nI sN) (nI (st + 1)) fl va (nI (T + 1) - 1) gv ts tw tm lv sl kd pt he ct fr to rl (upd pi T x) (upd ph T h) (upd ps T 0) (vp_updL pm T 0)) H := (congrArg (fun z9 => va_P D vwCl (mw G Z (nI b) mn (nI n) (nI sN) z9 fl va (nI (T + 1) - 1) gv ts tw tm lv sl kd pt he ct fr to rl (upd pi T x) (upd ph T h) (upd ps T 0) (vp_updL pm T 0)) H) e9).mp hP
      have hD : va_D (va_A (mw G Z (nI b) mn (nI n) (nI sN) (nI st) fl va (nI T - 1) gv ts tw tm lv sl kd pt he ct fr to rl pi ph ps pm) sz) (mw G Z (nI b) mn (nI n) (nI sN) (nI (st + 1)) fl va (nI (T + 1) - 1) gv ts tw tm lv sl kd pt he ct fr to rl (upd pi T x) (upd ph T h) (upd ps T 0) (vp_updL pm T 0)) := (congrArg (fun z9 => va_D (va_A (mw G Z (nI b) mn (nI n) (nI sN) (nI st) fl va (nI T - 1) gv ts tw tm lv sl kd pt he ct fr to rl pi ph ps pm) sz) (mw G Z (nI b) mn (nI n) (nI sN) z9 fl va (nI (T + 1) - 1) gv ts tw tm lv sl kd pt he ct fr to rl (upd pi T x) (upd ph T h) (upd ps T 0) (vp_updL pm T 0))) e9).mp hD
      exact wrV (st + 1, fl, va, T + 1, ct, upd pi T x, upd ph T h, upd ps T 0, vp_updL pm T 0) hx hb hr hlk dX3_enter_94 hP hD hS (by rw [enS, if_neg c_2, if_neg s_n])
    · have s_e : st = 120 := (nI_eq (b := 120) (by omega) (by decide)).mp c_21
      refine lv_aload_n hx hb dX3_enter_24 rfl (lv_at hl 0 rfl) ?_
      refine lv_sipush (v := (-202)) hx hb dX3_enter_25 (by decide) ?_
      refine va_put (D := D) (ci := 3) (v := .int (-202)) (ty := .int) (C := RX3) (T := TX3) (N := 25) hx hb hts iw_X3_enter_X3 tyX3 tyX3_ok nmX3 hown hK hP hD hS 0 rfl rfl 14 (by decide) (hts (.fieldLink RX3 89 "SluiceRulesModel" "failure" "I") (by decide +kernel)) (fun _ h9 => h9) rfl (by decide +kernel) rfl rfl (Nat.le_of_ble_eq_true rfl) dX3_enter_28 (fun H locs hP hD hS => ?_)
      have hP : va_P D vwCl (mw G Z (nI b) mn (nI n) (nI sN) (nI st) (-202) va (nI T - 1) gv ts tw tm lv sl kd pt he ct fr to rl pi ph ps pm) H := hP
      have hD : va_D (va_A (mw G Z (nI b) mn (nI n) (nI sN) (nI st) fl va (nI T - 1) gv ts tw tm lv sl kd pt he ct fr to rl pi ph ps pm) sz) (mw G Z (nI b) mn (nI n) (nI sN) (nI st) (-202) va (nI T - 1) gv ts tw tm lv sl kd pt he ct fr to rl pi ph ps pm) := hD
      refine lv_goto (tgt := 94) hx hb dX3_enter_31 (by decide) ?_
      exact wrV (st, -202, va, T, ct, pi, ph, ps, pm) hx hb hr hlk dX3_enter_94 hP hD hS (by rw [enS, if_neg c_2, if_pos s_e])
  · refine lv_aload_n hx hb dX3_enter_5 rfl (lv_at hl 0 rfl) ?_
    refine lv_sipush (v := (-201)) hx hb dX3_enter_6 (by decide) ?_
    refine va_put (D := D) (ci := 3) (v := .int (-201)) (ty := .int) (C := RX3) (T := TX3) (N := 25) hx hb hts iw_X3_enter_X3 tyX3 tyX3_ok nmX3 hown hK hP hD hS 0 rfl rfl 14 (by decide) (hts (.fieldLink RX3 89 "SluiceRulesModel" "failure" "I") (by decide +kernel)) (fun _ h9 => h9) rfl (by decide +kernel) rfl rfl (Nat.le_of_ble_eq_true rfl) dX3_enter_9 (fun H locs hP hD hS => ?_)
    have hP : va_P D vwCl (mw G Z (nI b) mn (nI n) (nI sN) (nI st) (-201) va (nI T - 1) gv ts tw tm lv sl kd pt he ct fr to rl pi ph ps pm) H := hP
    have hD : va_D (va_A (mw G Z (nI b) mn (nI n) (nI sN) (nI st) fl va (nI T - 1) gv ts tw tm lv sl kd pt he ct fr to rl pi ph ps pm) sz) (mw G Z (nI b) mn (nI n) (nI sN) (nI st) (-201) va (nI T - 1) gv ts tw tm lv sl kd pt he ct fr to rl pi ph ps pm) := hD
    refine lv_goto (tgt := 94) hx hb dX3_enter_12 (by decide) ?_
    exact wrV (st, -201, va, T, ct, pi, ph, ps, pm) hx hb hr hlk dX3_enter_94 hP hD hS (by rw [enS, if_pos c_2])

set_option maxRecDepth 100000 in
set_option maxHeartbeats 4000000 in
/-- downward -/
theorem c_X3_downward {l : Launch} {D : va_G} {tys : List (ClassId × FieldType)} {w : va_W} (x y : Int64) (hy : ¬ y = 0) : RoL l yX3_downward wsX3_downward (rk 0) D (tys) (w) [.long x, .long y] (fun r => r = sd x y) := by
  refine roEnter (cc := cX3_downward) (maxL := 6) (ret := (some .long)) (by decide) rfl (Nat.le_of_ble_eq_true rfl) ?_
  intro p e s m below meth c hx hb hr hml hown hts hlk hP hK hN ls hl
  have hown : s.vm.findClass RX3 = some m.cls := hown
  have hl : lv_has ls 6 [(0, .long x), (2, .long y)] := hl
  refine lv_lload_n hx hb dX3_downward_0 rfl (lv_at hl 0 rfl) ?_
  refine lv_lload_n hx hb dX3_downward_1 rfl (lv_at hl 1 rfl) ?_
  refine lv_ldiv hx hb dX3_downward_2 (hy) ?_
  refine lv_lstore (lv' := [(4, .long (x / y)), (0, .long x), (2, .long y)]) hx hb dX3_downward_3 hl (by decide) rfl (fun ls hl => ?_)
  refine lv_lload_n hx hb dX3_downward_5 rfl (lv_at hl 1 rfl) ?_
  refine lv_lload_n hx hb dX3_downward_6 rfl (lv_at hl 2 rfl) ?_
  refine lv_lrem hx hb dX3_downward_7 (hy) ?_
  refine lv_lconst (v := 0) hx hb dX3_downward_8 (by decide) ?_
  refine W.lcmp hx hb dX3_downward_9 ?_
  refine lv_if_ge (tgt := 20) hx hb dX3_downward_10 (by decide) (fun c_10 => ?_) (fun c_10 => ?_)
  · have c_10 := lc_gep c_10
    refine lv_lload hx hb dX3_downward_20 (lv_at hl 0 rfl) ?_
    exact roL hx hb hr hlk dX3_downward_22 (by rw [sd, if_neg c_10])
  · have c_10 := lc_gen c_10
    refine lv_lload hx hb dX3_downward_13 (lv_at hl 0 rfl) ?_
    refine lv_lconst (v := 1) hx hb dX3_downward_15 (by decide) ?_
    refine lv_lsub hx hb dX3_downward_16 ?_
    refine lv_goto (tgt := 22) hx hb dX3_downward_17 (by decide) ?_
    exact roL hx hb hr hlk dX3_downward_22 (by rw [sd, if_pos c_10])

theorem iw_X3_tide_X3 : ∀ w ∈ u_ws RX3 TX3 25, w ∈ wsX3_tide := by decide +kernel
set_option maxRecDepth 100000 in
set_option maxHeartbeats 4000000 in
/-- tide -/
theorem c_X3_tide {l : Launch} {D : va_G} {G : Nat → Nat} {Z : Nat → ClassId} {mn fl : Int32} {va gv : Int64} {tp ts tw tm : Int32} {lv sl kd pt : Nat → Int32} {he : Nat → Int64} {ct fr to rl pi ph ps : Nat → Int32} {pm : Nat → Int64} {b n sN st : Nat} (h : Int32) : RoL l yX3_tide wsX3_tide (rk 0) D (mty Z) (mw G Z (nI b) mn (nI n) (nI sN) (nI st) fl va tp gv ts tw tm lv sl kd pt he ct fr to rl pi ph ps pm) [.ref (G 0), .int h] (fun r => r = td mn h) := by
  refine roEnter (cc := cX3_tide) (maxL := 4) (ret := (some .long)) (by decide) rfl (Nat.le_of_ble_eq_true rfl) ?_
  intro p e s m below meth c hx hb hr hml hown hts hlk hP hK hN ls hl
  have hown : s.vm.findClass RX3 = some m.cls := hown
  have hl : lv_has ls 4 [(0, .ref (G 0)), (1, .int h)] := hl
  refine lv_iload_n hx hb dX3_tide_0 rfl (lv_at hl 1 rfl) ?_
  refine lv_i2l hx hb dX3_tide_1 rfl ?_
  refine lv_aload_n hx hb dX3_tide_2 rfl (lv_at hl 0 rfl) ?_
  refine va_get (D := D) (ci := 3) (v := .int mn) (C := RX3) (T := TX3) (N := 25) hx hb hts iw_X3_tide_X3 hown hK hP 0 rfl rfl 2 (by decide) (hts (.fieldLink RX3 13 "SluiceRulesModel" "moon" "I") (by decide +kernel)) (fun _ h9 => h9) rfl dX3_tide_3 ?_
  refine lv_i2l hx hb dX3_tide_6 rfl ?_
  refine lv_lmul hx hb dX3_tide_7 ?_
  refine lv_ldc2 (v := 12) hx hb hown (hts (.constantLong RX3 102 (12)) (by decide +kernel)) dX3_tide_8 ?_
  refine lv_lrem hx hb dX3_tide_11 (by decide) ?_
  refine lv_lstore_n (lv' := [(2, .long ((h.toInt64 * mn.toInt64) - (h.toInt64 * mn.toInt64) / 12 * 12)), (0, .ref (G 0)), (1, .int h)]) hx hb dX3_tide_12 rfl hl (by decide) rfl (fun ls hl => ?_)
  refine lv_lload_n hx hb dX3_tide_13 rfl (lv_at hl 0 rfl) ?_
  refine lv_lconst (v := 0) hx hb dX3_tide_14 (by decide) ?_
  refine W.lcmp hx hb dX3_tide_15 ?_
  refine lv_if_ge (tgt := 27) hx hb dX3_tide_16 (by decide) (fun c_16 => ?_) (fun c_16 => ?_)
  · have c_16 := lc_gep c_16
    refine lv_lload_n hx hb dX3_tide_27 rfl (lv_at hl 0 rfl) ?_
    refine lv_lstore_n (lv' := [(2, .long ((h.toInt64 * mn.toInt64) - (h.toInt64 * mn.toInt64) / 12 * 12)), (0, .ref (G 0)), (1, .int h)]) hx hb dX3_tide_28 rfl hl (by decide) rfl (fun ls hl => ?_)
    refine lv_lload_n hx hb dX3_tide_29 rfl (lv_at hl 0 rfl) ?_
    refine lv_ldc2 (v := 6) hx hb hown (hts (.constantLong RX3 104 (6)) (by decide +kernel)) dX3_tide_30 ?_
    refine W.lcmp hx hb dX3_tide_33 ?_
    refine lv_if_ge (tgt := 41) hx hb dX3_tide_34 (by decide) (fun c_34 => ?_) (fun c_34 => ?_)
    · have c_34 := lc_gep c_34
      refine lv_ldc2 (v := 12) hx hb hown (hts (.constantLong RX3 102 (12)) (by decide +kernel)) dX3_tide_41 ?_
      refine lv_lload_n hx hb dX3_tide_44 rfl (lv_at hl 0 rfl) ?_
      refine lv_lsub hx hb dX3_tide_45 ?_
      exact roL hx hb hr hlk dX3_tide_46 (by have e12 : td12 (h.toInt64 * mn.toInt64) = _ := if_neg c_16; rw [td, e12, if_neg c_34])
    · have c_34 := lc_gen c_34
      refine lv_lload_n hx hb dX3_tide_37 rfl (lv_at hl 0 rfl) ?_
      refine lv_goto (tgt := 46) hx hb dX3_tide_38 (by decide) ?_
      exact roL hx hb hr hlk dX3_tide_46 (by have e12 : td12 (h.toInt64 * mn.toInt64) = _ := if_neg c_16; rw [td, e12, if_pos c_34])
  · have c_16 := lc_gen c_16
    refine lv_lload_n hx hb dX3_tide_19 rfl (lv_at hl 0 rfl) ?_
    refine lv_ldc2 (v := 12) hx hb hown (hts (.constantLong RX3 102 (12)) (by decide +kernel)) dX3_tide_20 ?_
    refine lv_ladd hx hb dX3_tide_23 ?_
    refine lv_goto (tgt := 28) hx hb dX3_tide_24 (by decide) ?_
    refine lv_lstore_n (lv' := [(2, .long (((h.toInt64 * mn.toInt64) - (h.toInt64 * mn.toInt64) / 12 * 12) + 12)), (0, .ref (G 0)), (1, .int h)]) hx hb dX3_tide_28 rfl hl (by decide) rfl (fun ls hl => ?_)
    refine lv_lload_n hx hb dX3_tide_29 rfl (lv_at hl 0 rfl) ?_
    refine lv_ldc2 (v := 6) hx hb hown (hts (.constantLong RX3 104 (6)) (by decide +kernel)) dX3_tide_30 ?_
    refine W.lcmp hx hb dX3_tide_33 ?_
    refine lv_if_ge (tgt := 41) hx hb dX3_tide_34 (by decide) (fun c_34 => ?_) (fun c_34 => ?_)
    · have c_34 := lc_gep c_34
      refine lv_ldc2 (v := 12) hx hb hown (hts (.constantLong RX3 102 (12)) (by decide +kernel)) dX3_tide_41 ?_
      refine lv_lload_n hx hb dX3_tide_44 rfl (lv_at hl 0 rfl) ?_
      refine lv_lsub hx hb dX3_tide_45 ?_
      exact roL hx hb hr hlk dX3_tide_46 (by have e12 : td12 (h.toInt64 * mn.toInt64) = _ := if_pos c_16; rw [td, e12, if_neg c_34])
    · have c_34 := lc_gen c_34
      refine lv_lload_n hx hb dX3_tide_37 rfl (lv_at hl 0 rfl) ?_
      refine lv_goto (tgt := 46) hx hb dX3_tide_38 (by decide) ?_
      exact roL hx hb hr hlk dX3_tide_46 (by have e12 : td12 (h.toInt64 * mn.toInt64) = _ := if_pos c_16; rw [td, e12, if_pos c_34])

set_option maxRecDepth 100000 in
set_option maxHeartbeats 4000000 in
/-- joined -/
theorem c_X3_joined {l : Launch} {D : va_G} {tys : List (ClassId × FieldType)} {w : va_W} (k_ : Int32) (x y : Int64) : RoL l yX3_joined wsX3_joined (rk 0) D (tys) (w) [.int k_, .long x, .long y] (fun r => r = jn k_ x y) := by
  refine roEnter (cc := cX3_joined) (maxL := 5) (ret := (some .long)) (by decide) rfl (Nat.le_of_ble_eq_true rfl) ?_
  intro p e s m below meth c hx hb hr hml hown hts hlk hP hK hN ls hl
  have hown : s.vm.findClass RX3 = some m.cls := hown
  have hl : lv_has ls 5 [(0, .int k_), (1, .long x), (3, .long y)] := hl
  refine lv_iload_n hx hb dX3_joined_0 rfl (lv_at hl 0 rfl) ?_
  refine lv_iconst (v := 4) hx hb dX3_joined_1 (by decide) ?_
  refine lv_icmp_ne (tgt := 11) hx hb dX3_joined_2 (by decide) (fun c_2 => ?_) (fun c_2 => ?_)
  · refine lv_iload_n hx hb dX3_joined_11 rfl (lv_at hl 0 rfl) ?_
    refine lv_iconst (v := 5) hx hb dX3_joined_12 (by decide) ?_
    refine lv_icmp_ne (tgt := 22) hx hb dX3_joined_13 (by decide) (fun c_13 => ?_) (fun c_13 => ?_)
    · refine lv_iload_n hx hb dX3_joined_22 rfl (lv_at hl 0 rfl) ?_
      refine lv_bipush (v := 6) hx hb dX3_joined_23 (by decide) ?_
      refine lv_icmp_ne (tgt := 42) hx hb dX3_joined_25 (by decide) (fun c_25 => ?_) (fun c_25 => ?_)
      · refine lv_lload_n hx hb dX3_joined_42 rfl (lv_at hl 1 rfl) ?_
        refine lv_lload_n hx hb dX3_joined_43 rfl (lv_at hl 2 rfl) ?_
        refine W.lcmp hx hb dX3_joined_44 ?_
        refine lv_if_le (tgt := 52) hx hb dX3_joined_45 (by decide) (fun c_45 => ?_) (fun c_45 => ?_)
        · have c_45 := lc_lep c_45
          refine lv_lload_n hx hb dX3_joined_52 rfl (lv_at hl 2 rfl) ?_
          exact roL hx hb hr hlk dX3_joined_53 (by rw [jn, if_neg c_2, if_neg c_13, if_neg c_25, if_neg c_45])
        · have c_45 := lc_len c_45
          refine lv_lload_n hx hb dX3_joined_48 rfl (lv_at hl 1 rfl) ?_
          refine lv_goto (tgt := 53) hx hb dX3_joined_49 (by decide) ?_
          exact roL hx hb hr hlk dX3_joined_53 (by rw [jn, if_neg c_2, if_neg c_13, if_neg c_25, if_pos c_45])
      · refine lv_lload_n hx hb dX3_joined_28 rfl (lv_at hl 1 rfl) ?_
        refine lv_lload_n hx hb dX3_joined_29 rfl (lv_at hl 2 rfl) ?_
        refine W.lcmp hx hb dX3_joined_30 ?_
        refine lv_if_ge (tgt := 38) hx hb dX3_joined_31 (by decide) (fun c_31 => ?_) (fun c_31 => ?_)
        · have c_31 := lc_gep c_31
          refine lv_lload_n hx hb dX3_joined_38 rfl (lv_at hl 2 rfl) ?_
          refine lv_goto (tgt := 53) hx hb dX3_joined_39 (by decide) ?_
          exact roL hx hb hr hlk dX3_joined_53 (by rw [jn, if_neg c_2, if_neg c_13, if_pos c_25, if_neg c_31])
        · have c_31 := lc_gen c_31
          refine lv_lload_n hx hb dX3_joined_34 rfl (lv_at hl 1 rfl) ?_
          refine lv_goto (tgt := 53) hx hb dX3_joined_35 (by decide) ?_
          exact roL hx hb hr hlk dX3_joined_53 (by rw [jn, if_neg c_2, if_neg c_13, if_pos c_25, if_pos c_31])
    · refine lv_lload_n hx hb dX3_joined_16 rfl (lv_at hl 1 rfl) ?_
      refine lv_lload_n hx hb dX3_joined_17 rfl (lv_at hl 2 rfl) ?_
      refine lv_lsub hx hb dX3_joined_18 ?_
      refine lv_goto (tgt := 53) hx hb dX3_joined_19 (by decide) ?_
      exact roL hx hb hr hlk dX3_joined_53 (by rw [jn, if_neg c_2, if_pos c_13])
  · refine lv_lload_n hx hb dX3_joined_5 rfl (lv_at hl 1 rfl) ?_
    refine lv_lload_n hx hb dX3_joined_6 rfl (lv_at hl 2 rfl) ?_
    refine lv_ladd hx hb dX3_joined_7 ?_
    refine lv_goto (tgt := 53) hx hb dX3_joined_8 (by decide) ?_
    exact roL hx hb hr hlk dX3_joined_53 (by rw [jn, if_pos c_2])

theorem iw_X3_plain_X3 : ∀ w ∈ u_ws RX3 TX3 25, w ∈ wsX3_plain := by decide +kernel
set_option maxRecDepth 100000 in
set_option maxHeartbeats 4000000 in
/-- plain -/
theorem c_X3_plain {l : Launch} {D : va_G} {G : Nat → Nat} {Z : Nat → ClassId} {mn fl : Int32} {va gv : Int64} {ts tw tm : Int32} {lv sl kd pt : Nat → Int32} {he : Nat → Int64} {ct fr to rl pi ph ps : Nat → Int32} {pm : Nat → Int64} {b n sN st : Nat} {t k : Nat} (hk : k < n) (hn40 : n ≤ 40) (hst : st ≤ 120) (ht : t + 1 ≤ st) (hb8 : b ≤ 8) (hw : wfR b n kd pt k) (hkd : kd k = 0 ∨ kd k = 1 ∨ kd k = 2 ∨ kd k = 3 ∨ kd k = 12 ∨ kd k = 14) (h : Int32) : WrV l yX3_plain wsX3_plain (rk 1) D (mty Z) (mw G Z (nI b) mn (nI n) (nI sN) (nI st) fl va (nI (t + 1) - 1) gv ts tw tm lv sl kd pt he ct fr to rl pi ph ps pm) [.ref (G 0), .int (nI k), .int h] (σ := MS) (fun u => mw G Z (nI b) mn (nI n) (nI sN) (nI u.1) u.2.1 u.2.2.1 (nI u.2.2.2.1 - 1) gv ts tw tm lv sl kd pt he u.2.2.2.2.1 fr to rl u.2.2.2.2.2.1 u.2.2.2.2.2.2.1 u.2.2.2.2.2.2.2.1 u.2.2.2.2.2.2.2.2) (fun u => u = gvS (lf (n, mn, lv, sl, kd, pt, he) k h ct) (st, fl, va, t + 1, ct, pi, ph, ps, pm)) 0 0 := by
  intro sz
  refine wrEnter (cc := cX3_plain) (maxL := 4) (ret := none) (by decide) rfl (Nat.le_of_ble_eq_true rfl) ?_
  intro p e s m below meth c hx hb hr hml hown hts hlk hP hK hN hsz hD hS hA hin ls hl
  have hown : s.vm.findClass RX3 = some m.cls := hown
  have hl : lv_has ls 4 [(0, .ref (G 0)), (1, .int (nI k)), (2, .int h)] := hl
  refine lv_aload_n hx hb dX3_plain_0 rfl (lv_at hl 0 rfl) ?_
  refine va_get (D := D) (ci := 3) (v := .ref (G 4)) (C := RX3) (T := TX3) (N := 25) hx hb hts iw_X3_plain_X3 hown hK hP 0 rfl rfl 6 (by decide) (hts (.fieldLink RX3 23 "SluiceRulesModel" "parts" "[I") (by decide +kernel)) (fun _ h9 => h9) rfl dX3_plain_1 ?_
  refine lv_iconst (v := 5) hx hb dX3_plain_4 (by decide) ?_
  refine lv_iload_n hx hb dX3_plain_5 rfl (lv_at hl 1 rfl) ?_
  refine lv_imul hx hb dX3_plain_6 ?_
  refine my_iald (j := 5 * k) hx hb hK hP 4 3 rfl rfl (mul5 k) (by omega) (by decide) dX3_plain_7 ?_
  refine lv_istore_n (lv' := [(3, .int (pt (5 * k))), (0, .ref (G 0)), (1, .int (nI k)), (2, .int h)]) hx hb dX3_plain_8 rfl hl (by decide) rfl (fun ls hl => ?_)
  refine lv_aload_n hx hb dX3_plain_9 rfl (lv_at hl 1 rfl) ?_
  refine va_get (D := D) (ci := 3) (v := .ref (G 3)) (C := RX3) (T := TX3) (N := 25) hx hb hts iw_X3_plain_X3 hown hK hP 0 rfl rfl 5 (by decide) (hts (.fieldLink RX3 20 "SluiceRulesModel" "kindOf" "[I") (by decide +kernel)) (fun _ h9 => h9) rfl dX3_plain_10 ?_
  refine lv_iload_n hx hb dX3_plain_13 rfl (lv_at hl 2 rfl) ?_
  refine my_iald (j := k) hx hb hK hP 3 2 rfl rfl (rfl) (by omega) (by decide) dX3_plain_14 ?_
  by_cases k_15_0 : (kd k) = 0
  · refine lv_tableIn (off := 65) (tgt := 80) hx hb dX3_plain_15 (by rw [k_15_0]; decide) (by rw [k_15_0]; decide) (by rw [k_15_0]; rfl) (by decide) ?_
    refine lv_aload_n hx hb dX3_plain_80 rfl (lv_at hl 1 rfl) ?_
    refine lv_iload_n hx hb dX3_plain_81 rfl (lv_at hl 0 rfl) ?_
    refine lv_i2l hx hb dX3_plain_82 rfl ?_
    refine WrV.callV (As := [.long ((pt (5 * k)).toInt64)]) (rest := []) (c_X3_gives ((pt (5 * k)).toInt64)) ⟨hx, hb, hml, hown, hts⟩ (cwV 1 hts gX3_plain_X3_gives rfl rfl rfl (by decide +kernel) ⟨by decide, by decide⟩) hP hD hS hA hK hN 0 3 rfl rfl rfl hl.1 rfl (Nat.le_of_ble_eq_true rfl) dX3_plain_83 ⟨Nat.le_of_ble_eq_true rfl, Nat.le_of_ble_eq_true rfl⟩ (fun ur_1 H locs hr_1 hP hD hS => ?_)
    refine lv_goto (tgt := 148) hx hb dX3_plain_86 (by decide) ?_
    exact wrV ur_1 hx hb hr hlk dX3_plain_148 hP hD hS (by rw [hr_1]; simp [lf, k_15_0])
  by_cases k_15_1 : (kd k) = 1
  · refine lv_tableIn (off := 74) (tgt := 89) hx hb dX3_plain_15 (by rw [k_15_1]; decide) (by rw [k_15_1]; decide) (by rw [k_15_1]; rfl) (by decide) ?_
    refine lv_aload_n hx hb dX3_plain_89 rfl (lv_at hl 1 rfl) ?_
    refine lv_aload_n hx hb dX3_plain_90 rfl (lv_at hl 1 rfl) ?_
    refine va_get (D := D) (ci := 3) (v := .ref (G 1)) (C := RX3) (T := TX3) (N := 25) hx hb hts iw_X3_plain_X3 hown hK hP 0 rfl rfl 1 (by decide) (hts (.fieldLink RX3 7 "SluiceRulesModel" "levels" "[I") (by decide +kernel)) (fun _ h9 => h9) rfl dX3_plain_91 ?_
    refine lv_iload_n hx hb dX3_plain_94 rfl (lv_at hl 0 rfl) ?_
    refine va_iald hx hb hK hP 1 0 rfl rfl (inB_vp.mp (inB_up hb8 (wf_1 hw k_15_1))) dX3_plain_95 ?_
    refine lv_i2l hx hb dX3_plain_96 rfl ?_
    refine WrV.callV (As := [.long ((lv (pt (5 * k)).toNatClampNeg).toInt64)]) (rest := []) (c_X3_gives ((lv (pt (5 * k)).toNatClampNeg).toInt64)) ⟨hx, hb, hml, hown, hts⟩ (cwV 1 hts gX3_plain_X3_gives rfl rfl rfl (by decide +kernel) ⟨by decide, by decide⟩) hP hD hS hA hK hN 0 3 rfl rfl rfl hl.1 rfl (Nat.le_of_ble_eq_true rfl) dX3_plain_97 ⟨Nat.le_of_ble_eq_true rfl, Nat.le_of_ble_eq_true rfl⟩ (fun ur_2 H locs hr_2 hP hD hS => ?_)
    refine lv_goto (tgt := 148) hx hb dX3_plain_100 (by decide) ?_
    exact wrV ur_2 hx hb hr hlk dX3_plain_148 hP hD hS (by rw [hr_2]; simp [lf, k_15_1])
  by_cases k_15_2 : (kd k) = 2
  · refine lv_tableIn (off := 88) (tgt := 103) hx hb dX3_plain_15 (by rw [k_15_2]; decide) (by rw [k_15_2]; decide) (by rw [k_15_2]; rfl) (by decide) ?_
    refine lv_aload_n hx hb dX3_plain_103 rfl (lv_at hl 1 rfl) ?_
    refine lv_aload_n hx hb dX3_plain_104 rfl (lv_at hl 1 rfl) ?_
    refine lv_iload_n hx hb dX3_plain_105 rfl (lv_at hl 3 rfl) ?_
    refine RoL.callV (As := [.int h]) (rest := [.ref (G 0)]) (c_X3_tide h) ⟨hx, hb, hml, hown, hts⟩ (cwV 1 hts gX3_plain_X3_tide rfl rfl rfl (by decide +kernel) ⟨by decide, by decide⟩) hP hK hN 0 3 rfl rfl rfl hl.1 rfl (Nat.le_of_ble_eq_true rfl) dX3_plain_106 ⟨Nat.le_of_ble_eq_true rfl, Nat.le_of_ble_eq_true rfl⟩ (fun r_3 hr_3 => ?_)
    refine WrV.callV (As := [.long r_3]) (rest := []) (c_X3_gives r_3) ⟨hx, hb, hml, hown, hts⟩ (cwV 1 hts gX3_plain_X3_gives rfl rfl rfl (by decide +kernel) ⟨by decide, by decide⟩) hP hD hS hA hK hN 0 3 rfl rfl rfl hl.1 rfl (Nat.le_of_ble_eq_true rfl) dX3_plain_109 ⟨Nat.le_of_ble_eq_true rfl, Nat.le_of_ble_eq_true rfl⟩ (fun ur_4 H locs hr_4 hP hD hS => ?_)
    refine lv_goto (tgt := 148) hx hb dX3_plain_112 (by decide) ?_
    exact wrV ur_4 hx hb hr hlk dX3_plain_148 hP hD hS (by rw [hr_4, hr_3]; simp [lf, k_15_2])
  by_cases k_15_3 : (kd k) = 3
  · refine lv_tableIn (off := 100) (tgt := 115) hx hb dX3_plain_15 (by rw [k_15_3]; decide) (by rw [k_15_3]; decide) (by rw [k_15_3]; rfl) (by decide) ?_
    refine lv_aload_n hx hb dX3_plain_115 rfl (lv_at hl 1 rfl) ?_
    refine lv_iload_n hx hb dX3_plain_116 rfl (lv_at hl 3 rfl) ?_
    refine lv_i2l hx hb dX3_plain_117 rfl ?_
    refine WrV.callV (As := [.long h.toInt64]) (rest := []) (c_X3_gives h.toInt64) ⟨hx, hb, hml, hown, hts⟩ (cwV 1 hts gX3_plain_X3_gives rfl rfl rfl (by decide +kernel) ⟨by decide, by decide⟩) hP hD hS hA hK hN 0 3 rfl rfl rfl hl.1 rfl (Nat.le_of_ble_eq_true rfl) dX3_plain_118 ⟨Nat.le_of_ble_eq_true rfl, Nat.le_of_ble_eq_true rfl⟩ (fun ur_5 H locs hr_5 hP hD hS => ?_)
    refine lv_goto (tgt := 148) hx hb dX3_plain_121 (by decide) ?_
    exact wrV ur_5 hx hb hr hlk dX3_plain_148 hP hD hS (by rw [hr_5]; simp [lf, k_15_3])
  by_cases k_15_12 : (kd k) = 12
  · refine lv_tableIn (off := 109) (tgt := 124) hx hb dX3_plain_15 (by rw [k_15_12]; decide) (by rw [k_15_12]; decide) (by rw [k_15_12]; rfl) (by decide) ?_
    refine lv_aload_n hx hb dX3_plain_124 rfl (lv_at hl 1 rfl) ?_
    refine lv_aload_n hx hb dX3_plain_125 rfl (lv_at hl 1 rfl) ?_
    refine va_get (D := D) (ci := 3) (v := .ref (G 5)) (C := RX3) (T := TX3) (N := 25) hx hb hts iw_X3_plain_X3 hown hK hP 0 rfl rfl 7 (by decide) (hts (.fieldLink RX3 26 "SluiceRulesModel" "held" "[J") (by decide +kernel)) (fun _ h9 => h9) rfl dX3_plain_126 ?_
    refine lv_iload_n hx hb dX3_plain_129 rfl (lv_at hl 2 rfl) ?_
    refine my_lald (j := k) hx hb hK hP 5 4 rfl rfl (rfl) (by omega) (by decide) dX3_plain_130 ?_
    refine WrV.callV (As := [.long (he k)]) (rest := []) (c_X3_gives (he k)) ⟨hx, hb, hml, hown, hts⟩ (cwV 1 hts gX3_plain_X3_gives rfl rfl rfl (by decide +kernel) ⟨by decide, by decide⟩) hP hD hS hA hK hN 0 3 rfl rfl rfl hl.1 rfl (Nat.le_of_ble_eq_true rfl) dX3_plain_131 ⟨Nat.le_of_ble_eq_true rfl, Nat.le_of_ble_eq_true rfl⟩ (fun ur_6 H locs hr_6 hP hD hS => ?_)
    refine lv_goto (tgt := 148) hx hb dX3_plain_134 (by decide) ?_
    exact wrV ur_6 hx hb hr hlk dX3_plain_148 hP hD hS (by rw [hr_6]; simp [lf, k_15_12])
  · have z_15 : ¬ (kd k).toInt = 0 ∧ ¬ (kd k).toInt = 1 ∧ ¬ (kd k).toInt = 2 ∧ ¬ (kd k).toInt = 3 ∧ ¬ (kd k).toInt = 12 := by
      exact ⟨lv_neT k_15_0 (by decide), lv_neT k_15_1 (by decide), lv_neT k_15_2 (by decide), lv_neT k_15_3 (by decide), lv_neT k_15_12 (by decide)⟩
    by_cases zo_15 : (kd k).toInt < 0 ∨ 12 < (kd k).toInt
    · refine lv_tableOut (tgt := 137) hx hb dX3_plain_15 zo_15 (by decide) ?_
      have k14 : kd k = 14 := by simpa [k_15_0, k_15_1, k_15_2, k_15_3, k_15_12] using hkd
      refine lv_aload_n hx hb dX3_plain_137 rfl (lv_at hl 1 rfl) ?_
      refine lv_aload_n hx hb dX3_plain_138 rfl (lv_at hl 1 rfl) ?_
      refine va_get (D := D) (ci := 3) (v := .ref (G 6)) (C := RX3) (T := TX3) (N := 25) hx hb hts iw_X3_plain_X3 hown hK hP 0 rfl rfl 8 (by decide) (hts (.fieldLink RX3 30 "SluiceRulesModel" "counter" "[I") (by decide +kernel)) (fun _ h9 => h9) rfl dX3_plain_139 ?_
      refine lv_iload_n hx hb dX3_plain_142 rfl (lv_at hl 0 rfl) ?_
      refine va_iald hx hb hK hP 6 5 rfl rfl (inB_vp.mp (inB_up hn40 (wf_14 hw k14).1)) dX3_plain_143 ?_
      refine lv_i2l hx hb dX3_plain_144 rfl ?_
      refine WrV.callV (As := [.long ((ct (pt (5 * k)).toNatClampNeg).toInt64)]) (rest := []) (c_X3_gives ((ct (pt (5 * k)).toNatClampNeg).toInt64)) ⟨hx, hb, hml, hown, hts⟩ (cwV 1 hts gX3_plain_X3_gives rfl rfl rfl (by decide +kernel) ⟨by decide, by decide⟩) hP hD hS hA hK hN 0 3 rfl rfl rfl hl.1 rfl (Nat.le_of_ble_eq_true rfl) dX3_plain_145 ⟨Nat.le_of_ble_eq_true rfl, Nat.le_of_ble_eq_true rfl⟩ (fun ur_7 H locs hr_7 hP hD hS => ?_)
      exact wrV ur_7 hx hb hr hlk dX3_plain_148 hP hD hS (by rw [hr_7]; simp [lf, k14])
    · have zi_15 : (kd k).toInt = 4 ∨ (kd k).toInt = 5 ∨ (kd k).toInt = 6 ∨ (kd k).toInt = 7 ∨ (kd k).toInt = 8 ∨ (kd k).toInt = 9 ∨ (kd k).toInt = 10 ∨ (kd k).toInt = 11 := by omega
      refine lv_tableIn (off := 122) (tgt := 137) hx hb dX3_plain_15 (by omega) (by omega) (by rcases zi_15 with z | z | z | z | z | z | z | z <;> rw [z] <;> rfl) (by decide) ?_
      have k14 : kd k = 14 := by simpa [k_15_0, k_15_1, k_15_2, k_15_3, k_15_12] using hkd
      refine lv_aload_n hx hb dX3_plain_137 rfl (lv_at hl 1 rfl) ?_
      refine lv_aload_n hx hb dX3_plain_138 rfl (lv_at hl 1 rfl) ?_
      refine va_get (D := D) (ci := 3) (v := .ref (G 6)) (C := RX3) (T := TX3) (N := 25) hx hb hts iw_X3_plain_X3 hown hK hP 0 rfl rfl 8 (by decide) (hts (.fieldLink RX3 30 "SluiceRulesModel" "counter" "[I") (by decide +kernel)) (fun _ h9 => h9) rfl dX3_plain_139 ?_
      refine lv_iload_n hx hb dX3_plain_142 rfl (lv_at hl 0 rfl) ?_
      refine va_iald hx hb hK hP 6 5 rfl rfl (inB_vp.mp (inB_up hn40 (wf_14 hw k14).1)) dX3_plain_143 ?_
      refine lv_i2l hx hb dX3_plain_144 rfl ?_
      refine WrV.callV (As := [.long ((ct (pt (5 * k)).toNatClampNeg).toInt64)]) (rest := []) (c_X3_gives ((ct (pt (5 * k)).toNatClampNeg).toInt64)) ⟨hx, hb, hml, hown, hts⟩ (cwV 1 hts gX3_plain_X3_gives rfl rfl rfl (by decide +kernel) ⟨by decide, by decide⟩) hP hD hS hA hK hN 0 3 rfl rfl rfl hl.1 rfl (Nat.le_of_ble_eq_true rfl) dX3_plain_145 ⟨Nat.le_of_ble_eq_true rfl, Nat.le_of_ble_eq_true rfl⟩ (fun ur_8 H locs hr_8 hP hD hS => ?_)
      exact wrV ur_8 hx hb hr hlk dX3_plain_148 hP hD hS (by rw [hr_8]; simp [lf, k14])

theorem iw_X3_behind_X3 : ∀ w ∈ u_ws RX3 TX3 25, w ∈ wsX3_behind := by decide +kernel
set_option maxRecDepth 100000 in
set_option maxHeartbeats 4000000 in
/-- behind -/
theorem c_X3_behind {l : Launch} {D : va_G} {G : Nat → Nat} {Z : Nat → ClassId} {mn fl : Int32} {va gv : Int64} {ts tw tm : Int32} {lv sl kd pt : Nat → Int32} {he : Nat → Int64} {ct fr to rl pi ph ps : Nat → Int32} {pm : Nat → Int64} {b n sN st : Nat} {t k : Nat} (hk : k < n) (hn40 : n ≤ 40) (hst : st ≤ 120) (ht : t + 1 ≤ st) (hc8 : kd k = 8 → ¬ (pt (5 * k + 2)).toInt64 = 0) : WrV l yX3_behind wsX3_behind (rk 1) D (mty Z) (mw G Z (nI b) mn (nI n) (nI sN) (nI st) fl va (nI (t + 1) - 1) gv ts tw tm lv sl kd pt he ct fr to rl pi ph ps pm) [.ref (G 0), .int (nI k)] (σ := MS) (fun u => mw G Z (nI b) mn (nI n) (nI sN) (nI u.1) u.2.1 u.2.2.1 (nI u.2.2.2.1 - 1) gv ts tw tm lv sl kd pt he u.2.2.2.2.1 fr to rl u.2.2.2.2.2.1 u.2.2.2.2.2.2.1 u.2.2.2.2.2.2.2.1 u.2.2.2.2.2.2.2.2) (fun u => u = bhK kd pt k (st, fl, va, t + 1, ct, pi, ph, ps, pm)) 0 0 := by
  intro sz
  refine wrEnter (cc := cX3_behind) (maxL := 4) (ret := none) (by decide) rfl (Nat.le_of_ble_eq_true rfl) ?_
  intro p e s m below meth c hx hb hr hml hown hts hlk hP hK hN hsz hD hS hA hin ls hl
  have hown : s.vm.findClass RX3 = some m.cls := hown
  have hl : lv_has ls 4 [(0, .ref (G 0)), (1, .int (nI k))] := hl
  refine lv_aload_n hx hb dX3_behind_0 rfl (lv_at hl 0 rfl) ?_
  refine va_get (D := D) (ci := 3) (v := .ref (G 4)) (C := RX3) (T := TX3) (N := 25) hx hb hts iw_X3_behind_X3 hown hK hP 0 rfl rfl 6 (by decide) (hts (.fieldLink RX3 23 "SluiceRulesModel" "parts" "[I") (by decide +kernel)) (fun _ h9 => h9) rfl dX3_behind_1 ?_
  refine lv_iconst (v := 5) hx hb dX3_behind_4 (by decide) ?_
  refine lv_iload_n hx hb dX3_behind_5 rfl (lv_at hl 1 rfl) ?_
  refine lv_imul hx hb dX3_behind_6 ?_
  refine lv_iconst (v := 1) hx hb dX3_behind_7 (by decide) ?_
  refine lv_iadd hx hb dX3_behind_8 ?_
  refine my_iald (j := 5 * k + 1) hx hb hK hP 4 3 rfl rfl (mul51 k) (by omega) (by decide) dX3_behind_9 ?_
  refine lv_istore_n (lv' := [(2, .int (pt (5 * k + 1))), (0, .ref (G 0)), (1, .int (nI k))]) hx hb dX3_behind_10 rfl hl (by decide) rfl (fun ls hl => ?_)
  refine lv_aload_n hx hb dX3_behind_11 rfl (lv_at hl 1 rfl) ?_
  refine va_get (D := D) (ci := 3) (v := .ref (G 4)) (C := RX3) (T := TX3) (N := 25) hx hb hts iw_X3_behind_X3 hown hK hP 0 rfl rfl 6 (by decide) (hts (.fieldLink RX3 23 "SluiceRulesModel" "parts" "[I") (by decide +kernel)) (fun _ h9 => h9) rfl dX3_behind_12 ?_
  refine lv_iconst (v := 5) hx hb dX3_behind_15 (by decide) ?_
  refine lv_iload_n hx hb dX3_behind_16 rfl (lv_at hl 2 rfl) ?_
  refine lv_imul hx hb dX3_behind_17 ?_
  refine lv_iconst (v := 2) hx hb dX3_behind_18 (by decide) ?_
  refine lv_iadd hx hb dX3_behind_19 ?_
  refine my_iald (j := 5 * k + 2) hx hb hK hP 4 3 rfl rfl (mul52 k) (by omega) (by decide) dX3_behind_20 ?_
  refine lv_istore_n (lv' := [(3, .int (pt (5 * k + 2))), (2, .int (pt (5 * k + 1))), (0, .ref (G 0)), (1, .int (nI k))]) hx hb dX3_behind_21 rfl hl (by decide) rfl (fun ls hl => ?_)
  refine lv_aload_n hx hb dX3_behind_22 rfl (lv_at hl 2 rfl) ?_
  refine va_get (D := D) (ci := 3) (v := .ref (G 3)) (C := RX3) (T := TX3) (N := 25) hx hb hts iw_X3_behind_X3 hown hK hP 0 rfl rfl 5 (by decide) (hts (.fieldLink RX3 20 "SluiceRulesModel" "kindOf" "[I") (by decide +kernel)) (fun _ h9 => h9) rfl dX3_behind_23 ?_
  refine lv_iload_n hx hb dX3_behind_26 rfl (lv_at hl 3 rfl) ?_
  refine my_iald (j := k) hx hb hK hP 3 2 rfl rfl (rfl) (by omega) (by decide) dX3_behind_27 ?_
  refine lv_bipush (v := 8) hx hb dX3_behind_28 (by decide) ?_
  refine lv_icmp_ne (tgt := 52) hx hb dX3_behind_30 (by decide) (fun c_30 => ?_) (fun c_30 => ?_)
  · refine lv_aload_n hx hb dX3_behind_52 rfl (lv_at hl 2 rfl) ?_
    refine va_get (D := D) (ci := 3) (v := .ref (G 3)) (C := RX3) (T := TX3) (N := 25) hx hb hts iw_X3_behind_X3 hown hK hP 0 rfl rfl 5 (by decide) (hts (.fieldLink RX3 20 "SluiceRulesModel" "kindOf" "[I") (by decide +kernel)) (fun _ h9 => h9) rfl dX3_behind_53 ?_
    refine lv_iload_n hx hb dX3_behind_56 rfl (lv_at hl 3 rfl) ?_
    refine my_iald (j := k) hx hb hK hP 3 2 rfl rfl (rfl) (by omega) (by decide) dX3_behind_57 ?_
    refine lv_bipush (v := 11) hx hb dX3_behind_58 (by decide) ?_
    refine lv_icmp_ne (tgt := 122) hx hb dX3_behind_60 (by decide) (fun c_60 => ?_) (fun c_60 => ?_)
    · refine lv_aload_n hx hb dX3_behind_122 rfl (lv_at hl 2 rfl) ?_
      refine lv_aload_n hx hb dX3_behind_123 rfl (lv_at hl 2 rfl) ?_
      refine va_get (D := D) (ci := 3) (v := .long va) (C := RX3) (T := TX3) (N := 25) hx hb hts iw_X3_behind_X3 hown hK hP 0 rfl rfl 15 (by decide) (hts (.fieldLink RX3 92 "SluiceRulesModel" "value" "J") (by decide +kernel)) (fun _ h9 => h9) rfl dX3_behind_124 ?_
      refine WrV.callV (As := [.long va]) (rest := []) (c_X3_gives va) ⟨hx, hb, hml, hown, hts⟩ (cwV 1 hts gX3_behind_X3_gives rfl rfl rfl (by decide +kernel) ⟨by decide, by decide⟩) hP hD hS hA hK hN 0 3 rfl rfl rfl hl.1 rfl (Nat.le_of_ble_eq_true rfl) dX3_behind_127 ⟨Nat.le_of_ble_eq_true rfl, Nat.le_of_ble_eq_true rfl⟩ (fun ur_1 H locs hr_1 hP hD hS => ?_)
      exact wrV ur_1 hx hb hr hlk dX3_behind_130 hP hD hS (by rw [hr_1, bhK, if_neg c_30, if_neg c_60])
    · refine lv_aload_n hx hb dX3_behind_63 rfl (lv_at hl 2 rfl) ?_
      refine lv_aload_n hx hb dX3_behind_64 rfl (lv_at hl 2 rfl) ?_
      refine va_get (D := D) (ci := 3) (v := .long va) (C := RX3) (T := TX3) (N := 25) hx hb hts iw_X3_behind_X3 hown hK hP 0 rfl rfl 15 (by decide) (hts (.fieldLink RX3 92 "SluiceRulesModel" "value" "J") (by decide +kernel)) (fun _ h9 => h9) rfl dX3_behind_65 ?_
      refine lv_aload_n hx hb dX3_behind_68 rfl (lv_at hl 2 rfl) ?_
      refine va_get (D := D) (ci := 3) (v := .ref (G 4)) (C := RX3) (T := TX3) (N := 25) hx hb hts iw_X3_behind_X3 hown hK hP 0 rfl rfl 6 (by decide) (hts (.fieldLink RX3 23 "SluiceRulesModel" "parts" "[I") (by decide +kernel)) (fun _ h9 => h9) rfl dX3_behind_69 ?_
      refine lv_iconst (v := 5) hx hb dX3_behind_72 (by decide) ?_
      refine lv_iload_n hx hb dX3_behind_73 rfl (lv_at hl 3 rfl) ?_
      refine lv_imul hx hb dX3_behind_74 ?_
      refine lv_iconst (v := 3) hx hb dX3_behind_75 (by decide) ?_
      refine lv_iadd hx hb dX3_behind_76 ?_
      refine my_iald (j := 5 * k + 3) hx hb hK hP 4 3 rfl rfl (mul53 k) (by omega) (by decide) dX3_behind_77 ?_
      refine lv_i2l hx hb dX3_behind_78 rfl ?_
      refine W.lcmp hx hb dX3_behind_79 ?_
      refine lv_if_ge (tgt := 88) hx hb dX3_behind_80 (by decide) (fun c_80 => ?_) (fun c_80 => ?_)
      · have c_80 := lc_gep c_80
        refine lv_aload_n hx hb dX3_behind_88 rfl (lv_at hl 2 rfl) ?_
        refine va_get (D := D) (ci := 3) (v := .long va) (C := RX3) (T := TX3) (N := 25) hx hb hts iw_X3_behind_X3 hown hK hP 0 rfl rfl 15 (by decide) (hts (.fieldLink RX3 92 "SluiceRulesModel" "value" "J") (by decide +kernel)) (fun _ h9 => h9) rfl dX3_behind_89 ?_
        refine lv_aload_n hx hb dX3_behind_92 rfl (lv_at hl 2 rfl) ?_
        refine va_get (D := D) (ci := 3) (v := .ref (G 4)) (C := RX3) (T := TX3) (N := 25) hx hb hts iw_X3_behind_X3 hown hK hP 0 rfl rfl 6 (by decide) (hts (.fieldLink RX3 23 "SluiceRulesModel" "parts" "[I") (by decide +kernel)) (fun _ h9 => h9) rfl dX3_behind_93 ?_
        refine lv_iconst (v := 5) hx hb dX3_behind_96 (by decide) ?_
        refine lv_iload_n hx hb dX3_behind_97 rfl (lv_at hl 3 rfl) ?_
        refine lv_imul hx hb dX3_behind_98 ?_
        refine lv_iconst (v := 4) hx hb dX3_behind_99 (by decide) ?_
        refine lv_iadd hx hb dX3_behind_100 ?_
        refine my_iald (j := 5 * k + 4) hx hb hK hP 4 3 rfl rfl (mul54 k) (by omega) (by decide) dX3_behind_101 ?_
        refine lv_i2l hx hb dX3_behind_102 rfl ?_
        refine W.lcmp hx hb dX3_behind_103 ?_
        refine lv_if_le (tgt := 112) hx hb dX3_behind_104 (by decide) (fun c_104 => ?_) (fun c_104 => ?_)
        · have c_104 := lc_lep c_104
          refine lv_aload_n hx hb dX3_behind_112 rfl (lv_at hl 2 rfl) ?_
          refine va_get (D := D) (ci := 3) (v := .long va) (C := RX3) (T := TX3) (N := 25) hx hb hts iw_X3_behind_X3 hown hK hP 0 rfl rfl 15 (by decide) (hts (.fieldLink RX3 92 "SluiceRulesModel" "value" "J") (by decide +kernel)) (fun _ h9 => h9) rfl dX3_behind_113 ?_
          refine WrV.callV (As := [.long va]) (rest := []) (c_X3_gives va) ⟨hx, hb, hml, hown, hts⟩ (cwV 1 hts gX3_behind_X3_gives rfl rfl rfl (by decide +kernel) ⟨by decide, by decide⟩) hP hD hS hA hK hN 0 3 rfl rfl rfl hl.1 rfl (Nat.le_of_ble_eq_true rfl) dX3_behind_116 ⟨Nat.le_of_ble_eq_true rfl, Nat.le_of_ble_eq_true rfl⟩ (fun ur_2 H locs hr_2 hP hD hS => ?_)
          refine lv_goto (tgt := 130) hx hb dX3_behind_119 (by decide) ?_
          exact wrV ur_2 hx hb hr hlk dX3_behind_130 hP hD hS (by rw [hr_2, bhK, if_neg c_30, if_pos c_60, bd, if_neg c_80, if_neg c_104])
        · have c_104 := lc_len c_104
          refine lv_iload_n hx hb dX3_behind_107 rfl (lv_at hl 0 rfl) ?_
          refine lv_i2l hx hb dX3_behind_108 rfl ?_
          refine lv_goto (tgt := 116) hx hb dX3_behind_109 (by decide) ?_
          refine WrV.callV (As := [.long ((pt (5 * k + 2)).toInt64)]) (rest := []) (c_X3_gives ((pt (5 * k + 2)).toInt64)) ⟨hx, hb, hml, hown, hts⟩ (cwV 1 hts gX3_behind_X3_gives rfl rfl rfl (by decide +kernel) ⟨by decide, by decide⟩) hP hD hS hA hK hN 0 3 rfl rfl rfl hl.1 rfl (Nat.le_of_ble_eq_true rfl) dX3_behind_116 ⟨Nat.le_of_ble_eq_true rfl, Nat.le_of_ble_eq_true rfl⟩ (fun ur_3 H locs hr_3 hP hD hS => ?_)
          refine lv_goto (tgt := 130) hx hb dX3_behind_119 (by decide) ?_
          exact wrV ur_3 hx hb hr hlk dX3_behind_130 hP hD hS (by rw [hr_3, bhK, if_neg c_30, if_pos c_60, bd, if_neg c_80, if_pos c_104])
      · have c_80 := lc_gen c_80
        refine lv_iload_n hx hb dX3_behind_83 rfl (lv_at hl 1 rfl) ?_
        refine lv_i2l hx hb dX3_behind_84 rfl ?_
        refine lv_goto (tgt := 116) hx hb dX3_behind_85 (by decide) ?_
        refine WrV.callV (As := [.long ((pt (5 * k + 1)).toInt64)]) (rest := []) (c_X3_gives ((pt (5 * k + 1)).toInt64)) ⟨hx, hb, hml, hown, hts⟩ (cwV 1 hts gX3_behind_X3_gives rfl rfl rfl (by decide +kernel) ⟨by decide, by decide⟩) hP hD hS hA hK hN 0 3 rfl rfl rfl hl.1 rfl (Nat.le_of_ble_eq_true rfl) dX3_behind_116 ⟨Nat.le_of_ble_eq_true rfl, Nat.le_of_ble_eq_true rfl⟩ (fun ur_4 H locs hr_4 hP hD hS => ?_)
        refine lv_goto (tgt := 130) hx hb dX3_behind_119 (by decide) ?_
        exact wrV ur_4 hx hb hr hlk dX3_behind_130 hP hD hS (by rw [hr_4, bhK, if_neg c_30, if_pos c_60, bd, if_pos c_80])
  · refine lv_aload_n hx hb dX3_behind_33 rfl (lv_at hl 2 rfl) ?_
    refine lv_aload_n hx hb dX3_behind_34 rfl (lv_at hl 2 rfl) ?_
    refine va_get (D := D) (ci := 3) (v := .long va) (C := RX3) (T := TX3) (N := 25) hx hb hts iw_X3_behind_X3 hown hK hP 0 rfl rfl 15 (by decide) (hts (.fieldLink RX3 92 "SluiceRulesModel" "value" "J") (by decide +kernel)) (fun _ h9 => h9) rfl dX3_behind_35 ?_
    refine lv_iload_n hx hb dX3_behind_38 rfl (lv_at hl 1 rfl) ?_
    refine lv_i2l hx hb dX3_behind_39 rfl ?_
    refine lv_lmul hx hb dX3_behind_40 ?_
    refine lv_iload_n hx hb dX3_behind_41 rfl (lv_at hl 0 rfl) ?_
    refine lv_i2l hx hb dX3_behind_42 rfl ?_
    refine RoL.callS (As := [.long (va * ((pt (5 * k + 1)).toInt64)), .long ((pt (5 * k + 2)).toInt64)]) (rest := [.ref (G 0)]) (c_X3_downward (va * ((pt (5 * k + 1)).toInt64)) ((pt (5 * k + 2)).toInt64) (hc8 c_30)) ⟨hx, hb, hml, hown, hts⟩ (va_cwS 2 hts gX3_behind_X3_downward rfl rfl rfl (by decide +kernel) ⟨by decide, by decide⟩) hP hK hN rfl hl.1 rfl (Nat.le_of_ble_eq_true rfl) dX3_behind_43 ⟨Nat.le_of_ble_eq_true rfl, Nat.le_of_ble_eq_true rfl⟩ (fun r_5 hr_5 => ?_)
    refine WrV.callV (As := [.long r_5]) (rest := []) (c_X3_gives r_5) ⟨hx, hb, hml, hown, hts⟩ (cwV 1 hts gX3_behind_X3_gives rfl rfl rfl (by decide +kernel) ⟨by decide, by decide⟩) hP hD hS hA hK hN 0 3 rfl rfl rfl hl.1 rfl (Nat.le_of_ble_eq_true rfl) dX3_behind_46 ⟨Nat.le_of_ble_eq_true rfl, Nat.le_of_ble_eq_true rfl⟩ (fun ur_6 H locs hr_6 hP hD hS => ?_)
    refine lv_goto (tgt := 130) hx hb dX3_behind_49 (by decide) ?_
    exact wrV ur_6 hx hb hr hlk dX3_behind_130 hP hD hS (by rw [hr_6, bhK, if_pos c_30, hr_5])

theorem iw_X3_pair_X3 : ∀ w ∈ u_ws RX3 TX3 25, w ∈ wsX3_pair := by decide +kernel
set_option maxRecDepth 100000 in
set_option maxHeartbeats 4000000 in
/-- pair -/
theorem c_X3_pair {l : Launch} {D : va_G} {G : Nat → Nat} {Z : Nat → ClassId} {mn fl : Int32} {va gv : Int64} {ts tw tm : Int32} {lv sl kd pt : Nat → Int32} {he : Nat → Int64} {ct fr to rl pi ph ps : Nat → Int32} {pm : Nat → Int64} {b n sN st : Nat} {t k : Nat} (hk : k < n) (hn40 : n ≤ 40) (hst : st ≤ 120) (ht : t + 1 ≤ st) (h s_ : Int32) : WrV l yX3_pair wsX3_pair (rk 1) D (mty Z) (mw G Z (nI b) mn (nI n) (nI sN) (nI st) fl va (nI (t + 1) - 1) gv ts tw tm lv sl kd pt he ct fr to rl pi ph ps pm) [.ref (G 0), .int (nI k), .int h, .int s_] (σ := MS) (fun u => mw G Z (nI b) mn (nI n) (nI sN) (nI u.1) u.2.1 u.2.2.1 (nI u.2.2.2.1 - 1) gv ts tw tm lv sl kd pt he u.2.2.2.2.1 fr to rl u.2.2.2.2.2.1 u.2.2.2.2.2.2.1 u.2.2.2.2.2.2.2.1 u.2.2.2.2.2.2.2.2) (fun u => u = prK kd pt k h s_ (st, fl, va, t + 1, ct, pi, ph, ps, pm)) 0 0 := by
  intro sz
  refine wrEnter (cc := cX3_pair) (maxL := 4) (ret := none) (by decide) rfl (Nat.le_of_ble_eq_true rfl) ?_
  intro p e s m below meth c hx hb hr hml hown hts hlk hP hK hN hsz hD hS hA hin ls hl
  have hown : s.vm.findClass RX3 = some m.cls := hown
  have hl : lv_has ls 4 [(0, .ref (G 0)), (1, .int (nI k)), (2, .int h), (3, .int s_)] := hl
  refine lv_iload_n hx hb dX3_pair_0 rfl (lv_at hl 3 rfl) ?_
  refine lv_iconst (v := 1) hx hb dX3_pair_1 (by decide) ?_
  refine lv_icmp_ne (tgt := 36) hx hb dX3_pair_2 (by decide) (fun c_2 => ?_) (fun c_2 => ?_)
  · refine lv_aload_n hx hb dX3_pair_36 rfl (lv_at hl 0 rfl) ?_
    refine lv_aload_n hx hb dX3_pair_37 rfl (lv_at hl 0 rfl) ?_
    refine va_get (D := D) (ci := 3) (v := .ref (G 3)) (C := RX3) (T := TX3) (N := 25) hx hb hts iw_X3_pair_X3 hown hK hP 0 rfl rfl 5 (by decide) (hts (.fieldLink RX3 20 "SluiceRulesModel" "kindOf" "[I") (by decide +kernel)) (fun _ h9 => h9) rfl dX3_pair_38 ?_
    refine lv_iload_n hx hb dX3_pair_41 rfl (lv_at hl 1 rfl) ?_
    refine my_iald (j := k) hx hb hK hP 3 2 rfl rfl (rfl) (by omega) (by decide) dX3_pair_42 ?_
    refine lv_aload_n hx hb dX3_pair_43 rfl (lv_at hl 0 rfl) ?_
    refine va_get (D := D) (ci := 3) (v := .ref (G 13)) (C := RX3) (T := TX3) (N := 25) hx hb hts iw_X3_pair_X3 hown hK hP 0 rfl rfl 20 (by decide) (hts (.fieldLink RX3 51 "SluiceRulesModel" "pileSum" "[J") (by decide +kernel)) (fun _ h9 => h9) rfl dX3_pair_44 ?_
    refine lv_aload_n hx hb dX3_pair_47 rfl (lv_at hl 0 rfl) ?_
    refine va_get (D := D) (ci := 3) (v := .int (nI (t + 1) - 1)) (C := RX3) (T := TX3) (N := 25) hx hb hts iw_X3_pair_X3 hown hK hP 0 rfl rfl 16 (by decide) (hts (.fieldLink RX3 99 "SluiceRulesModel" "top" "I") (by decide +kernel)) (fun _ h9 => h9) rfl dX3_pair_48 ?_
    refine my_lald (j := t) hx hb hK hP 13 12 rfl rfl (nI_pred t) (by omega) (by decide) dX3_pair_51 ?_
    refine lv_aload_n hx hb dX3_pair_52 rfl (lv_at hl 0 rfl) ?_
    refine va_get (D := D) (ci := 3) (v := .long va) (C := RX3) (T := TX3) (N := 25) hx hb hts iw_X3_pair_X3 hown hK hP 0 rfl rfl 15 (by decide) (hts (.fieldLink RX3 92 "SluiceRulesModel" "value" "J") (by decide +kernel)) (fun _ h9 => h9) rfl dX3_pair_53 ?_
    refine RoL.callS (As := [.int (kd k), .long (pm t), .long va]) (rest := [.ref (G 0)]) (c_X3_joined (kd k) (pm t) va) ⟨hx, hb, hml, hown, hts⟩ (va_cwS 3 hts gX3_pair_X3_joined rfl rfl rfl (by decide +kernel) ⟨by decide, by decide⟩) hP hK hN rfl hl.1 rfl (Nat.le_of_ble_eq_true rfl) dX3_pair_56 ⟨Nat.le_of_ble_eq_true rfl, Nat.le_of_ble_eq_true rfl⟩ (fun r_1 hr_1 => ?_)
    refine WrV.callV (As := [.long r_1]) (rest := []) (c_X3_gives r_1) ⟨hx, hb, hml, hown, hts⟩ (cwV 1 hts gX3_pair_X3_gives rfl rfl rfl (by decide +kernel) ⟨by decide, by decide⟩) hP hD hS hA hK hN 0 3 rfl rfl rfl hl.1 rfl (Nat.le_of_ble_eq_true rfl) dX3_pair_59 ⟨Nat.le_of_ble_eq_true rfl, Nat.le_of_ble_eq_true rfl⟩ (fun ur_2 H locs hr_2 hP hD hS => ?_)
    exact wrV ur_2 hx hb hr hlk dX3_pair_62 hP hD hS (by rw [hr_2, prK, if_neg c_2, hr_1]; rfl)
  · refine lv_aload_n hx hb dX3_pair_5 rfl (lv_at hl 0 rfl) ?_
    refine va_get (D := D) (ci := 3) (v := .ref (G 13)) (C := RX3) (T := TX3) (N := 25) hx hb hts iw_X3_pair_X3 hown hK hP 0 rfl rfl 20 (by decide) (hts (.fieldLink RX3 51 "SluiceRulesModel" "pileSum" "[J") (by decide +kernel)) (fun _ h9 => h9) rfl dX3_pair_6 ?_
    refine lv_aload_n hx hb dX3_pair_9 rfl (lv_at hl 0 rfl) ?_
    refine va_get (D := D) (ci := 3) (v := .int (nI (t + 1) - 1)) (C := RX3) (T := TX3) (N := 25) hx hb hts iw_X3_pair_X3 hown hK hP 0 rfl rfl 16 (by decide) (hts (.fieldLink RX3 99 "SluiceRulesModel" "top" "I") (by decide +kernel)) (fun _ h9 => h9) rfl dX3_pair_10 ?_
    refine lv_aload_n hx hb dX3_pair_13 rfl (lv_at hl 0 rfl) ?_
    refine va_get (D := D) (ci := 3) (v := .long va) (C := RX3) (T := TX3) (N := 25) hx hb hts iw_X3_pair_X3 hown hK hP 0 rfl rfl 15 (by decide) (hts (.fieldLink RX3 92 "SluiceRulesModel" "value" "J") (by decide +kernel)) (fun _ h9 => h9) rfl dX3_pair_14 ?_
    refine my_last (j := t) hx hb hK hP hD hS 13 12 rfl rfl (nI_pred t) (by omega) (by decide) dX3_pair_17 (fun H locs hP hD hS => ?_)
    have hP : va_P D vwCl (mw G Z (nI b) mn (nI n) (nI sN) (nI st) fl va (nI (t + 1) - 1) gv ts tw tm lv sl kd pt he ct fr to rl pi ph ps (vp_updL pm t va)) H := hP
    have hD : va_D (va_A (mw G Z (nI b) mn (nI n) (nI sN) (nI st) fl va (nI (t + 1) - 1) gv ts tw tm lv sl kd pt he ct fr to rl pi ph ps pm) sz) (mw G Z (nI b) mn (nI n) (nI sN) (nI st) fl va (nI (t + 1) - 1) gv ts tw tm lv sl kd pt he ct fr to rl pi ph ps (vp_updL pm t va)) := hD
    refine lv_aload_n hx hb dX3_pair_18 rfl (lv_at hl 0 rfl) ?_
    refine lv_aload_n hx hb dX3_pair_19 rfl (lv_at hl 0 rfl) ?_
    refine va_get (D := D) (ci := 3) (v := .ref (G 4)) (C := RX3) (T := TX3) (N := 25) hx hb hts iw_X3_pair_X3 hown hK hP 0 rfl rfl 6 (by decide) (hts (.fieldLink RX3 23 "SluiceRulesModel" "parts" "[I") (by decide +kernel)) (fun _ h9 => h9) rfl dX3_pair_20 ?_
    refine lv_iconst (v := 5) hx hb dX3_pair_23 (by decide) ?_
    refine lv_iload_n hx hb dX3_pair_24 rfl (lv_at hl 1 rfl) ?_
    refine lv_imul hx hb dX3_pair_25 ?_
    refine lv_iconst (v := 1) hx hb dX3_pair_26 (by decide) ?_
    refine lv_iadd hx hb dX3_pair_27 ?_
    refine my_iald (j := 5 * k + 1) hx hb hK hP 4 3 rfl rfl (mul51 k) (by omega) (by decide) dX3_pair_28 ?_
    refine lv_iload_n hx hb dX3_pair_29 rfl (lv_at hl 2 rfl) ?_
    refine WrV.callV (As := [.int (pt (5 * k + 1)), .int h]) (rest := []) (c_X3_enter hst ht (pt (5 * k + 1)) h) ⟨hx, hb, hml, hown, hts⟩ (cwV 2 hts gX3_pair_X3_enter rfl rfl rfl (by decide +kernel) ⟨by decide, by decide⟩) hP hD hS hA hK hN 0 3 rfl rfl rfl hl.1 rfl (Nat.le_of_ble_eq_true rfl) dX3_pair_30 ⟨Nat.le_of_ble_eq_true rfl, Nat.le_of_ble_eq_true rfl⟩ (fun ur_3 H locs hr_3 hP hD hS => ?_)
    refine lv_goto (tgt := 62) hx hb dX3_pair_33 (by decide) ?_
    exact wrV ur_3 hx hb hr hlk dX3_pair_62 hP hD hS (by rw [hr_3, prK, if_pos c_2]; rfl)

theorem iw_X3_choice_X3 : ∀ w ∈ u_ws RX3 TX3 25, w ∈ wsX3_choice := by decide +kernel
set_option maxRecDepth 100000 in
set_option maxHeartbeats 4000000 in
/-- choice -/
theorem c_X3_choice {l : Launch} {D : va_G} {G : Nat → Nat} {Z : Nat → ClassId} {mn fl : Int32} {va gv : Int64} {ts tw tm : Int32} {lv sl kd pt : Nat → Int32} {he : Nat → Int64} {ct fr to rl pi ph ps : Nat → Int32} {pm : Nat → Int64} {b n sN st : Nat} {t k : Nat} (hk : k < n) (hn40 : n ≤ 40) (hst : st ≤ 120) (ht : t + 1 ≤ st) (h s_ : Int32) : WrV l yX3_choice wsX3_choice (rk 1) D (mty Z) (mw G Z (nI b) mn (nI n) (nI sN) (nI st) fl va (nI (t + 1) - 1) gv ts tw tm lv sl kd pt he ct fr to rl pi ph ps pm) [.ref (G 0), .int (nI k), .int h, .int s_] (σ := MS) (fun u => mw G Z (nI b) mn (nI n) (nI sN) (nI u.1) u.2.1 u.2.2.1 (nI u.2.2.2.1 - 1) gv ts tw tm lv sl kd pt he u.2.2.2.2.1 fr to rl u.2.2.2.2.2.1 u.2.2.2.2.2.2.1 u.2.2.2.2.2.2.2.1 u.2.2.2.2.2.2.2.2) (fun u => u = chK pt k h s_ (st, fl, va, t + 1, ct, pi, ph, ps, pm)) 0 0 := by
  intro sz
  refine wrEnter (cc := cX3_choice) (maxL := 4) (ret := none) (by decide) rfl (Nat.le_of_ble_eq_true rfl) ?_
  intro p e s m below meth c hx hb hr hml hown hts hlk hP hK hN hsz hD hS hA hin ls hl
  have hown : s.vm.findClass RX3 = some m.cls := hown
  have hl : lv_has ls 4 [(0, .ref (G 0)), (1, .int (nI k)), (2, .int h), (3, .int s_)] := hl
  refine lv_iload_n hx hb dX3_choice_0 rfl (lv_at hl 3 rfl) ?_
  refine lv_iconst (v := 1) hx hb dX3_choice_1 (by decide) ?_
  refine lv_icmp_ne (tgt := 45) hx hb dX3_choice_2 (by decide) (fun c_2 => ?_) (fun c_2 => ?_)
  · refine lv_aload_n hx hb dX3_choice_45 rfl (lv_at hl 0 rfl) ?_
    refine lv_aload_n hx hb dX3_choice_46 rfl (lv_at hl 0 rfl) ?_
    refine va_get (D := D) (ci := 3) (v := .long va) (C := RX3) (T := TX3) (N := 25) hx hb hts iw_X3_choice_X3 hown hK hP 0 rfl rfl 15 (by decide) (hts (.fieldLink RX3 92 "SluiceRulesModel" "value" "J") (by decide +kernel)) (fun _ h9 => h9) rfl dX3_choice_47 ?_
    refine WrV.callV (As := [.long va]) (rest := []) (c_X3_gives va) ⟨hx, hb, hml, hown, hts⟩ (cwV 1 hts gX3_choice_X3_gives rfl rfl rfl (by decide +kernel) ⟨by decide, by decide⟩) hP hD hS hA hK hN 0 3 rfl rfl rfl hl.1 rfl (Nat.le_of_ble_eq_true rfl) dX3_choice_50 ⟨Nat.le_of_ble_eq_true rfl, Nat.le_of_ble_eq_true rfl⟩ (fun ur_1 H locs hr_1 hP hD hS => ?_)
    exact wrV ur_1 hx hb hr hlk dX3_choice_53 hP hD hS (by rw [hr_1, chK, if_neg c_2])
  · refine lv_aload_n hx hb dX3_choice_5 rfl (lv_at hl 0 rfl) ?_
    refine lv_aload_n hx hb dX3_choice_6 rfl (lv_at hl 0 rfl) ?_
    refine va_get (D := D) (ci := 3) (v := .long va) (C := RX3) (T := TX3) (N := 25) hx hb hts iw_X3_choice_X3 hown hK hP 0 rfl rfl 15 (by decide) (hts (.fieldLink RX3 92 "SluiceRulesModel" "value" "J") (by decide +kernel)) (fun _ h9 => h9) rfl dX3_choice_7 ?_
    refine lv_lconst (v := 0) hx hb dX3_choice_10 (by decide) ?_
    refine W.lcmp hx hb dX3_choice_11 ?_
    refine lv_if_le (tgt := 28) hx hb dX3_choice_12 (by decide) (fun c_12 => ?_) (fun c_12 => ?_)
    · have c_12 := lc_lep c_12
      refine lv_aload_n hx hb dX3_choice_28 rfl (lv_at hl 0 rfl) ?_
      refine va_get (D := D) (ci := 3) (v := .ref (G 4)) (C := RX3) (T := TX3) (N := 25) hx hb hts iw_X3_choice_X3 hown hK hP 0 rfl rfl 6 (by decide) (hts (.fieldLink RX3 23 "SluiceRulesModel" "parts" "[I") (by decide +kernel)) (fun _ h9 => h9) rfl dX3_choice_29 ?_
      refine lv_iconst (v := 5) hx hb dX3_choice_32 (by decide) ?_
      refine lv_iload_n hx hb dX3_choice_33 rfl (lv_at hl 1 rfl) ?_
      refine lv_imul hx hb dX3_choice_34 ?_
      refine lv_iconst (v := 2) hx hb dX3_choice_35 (by decide) ?_
      refine lv_iadd hx hb dX3_choice_36 ?_
      refine my_iald (j := 5 * k + 2) hx hb hK hP 4 3 rfl rfl (mul52 k) (by omega) (by decide) dX3_choice_37 ?_
      refine lv_iload_n hx hb dX3_choice_38 rfl (lv_at hl 2 rfl) ?_
      refine WrV.callV (As := [.int (pt (5 * k + 2)), .int h]) (rest := []) (c_X3_enter hst ht (pt (5 * k + 2)) h) ⟨hx, hb, hml, hown, hts⟩ (cwV 2 hts gX3_choice_X3_enter rfl rfl rfl (by decide +kernel) ⟨by decide, by decide⟩) hP hD hS hA hK hN 0 3 rfl rfl rfl hl.1 rfl (Nat.le_of_ble_eq_true rfl) dX3_choice_39 ⟨Nat.le_of_ble_eq_true rfl, Nat.le_of_ble_eq_true rfl⟩ (fun ur_2 H locs hr_2 hP hD hS => ?_)
      refine lv_goto (tgt := 53) hx hb dX3_choice_42 (by decide) ?_
      exact wrV ur_2 hx hb hr hlk dX3_choice_53 hP hD hS (by rw [hr_2, chK, if_pos c_2, if_neg c_12])
    · have c_12 := lc_len c_12
      refine lv_aload_n hx hb dX3_choice_15 rfl (lv_at hl 0 rfl) ?_
      refine va_get (D := D) (ci := 3) (v := .ref (G 4)) (C := RX3) (T := TX3) (N := 25) hx hb hts iw_X3_choice_X3 hown hK hP 0 rfl rfl 6 (by decide) (hts (.fieldLink RX3 23 "SluiceRulesModel" "parts" "[I") (by decide +kernel)) (fun _ h9 => h9) rfl dX3_choice_16 ?_
      refine lv_iconst (v := 5) hx hb dX3_choice_19 (by decide) ?_
      refine lv_iload_n hx hb dX3_choice_20 rfl (lv_at hl 1 rfl) ?_
      refine lv_imul hx hb dX3_choice_21 ?_
      refine lv_iconst (v := 1) hx hb dX3_choice_22 (by decide) ?_
      refine lv_iadd hx hb dX3_choice_23 ?_
      refine my_iald (j := 5 * k + 1) hx hb hK hP 4 3 rfl rfl (mul51 k) (by omega) (by decide) dX3_choice_24 ?_
      refine lv_goto (tgt := 38) hx hb dX3_choice_25 (by decide) ?_
      refine lv_iload_n hx hb dX3_choice_38 rfl (lv_at hl 2 rfl) ?_
      refine WrV.callV (As := [.int (pt (5 * k + 1)), .int h]) (rest := []) (c_X3_enter hst ht (pt (5 * k + 1)) h) ⟨hx, hb, hml, hown, hts⟩ (cwV 2 hts gX3_choice_X3_enter rfl rfl rfl (by decide +kernel) ⟨by decide, by decide⟩) hP hD hS hA hK hN 0 3 rfl rfl rfl hl.1 rfl (Nat.le_of_ble_eq_true rfl) dX3_choice_39 ⟨Nat.le_of_ble_eq_true rfl, Nat.le_of_ble_eq_true rfl⟩ (fun ur_3 H locs hr_3 hP hD hS => ?_)
      refine lv_goto (tgt := 53) hx hb dX3_choice_42 (by decide) ?_
      exact wrV ur_3 hx hb hr hlk dX3_choice_53 hP hD hS (by rw [hr_3, chK, if_pos c_2, if_pos c_12])

theorem iw_X3_slots_X3 : ∀ w ∈ u_ws RX3 TX3 25, w ∈ wsX3_slots := by decide +kernel
set_option maxRecDepth 100000 in
set_option maxHeartbeats 4000000 in
/-- slots -/
theorem c_X3_slots {l : Launch} {D : va_G} {G : Nat → Nat} {Z : Nat → ClassId} {mn fl : Int32} {va gv : Int64} {ts tw tm : Int32} {lv sl kd pt : Nat → Int32} {he : Nat → Int64} {ct fr to rl pi ph ps : Nat → Int32} {pm : Nat → Int64} {b n sN st : Nat} {t k : Nat} (hk : k < n) (hn40 : n ≤ 40) (hst : st ≤ 120) (ht : t + 1 ≤ st) (h s_ : Int32) (hsl : ¬ pt (5 * k + 1) < pt (5 * k) + s_ → inB (pt (5 * k) + s_) 8 = true) : WrV l yX3_slots wsX3_slots (rk 1) D (mty Z) (mw G Z (nI b) mn (nI n) (nI sN) (nI st) fl va (nI (t + 1) - 1) gv ts tw tm lv sl kd pt he ct fr to rl pi ph ps pm) [.ref (G 0), .int (nI k), .int h, .int s_] (σ := MS) (fun u => mw G Z (nI b) mn (nI n) (nI sN) (nI u.1) u.2.1 u.2.2.1 (nI u.2.2.2.1 - 1) gv ts tw tm lv sl kd pt he u.2.2.2.2.1 fr to rl u.2.2.2.2.2.1 u.2.2.2.2.2.2.1 u.2.2.2.2.2.2.2.1 u.2.2.2.2.2.2.2.2) (fun u => u = slK sl pt k h s_ (st, fl, va, t + 1, ct, pi, ph, ps, pm)) 0 0 := by
  intro sz
  refine wrEnter (cc := cX3_slots) (maxL := 5) (ret := none) (by decide) rfl (Nat.le_of_ble_eq_true rfl) ?_
  intro p e s m below meth c hx hb hr hml hown hts hlk hP hK hN hsz hD hS hA hin ls hl
  have hown : s.vm.findClass RX3 = some m.cls := hown
  have hl : lv_has ls 5 [(0, .ref (G 0)), (1, .int (nI k)), (2, .int h), (3, .int s_)] := hl
  refine lv_aload_n hx hb dX3_slots_0 rfl (lv_at hl 0 rfl) ?_
  refine va_get (D := D) (ci := 3) (v := .ref (G 13)) (C := RX3) (T := TX3) (N := 25) hx hb hts iw_X3_slots_X3 hown hK hP 0 rfl rfl 20 (by decide) (hts (.fieldLink RX3 51 "SluiceRulesModel" "pileSum" "[J") (by decide +kernel)) (fun _ h9 => h9) rfl dX3_slots_1 ?_
  refine lv_aload_n hx hb dX3_slots_4 rfl (lv_at hl 0 rfl) ?_
  refine va_get (D := D) (ci := 3) (v := .int (nI (t + 1) - 1)) (C := RX3) (T := TX3) (N := 25) hx hb hts iw_X3_slots_X3 hown hK hP 0 rfl rfl 16 (by decide) (hts (.fieldLink RX3 99 "SluiceRulesModel" "top" "I") (by decide +kernel)) (fun _ h9 => h9) rfl dX3_slots_5 ?_
  refine lv_dup2_11 hx hb dX3_slots_8 rfl rfl ?_
  refine my_lald (j := t) hx hb hK hP 13 12 rfl rfl (nI_pred t) (by omega) (by decide) dX3_slots_9 ?_
  refine lv_iload_n hx hb dX3_slots_10 rfl (lv_at hl 3 rfl) ?_
  refine lv_if_le (tgt := 21) hx hb dX3_slots_11 (by decide) (fun c_11 => ?_) (fun c_11 => ?_)
  · have c_11 : ¬ 0 < s_ := by rw [i_lt]; rw [i_le] at c_11; omega
    refine lv_lconst (v := 0) hx hb dX3_slots_21 (by decide) ?_
    refine lv_ladd hx hb dX3_slots_22 ?_
    refine my_last (j := t) hx hb hK hP hD hS 13 12 rfl rfl (nI_pred t) (by omega) (by decide) dX3_slots_23 (fun H locs hP hD hS => ?_)
    have hP : va_P D vwCl (mw G Z (nI b) mn (nI n) (nI sN) (nI st) fl va (nI (t + 1) - 1) gv ts tw tm lv sl kd pt he ct fr to rl pi ph ps (vp_updL pm t ((pm t) + 0))) H := hP
    have hD : va_D (va_A (mw G Z (nI b) mn (nI n) (nI sN) (nI st) fl va (nI (t + 1) - 1) gv ts tw tm lv sl kd pt he ct fr to rl pi ph ps pm) sz) (mw G Z (nI b) mn (nI n) (nI sN) (nI st) fl va (nI (t + 1) - 1) gv ts tw tm lv sl kd pt he ct fr to rl pi ph ps (vp_updL pm t ((pm t) + 0))) := hD
    refine lv_aload_n hx hb dX3_slots_24 rfl (lv_at hl 0 rfl) ?_
    refine va_get (D := D) (ci := 3) (v := .ref (G 4)) (C := RX3) (T := TX3) (N := 25) hx hb hts iw_X3_slots_X3 hown hK hP 0 rfl rfl 6 (by decide) (hts (.fieldLink RX3 23 "SluiceRulesModel" "parts" "[I") (by decide +kernel)) (fun _ h9 => h9) rfl dX3_slots_25 ?_
    refine lv_iconst (v := 5) hx hb dX3_slots_28 (by decide) ?_
    refine lv_iload_n hx hb dX3_slots_29 rfl (lv_at hl 1 rfl) ?_
    refine lv_imul hx hb dX3_slots_30 ?_
    refine my_iald (j := 5 * k) hx hb hK hP 4 3 rfl rfl (mul5 k) (by omega) (by decide) dX3_slots_31 ?_
    refine lv_iload_n hx hb dX3_slots_32 rfl (lv_at hl 3 rfl) ?_
    refine lv_iadd hx hb dX3_slots_33 ?_
    refine lv_istore (lv' := [(4, .int ((pt (5 * k)) + s_)), (0, .ref (G 0)), (1, .int (nI k)), (2, .int h), (3, .int s_)]) hx hb dX3_slots_34 hl (by decide) rfl (fun ls hl => ?_)
    refine lv_iload hx hb dX3_slots_36 (lv_at hl 0 rfl) ?_
    refine lv_aload_n hx hb dX3_slots_38 rfl (lv_at hl 1 rfl) ?_
    refine va_get (D := D) (ci := 3) (v := .ref (G 4)) (C := RX3) (T := TX3) (N := 25) hx hb hts iw_X3_slots_X3 hown hK hP 0 rfl rfl 6 (by decide) (hts (.fieldLink RX3 23 "SluiceRulesModel" "parts" "[I") (by decide +kernel)) (fun _ h9 => h9) rfl dX3_slots_39 ?_
    refine lv_iconst (v := 5) hx hb dX3_slots_42 (by decide) ?_
    refine lv_iload_n hx hb dX3_slots_43 rfl (lv_at hl 2 rfl) ?_
    refine lv_imul hx hb dX3_slots_44 ?_
    refine lv_iconst (v := 1) hx hb dX3_slots_45 (by decide) ?_
    refine lv_iadd hx hb dX3_slots_46 ?_
    refine my_iald (j := 5 * k + 1) hx hb hK hP 4 3 rfl rfl (mul51 k) (by omega) (by decide) dX3_slots_47 ?_
    refine lv_icmp_le (tgt := 67) hx hb dX3_slots_48 (by decide) (fun c_48 => ?_) (fun c_48 => ?_)
    · have q_48 : ¬ pt (5 * k + 1) < pt (5 * k) + s_ := by rw [i_lt]; rw [i_le] at c_48; omega
      refine lv_aload_n hx hb dX3_slots_67 rfl (lv_at hl 1 rfl) ?_
      refine lv_aload_n hx hb dX3_slots_68 rfl (lv_at hl 1 rfl) ?_
      refine va_get (D := D) (ci := 3) (v := .ref (G 2)) (C := RX3) (T := TX3) (N := 25) hx hb hts iw_X3_slots_X3 hown hK hP 0 rfl rfl 3 (by decide) (hts (.fieldLink RX3 17 "SluiceRulesModel" "slot" "[I") (by decide +kernel)) (fun _ h9 => h9) rfl dX3_slots_69 ?_
      refine lv_iload hx hb dX3_slots_72 (lv_at hl 0 rfl) ?_
      refine va_iald hx hb hK hP 2 1 rfl rfl (inB_vp.mp (hsl q_48)) dX3_slots_74 ?_
      refine lv_iload_n hx hb dX3_slots_75 rfl (lv_at hl 3 rfl) ?_
      refine WrV.callV (As := [.int (sl ((pt (5 * k)) + s_).toNatClampNeg), .int h]) (rest := []) (c_X3_enter hst ht (sl ((pt (5 * k)) + s_).toNatClampNeg) h) ⟨hx, hb, hml, hown, hts⟩ (cwV 2 hts gX3_slots_X3_enter rfl rfl rfl (by decide +kernel) ⟨by decide, by decide⟩) hP hD hS hA hK hN 0 3 rfl rfl rfl hl.1 rfl (Nat.le_of_ble_eq_true rfl) dX3_slots_76 ⟨Nat.le_of_ble_eq_true rfl, Nat.le_of_ble_eq_true rfl⟩ (fun ur_1 H locs hr_1 hP hD hS => ?_)
      exact wrV ur_1 hx hb hr hlk dX3_slots_79 hP hD hS (by rw [hr_1, slK, if_neg q_48, if_neg c_11]; rfl)
    · have q_48 : pt (5 * k + 1) < pt (5 * k) + s_ := by rw [i_lt]; rw [i_le] at c_48; omega
      refine lv_aload_n hx hb dX3_slots_51 rfl (lv_at hl 1 rfl) ?_
      refine lv_aload_n hx hb dX3_slots_52 rfl (lv_at hl 1 rfl) ?_
      refine va_get (D := D) (ci := 3) (v := .ref (G 13)) (C := RX3) (T := TX3) (N := 25) hx hb hts iw_X3_slots_X3 hown hK hP 0 rfl rfl 20 (by decide) (hts (.fieldLink RX3 51 "SluiceRulesModel" "pileSum" "[J") (by decide +kernel)) (fun _ h9 => h9) rfl dX3_slots_53 ?_
      refine lv_aload_n hx hb dX3_slots_56 rfl (lv_at hl 1 rfl) ?_
      refine va_get (D := D) (ci := 3) (v := .int (nI (t + 1) - 1)) (C := RX3) (T := TX3) (N := 25) hx hb hts iw_X3_slots_X3 hown hK hP 0 rfl rfl 16 (by decide) (hts (.fieldLink RX3 99 "SluiceRulesModel" "top" "I") (by decide +kernel)) (fun _ h9 => h9) rfl dX3_slots_57 ?_
      refine my_lald (j := t) hx hb hK hP 13 12 rfl rfl (nI_pred t) (by omega) (by decide) dX3_slots_60 ?_
      refine WrV.callV (As := [.long ((vp_updL pm t ((pm t) + 0)) t)]) (rest := []) (c_X3_gives ((vp_updL pm t ((pm t) + 0)) t)) ⟨hx, hb, hml, hown, hts⟩ (cwV 1 hts gX3_slots_X3_gives rfl rfl rfl (by decide +kernel) ⟨by decide, by decide⟩) hP hD hS hA hK hN 0 3 rfl rfl rfl hl.1 rfl (Nat.le_of_ble_eq_true rfl) dX3_slots_61 ⟨Nat.le_of_ble_eq_true rfl, Nat.le_of_ble_eq_true rfl⟩ (fun ur_2 H locs hr_2 hP hD hS => ?_)
      refine lv_goto (tgt := 79) hx hb dX3_slots_64 (by decide) ?_
      exact wrV ur_2 hx hb hr hlk dX3_slots_79 hP hD hS (by rw [hr_2, slK, if_pos q_48, if_neg c_11]; simp [gvS, vp_updL])
  · have c_11 : 0 < s_ := by rw [i_lt]; rw [i_le] at c_11; omega
    refine lv_aload_n hx hb dX3_slots_14 rfl (lv_at hl 0 rfl) ?_
    refine va_get (D := D) (ci := 3) (v := .long va) (C := RX3) (T := TX3) (N := 25) hx hb hts iw_X3_slots_X3 hown hK hP 0 rfl rfl 15 (by decide) (hts (.fieldLink RX3 92 "SluiceRulesModel" "value" "J") (by decide +kernel)) (fun _ h9 => h9) rfl dX3_slots_15 ?_
    refine lv_goto (tgt := 22) hx hb dX3_slots_18 (by decide) ?_
    refine lv_ladd hx hb dX3_slots_22 ?_
    refine my_last (j := t) hx hb hK hP hD hS 13 12 rfl rfl (nI_pred t) (by omega) (by decide) dX3_slots_23 (fun H locs hP hD hS => ?_)
    have hP : va_P D vwCl (mw G Z (nI b) mn (nI n) (nI sN) (nI st) fl va (nI (t + 1) - 1) gv ts tw tm lv sl kd pt he ct fr to rl pi ph ps (vp_updL pm t ((pm t) + va))) H := hP
    have hD : va_D (va_A (mw G Z (nI b) mn (nI n) (nI sN) (nI st) fl va (nI (t + 1) - 1) gv ts tw tm lv sl kd pt he ct fr to rl pi ph ps pm) sz) (mw G Z (nI b) mn (nI n) (nI sN) (nI st) fl va (nI (t + 1) - 1) gv ts tw tm lv sl kd pt he ct fr to rl pi ph ps (vp_updL pm t ((pm t) + va))) := hD
    refine lv_aload_n hx hb dX3_slots_24 rfl (lv_at hl 0 rfl) ?_
    refine va_get (D := D) (ci := 3) (v := .ref (G 4)) (C := RX3) (T := TX3) (N := 25) hx hb hts iw_X3_slots_X3 hown hK hP 0 rfl rfl 6 (by decide) (hts (.fieldLink RX3 23 "SluiceRulesModel" "parts" "[I") (by decide +kernel)) (fun _ h9 => h9) rfl dX3_slots_25 ?_
    refine lv_iconst (v := 5) hx hb dX3_slots_28 (by decide) ?_
    refine lv_iload_n hx hb dX3_slots_29 rfl (lv_at hl 1 rfl) ?_
    refine lv_imul hx hb dX3_slots_30 ?_
    refine my_iald (j := 5 * k) hx hb hK hP 4 3 rfl rfl (mul5 k) (by omega) (by decide) dX3_slots_31 ?_
    refine lv_iload_n hx hb dX3_slots_32 rfl (lv_at hl 3 rfl) ?_
    refine lv_iadd hx hb dX3_slots_33 ?_
    refine lv_istore (lv' := [(4, .int ((pt (5 * k)) + s_)), (0, .ref (G 0)), (1, .int (nI k)), (2, .int h), (3, .int s_)]) hx hb dX3_slots_34 hl (by decide) rfl (fun ls hl => ?_)
    refine lv_iload hx hb dX3_slots_36 (lv_at hl 0 rfl) ?_
    refine lv_aload_n hx hb dX3_slots_38 rfl (lv_at hl 1 rfl) ?_
    refine va_get (D := D) (ci := 3) (v := .ref (G 4)) (C := RX3) (T := TX3) (N := 25) hx hb hts iw_X3_slots_X3 hown hK hP 0 rfl rfl 6 (by decide) (hts (.fieldLink RX3 23 "SluiceRulesModel" "parts" "[I") (by decide +kernel)) (fun _ h9 => h9) rfl dX3_slots_39 ?_
    refine lv_iconst (v := 5) hx hb dX3_slots_42 (by decide) ?_
    refine lv_iload_n hx hb dX3_slots_43 rfl (lv_at hl 2 rfl) ?_
    refine lv_imul hx hb dX3_slots_44 ?_
    refine lv_iconst (v := 1) hx hb dX3_slots_45 (by decide) ?_
    refine lv_iadd hx hb dX3_slots_46 ?_
    refine my_iald (j := 5 * k + 1) hx hb hK hP 4 3 rfl rfl (mul51 k) (by omega) (by decide) dX3_slots_47 ?_
    refine lv_icmp_le (tgt := 67) hx hb dX3_slots_48 (by decide) (fun c_48 => ?_) (fun c_48 => ?_)
    · have q_48 : ¬ pt (5 * k + 1) < pt (5 * k) + s_ := by rw [i_lt]; rw [i_le] at c_48; omega
      refine lv_aload_n hx hb dX3_slots_67 rfl (lv_at hl 1 rfl) ?_
      refine lv_aload_n hx hb dX3_slots_68 rfl (lv_at hl 1 rfl) ?_
      refine va_get (D := D) (ci := 3) (v := .ref (G 2)) (C := RX3) (T := TX3) (N := 25) hx hb hts iw_X3_slots_X3 hown hK hP 0 rfl rfl 3 (by decide) (hts (.fieldLink RX3 17 "SluiceRulesModel" "slot" "[I") (by decide +kernel)) (fun _ h9 => h9) rfl dX3_slots_69 ?_
      refine lv_iload hx hb dX3_slots_72 (lv_at hl 0 rfl) ?_
      refine va_iald hx hb hK hP 2 1 rfl rfl (inB_vp.mp (hsl q_48)) dX3_slots_74 ?_
      refine lv_iload_n hx hb dX3_slots_75 rfl (lv_at hl 3 rfl) ?_
      refine WrV.callV (As := [.int (sl ((pt (5 * k)) + s_).toNatClampNeg), .int h]) (rest := []) (c_X3_enter hst ht (sl ((pt (5 * k)) + s_).toNatClampNeg) h) ⟨hx, hb, hml, hown, hts⟩ (cwV 2 hts gX3_slots_X3_enter rfl rfl rfl (by decide +kernel) ⟨by decide, by decide⟩) hP hD hS hA hK hN 0 3 rfl rfl rfl hl.1 rfl (Nat.le_of_ble_eq_true rfl) dX3_slots_76 ⟨Nat.le_of_ble_eq_true rfl, Nat.le_of_ble_eq_true rfl⟩ (fun ur_3 H locs hr_3 hP hD hS => ?_)
      exact wrV ur_3 hx hb hr hlk dX3_slots_79 hP hD hS (by rw [hr_3, slK, if_neg q_48, if_pos c_11]; rfl)
    · have q_48 : pt (5 * k + 1) < pt (5 * k) + s_ := by rw [i_lt]; rw [i_le] at c_48; omega
      refine lv_aload_n hx hb dX3_slots_51 rfl (lv_at hl 1 rfl) ?_
      refine lv_aload_n hx hb dX3_slots_52 rfl (lv_at hl 1 rfl) ?_
      refine va_get (D := D) (ci := 3) (v := .ref (G 13)) (C := RX3) (T := TX3) (N := 25) hx hb hts iw_X3_slots_X3 hown hK hP 0 rfl rfl 20 (by decide) (hts (.fieldLink RX3 51 "SluiceRulesModel" "pileSum" "[J") (by decide +kernel)) (fun _ h9 => h9) rfl dX3_slots_53 ?_
      refine lv_aload_n hx hb dX3_slots_56 rfl (lv_at hl 1 rfl) ?_
      refine va_get (D := D) (ci := 3) (v := .int (nI (t + 1) - 1)) (C := RX3) (T := TX3) (N := 25) hx hb hts iw_X3_slots_X3 hown hK hP 0 rfl rfl 16 (by decide) (hts (.fieldLink RX3 99 "SluiceRulesModel" "top" "I") (by decide +kernel)) (fun _ h9 => h9) rfl dX3_slots_57 ?_
      refine my_lald (j := t) hx hb hK hP 13 12 rfl rfl (nI_pred t) (by omega) (by decide) dX3_slots_60 ?_
      refine WrV.callV (As := [.long ((vp_updL pm t ((pm t) + va)) t)]) (rest := []) (c_X3_gives ((vp_updL pm t ((pm t) + va)) t)) ⟨hx, hb, hml, hown, hts⟩ (cwV 1 hts gX3_slots_X3_gives rfl rfl rfl (by decide +kernel) ⟨by decide, by decide⟩) hP hD hS hA hK hN 0 3 rfl rfl rfl hl.1 rfl (Nat.le_of_ble_eq_true rfl) dX3_slots_61 ⟨Nat.le_of_ble_eq_true rfl, Nat.le_of_ble_eq_true rfl⟩ (fun ur_4 H locs hr_4 hP hD hS => ?_)
      refine lv_goto (tgt := 79) hx hb dX3_slots_64 (by decide) ?_
      exact wrV ur_4 hx hb hr hlk dX3_slots_79 hP hD hS (by rw [hr_4, slK, if_pos q_48, if_pos c_11]; simp [gvS, vp_updL])

theorem not3 {x : Int32} (a : ¬ x ≤ 3) (b : ¬ x = 12) (c : ¬ x = 14) : ¬ (x ≤ 3 ∨ x = 12 ∨ x = 14) := fun z => z.elim a (fun z => z.elim b c)
theorem l_ne0 {x : Int32} (h : 1 ≤ x.toInt) : ¬ x.toInt64 = 0 := fun z => by
  have e : x.toInt64.toInt = x.toInt := Int32.toInt_toInt64 x
  rw [z, Int64.toInt_zero] at e; omega

theorem iw_X3_go_X3 : ∀ w ∈ u_ws RX3 TX3 25, w ∈ wsX3_go := by decide +kernel
set_option maxRecDepth 100000 in
set_option maxHeartbeats 4000000 in
/-- go -/
theorem c_X3_go {l : Launch} {D : va_G} {G : Nat → Nat} {Z : Nat → ClassId} {mn fl : Int32} {va gv : Int64} {ts tw tm : Int32} {lv sl kd pt : Nat → Int32} {he : Nat → Int64} {ct fr to rl pi ph ps : Nat → Int32} {pm : Nat → Int64} {b n sN st : Nat} {t k : Nat} (hk : k < n) (hn40 : n ≤ 40) (hb8 : b ≤ 8) (hst : st ≤ 120) (ht : t + 1 ≤ st) (hW : wfA b n sl kd pt) (hpi : pi t = nI k) (hsl : kd k = 16 → ¬ pt (5 * k + 1) < pt (5 * k) + ps t → inB (pt (5 * k) + ps t) 8 = true) : WrV l yX3_go wsX3_go (rk 2) D (mty Z) (mw G Z (nI b) mn (nI n) (nI sN) (nI st) fl va (nI (t + 1) - 1) gv ts tw tm lv sl kd pt he ct fr to rl pi ph ps pm) [.ref (G 0)] (σ := MS) (fun u => mw G Z (nI b) mn (nI n) (nI sN) (nI u.1) u.2.1 u.2.2.1 (nI u.2.2.2.1 - 1) gv ts tw tm lv sl kd pt he u.2.2.2.2.1 fr to rl u.2.2.2.2.2.1 u.2.2.2.2.2.2.1 u.2.2.2.2.2.2.2.1 u.2.2.2.2.2.2.2.2) (fun u => u = goK (n, mn, lv, sl, kd, pt, he) k (st, fl, va, t + 1, ct, pi, ph, ps, pm)) 0 0 := by
  intro sz
  refine wrEnter (cc := cX3_go) (maxL := 5) (ret := none) (by decide) rfl (Nat.le_of_ble_eq_true rfl) ?_
  intro p e s m below meth c hx hb hr hml hown hts hlk hP hK hN hsz hD hS hA hin ls hl
  have hown : s.vm.findClass RX3 = some m.cls := hown
  have hl : lv_has ls 5 [(0, .ref (G 0))] := hl
  refine lv_aload_n hx hb dX3_go_0 rfl (lv_at hl 0 rfl) ?_
  refine va_get (D := D) (ci := 3) (v := .ref (G 10)) (C := RX3) (T := TX3) (N := 25) hx hb hts iw_X3_go_X3 hown hK hP 0 rfl rfl 17 (by decide) (hts (.fieldLink RX3 42 "SluiceRulesModel" "pile" "[I") (by decide +kernel)) (fun _ h9 => h9) rfl dX3_go_1 ?_
  refine lv_aload_n hx hb dX3_go_4 rfl (lv_at hl 0 rfl) ?_
  refine va_get (D := D) (ci := 3) (v := .int (nI (t + 1) - 1)) (C := RX3) (T := TX3) (N := 25) hx hb hts iw_X3_go_X3 hown hK hP 0 rfl rfl 16 (by decide) (hts (.fieldLink RX3 99 "SluiceRulesModel" "top" "I") (by decide +kernel)) (fun _ h9 => h9) rfl dX3_go_5 ?_
  refine my_iald (j := t) hx hb hK hP 10 9 rfl rfl (nI_pred t) (by omega) (by decide) dX3_go_8 ?_
  refine lv_topi (fun kq9 ekq9 => ?_)
  have ekq9 : kq9 = nI k := ekq9.trans hpi
  subst ekq9
  refine lv_istore_n (lv' := [(1, .int (nI k)), (0, .ref (G 0))]) hx hb dX3_go_9 rfl hl (by decide) rfl (fun ls hl => ?_)
  refine lv_aload_n hx hb dX3_go_10 rfl (lv_at hl 1 rfl) ?_
  refine va_get (D := D) (ci := 3) (v := .ref (G 11)) (C := RX3) (T := TX3) (N := 25) hx hb hts iw_X3_go_X3 hown hK hP 0 rfl rfl 18 (by decide) (hts (.fieldLink RX3 45 "SluiceRulesModel" "pileHour" "[I") (by decide +kernel)) (fun _ h9 => h9) rfl dX3_go_11 ?_
  refine lv_aload_n hx hb dX3_go_14 rfl (lv_at hl 1 rfl) ?_
  refine va_get (D := D) (ci := 3) (v := .int (nI (t + 1) - 1)) (C := RX3) (T := TX3) (N := 25) hx hb hts iw_X3_go_X3 hown hK hP 0 rfl rfl 16 (by decide) (hts (.fieldLink RX3 99 "SluiceRulesModel" "top" "I") (by decide +kernel)) (fun _ h9 => h9) rfl dX3_go_15 ?_
  refine my_iald (j := t) hx hb hK hP 11 10 rfl rfl (nI_pred t) (by omega) (by decide) dX3_go_18 ?_
  refine lv_istore_n (lv' := [(2, .int (ph t)), (1, .int (nI k)), (0, .ref (G 0))]) hx hb dX3_go_19 rfl hl (by decide) rfl (fun ls hl => ?_)
  refine lv_aload_n hx hb dX3_go_20 rfl (lv_at hl 2 rfl) ?_
  refine va_get (D := D) (ci := 3) (v := .ref (G 12)) (C := RX3) (T := TX3) (N := 25) hx hb hts iw_X3_go_X3 hown hK hP 0 rfl rfl 19 (by decide) (hts (.fieldLink RX3 48 "SluiceRulesModel" "pileState" "[I") (by decide +kernel)) (fun _ h9 => h9) rfl dX3_go_21 ?_
  refine lv_aload_n hx hb dX3_go_24 rfl (lv_at hl 2 rfl) ?_
  refine va_get (D := D) (ci := 3) (v := .int (nI (t + 1) - 1)) (C := RX3) (T := TX3) (N := 25) hx hb hts iw_X3_go_X3 hown hK hP 0 rfl rfl 16 (by decide) (hts (.fieldLink RX3 99 "SluiceRulesModel" "top" "I") (by decide +kernel)) (fun _ h9 => h9) rfl dX3_go_25 ?_
  refine my_iald (j := t) hx hb hK hP 12 11 rfl rfl (nI_pred t) (by omega) (by decide) dX3_go_28 ?_
  refine lv_istore_n (lv' := [(3, .int (ps t)), (2, .int (ph t)), (1, .int (nI k)), (0, .ref (G 0))]) hx hb dX3_go_29 rfl hl (by decide) rfl (fun ls hl => ?_)
  refine lv_aload_n hx hb dX3_go_30 rfl (lv_at hl 3 rfl) ?_
  refine va_get (D := D) (ci := 3) (v := .ref (G 12)) (C := RX3) (T := TX3) (N := 25) hx hb hts iw_X3_go_X3 hown hK hP 0 rfl rfl 19 (by decide) (hts (.fieldLink RX3 48 "SluiceRulesModel" "pileState" "[I") (by decide +kernel)) (fun _ h9 => h9) rfl dX3_go_31 ?_
  refine lv_aload_n hx hb dX3_go_34 rfl (lv_at hl 3 rfl) ?_
  refine va_get (D := D) (ci := 3) (v := .int (nI (t + 1) - 1)) (C := RX3) (T := TX3) (N := 25) hx hb hts iw_X3_go_X3 hown hK hP 0 rfl rfl 16 (by decide) (hts (.fieldLink RX3 99 "SluiceRulesModel" "top" "I") (by decide +kernel)) (fun _ h9 => h9) rfl dX3_go_35 ?_
  refine lv_dup2_11 hx hb dX3_go_38 rfl rfl ?_
  refine my_iald (j := t) hx hb hK hP 12 11 rfl rfl (nI_pred t) (by omega) (by decide) dX3_go_39 ?_
  refine lv_iconst (v := 1) hx hb dX3_go_40 (by decide) ?_
  refine lv_iadd hx hb dX3_go_41 ?_
  refine my_iast (j := t) hx hb hK hP hD hS 12 11 rfl rfl (nI_pred t) (by omega) (by decide) dX3_go_42 (fun H locs hP hD hS => ?_)
  have hP : va_P D vwCl (mw G Z (nI b) mn (nI n) (nI sN) (nI st) fl va (nI (t + 1) - 1) gv ts tw tm lv sl kd pt he ct fr to rl pi ph (upd ps t ((ps t) + 1)) pm) H := hP
  have hD : va_D (va_A (mw G Z (nI b) mn (nI n) (nI sN) (nI st) fl va (nI (t + 1) - 1) gv ts tw tm lv sl kd pt he ct fr to rl pi ph ps pm) sz) (mw G Z (nI b) mn (nI n) (nI sN) (nI st) fl va (nI (t + 1) - 1) gv ts tw tm lv sl kd pt he ct fr to rl pi ph (upd ps t ((ps t) + 1)) pm) := hD
  refine lv_aload_n hx hb dX3_go_43 rfl (lv_at hl 3 rfl) ?_
  refine va_get (D := D) (ci := 3) (v := .ref (G 3)) (C := RX3) (T := TX3) (N := 25) hx hb hts iw_X3_go_X3 hown hK hP 0 rfl rfl 5 (by decide) (hts (.fieldLink RX3 20 "SluiceRulesModel" "kindOf" "[I") (by decide +kernel)) (fun _ h9 => h9) rfl dX3_go_44 ?_
  refine lv_iload_n hx hb dX3_go_47 rfl (lv_at hl 2 rfl) ?_
  refine my_iald (j := k) hx hb hK hP 3 2 rfl rfl (rfl) (by omega) (by decide) dX3_go_48 ?_
  refine lv_istore (lv' := [(4, .int (kd k)), (3, .int (ps t)), (2, .int (ph t)), (1, .int (nI k)), (0, .ref (G 0))]) hx hb dX3_go_49 hl (by decide) rfl (fun ls hl => ?_)
  refine lv_iload hx hb dX3_go_51 (lv_at hl 0 rfl) ?_
  refine lv_iconst (v := 3) hx hb dX3_go_53 (by decide) ?_
  refine lv_icmp_le (tgt := 71) hx hb dX3_go_54 (by decide) (fun c_54 => ?_) (fun c_54 => ?_)
  · refine lv_aload_n hx hb dX3_go_71 rfl (lv_at hl 4 rfl) ?_
    refine lv_iload_n hx hb dX3_go_72 rfl (lv_at hl 3 rfl) ?_
    refine lv_iload_n hx hb dX3_go_73 rfl (lv_at hl 2 rfl) ?_
    refine WrV.callV (As := [.int (nI k), .int (ph t)]) (rest := []) (c_X3_plain hk hn40 hst ht hb8 (hW.1 k hk) (wf_lf (hW.1 k hk) (Or.inl c_54)) (ph t)) ⟨hx, hb, hml, hown, hts⟩ (cwV 2 hts gX3_go_X3_plain rfl rfl rfl (by decide +kernel) ⟨by decide, by decide⟩) hP hD hS hA hK hN 0 3 rfl rfl rfl hl.1 rfl (Nat.le_of_ble_eq_true rfl) dX3_go_74 ⟨Nat.le_of_ble_eq_true rfl, Nat.le_of_ble_eq_true rfl⟩ (fun ur_1 H locs hr_1 hP hD hS => ?_)
    refine lv_goto (tgt := 222) hx hb dX3_go_77 (by decide) ?_
    exact wrV ur_1 hx hb hr hlk dX3_go_222 hP hD hS (by rw [hr_1, goK, if_pos (Or.inl c_54)]; rfl)
  · refine lv_iload hx hb dX3_go_57 (lv_at hl 0 rfl) ?_
    refine lv_bipush (v := 12) hx hb dX3_go_59 (by decide) ?_
    refine lv_icmp_eq (tgt := 71) hx hb dX3_go_61 (by decide) (fun c_61 => ?_) (fun c_61 => ?_)
    · refine lv_aload_n hx hb dX3_go_71 rfl (lv_at hl 4 rfl) ?_
      refine lv_iload_n hx hb dX3_go_72 rfl (lv_at hl 3 rfl) ?_
      refine lv_iload_n hx hb dX3_go_73 rfl (lv_at hl 2 rfl) ?_
      refine WrV.callV (As := [.int (nI k), .int (ph t)]) (rest := []) (c_X3_plain hk hn40 hst ht hb8 (hW.1 k hk) (wf_lf (hW.1 k hk) (Or.inr (Or.inl c_61))) (ph t)) ⟨hx, hb, hml, hown, hts⟩ (cwV 2 hts gX3_go_X3_plain rfl rfl rfl (by decide +kernel) ⟨by decide, by decide⟩) hP hD hS hA hK hN 0 3 rfl rfl rfl hl.1 rfl (Nat.le_of_ble_eq_true rfl) dX3_go_74 ⟨Nat.le_of_ble_eq_true rfl, Nat.le_of_ble_eq_true rfl⟩ (fun ur_2 H locs hr_2 hP hD hS => ?_)
      refine lv_goto (tgt := 222) hx hb dX3_go_77 (by decide) ?_
      exact wrV ur_2 hx hb hr hlk dX3_go_222 hP hD hS (by rw [hr_2, goK, if_pos (Or.inr (Or.inl c_61))]; rfl)
    · refine lv_iload hx hb dX3_go_64 (lv_at hl 0 rfl) ?_
      refine lv_bipush (v := 14) hx hb dX3_go_66 (by decide) ?_
      refine lv_icmp_ne (tgt := 80) hx hb dX3_go_68 (by decide) (fun c_68 => ?_) (fun c_68 => ?_)
      · refine lv_iload hx hb dX3_go_80 (lv_at hl 0 rfl) ?_
        refine lv_bipush (v := 16) hx hb dX3_go_82 (by decide) ?_
        refine lv_icmp_ne (tgt := 97) hx hb dX3_go_84 (by decide) (fun c_84 => ?_) (fun c_84 => ?_)
        · refine lv_iload_n hx hb dX3_go_97 rfl (lv_at hl 1 rfl) ?_
          refine lv_if_ne (tgt := 183) hx hb dX3_go_98 (by decide) (fun c_98 => ?_) (fun c_98 => ?_)
          · refine lv_iload hx hb dX3_go_183 (lv_at hl 0 rfl) ?_
            refine lv_bipush (v := 7) hx hb dX3_go_185 (by decide) ?_
            refine lv_icmp_gt (tgt := 200) hx hb dX3_go_187 (by decide) (fun c_187 => ?_) (fun c_187 => ?_)
            · have q_187 : ¬ kd k ≤ 7 := by rw [i_le]; have q9 := c_187; rw [i_lt] at q9; omega
              refine lv_iload hx hb dX3_go_200 (lv_at hl 0 rfl) ?_
              refine lv_bipush (v := 9) hx hb dX3_go_202 (by decide) ?_
              refine lv_icmp_ne (tgt := 217) hx hb dX3_go_204 (by decide) (fun c_204 => ?_) (fun c_204 => ?_)
              · refine lv_aload_n hx hb dX3_go_217 rfl (lv_at hl 4 rfl) ?_
                refine lv_iload_n hx hb dX3_go_218 rfl (lv_at hl 3 rfl) ?_
                refine WrV.callV (As := [.int (nI k)]) (rest := []) (c_X3_behind hk hn40 hst ht (fun z9 => l_ne0 (wf_8 (hW.1 k hk) z9).1)) ⟨hx, hb, hml, hown, hts⟩ (cwV 1 hts gX3_go_X3_behind rfl rfl rfl (by decide +kernel) ⟨by decide, by decide⟩) hP hD hS hA hK hN 0 3 rfl rfl rfl hl.1 rfl (Nat.le_of_ble_eq_true rfl) dX3_go_219 ⟨Nat.le_of_ble_eq_true rfl, Nat.le_of_ble_eq_true rfl⟩ (fun ur_3 H locs hr_3 hP hD hS => ?_)
                exact wrV ur_3 hx hb hr hlk dX3_go_222 hP hD hS (by rw [hr_3, goK, if_neg (not3 c_54 c_61 c_68), if_neg c_84, if_neg (show ¬ ps (t + 1 - 1) = 0 from c_98), if_neg q_187, if_neg c_204]; rfl)
              · refine lv_aload_n hx hb dX3_go_207 rfl (lv_at hl 4 rfl) ?_
                refine lv_iload_n hx hb dX3_go_208 rfl (lv_at hl 3 rfl) ?_
                refine lv_iload_n hx hb dX3_go_209 rfl (lv_at hl 2 rfl) ?_
                refine lv_iload_n hx hb dX3_go_210 rfl (lv_at hl 1 rfl) ?_
                refine WrV.callV (As := [.int (nI k), .int (ph t), .int (ps t)]) (rest := []) (c_X3_choice hk hn40 hst ht (ph t) (ps t)) ⟨hx, hb, hml, hown, hts⟩ (cwV 3 hts gX3_go_X3_choice rfl rfl rfl (by decide +kernel) ⟨by decide, by decide⟩) hP hD hS hA hK hN 0 3 rfl rfl rfl hl.1 rfl (Nat.le_of_ble_eq_true rfl) dX3_go_211 ⟨Nat.le_of_ble_eq_true rfl, Nat.le_of_ble_eq_true rfl⟩ (fun ur_4 H locs hr_4 hP hD hS => ?_)
                refine lv_goto (tgt := 222) hx hb dX3_go_214 (by decide) ?_
                exact wrV ur_4 hx hb hr hlk dX3_go_222 hP hD hS (by rw [hr_4, goK, if_neg (not3 c_54 c_61 c_68), if_neg c_84, if_neg (show ¬ ps (t + 1 - 1) = 0 from c_98), if_neg q_187, if_pos c_204]; rfl)
            · have q_187 : kd k ≤ 7 := by rw [i_le]; have q9 := c_187; rw [i_lt] at q9; omega
              refine lv_aload_n hx hb dX3_go_190 rfl (lv_at hl 4 rfl) ?_
              refine lv_iload_n hx hb dX3_go_191 rfl (lv_at hl 3 rfl) ?_
              refine lv_iload_n hx hb dX3_go_192 rfl (lv_at hl 2 rfl) ?_
              refine lv_iload_n hx hb dX3_go_193 rfl (lv_at hl 1 rfl) ?_
              refine WrV.callV (As := [.int (nI k), .int (ph t), .int (ps t)]) (rest := []) (c_X3_pair hk hn40 hst ht (ph t) (ps t)) ⟨hx, hb, hml, hown, hts⟩ (cwV 3 hts gX3_go_X3_pair rfl rfl rfl (by decide +kernel) ⟨by decide, by decide⟩) hP hD hS hA hK hN 0 3 rfl rfl rfl hl.1 rfl (Nat.le_of_ble_eq_true rfl) dX3_go_194 ⟨Nat.le_of_ble_eq_true rfl, Nat.le_of_ble_eq_true rfl⟩ (fun ur_5 H locs hr_5 hP hD hS => ?_)
              refine lv_goto (tgt := 222) hx hb dX3_go_197 (by decide) ?_
              exact wrV ur_5 hx hb hr hlk dX3_go_222 hP hD hS (by rw [hr_5, goK, if_neg (not3 c_54 c_61 c_68), if_neg c_84, if_neg (show ¬ ps (t + 1 - 1) = 0 from c_98), if_pos q_187]; rfl)
          · refine lv_aload_n hx hb dX3_go_101 rfl (lv_at hl 4 rfl) ?_
            refine va_get (D := D) (ci := 3) (v := .ref (G 6)) (C := RX3) (T := TX3) (N := 25) hx hb hts iw_X3_go_X3 hown hK hP 0 rfl rfl 8 (by decide) (hts (.fieldLink RX3 30 "SluiceRulesModel" "counter" "[I") (by decide +kernel)) (fun _ h9 => h9) rfl dX3_go_102 ?_
            refine lv_iload_n hx hb dX3_go_105 rfl (lv_at hl 3 rfl) ?_
            refine lv_dup2_11 hx hb dX3_go_106 rfl rfl ?_
            refine my_iald (j := k) hx hb hK hP 6 5 rfl rfl (rfl) (by omega) (by decide) dX3_go_107 ?_
            refine lv_iload hx hb dX3_go_108 (lv_at hl 0 rfl) ?_
            refine lv_bipush (v := 13) hx hb dX3_go_110 (by decide) ?_
            refine lv_icmp_ne (tgt := 119) hx hb dX3_go_112 (by decide) (fun c_112 => ?_) (fun c_112 => ?_)
            · refine lv_iconst (v := 0) hx hb dX3_go_119 (by decide) ?_
              refine lv_iadd hx hb dX3_go_120 ?_
              refine my_iast (j := k) hx hb hK hP hD hS 6 5 rfl rfl (rfl) (by omega) (by decide) dX3_go_121 (fun H locs hP hD hS => ?_)
              have hP : va_P D vwCl (mw G Z (nI b) mn (nI n) (nI sN) (nI st) fl va (nI (t + 1) - 1) gv ts tw tm lv sl kd pt he (upd ct k ((ct k) + 0)) fr to rl pi ph (upd ps t ((ps t) + 1)) pm) H := hP
              have hD : va_D (va_A (mw G Z (nI b) mn (nI n) (nI sN) (nI st) fl va (nI (t + 1) - 1) gv ts tw tm lv sl kd pt he ct fr to rl pi ph ps pm) sz) (mw G Z (nI b) mn (nI n) (nI sN) (nI st) fl va (nI (t + 1) - 1) gv ts tw tm lv sl kd pt he (upd ct k ((ct k) + 0)) fr to rl pi ph (upd ps t ((ps t) + 1)) pm) := hD
              refine lv_aload_n hx hb dX3_go_122 rfl (lv_at hl 4 rfl) ?_
              refine lv_iload hx hb dX3_go_123 (lv_at hl 0 rfl) ?_
              refine lv_bipush (v := 15) hx hb dX3_go_125 (by decide) ?_
              refine lv_icmp_ne (tgt := 146) hx hb dX3_go_127 (by decide) (fun c_127 => ?_) (fun c_127 => ?_)
              · refine lv_aload_n hx hb dX3_go_146 rfl (lv_at hl 4 rfl) ?_
                refine va_get (D := D) (ci := 3) (v := .ref (G 4)) (C := RX3) (T := TX3) (N := 25) hx hb hts iw_X3_go_X3 hown hK hP 0 rfl rfl 6 (by decide) (hts (.fieldLink RX3 23 "SluiceRulesModel" "parts" "[I") (by decide +kernel)) (fun _ h9 => h9) rfl dX3_go_147 ?_
                refine lv_iconst (v := 5) hx hb dX3_go_150 (by decide) ?_
                refine lv_iload_n hx hb dX3_go_151 rfl (lv_at hl 3 rfl) ?_
                refine lv_imul hx hb dX3_go_152 ?_
                refine my_iald (j := 5 * k) hx hb hK hP 4 3 rfl rfl (mul5 k) (by omega) (by decide) dX3_go_153 ?_
                refine lv_iload hx hb dX3_go_154 (lv_at hl 0 rfl) ?_
                refine lv_bipush (v := 10) hx hb dX3_go_156 (by decide) ?_
                refine lv_icmp_ne (tgt := 176) hx hb dX3_go_158 (by decide) (fun c_158 => ?_) (fun c_158 => ?_)
                · refine lv_iload_n hx hb dX3_go_176 rfl (lv_at hl 2 rfl) ?_
                  refine WrV.callV (As := [.int (pt (5 * k)), .int (ph t)]) (rest := []) (c_X3_enter hst ht (pt (5 * k)) (ph t)) ⟨hx, hb, hml, hown, hts⟩ (cwV 2 hts gX3_go_X3_enter rfl rfl rfl (by decide +kernel) ⟨by decide, by decide⟩) hP hD hS hA hK hN 0 3 rfl rfl rfl hl.1 rfl (Nat.le_of_ble_eq_true rfl) dX3_go_177 ⟨Nat.le_of_ble_eq_true rfl, Nat.le_of_ble_eq_true rfl⟩ (fun ur_6 H locs hr_6 hP hD hS => ?_)
                  refine lv_goto (tgt := 222) hx hb dX3_go_180 (by decide) ?_
                  exact wrV ur_6 hx hb hr hlk dX3_go_222 hP hD hS (by rw [hr_6, goK, if_neg (not3 c_54 c_61 c_68), if_neg c_84, if_pos (show ps (t + 1 - 1) = 0 from c_98), if_neg c_127, if_neg c_158, if_neg c_112]; rfl)
                · refine lv_iload_n hx hb dX3_go_161 rfl (lv_at hl 2 rfl) ?_
                  refine lv_aload_n hx hb dX3_go_162 rfl (lv_at hl 4 rfl) ?_
                  refine va_get (D := D) (ci := 3) (v := .ref (G 4)) (C := RX3) (T := TX3) (N := 25) hx hb hts iw_X3_go_X3 hown hK hP 0 rfl rfl 6 (by decide) (hts (.fieldLink RX3 23 "SluiceRulesModel" "parts" "[I") (by decide +kernel)) (fun _ h9 => h9) rfl dX3_go_163 ?_
                  refine lv_iconst (v := 5) hx hb dX3_go_166 (by decide) ?_
                  refine lv_iload_n hx hb dX3_go_167 rfl (lv_at hl 3 rfl) ?_
                  refine lv_imul hx hb dX3_go_168 ?_
                  refine lv_iconst (v := 1) hx hb dX3_go_169 (by decide) ?_
                  refine lv_iadd hx hb dX3_go_170 ?_
                  refine my_iald (j := 5 * k + 1) hx hb hK hP 4 3 rfl rfl (mul51 k) (by omega) (by decide) dX3_go_171 ?_
                  refine lv_iadd hx hb dX3_go_172 ?_
                  refine lv_goto (tgt := 177) hx hb dX3_go_173 (by decide) ?_
                  refine WrV.callV (As := [.int (pt (5 * k)), .int ((ph t) + (pt (5 * k + 1)))]) (rest := []) (c_X3_enter hst ht (pt (5 * k)) ((ph t) + (pt (5 * k + 1)))) ⟨hx, hb, hml, hown, hts⟩ (cwV 2 hts gX3_go_X3_enter rfl rfl rfl (by decide +kernel) ⟨by decide, by decide⟩) hP hD hS hA hK hN 0 3 rfl rfl rfl hl.1 rfl (Nat.le_of_ble_eq_true rfl) dX3_go_177 ⟨Nat.le_of_ble_eq_true rfl, Nat.le_of_ble_eq_true rfl⟩ (fun ur_7 H locs hr_7 hP hD hS => ?_)
                  refine lv_goto (tgt := 222) hx hb dX3_go_180 (by decide) ?_
                  exact wrV ur_7 hx hb hr hlk dX3_go_222 hP hD hS (by rw [hr_7, goK, if_neg (not3 c_54 c_61 c_68), if_neg c_84, if_pos (show ps (t + 1 - 1) = 0 from c_98), if_neg c_127, if_pos c_158, if_neg c_112]; rfl)
              · refine lv_aload_n hx hb dX3_go_130 rfl (lv_at hl 4 rfl) ?_
                refine va_get (D := D) (ci := 3) (v := .ref (G 2)) (C := RX3) (T := TX3) (N := 25) hx hb hts iw_X3_go_X3 hown hK hP 0 rfl rfl 3 (by decide) (hts (.fieldLink RX3 17 "SluiceRulesModel" "slot" "[I") (by decide +kernel)) (fun _ h9 => h9) rfl dX3_go_131 ?_
                refine lv_aload_n hx hb dX3_go_134 rfl (lv_at hl 4 rfl) ?_
                refine va_get (D := D) (ci := 3) (v := .ref (G 4)) (C := RX3) (T := TX3) (N := 25) hx hb hts iw_X3_go_X3 hown hK hP 0 rfl rfl 6 (by decide) (hts (.fieldLink RX3 23 "SluiceRulesModel" "parts" "[I") (by decide +kernel)) (fun _ h9 => h9) rfl dX3_go_135 ?_
                refine lv_iconst (v := 5) hx hb dX3_go_138 (by decide) ?_
                refine lv_iload_n hx hb dX3_go_139 rfl (lv_at hl 3 rfl) ?_
                refine lv_imul hx hb dX3_go_140 ?_
                refine my_iald (j := 5 * k) hx hb hK hP 4 3 rfl rfl (mul5 k) (by omega) (by decide) dX3_go_141 ?_
                refine va_iald hx hb hK hP 2 1 rfl rfl (inB_vp.mp (wf_15 (hW.1 k hk) c_127)) dX3_go_142 ?_
                refine lv_goto (tgt := 154) hx hb dX3_go_143 (by decide) ?_
                refine lv_iload hx hb dX3_go_154 (lv_at hl 0 rfl) ?_
                refine lv_bipush (v := 10) hx hb dX3_go_156 (by decide) ?_
                refine lv_icmp_ne (tgt := 176) hx hb dX3_go_158 (by decide) (fun c_158 => ?_) (fun c_158 => ?_)
                · refine lv_iload_n hx hb dX3_go_176 rfl (lv_at hl 2 rfl) ?_
                  refine WrV.callV (As := [.int (sl (pt (5 * k)).toNatClampNeg), .int (ph t)]) (rest := []) (c_X3_enter hst ht (sl (pt (5 * k)).toNatClampNeg) (ph t)) ⟨hx, hb, hml, hown, hts⟩ (cwV 2 hts gX3_go_X3_enter rfl rfl rfl (by decide +kernel) ⟨by decide, by decide⟩) hP hD hS hA hK hN 0 3 rfl rfl rfl hl.1 rfl (Nat.le_of_ble_eq_true rfl) dX3_go_177 ⟨Nat.le_of_ble_eq_true rfl, Nat.le_of_ble_eq_true rfl⟩ (fun ur_8 H locs hr_8 hP hD hS => ?_)
                  refine lv_goto (tgt := 222) hx hb dX3_go_180 (by decide) ?_
                  exact wrV ur_8 hx hb hr hlk dX3_go_222 hP hD hS (by rw [hr_8, goK, if_neg (not3 c_54 c_61 c_68), if_neg c_84, if_pos (show ps (t + 1 - 1) = 0 from c_98), if_pos c_127, if_neg c_158, if_neg c_112]; rfl)
                · refine lv_iload_n hx hb dX3_go_161 rfl (lv_at hl 2 rfl) ?_
                  refine lv_aload_n hx hb dX3_go_162 rfl (lv_at hl 4 rfl) ?_
                  refine va_get (D := D) (ci := 3) (v := .ref (G 4)) (C := RX3) (T := TX3) (N := 25) hx hb hts iw_X3_go_X3 hown hK hP 0 rfl rfl 6 (by decide) (hts (.fieldLink RX3 23 "SluiceRulesModel" "parts" "[I") (by decide +kernel)) (fun _ h9 => h9) rfl dX3_go_163 ?_
                  refine lv_iconst (v := 5) hx hb dX3_go_166 (by decide) ?_
                  refine lv_iload_n hx hb dX3_go_167 rfl (lv_at hl 3 rfl) ?_
                  refine lv_imul hx hb dX3_go_168 ?_
                  refine lv_iconst (v := 1) hx hb dX3_go_169 (by decide) ?_
                  refine lv_iadd hx hb dX3_go_170 ?_
                  refine my_iald (j := 5 * k + 1) hx hb hK hP 4 3 rfl rfl (mul51 k) (by omega) (by decide) dX3_go_171 ?_
                  refine lv_iadd hx hb dX3_go_172 ?_
                  refine lv_goto (tgt := 177) hx hb dX3_go_173 (by decide) ?_
                  refine WrV.callV (As := [.int (sl (pt (5 * k)).toNatClampNeg), .int ((ph t) + (pt (5 * k + 1)))]) (rest := []) (c_X3_enter hst ht (sl (pt (5 * k)).toNatClampNeg) ((ph t) + (pt (5 * k + 1)))) ⟨hx, hb, hml, hown, hts⟩ (cwV 2 hts gX3_go_X3_enter rfl rfl rfl (by decide +kernel) ⟨by decide, by decide⟩) hP hD hS hA hK hN 0 3 rfl rfl rfl hl.1 rfl (Nat.le_of_ble_eq_true rfl) dX3_go_177 ⟨Nat.le_of_ble_eq_true rfl, Nat.le_of_ble_eq_true rfl⟩ (fun ur_9 H locs hr_9 hP hD hS => ?_)
                  refine lv_goto (tgt := 222) hx hb dX3_go_180 (by decide) ?_
                  exact wrV ur_9 hx hb hr hlk dX3_go_222 hP hD hS (by rw [hr_9, goK, if_neg (not3 c_54 c_61 c_68), if_neg c_84, if_pos (show ps (t + 1 - 1) = 0 from c_98), if_pos c_127, if_pos c_158, if_neg c_112]; rfl)
            · refine lv_iconst (v := 1) hx hb dX3_go_115 (by decide) ?_
              refine lv_goto (tgt := 120) hx hb dX3_go_116 (by decide) ?_
              refine lv_iadd hx hb dX3_go_120 ?_
              refine my_iast (j := k) hx hb hK hP hD hS 6 5 rfl rfl (rfl) (by omega) (by decide) dX3_go_121 (fun H locs hP hD hS => ?_)
              have hP : va_P D vwCl (mw G Z (nI b) mn (nI n) (nI sN) (nI st) fl va (nI (t + 1) - 1) gv ts tw tm lv sl kd pt he (upd ct k ((ct k) + 1)) fr to rl pi ph (upd ps t ((ps t) + 1)) pm) H := hP
              have hD : va_D (va_A (mw G Z (nI b) mn (nI n) (nI sN) (nI st) fl va (nI (t + 1) - 1) gv ts tw tm lv sl kd pt he ct fr to rl pi ph ps pm) sz) (mw G Z (nI b) mn (nI n) (nI sN) (nI st) fl va (nI (t + 1) - 1) gv ts tw tm lv sl kd pt he (upd ct k ((ct k) + 1)) fr to rl pi ph (upd ps t ((ps t) + 1)) pm) := hD
              refine lv_aload_n hx hb dX3_go_122 rfl (lv_at hl 4 rfl) ?_
              refine lv_iload hx hb dX3_go_123 (lv_at hl 0 rfl) ?_
              refine lv_bipush (v := 15) hx hb dX3_go_125 (by decide) ?_
              refine lv_icmp_ne (tgt := 146) hx hb dX3_go_127 (by decide) (fun c_127 => ?_) (fun c_127 => ?_)
              · refine lv_aload_n hx hb dX3_go_146 rfl (lv_at hl 4 rfl) ?_
                refine va_get (D := D) (ci := 3) (v := .ref (G 4)) (C := RX3) (T := TX3) (N := 25) hx hb hts iw_X3_go_X3 hown hK hP 0 rfl rfl 6 (by decide) (hts (.fieldLink RX3 23 "SluiceRulesModel" "parts" "[I") (by decide +kernel)) (fun _ h9 => h9) rfl dX3_go_147 ?_
                refine lv_iconst (v := 5) hx hb dX3_go_150 (by decide) ?_
                refine lv_iload_n hx hb dX3_go_151 rfl (lv_at hl 3 rfl) ?_
                refine lv_imul hx hb dX3_go_152 ?_
                refine my_iald (j := 5 * k) hx hb hK hP 4 3 rfl rfl (mul5 k) (by omega) (by decide) dX3_go_153 ?_
                refine lv_iload hx hb dX3_go_154 (lv_at hl 0 rfl) ?_
                refine lv_bipush (v := 10) hx hb dX3_go_156 (by decide) ?_
                refine lv_icmp_ne (tgt := 176) hx hb dX3_go_158 (by decide) (fun c_158 => ?_) (fun c_158 => ?_)
                · refine lv_iload_n hx hb dX3_go_176 rfl (lv_at hl 2 rfl) ?_
                  refine WrV.callV (As := [.int (pt (5 * k)), .int (ph t)]) (rest := []) (c_X3_enter hst ht (pt (5 * k)) (ph t)) ⟨hx, hb, hml, hown, hts⟩ (cwV 2 hts gX3_go_X3_enter rfl rfl rfl (by decide +kernel) ⟨by decide, by decide⟩) hP hD hS hA hK hN 0 3 rfl rfl rfl hl.1 rfl (Nat.le_of_ble_eq_true rfl) dX3_go_177 ⟨Nat.le_of_ble_eq_true rfl, Nat.le_of_ble_eq_true rfl⟩ (fun ur_10 H locs hr_10 hP hD hS => ?_)
                  refine lv_goto (tgt := 222) hx hb dX3_go_180 (by decide) ?_
                  exact wrV ur_10 hx hb hr hlk dX3_go_222 hP hD hS (by rw [hr_10, goK, if_neg (not3 c_54 c_61 c_68), if_neg c_84, if_pos (show ps (t + 1 - 1) = 0 from c_98), if_neg c_127, if_neg c_158, if_pos c_112]; rfl)
                · refine lv_iload_n hx hb dX3_go_161 rfl (lv_at hl 2 rfl) ?_
                  refine lv_aload_n hx hb dX3_go_162 rfl (lv_at hl 4 rfl) ?_
                  refine va_get (D := D) (ci := 3) (v := .ref (G 4)) (C := RX3) (T := TX3) (N := 25) hx hb hts iw_X3_go_X3 hown hK hP 0 rfl rfl 6 (by decide) (hts (.fieldLink RX3 23 "SluiceRulesModel" "parts" "[I") (by decide +kernel)) (fun _ h9 => h9) rfl dX3_go_163 ?_
                  refine lv_iconst (v := 5) hx hb dX3_go_166 (by decide) ?_
                  refine lv_iload_n hx hb dX3_go_167 rfl (lv_at hl 3 rfl) ?_
                  refine lv_imul hx hb dX3_go_168 ?_
                  refine lv_iconst (v := 1) hx hb dX3_go_169 (by decide) ?_
                  refine lv_iadd hx hb dX3_go_170 ?_
                  refine my_iald (j := 5 * k + 1) hx hb hK hP 4 3 rfl rfl (mul51 k) (by omega) (by decide) dX3_go_171 ?_
                  refine lv_iadd hx hb dX3_go_172 ?_
                  refine lv_goto (tgt := 177) hx hb dX3_go_173 (by decide) ?_
                  refine WrV.callV (As := [.int (pt (5 * k)), .int ((ph t) + (pt (5 * k + 1)))]) (rest := []) (c_X3_enter hst ht (pt (5 * k)) ((ph t) + (pt (5 * k + 1)))) ⟨hx, hb, hml, hown, hts⟩ (cwV 2 hts gX3_go_X3_enter rfl rfl rfl (by decide +kernel) ⟨by decide, by decide⟩) hP hD hS hA hK hN 0 3 rfl rfl rfl hl.1 rfl (Nat.le_of_ble_eq_true rfl) dX3_go_177 ⟨Nat.le_of_ble_eq_true rfl, Nat.le_of_ble_eq_true rfl⟩ (fun ur_11 H locs hr_11 hP hD hS => ?_)
                  refine lv_goto (tgt := 222) hx hb dX3_go_180 (by decide) ?_
                  exact wrV ur_11 hx hb hr hlk dX3_go_222 hP hD hS (by rw [hr_11, goK, if_neg (not3 c_54 c_61 c_68), if_neg c_84, if_pos (show ps (t + 1 - 1) = 0 from c_98), if_neg c_127, if_pos c_158, if_pos c_112]; rfl)
              · refine lv_aload_n hx hb dX3_go_130 rfl (lv_at hl 4 rfl) ?_
                refine va_get (D := D) (ci := 3) (v := .ref (G 2)) (C := RX3) (T := TX3) (N := 25) hx hb hts iw_X3_go_X3 hown hK hP 0 rfl rfl 3 (by decide) (hts (.fieldLink RX3 17 "SluiceRulesModel" "slot" "[I") (by decide +kernel)) (fun _ h9 => h9) rfl dX3_go_131 ?_
                refine lv_aload_n hx hb dX3_go_134 rfl (lv_at hl 4 rfl) ?_
                refine va_get (D := D) (ci := 3) (v := .ref (G 4)) (C := RX3) (T := TX3) (N := 25) hx hb hts iw_X3_go_X3 hown hK hP 0 rfl rfl 6 (by decide) (hts (.fieldLink RX3 23 "SluiceRulesModel" "parts" "[I") (by decide +kernel)) (fun _ h9 => h9) rfl dX3_go_135 ?_
                refine lv_iconst (v := 5) hx hb dX3_go_138 (by decide) ?_
                refine lv_iload_n hx hb dX3_go_139 rfl (lv_at hl 3 rfl) ?_
                refine lv_imul hx hb dX3_go_140 ?_
                refine my_iald (j := 5 * k) hx hb hK hP 4 3 rfl rfl (mul5 k) (by omega) (by decide) dX3_go_141 ?_
                refine va_iald hx hb hK hP 2 1 rfl rfl (inB_vp.mp (wf_15 (hW.1 k hk) c_127)) dX3_go_142 ?_
                refine lv_goto (tgt := 154) hx hb dX3_go_143 (by decide) ?_
                refine lv_iload hx hb dX3_go_154 (lv_at hl 0 rfl) ?_
                refine lv_bipush (v := 10) hx hb dX3_go_156 (by decide) ?_
                refine lv_icmp_ne (tgt := 176) hx hb dX3_go_158 (by decide) (fun c_158 => ?_) (fun c_158 => ?_)
                · refine lv_iload_n hx hb dX3_go_176 rfl (lv_at hl 2 rfl) ?_
                  refine WrV.callV (As := [.int (sl (pt (5 * k)).toNatClampNeg), .int (ph t)]) (rest := []) (c_X3_enter hst ht (sl (pt (5 * k)).toNatClampNeg) (ph t)) ⟨hx, hb, hml, hown, hts⟩ (cwV 2 hts gX3_go_X3_enter rfl rfl rfl (by decide +kernel) ⟨by decide, by decide⟩) hP hD hS hA hK hN 0 3 rfl rfl rfl hl.1 rfl (Nat.le_of_ble_eq_true rfl) dX3_go_177 ⟨Nat.le_of_ble_eq_true rfl, Nat.le_of_ble_eq_true rfl⟩ (fun ur_12 H locs hr_12 hP hD hS => ?_)
                  refine lv_goto (tgt := 222) hx hb dX3_go_180 (by decide) ?_
                  exact wrV ur_12 hx hb hr hlk dX3_go_222 hP hD hS (by rw [hr_12, goK, if_neg (not3 c_54 c_61 c_68), if_neg c_84, if_pos (show ps (t + 1 - 1) = 0 from c_98), if_pos c_127, if_neg c_158, if_pos c_112]; rfl)
                · refine lv_iload_n hx hb dX3_go_161 rfl (lv_at hl 2 rfl) ?_
                  refine lv_aload_n hx hb dX3_go_162 rfl (lv_at hl 4 rfl) ?_
                  refine va_get (D := D) (ci := 3) (v := .ref (G 4)) (C := RX3) (T := TX3) (N := 25) hx hb hts iw_X3_go_X3 hown hK hP 0 rfl rfl 6 (by decide) (hts (.fieldLink RX3 23 "SluiceRulesModel" "parts" "[I") (by decide +kernel)) (fun _ h9 => h9) rfl dX3_go_163 ?_
                  refine lv_iconst (v := 5) hx hb dX3_go_166 (by decide) ?_
                  refine lv_iload_n hx hb dX3_go_167 rfl (lv_at hl 3 rfl) ?_
                  refine lv_imul hx hb dX3_go_168 ?_
                  refine lv_iconst (v := 1) hx hb dX3_go_169 (by decide) ?_
                  refine lv_iadd hx hb dX3_go_170 ?_
                  refine my_iald (j := 5 * k + 1) hx hb hK hP 4 3 rfl rfl (mul51 k) (by omega) (by decide) dX3_go_171 ?_
                  refine lv_iadd hx hb dX3_go_172 ?_
                  refine lv_goto (tgt := 177) hx hb dX3_go_173 (by decide) ?_
                  refine WrV.callV (As := [.int (sl (pt (5 * k)).toNatClampNeg), .int ((ph t) + (pt (5 * k + 1)))]) (rest := []) (c_X3_enter hst ht (sl (pt (5 * k)).toNatClampNeg) ((ph t) + (pt (5 * k + 1)))) ⟨hx, hb, hml, hown, hts⟩ (cwV 2 hts gX3_go_X3_enter rfl rfl rfl (by decide +kernel) ⟨by decide, by decide⟩) hP hD hS hA hK hN 0 3 rfl rfl rfl hl.1 rfl (Nat.le_of_ble_eq_true rfl) dX3_go_177 ⟨Nat.le_of_ble_eq_true rfl, Nat.le_of_ble_eq_true rfl⟩ (fun ur_13 H locs hr_13 hP hD hS => ?_)
                  refine lv_goto (tgt := 222) hx hb dX3_go_180 (by decide) ?_
                  exact wrV ur_13 hx hb hr hlk dX3_go_222 hP hD hS (by rw [hr_13, goK, if_neg (not3 c_54 c_61 c_68), if_neg c_84, if_pos (show ps (t + 1 - 1) = 0 from c_98), if_pos c_127, if_pos c_158, if_pos c_112]; rfl)
        · refine lv_aload_n hx hb dX3_go_87 rfl (lv_at hl 4 rfl) ?_
          refine lv_iload_n hx hb dX3_go_88 rfl (lv_at hl 3 rfl) ?_
          refine lv_iload_n hx hb dX3_go_89 rfl (lv_at hl 2 rfl) ?_
          refine lv_iload_n hx hb dX3_go_90 rfl (lv_at hl 1 rfl) ?_
          refine WrV.callV (As := [.int (nI k), .int (ph t), .int (ps t)]) (rest := []) (c_X3_slots hk hn40 hst ht (ph t) (ps t) (hsl c_84)) ⟨hx, hb, hml, hown, hts⟩ (cwV 3 hts gX3_go_X3_slots rfl rfl rfl (by decide +kernel) ⟨by decide, by decide⟩) hP hD hS hA hK hN 0 3 rfl rfl rfl hl.1 rfl (Nat.le_of_ble_eq_true rfl) dX3_go_91 ⟨Nat.le_of_ble_eq_true rfl, Nat.le_of_ble_eq_true rfl⟩ (fun ur_14 H locs hr_14 hP hD hS => ?_)
          refine lv_goto (tgt := 222) hx hb dX3_go_94 (by decide) ?_
          exact wrV ur_14 hx hb hr hlk dX3_go_222 hP hD hS (by rw [hr_14, goK, if_neg (not3 c_54 c_61 c_68), if_pos c_84]; rfl)
      · refine lv_aload_n hx hb dX3_go_71 rfl (lv_at hl 4 rfl) ?_
        refine lv_iload_n hx hb dX3_go_72 rfl (lv_at hl 3 rfl) ?_
        refine lv_iload_n hx hb dX3_go_73 rfl (lv_at hl 2 rfl) ?_
        refine WrV.callV (As := [.int (nI k), .int (ph t)]) (rest := []) (c_X3_plain hk hn40 hst ht hb8 (hW.1 k hk) (wf_lf (hW.1 k hk) (Or.inr (Or.inr c_68))) (ph t)) ⟨hx, hb, hml, hown, hts⟩ (cwV 2 hts gX3_go_X3_plain rfl rfl rfl (by decide +kernel) ⟨by decide, by decide⟩) hP hD hS hA hK hN 0 3 rfl rfl rfl hl.1 rfl (Nat.le_of_ble_eq_true rfl) dX3_go_74 ⟨Nat.le_of_ble_eq_true rfl, Nat.le_of_ble_eq_true rfl⟩ (fun ur_15 H locs hr_15 hP hD hS => ?_)
        refine lv_goto (tgt := 222) hx hb dX3_go_77 (by decide) ?_
        exact wrV ur_15 hx hb hr hlk dX3_go_222 hP hD hS (by rw [hr_15, goK, if_pos (Or.inr (Or.inr c_68))]; rfl)
end
section
/-! the reference's machine comes to what an asking gives -/
def okM (E : EV) (M : MS) (k : Nat) : Prop := match E, M with
  | (n, _, _, _, kd, pt, _), (st, fl, _, T, _, pi, _, ps, _) => fl = 0 ∧ 1 ≤ T ∧ T ≤ st ∧ st ≤ 120 ∧ k < n ∧ pi (T - 1) = nI k ∧ (kd k = 16 → ¬ pt (5 * k + 1) < pt (5 * k) + ps (T - 1) → inB (pt (5 * k) + ps (T - 1)) 8 = true)
def pth (E : EV) : Nat → MS → MS → Prop
  | 0, M, M' => M = M'
  | c + 1, M, M' => ∃ k, okM E M k ∧ pth E c (goK E k M) M'
def Res (E : EV) (M0 : MS) (T : Nat) (pi ph ps : Nat → Int32) (pm : Nat → Int64) (R : Int64 × SS) : Prop :=
  (∃ (c : Nat) (M' : MS), pth E c M0 M' ∧ M'.1 = R.2.1 ∧ M'.2.1 = R.2.2.1 ∧ M'.2.2.2.2.1 = R.2.2.2 ∧ ¬ R.2.2.1 = 0) ∨
  (R.2.2.1 = 0 ∧ ∃ (c : Nat) (pi2 ph2 ps2 : Nat → Int32) (pm2 : Nat → Int64), pth E c M0 (R.2.1, 0, R.1, T, R.2.2.2, pi2, ph2, ps2, pm2) ∧ ∀ j, j < T → pi2 j = pi j ∧ ph2 j = ph j ∧ ps2 j = ps j ∧ pm2 j = pm j)
theorem pth_add {E : EV} : ∀ (c d : Nat) {M M1 M2 : MS}, pth E c M M1 → pth E d M1 M2 → pth E (c + d) M M2
  | 0, d, M, M1, M2, h1, h2 => by
    have h1 : M = M1 := h1
    subst h1; rw [Nat.zero_add]; exact h2
  | c + 1, d, M, M1, M2, h1, h2 => by
    obtain ⟨k, hk, h1⟩ := h1
    rw [show c + 1 + d = (c + d) + 1 by omega]
    exact ⟨k, hk, pth_add c d h1 h2⟩
theorem Res.step {E : EV} {M : MS} {T : Nat} {pi ph ps : Nat → Int32} {pm : Nat → Int64} {R : Int64 × SS} {k : Nat} (hk : okM E M k) (h : Res E (goK E k M) T pi ph ps pm R) : Res E M T pi ph ps pm R := by
  rcases h with ⟨c, M', h1, h2⟩ | ⟨h0, c, a1, a2, a3, a4, h1, h2⟩
  · exact Or.inl ⟨c + 1, M', ⟨k, hk, h1⟩, h2⟩
  · exact Or.inr ⟨h0, c + 1, a1, a2, a3, a4, ⟨k, hk, h1⟩, h2⟩
theorem Res.bind {E : EV} {M : MS} {T t : Nat} {pi ph ps pi' ph' ps' : Nat → Int32} {pm pm' : Nat → Int64} {R1 R : Int64 × SS} (h : Res E M T pi ph ps pm R1) (hf : ¬ R1.2.2.1 = 0 → R.2 = R1.2) (hok : R1.2.2.1 = 0 → ∀ (pi2 ph2 ps2 : Nat → Int32) (pm2 : Nat → Int64), (∀ j, j < T → pi2 j = pi j ∧ ph2 j = ph j ∧ ps2 j = ps j ∧ pm2 j = pm j) → Res E (R1.2.1, 0, R1.1, T, R1.2.2.2, pi2, ph2, ps2, pm2) t pi' ph' ps' pm' R) : Res E M t pi' ph' ps' pm' R := by
  rcases h with ⟨c, M', h1, g1, g2, g3, g4⟩ | ⟨h0, c, a1, a2, a3, a4, h1, h2⟩
  · have e := hf g4
    exact Or.inl ⟨c, M', h1, by rw [e]; exact g1, by rw [e]; exact g2, by rw [e]; exact g3, by rw [e]; exact g4⟩
  · rcases hok h0 a1 a2 a3 a4 h2 with ⟨c2, M', q1, q2⟩ | ⟨q0, c2, b1, b2, b3, b4, q1, q2⟩
    · exact Or.inl ⟨c + c2, M', pth_add c c2 h1 q1, q2⟩
    · exact Or.inr ⟨q0, c + c2, b1, b2, b3, b4, pth_add c c2 h1 q1, q2⟩
theorem Res.done {E : EV} {st T : Nat} {v : Int64} {ct pi ph ps pi2 ph2 ps2 : Nat → Int32} {pm pm2 : Nat → Int64} (h : ∀ j, j < T → pi2 j = pi j ∧ ph2 j = ph j ∧ ps2 j = ps j ∧ pm2 j = pm j) : Res E (st, 0, v, T, ct, pi2, ph2, ps2, pm2) T pi ph ps pm (v, (st, 0, ct)) := Or.inr ⟨rfl, 0, pi2, ph2, ps2, pm2, rfl, h⟩
theorem ev_dead (E : EV) (d : Nat) (x h : Int32) {S : SS} (hf : ¬ S.2.1 = 0) : (ev E d x h S).2 = S := by
  have e : stS E.1 x S.1 S.2.1 = (S.1, S.2.1, false) := by unfold stS; rw [if_neg hf]
  cases d with
  | zero => show ((stS E.1 x S.1 S.2.1).1, (stS E.1 x S.1 S.2.1).2.1, S.2.2) = S; rw [e]
  | succ d =>
    unfold ev
    rw [e]
    rfl
theorem evA_dead (E : EV) (d : Nat) (sl : Nat → Int32) (h : Int32) : ∀ (c i : Nat) (acc : Int64) {S : SS}, ¬ S.2.1 = 0 → (evA (ev E d) sl h c i acc S).2 = S
  | 0, _, _, _, _ => rfl
  | c + 1, i, acc, S, hf => by
    show (evA (ev E d) sl h c (i + 1) (acc + (ev E d (sl i) h S).1) (ev E d (sl i) h S).2).2 = S
    have e := ev_dead E d (sl i) h hf
    rw [evA_dead E d sl h c (i + 1) _ (by rw [e]; exact hf), e]
def simE (n : Nat) (E : EV) (d : Nat) : Prop := ∀ (st : Nat) (va : Int64) (T : Nat) (ct pi ph ps : Nat → Int32) (pm : Nat → Int64) (x h : Int32), T ≤ st → st ≤ 120 → 120 ≤ st + d → ptB x n = true → Res E (enS x h (st, 0, va, T, ct, pi, ph, ps, pm)) T pi ph ps pm (ev E d x h (st, 0, ct))
def simB (n : Nat) (E : EV) (d : Nat) : Prop := ∀ (st : Nat) (va : Int64) (t : Nat) (ct pi ph ps : Nat → Int32) (pm : Nat → Int64) (k : Nat) (h : Int32), k < n → pi t = nI k → ph t = h → ps t = 0 → pm t = 0 → t + 1 ≤ st → st ≤ 120 → 120 ≤ st + d → Res E (st, 0, va, t + 1, ct, pi, ph, ps, pm) t pi ph ps pm (evB E (ev E d) k h (st, 0, ct))
section SIM
variable {b n : Nat} {mn : Int32} {lv sl kd pt : Nat → Int32} {he : Nat → Int64}
theorem sim_enter {d : Nat} (hB : ∀ d', d = d' + 1 → simB n (n, mn, lv, sl, kd, pt, he) d') : simE n (n, mn, lv, sl, kd, pt, he) d := by
  intro st va T ct pi ph ps pm x h hT hst hd hx
  have hfail : ∀ (f : Int32), ¬ f = 0 → enS x h (st, 0, va, T, ct, pi, ph, ps, pm) = (st, f, va, T, ct, pi, ph, ps, pm) → stS n x st 0 = (st, f, false) → Res (n, mn, lv, sl, kd, pt, he) (enS x h (st, 0, va, T, ct, pi, ph, ps, pm)) T pi ph ps pm (ev (n, mn, lv, sl, kd, pt, he) d x h (st, 0, ct)) := by
    intro f hf e1 e2
    rw [e1, ← ev_no (d := d) (h := h) (ct := ct) e2]
    exact Or.inl ⟨0, _, rfl, rfl, rfl, rfl, hf⟩
  by_cases h1 : x = -1
  · refine hfail (-201) (by decide) (by simp [enS, h1]) ?_
    rw [stS, if_pos rfl, if_neg]
    rw [h1, inB_lo (by decide)]; exact Bool.false_ne_true
  · have hi : inB x n = true := by
      unfold ptB at hx; rw [decide_eq_false h1] at hx; simpa using hx
    by_cases h2 : st = 120
    · refine hfail (-202) (by decide) (by simp [enS, h1, h2]) ?_
      rw [stS, if_pos rfl, if_pos hi, if_neg (by omega)]
    · have hs : stS n x st 0 = (st + 1, 0, true) := by rw [stS, if_pos rfl, if_pos hi, if_pos (by omega)]
      cases d with
      | zero => omega
      | succ d' =>
        have hlt := inB_ix hi
        have e1 : enS x h (st, 0, va, T, ct, pi, ph, ps, pm) = (st + 1, 0, va, T + 1, ct, upd pi T x, upd ph T h, upd ps T 0, vp_updL pm T 0) := by simp [enS, h1, h2]
        rw [e1, ev_go hs]
        have ex : x = nI (ix x) := by
          have h0 : ¬ x < 0 := fun z => by rw [inB_lo z] at hi; cases hi
          obtain ⟨j, hj9, ej⟩ := nI_of h0
          have : ix x = j := by rw [ej]; exact nI_clamp hj9
          rw [this]; exact ej
        have r := hB d' rfl (st + 1) va T ct (upd pi T x) (upd ph T h) (upd ps T 0) (vp_updL pm T 0) (ix x) h hlt (by rw [pk_us]; exact ex) pk_us pk_us pk_uLs (by omega) (by omega) (by omega)
        rcases r with r | ⟨r0, c, a1, a2, a3, a4, r1, r2⟩
        · exact Or.inl r
        · refine Or.inr ⟨r0, c, a1, a2, a3, a4, r1, fun j hj => ?_⟩
          have hne : j ≠ T := by omega
          obtain ⟨q1, q2, q3, q4⟩ := r2 j hj
          exact ⟨q1.trans (pk_un hne), q2.trans (pk_un hne), q3.trans (pk_un hne), q4.trans (pk_uLn hne)⟩
theorem up0 (ct : Nat → Int32) (k : Nat) : upd ct k (ct k + 0) = ct := by
  funext j; unfold upd; split
  · rename_i h; rw [h]; exact Int32.add_zero _
  · rfl
theorem fr_up {pi ph ps : Nat → Int32} {pm : Nat → Int64} {t : Nat} {v : Int32} : ∀ j, j < t → pi j = pi j ∧ ph j = ph j ∧ upd ps t v j = ps j ∧ pm j = pm j := fun j hj => ⟨rfl, rfl, pk_un (by omega), rfl⟩
theorem sim_body (hW : wfA b n sl kd pt) (hn : n ≤ 40) {d : Nat} (hE : simE n (n, mn, lv, sl, kd, pt, he) d) : simB n (n, mn, lv, sl, kd, pt, he) d := by
  intro st va t ct pi ph ps pm k h hk hpi hph hps hpm ht hst hd
  have hw := hW.1 k hk
  have ok : ∀ {st2 : Nat} {va2 : Int64} {ct2 pi2 ph2 ps2 : Nat → Int32} {pm2 : Nat → Int64}, st ≤ st2 → st2 ≤ 120 → pi2 t = nI k → ¬ kd k = 16 → okM (n, mn, lv, sl, kd, pt, he) (st2, 0, va2, t + 1, ct2, pi2, ph2, ps2, pm2) k := fun h1 h2 h3 h4 => ⟨rfl, by omega, by omega, h2, hk, h3, fun z => absurd z h4⟩
  -- one part asked, then the step behind it
  have una : ∀ (x hr_ : Int32) (ct1 : Nat → Int32) (f : Int64 → Int64), ¬ kd k = 16 → ptB x n = true →
      (∀ va2 st2 ct2 pi2 ph2 ps2 pm2, pi2 t = nI k → ph2 t = h → ps2 t = 1 → goK (n, mn, lv, sl, kd, pt, he) k (st2, 0, va2, t + 1, ct2, pi2, ph2, ps2, pm2) = (st2, 0, f va2, t, ct2, pi2, ph2, upd ps2 t (ps2 t + 1), pm2)) →
      goK (n, mn, lv, sl, kd, pt, he) k (st, 0, va, t + 1, ct, pi, ph, ps, pm) = enS x hr_ (st, 0, va, t + 1, ct1, pi, ph, upd ps t (ps t + 1), pm) →
      Res (n, mn, lv, sl, kd, pt, he) (st, 0, va, t + 1, ct, pi, ph, ps, pm) t pi ph ps pm (f (ev (n, mn, lv, sl, kd, pt, he) d x hr_ (st, 0, ct1)).1, (ev (n, mn, lv, sl, kd, pt, he) d x hr_ (st, 0, ct1)).2) := by
    intro x hr_ ct1 f h16 hx hgo e0
    refine Res.step (ok (Nat.le_refl _) hst hpi h16) ?_
    rw [e0]
    have g := ev_st (n, mn, lv, sl, kd, pt, he) d x hr_ (st, 0, ct1)
    refine Res.bind (hE st va (t + 1) ct1 pi ph (upd ps t (ps t + 1)) pm x hr_ ht hst hd hx) (fun _ => rfl) (fun h0 pi2 ph2 ps2 pm2 fr => ?_)
    obtain ⟨q1, q2, q3, q4⟩ := fr t (by omega)
    rw [pk_us, hps] at q3
    refine Res.step (ok g.1 (g.2 hst) (q1.trans hpi) h16) ?_
    rw [hgo _ _ _ _ _ _ _ (q1.trans hpi) (q2.trans hph) q3]
    generalize ev (n, mn, lv, sl, kd, pt, he) d x hr_ (st, 0, ct1) = R at h0 ⊢
    obtain ⟨v1, st1, fl1, ct2⟩ := R
    have h0 : fl1 = 0 := h0
    subst h0
    refine Res.done (fun j hj => ?_)
    obtain ⟨z1, z2, z3, z4⟩ := fr j (by omega)
    exact ⟨z1, z2, (pk_un (by omega)).trans (z3.trans (pk_un (by omega))), z4⟩
  -- the leaves
  have leaf : (kd k ≤ 3 ∨ kd k = 12 ∨ kd k = 14) → ¬ kd k = 16 → evB (n, mn, lv, sl, kd, pt, he) (ev (n, mn, lv, sl, kd, pt, he) d) k h (st, 0, ct) = (lf (n, mn, lv, sl, kd, pt, he) k h ct, (st, 0, ct)) → Res (n, mn, lv, sl, kd, pt, he) (st, 0, va, t + 1, ct, pi, ph, ps, pm) t pi ph ps pm (evB (n, mn, lv, sl, kd, pt, he) (ev (n, mn, lv, sl, kd, pt, he) d) k h (st, 0, ct)) := by
    intro hl h16 e
    rw [e]
    refine Res.step (ok (Nat.le_refl _) hst hpi h16) ?_
    have eg : goK (n, mn, lv, sl, kd, pt, he) k (st, 0, va, t + 1, ct, pi, ph, ps, pm) = (st, 0, lf (n, mn, lv, sl, kd, pt, he) k h ct, t, ct, pi, ph, upd ps t (ps t + 1), pm) := by
      rw [goK, if_pos hl]; simp only [Nat.add_sub_cancel]; rw [hph]; rfl
    rw [eg]
    exact Res.done fr_up
  -- two parts asked
  have two : ∀ (f : Int64 → Int64 → Int64), (kd k = 4 ∨ kd k = 5 ∨ kd k = 6 ∨ kd k = 7) → (∀ x y, jn (kd k) x y = f x y) → ptB (pt (5 * k)) n = true → ptB (pt (5 * k + 1)) n = true →
      Res (n, mn, lv, sl, kd, pt, he) (st, 0, va, t + 1, ct, pi, ph, ps, pm) t pi ph ps pm (f (ev (n, mn, lv, sl, kd, pt, he) d (pt (5 * k)) h (st, 0, ct)).1 (ev (n, mn, lv, sl, kd, pt, he) d (pt (5 * k + 1)) h (ev (n, mn, lv, sl, kd, pt, he) d (pt (5 * k)) h (st, 0, ct)).2).1, (ev (n, mn, lv, sl, kd, pt, he) d (pt (5 * k + 1)) h (ev (n, mn, lv, sl, kd, pt, he) d (pt (5 * k)) h (st, 0, ct)).2).2) := by
    intro f hkd hj hxa hxb
    have n3 : ¬ (kd k ≤ 3 ∨ kd k = 12 ∨ kd k = 14) := by rcases hkd with z | z | z | z <;> rw [z] <;> decide
    have n16 : ¬ kd k = 16 := by rcases hkd with z | z | z | z <;> rw [z] <;> decide
    have n15 : ¬ kd k = 15 := by rcases hkd with z | z | z | z <;> rw [z] <;> decide
    have n10 : ¬ kd k = 10 := by rcases hkd with z | z | z | z <;> rw [z] <;> decide
    have n13 : ¬ kd k = 13 := by rcases hkd with z | z | z | z <;> rw [z] <;> decide
    have l7 : kd k ≤ 7 := by rcases hkd with z | z | z | z <;> rw [z] <;> decide
    refine Res.step (ok (Nat.le_refl _) hst hpi n16) ?_
    have e0 : goK (n, mn, lv, sl, kd, pt, he) k (st, 0, va, t + 1, ct, pi, ph, ps, pm) = enS (pt (5 * k)) h (st, 0, va, t + 1, ct, pi, ph, upd ps t (ps t + 1), pm) := by
      rw [goK, if_neg n3, if_neg n16]; simp only [Nat.add_sub_cancel]; rw [if_pos hps, if_neg n15, if_neg n10, if_neg n13, up0, hph]
    rw [e0]
    have g := ev_st (n, mn, lv, sl, kd, pt, he) d (pt (5 * k)) h (st, 0, ct)
    refine Res.bind (hE st va (t + 1) ct pi ph (upd ps t (ps t + 1)) pm _ _ ht hst hd hxa) (fun hf => ev_dead _ _ _ _ hf) (fun h0 pi2 ph2 ps2 pm2 fr => ?_)
    obtain ⟨q1, q2, q3, q4⟩ := fr t (by omega)
    rw [pk_us, hps] at q3
    refine Res.step (ok g.1 (g.2 hst) (q1.trans hpi) n16) ?_
    generalize ev (n, mn, lv, sl, kd, pt, he) d (pt (5 * k)) h (st, 0, ct) = R at h0 g ⊢
    obtain ⟨v1, st1, fl1, ct1⟩ := R
    have h0 : fl1 = 0 := h0
    subst h0
    have g1 : st ≤ st1 := g.1
    have g2 : st1 ≤ 120 := g.2 hst
    have e1 : goK (n, mn, lv, sl, kd, pt, he) k (st1, 0, v1, t + 1, ct1, pi2, ph2, ps2, pm2) = enS (pt (5 * k + 1)) h (st1, 0, v1, t + 1, ct1, pi2, ph2, upd ps2 t (ps2 t + 1), vp_updL pm2 t v1) := by
      rw [goK, if_neg n3, if_neg n16]; simp only [Nat.add_sub_cancel]; rw [if_neg (by rw [q3]; decide), if_pos l7, prK, if_pos (by rw [q3]; rfl)]; simp only [Nat.add_sub_cancel]; rw [q2.trans hph]
    show Res _ (goK (n, mn, lv, sl, kd, pt, he) k (st1, 0, v1, t + 1, ct1, pi2, ph2, ps2, pm2)) _ _ _ _ _ _
    rw [e1]
    have gg := ev_st (n, mn, lv, sl, kd, pt, he) d (pt (5 * k + 1)) h (st1, 0, ct1)
    refine Res.bind (hE st1 v1 (t + 1) ct1 pi2 ph2 (upd ps2 t (ps2 t + 1)) (vp_updL pm2 t v1) _ _ (by omega) g2 (by omega) hxb) (fun _ => rfl) (fun h0 pi3 ph3 ps3 pm3 fr2 => ?_)
    obtain ⟨w1, w2, w3, w4⟩ := fr2 t (by omega)
    rw [pk_us, q3] at w3
    rw [pk_uLs] at w4
    show Res _ _ _ _ _ _ _ (f v1 (ev (n, mn, lv, sl, kd, pt, he) d (pt (5 * k + 1)) h (st1, 0, ct1)).1, (ev (n, mn, lv, sl, kd, pt, he) d (pt (5 * k + 1)) h (st1, 0, ct1)).2)
    generalize ev (n, mn, lv, sl, kd, pt, he) d (pt (5 * k + 1)) h (st1, 0, ct1) = R2 at h0 gg ⊢
    obtain ⟨v2, st2, fl2, ct2⟩ := R2
    have h0 : fl2 = 0 := h0
    subst h0
    have gg1 : st1 ≤ st2 := gg.1
    have gg2 : st2 ≤ 120 := gg.2 g2
    refine Res.step (ok (st2 := st2) (va2 := v2) (ct2 := ct2) (pi2 := pi3) (ph2 := ph3) (ps2 := ps3) (pm2 := pm3) (by omega) gg2 (w1.trans (q1.trans hpi)) n16) ?_
    have e2 : goK (n, mn, lv, sl, kd, pt, he) k (st2, 0, v2, t + 1, ct2, pi3, ph3, ps3, pm3) = (st2, 0, f v1 v2, t, ct2, pi3, ph3, upd ps3 t (ps3 t + 1), pm3) := by
      rw [goK, if_neg n3, if_neg n16]; simp only [Nat.add_sub_cancel]; rw [if_neg (by rw [w3]; decide), if_pos l7, prK, if_neg (by rw [w3]; decide)]; simp only [Nat.add_sub_cancel]; rw [w4, hj]; rfl
    rw [e2]
    refine Res.done (fun j hj => ?_)
    obtain ⟨z1, z2, z3, z4⟩ := fr2 j (by omega)
    obtain ⟨y1, y2, y3, y4⟩ := fr j (by omega)
    exact ⟨z1.trans y1, z2.trans y2, (pk_un (by omega)).trans (z3.trans ((pk_un (by omega)).trans (y3.trans (pk_un (by omega))))), z4.trans ((pk_uLn (by omega)).trans y4)⟩
  -- the parts are there
  have hp := hw.1
  rcases wf_k hw with z | z | z | z | z | z | z | z | z | z | z | z | z | z | z | z | z
  · exact leaf (by rw [z]; decide) (by rw [z]; decide) (by simp [evB, z])
  · exact leaf (by rw [z]; decide) (by rw [z]; decide) (by simp [evB, z])
  · exact leaf (by rw [z]; decide) (by rw [z]; decide) (by simp [evB, z])
  · exact leaf (by rw [z]; decide) (by rw [z]; decide) (by simp [evB, z])
  · rw [z] at hp
    have hp : (ptB (pt (5 * k)) n && ptB (pt (5 * k + 1)) n) = true := hp
    rw [Bool.and_eq_true] at hp
    have r := two (fun x y => x + y) (by simp [z]) (fun x y => by simp [jn, z]) hp.1 hp.2
    rw [show evB (n, mn, lv, sl, kd, pt, he) (ev (n, mn, lv, sl, kd, pt, he) d) k h (st, 0, ct) = _ from if_pos z]
    exact r
  · rw [z] at hp
    have hp : (ptB (pt (5 * k)) n && ptB (pt (5 * k + 1)) n) = true := hp
    rw [Bool.and_eq_true] at hp
    have r := two (fun x y => x - y) (by simp [z]) (fun x y => by simp [jn, z]) hp.1 hp.2
    rw [show evB (n, mn, lv, sl, kd, pt, he) (ev (n, mn, lv, sl, kd, pt, he) d) k h (st, 0, ct) = ((ev (n, mn, lv, sl, kd, pt, he) d (pt (5 * k)) h (st, 0, ct)).1 - (ev (n, mn, lv, sl, kd, pt, he) d (pt (5 * k + 1)) h (ev (n, mn, lv, sl, kd, pt, he) d (pt (5 * k)) h (st, 0, ct)).2).1, (ev (n, mn, lv, sl, kd, pt, he) d (pt (5 * k + 1)) h (ev (n, mn, lv, sl, kd, pt, he) d (pt (5 * k)) h (st, 0, ct)).2).2) by simp [evB, z]]
    exact r
  · rw [z] at hp
    have hp : (ptB (pt (5 * k)) n && ptB (pt (5 * k + 1)) n) = true := hp
    rw [Bool.and_eq_true] at hp
    have r := two (fun x y => if y < x then y else x) (by simp [z]) (fun x y => by
      rw [jn, z, if_neg (by decide), if_neg (by decide), if_pos rfl]
      by_cases a : x < y
      · rw [if_pos a, if_neg (fun q => l_asym a q)]
      · rw [if_neg a]
        by_cases c : y < x
        · rw [if_pos c]
        · rw [if_neg c]; rw [l_lt] at a c; exact Int64.toInt_inj.mp (by omega)) hp.1 hp.2
    rw [show evB (n, mn, lv, sl, kd, pt, he) (ev (n, mn, lv, sl, kd, pt, he) d) k h (st, 0, ct) = (if (ev (n, mn, lv, sl, kd, pt, he) d (pt (5 * k + 1)) h (ev (n, mn, lv, sl, kd, pt, he) d (pt (5 * k)) h (st, 0, ct)).2).1 < (ev (n, mn, lv, sl, kd, pt, he) d (pt (5 * k)) h (st, 0, ct)).1 then (ev (n, mn, lv, sl, kd, pt, he) d (pt (5 * k + 1)) h (ev (n, mn, lv, sl, kd, pt, he) d (pt (5 * k)) h (st, 0, ct)).2).1 else (ev (n, mn, lv, sl, kd, pt, he) d (pt (5 * k)) h (st, 0, ct)).1, (ev (n, mn, lv, sl, kd, pt, he) d (pt (5 * k + 1)) h (ev (n, mn, lv, sl, kd, pt, he) d (pt (5 * k)) h (st, 0, ct)).2).2) by simp [evB, z]]
    exact r
  · rw [z] at hp
    have hp : (ptB (pt (5 * k)) n && ptB (pt (5 * k + 1)) n) = true := hp
    rw [Bool.and_eq_true] at hp
    have r := two (fun x y => if y < x then x else y) (by simp [z]) (fun x y => by rw [jn, z, if_neg (by decide), if_neg (by decide), if_neg (by decide)]) hp.1 hp.2
    rw [show evB (n, mn, lv, sl, kd, pt, he) (ev (n, mn, lv, sl, kd, pt, he) d) k h (st, 0, ct) = (if (ev (n, mn, lv, sl, kd, pt, he) d (pt (5 * k + 1)) h (ev (n, mn, lv, sl, kd, pt, he) d (pt (5 * k)) h (st, 0, ct)).2).1 < (ev (n, mn, lv, sl, kd, pt, he) d (pt (5 * k)) h (st, 0, ct)).1 then (ev (n, mn, lv, sl, kd, pt, he) d (pt (5 * k)) h (st, 0, ct)).1 else (ev (n, mn, lv, sl, kd, pt, he) d (pt (5 * k + 1)) h (ev (n, mn, lv, sl, kd, pt, he) d (pt (5 * k)) h (st, 0, ct)).2).1, (ev (n, mn, lv, sl, kd, pt, he) d (pt (5 * k + 1)) h (ev (n, mn, lv, sl, kd, pt, he) d (pt (5 * k)) h (st, 0, ct)).2).2) by simp [evB, z]]
    exact r
  · -- SCALED
    rw [z] at hp
    have r := una (pt (5 * k)) h ct (fun v => sd (v * (pt (5 * k + 1)).toInt64) (pt (5 * k + 2)).toInt64) (by rw [z]; decide) hp (fun va2 st2 ct2 pi2 ph2 ps2 pm2 a1 a2 a3 => by
      rw [goK, if_neg (by rw [z]; decide), if_neg (by rw [z]; decide)]; simp only [Nat.add_sub_cancel]; rw [if_neg (by rw [a3]; decide), if_neg (by rw [z]; decide), if_neg (by rw [z]; decide), bhK, if_pos z]; rfl) (by
      rw [goK, if_neg (by rw [z]; decide), if_neg (by rw [z]; decide)]; simp only [Nat.add_sub_cancel]; rw [if_pos hps, if_neg (by rw [z]; decide), if_neg (by rw [z]; decide), if_neg (by rw [z]; decide), up0, hph])
    rw [show evB (n, mn, lv, sl, kd, pt, he) (ev (n, mn, lv, sl, kd, pt, he) d) k h (st, 0, ct) = (sd ((ev (n, mn, lv, sl, kd, pt, he) d (pt (5 * k)) h (st, 0, ct)).1 * (pt (5 * k + 1)).toInt64) (pt (5 * k + 2)).toInt64, (ev (n, mn, lv, sl, kd, pt, he) d (pt (5 * k)) h (st, 0, ct)).2) by simp [evB, z]]
    exact r
  · -- WHEN
    rw [z] at hp
    have hp : (ptB (pt (5 * k)) n && (ptB (pt (5 * k + 1)) n && ptB (pt (5 * k + 2)) n)) = true := hp
    rw [Bool.and_eq_true, Bool.and_eq_true] at hp
    have n16 : ¬ kd k = 16 := by rw [z]; decide
    rw [show evB (n, mn, lv, sl, kd, pt, he) (ev (n, mn, lv, sl, kd, pt, he) d) k h (st, 0, ct) = ev (n, mn, lv, sl, kd, pt, he) d (if 0 < (ev (n, mn, lv, sl, kd, pt, he) d (pt (5 * k)) h (st, 0, ct)).1 then pt (5 * k + 1) else pt (5 * k + 2)) h (ev (n, mn, lv, sl, kd, pt, he) d (pt (5 * k)) h (st, 0, ct)).2 by simp [evB, z]]
    refine Res.step (ok (Nat.le_refl _) hst hpi n16) ?_
    have e0 : goK (n, mn, lv, sl, kd, pt, he) k (st, 0, va, t + 1, ct, pi, ph, ps, pm) = enS (pt (5 * k)) h (st, 0, va, t + 1, ct, pi, ph, upd ps t (ps t + 1), pm) := by
      rw [goK, if_neg (by rw [z]; decide), if_neg n16]; simp only [Nat.add_sub_cancel]; rw [if_pos hps, if_neg (by rw [z]; decide), if_neg (by rw [z]; decide), if_neg (by rw [z]; decide), up0, hph]
    rw [e0]
    have g := ev_st (n, mn, lv, sl, kd, pt, he) d (pt (5 * k)) h (st, 0, ct)
    refine Res.bind (hE st va (t + 1) ct pi ph (upd ps t (ps t + 1)) pm _ _ ht hst hd hp.1) (fun hf => ev_dead _ _ _ _ hf) (fun h0 pi2 ph2 ps2 pm2 fr => ?_)
    obtain ⟨q1, q2, q3, q4⟩ := fr t (by omega)
    rw [pk_us, hps] at q3
    generalize ev (n, mn, lv, sl, kd, pt, he) d (pt (5 * k)) h (st, 0, ct) = R at h0 g ⊢
    obtain ⟨v1, st1, fl1, ct1⟩ := R
    have h0 : fl1 = 0 := h0
    subst h0
    have g1 : st ≤ st1 := g.1
    have g2 : st1 ≤ 120 := g.2 hst
    refine Res.step (ok (st2 := st1) (va2 := v1) (ct2 := ct1) (ph2 := ph2) (ps2 := ps2) (pm2 := pm2) g1 g2 (q1.trans hpi) n16) ?_
    have e1 : goK (n, mn, lv, sl, kd, pt, he) k (st1, 0, v1, t + 1, ct1, pi2, ph2, ps2, pm2) = enS (if 0 < v1 then pt (5 * k + 1) else pt (5 * k + 2)) h (st1, 0, v1, t + 1, ct1, pi2, ph2, upd ps2 t (ps2 t + 1), pm2) := by
      rw [goK, if_neg (by rw [z]; decide), if_neg n16]; simp only [Nat.add_sub_cancel]; rw [if_neg (by rw [q3]; decide), if_neg (by rw [z]; decide), if_pos z, chK, if_pos (by rw [q3]; rfl), q2.trans hph]
    rw [e1]
    show Res _ _ _ _ _ _ _ (ev (n, mn, lv, sl, kd, pt, he) d (if 0 < v1 then pt (5 * k + 1) else pt (5 * k + 2)) h (st1, 0, ct1))
    have hy : ptB (if 0 < v1 then pt (5 * k + 1) else pt (5 * k + 2)) n = true := iteP (P := fun y => ptB y n = true) hp.2.1 hp.2.2
    generalize (if 0 < v1 then pt (5 * k + 1) else pt (5 * k + 2)) = y at hy ⊢
    have gg := ev_st (n, mn, lv, sl, kd, pt, he) d y h (st1, 0, ct1)
    refine Res.bind (hE st1 v1 (t + 1) ct1 pi2 ph2 (upd ps2 t (ps2 t + 1)) pm2 _ _ (by omega) g2 (by omega) hy) (fun _ => rfl) (fun h0 pi3 ph3 ps3 pm3 fr2 => ?_)
    obtain ⟨w1, w2, w3, w4⟩ := fr2 t (by omega)
    rw [pk_us, q3] at w3
    generalize ev (n, mn, lv, sl, kd, pt, he) d y h (st1, 0, ct1) = R2 at h0 gg ⊢
    obtain ⟨v2, st2, fl2, ct2⟩ := R2
    have h0 : fl2 = 0 := h0
    subst h0
    have gg1 : st1 ≤ st2 := gg.1
    have gg2 : st2 ≤ 120 := gg.2 g2
    refine Res.step (ok (st2 := st2) (va2 := v2) (ct2 := ct2) (pi2 := pi3) (ph2 := ph3) (ps2 := ps3) (pm2 := pm3) (by omega) gg2 (w1.trans (q1.trans hpi)) n16) ?_
    have e2 : goK (n, mn, lv, sl, kd, pt, he) k (st2, 0, v2, t + 1, ct2, pi3, ph3, ps3, pm3) = (st2, 0, v2, t, ct2, pi3, ph3, upd ps3 t (ps3 t + 1), pm3) := by
      rw [goK, if_neg (by rw [z]; decide), if_neg n16]; simp only [Nat.add_sub_cancel]; rw [if_neg (by rw [w3]; decide), if_neg (by rw [z]; decide), if_pos z, chK, if_neg (by rw [w3]; decide)]; rfl
    rw [e2]
    refine Res.done (fun j hj => ?_)
    obtain ⟨z1, z2, z3, z4⟩ := fr2 j (by omega)
    obtain ⟨y1, y2, y3, y4⟩ := fr j (by omega)
    exact ⟨z1.trans y1, z2.trans y2, (pk_un (by omega)).trans (z3.trans ((pk_un (by omega)).trans (y3.trans (pk_un (by omega))))), z4.trans y4⟩
  · -- LATER
    rw [z] at hp
    have r := una (pt (5 * k)) (h + pt (5 * k + 1)) ct (fun v => v) (by rw [z]; decide) hp (fun va2 st2 ct2 pi2 ph2 ps2 pm2 a1 a2 a3 => by
      rw [goK, if_neg (by rw [z]; decide), if_neg (by rw [z]; decide)]; simp only [Nat.add_sub_cancel]; rw [if_neg (by rw [a3]; decide), if_neg (by rw [z]; decide), if_neg (by rw [z]; decide), bhK, if_neg (by rw [z]; decide), if_neg (by rw [z]; decide)]; rfl) (by
      rw [goK, if_neg (by rw [z]; decide), if_neg (by rw [z]; decide)]; simp only [Nat.add_sub_cancel]; rw [if_pos hps, if_neg (by rw [z]; decide), if_pos z, if_neg (by rw [z]; decide), up0, hph])
    rw [show evB (n, mn, lv, sl, kd, pt, he) (ev (n, mn, lv, sl, kd, pt, he) d) k h (st, 0, ct) = ev (n, mn, lv, sl, kd, pt, he) d (pt (5 * k)) (h + pt (5 * k + 1)) (st, 0, ct) by simp [evB, z]]
    exact r
  · -- BAND
    rw [z] at hp
    have r := una (pt (5 * k)) h ct (fun v => bd v (pt (5 * k + 1)) (pt (5 * k + 2)) (pt (5 * k + 3)) (pt (5 * k + 4))) (by rw [z]; decide) hp (fun va2 st2 ct2 pi2 ph2 ps2 pm2 a1 a2 a3 => by
      rw [goK, if_neg (by rw [z]; decide), if_neg (by rw [z]; decide)]; simp only [Nat.add_sub_cancel]; rw [if_neg (by rw [a3]; decide), if_neg (by rw [z]; decide), if_neg (by rw [z]; decide), bhK, if_neg (by rw [z]; decide), if_pos z]; rfl) (by
      rw [goK, if_neg (by rw [z]; decide), if_neg (by rw [z]; decide)]; simp only [Nat.add_sub_cancel]; rw [if_pos hps, if_neg (by rw [z]; decide), if_neg (by rw [z]; decide), if_neg (by rw [z]; decide), up0, hph])
    rw [show evB (n, mn, lv, sl, kd, pt, he) (ev (n, mn, lv, sl, kd, pt, he) d) k h (st, 0, ct) = (bd (ev (n, mn, lv, sl, kd, pt, he) d (pt (5 * k)) h (st, 0, ct)).1 (pt (5 * k + 1)) (pt (5 * k + 2)) (pt (5 * k + 3)) (pt (5 * k + 4)), (ev (n, mn, lv, sl, kd, pt, he) d (pt (5 * k)) h (st, 0, ct)).2) by simp [evB, z]]
    exact r
  · exact leaf (by rw [z]; decide) (by rw [z]; decide) (by simp [evB, z])
  · -- COUNTED
    rw [z] at hp
    have r := una (pt (5 * k)) h (upd ct k (ct k + 1)) (fun v => v) (by rw [z]; decide) hp (fun va2 st2 ct2 pi2 ph2 ps2 pm2 a1 a2 a3 => by
      rw [goK, if_neg (by rw [z]; decide), if_neg (by rw [z]; decide)]; simp only [Nat.add_sub_cancel]; rw [if_neg (by rw [a3]; decide), if_neg (by rw [z]; decide), if_neg (by rw [z]; decide), bhK, if_neg (by rw [z]; decide), if_neg (by rw [z]; decide)]; rfl) (by
      rw [goK, if_neg (by rw [z]; decide), if_neg (by rw [z]; decide)]; simp only [Nat.add_sub_cancel]; rw [if_pos hps, if_neg (by rw [z]; decide), if_neg (by rw [z]; decide), if_pos z, hph])
    rw [show evB (n, mn, lv, sl, kd, pt, he) (ev (n, mn, lv, sl, kd, pt, he) d) k h (st, 0, ct) = ev (n, mn, lv, sl, kd, pt, he) d (pt (5 * k)) h (st, 0, upd ct k (ct k + 1)) by simp [evB, z]]
    exact r
  · exact leaf (by rw [z]; decide) (by rw [z]; decide) (by simp [evB, z])
  · -- SLOT
    have hs8 := wf_15 hw z
    have hx : ptB (sl (ix (pt (5 * k)))) n = true := hW.2 _ (inB_ix hs8)
    have r := una (sl (ix (pt (5 * k)))) h ct (fun v => v) (by rw [z]; decide) hx (fun va2 st2 ct2 pi2 ph2 ps2 pm2 a1 a2 a3 => by
      rw [goK, if_neg (by rw [z]; decide), if_neg (by rw [z]; decide)]; simp only [Nat.add_sub_cancel]; rw [if_neg (by rw [a3]; decide), if_neg (by rw [z]; decide), if_neg (by rw [z]; decide), bhK, if_neg (by rw [z]; decide), if_neg (by rw [z]; decide)]; rfl) (by
      rw [goK, if_neg (by rw [z]; decide), if_neg (by rw [z]; decide)]; simp only [Nat.add_sub_cancel]; rw [if_pos hps, if_pos z, if_neg (by rw [z]; decide), if_neg (by rw [z]; decide), up0, hph])
    rw [show evB (n, mn, lv, sl, kd, pt, he) (ev (n, mn, lv, sl, kd, pt, he) d) k h (st, 0, ct) = ev (n, mn, lv, sl, kd, pt, he) d (sl (ix (pt (5 * k)))) h (st, 0, ct) by simp [evB, z]]
    exact r
  · -- ALL
    obtain ⟨w1, w2, w3⟩ := wf_16 hw z
    obtain ⟨ia, hia, eia⟩ := inB_of w1 (by decide)
    obtain ⟨ib, hib, eib⟩ := inB_of w2 (by decide)
    have hab : ia ≤ ib := by rw [eia, eib] at w3; exact (nI_leI (by omega) (by omega)).mp w3
    have ixa : ix (pt (5 * k)) = ia := by rw [eia]; exact nI_clamp (by omega)
    have ixb : ix (pt (5 * k + 1)) = ib := by rw [eib]; exact nI_clamp (by omega)
    have n3 : ¬ (kd k ≤ 3 ∨ kd k = 12 ∨ kd k = 14) := by rw [z]; decide
    have loop : ∀ (c j : Nat) (acc : Int64) (st1 : Nat) (va1 : Int64) (ct1 pi1 ph1 ps1 : Nat → Int32) (pm1 : Nat → Int64), ia + j + c = ib + 1 → st ≤ st1 → st1 ≤ 120 → pi1 t = nI k → ph1 t = h → ps1 t = nI j → acc = pm1 t + (if 0 < nI j then va1 else 0) → (∀ q, q < t → pi1 q = pi q ∧ ph1 q = ph q ∧ ps1 q = ps q ∧ pm1 q = pm q) → Res (n, mn, lv, sl, kd, pt, he) (st1, 0, va1, t + 1, ct1, pi1, ph1, ps1, pm1) t pi ph ps pm (evA (ev (n, mn, lv, sl, kd, pt, he) d) sl h c (ia + j) acc (st1, 0, ct1)) := by
      intro c
      induction c with
      | zero =>
        intro j acc st1 va1 ct1 pi1 ph1 ps1 pm1 hc g1 g2 a1 a2 a3 hacc fr
        have esum : pt (5 * k) + nI j = nI (ia + j) := by rw [eia, nI_add]
        have hlt : pt (5 * k + 1) < pt (5 * k) + ps1 t := by rw [a3, esum, eib]; exact nI_lt (by omega) (by omega)
        refine Res.step (k := k) ⟨rfl, by omega, by omega, g2, hk, a1, fun _ hn => absurd hlt hn⟩ ?_
        have e : goK (n, mn, lv, sl, kd, pt, he) k (st1, 0, va1, t + 1, ct1, pi1, ph1, ps1, pm1) = (st1, 0, acc, t, ct1, pi1, ph1, upd ps1 t (ps1 t + 1), vp_updL pm1 t acc) := by
          rw [goK, if_neg n3, if_pos z, slK]; simp only [Nat.add_sub_cancel]; rw [if_pos hlt, a3, ← hacc]; rfl
        rw [e]
        refine Res.done (fun q hq => ?_)
        obtain ⟨y1, y2, y3, y4⟩ := fr q hq
        exact ⟨y1, y2, (pk_un (by omega)).trans y3, (pk_uLn (by omega)).trans y4⟩
      | succ c ih =>
        intro j acc st1 va1 ct1 pi1 ph1 ps1 pm1 hc g1 g2 a1 a2 a3 hacc fr
        have esum : pt (5 * k) + nI j = nI (ia + j) := by rw [eia, nI_add]
        have hnlt : ¬ pt (5 * k + 1) < pt (5 * k) + ps1 t := by rw [a3, esum, eib]; exact nI_nlt (by omega) (by omega)
        have hin : inB (pt (5 * k) + ps1 t) 8 = true := by rw [a3, esum, inB_nI (by omega)]; exact decide_eq_true (by omega)
        have eix : ix (pt (5 * k) + ps1 t) = ia + j := by rw [a3, esum]; exact nI_clamp (by omega)
        refine Res.step (k := k) ⟨rfl, by omega, by omega, g2, hk, a1, fun _ _ => hin⟩ ?_
        have e : goK (n, mn, lv, sl, kd, pt, he) k (st1, 0, va1, t + 1, ct1, pi1, ph1, ps1, pm1) = enS (sl (ia + j)) h (st1, 0, va1, t + 1, ct1, pi1, ph1, upd ps1 t (ps1 t + 1), vp_updL pm1 t acc) := by
          rw [goK, if_neg n3, if_pos z, slK]; simp only [Nat.add_sub_cancel]; rw [if_neg hnlt, eix, a2, a3, ← hacc]
        rw [e]
        have g := ev_st (n, mn, lv, sl, kd, pt, he) d (sl (ia + j)) h (st1, 0, ct1)
        refine Res.bind (hE st1 va1 (t + 1) ct1 pi1 ph1 (upd ps1 t (ps1 t + 1)) (vp_updL pm1 t acc) _ _ (by omega) g2 (by omega) (hW.2 _ (by omega))) (fun hf => evA_dead _ _ _ _ _ _ _ hf) (fun h0 pi2 ph2 ps2 pm2 fr2 => ?_)
        obtain ⟨q1, q2, q3, q4⟩ := fr2 t (by omega)
        rw [pk_us, a3, nI_1] at q3
        rw [pk_uLs] at q4
        show Res _ _ _ _ _ _ _ (evA (ev (n, mn, lv, sl, kd, pt, he) d) sl h c (ia + j + 1) (acc + (ev (n, mn, lv, sl, kd, pt, he) d (sl (ia + j)) h (st1, 0, ct1)).1) (ev (n, mn, lv, sl, kd, pt, he) d (sl (ia + j)) h (st1, 0, ct1)).2)
        generalize ev (n, mn, lv, sl, kd, pt, he) d (sl (ia + j)) h (st1, 0, ct1) = R at h0 g ⊢
        obtain ⟨v1, st2, fl1, ct2⟩ := R
        have h0 : fl1 = 0 := h0
        subst h0
        have g3 : st1 ≤ st2 := g.1
        have g4 : st2 ≤ 120 := g.2 g2
        rw [show ia + j + 1 = ia + (j + 1) by omega]
        refine ih (j + 1) (acc + v1) st2 v1 ct2 pi2 ph2 ps2 pm2 (by omega) (by omega) g4 (q1.trans a1) (q2.trans a2) q3 (by rw [q4, if_pos (show (0 : Int32) < nI (j + 1) from nI_lt (a := 0) (by omega) (by omega))]) (fun q hq => ?_)
        obtain ⟨y1, y2, y3, y4⟩ := fr2 q (by omega)
        obtain ⟨x1, x2, x3, x4⟩ := fr q hq
        exact ⟨y1.trans x1, y2.trans x2, y3.trans ((pk_un (by omega)).trans x3), y4.trans ((pk_uLn (by omega)).trans x4)⟩
    have r := loop (ib + 1 - ia) 0 0 st va ct pi ph ps pm (by omega) (Nat.le_refl _) hst hpi hph (by rw [hps, nI_0]) (by rw [hpm, if_neg (by decide)]; rfl) (fun _ _ => ⟨rfl, rfl, rfl, rfl⟩)
    rw [show evB (n, mn, lv, sl, kd, pt, he) (ev (n, mn, lv, sl, kd, pt, he) d) k h (st, 0, ct) = evA (ev (n, mn, lv, sl, kd, pt, he) d) sl h (ix (pt (5 * k + 1)) + 1 - ix (pt (5 * k))) (ix (pt (5 * k))) 0 (st, 0, ct) by simp [evB, z], ixa, ixb]
    exact r
theorem sim_all (hW : wfA b n sl kd pt) (hn : n ≤ 40) : ∀ d, simE n (n, mn, lv, sl, kd, pt, he) d
  | 0 => sim_enter (fun d' h => absurd h (by omega))
  | d + 1 => sim_enter (fun d' h => by
    have e : d = d' := by omega
    subst e
    exact sim_body hW hn (sim_all hW hn d))
end SIM
end
