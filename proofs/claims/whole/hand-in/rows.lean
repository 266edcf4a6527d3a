section
-- ===== PART A: goes FIRST, ahead of the names: the tables' words, and 'selects' of the private methods out of them =====
/-- a private method of a class that the tables say can be made, by its rows of tables_1 -/
def lw_okq (q : MethodName × Nat) : Prop := (q.1.cls ≠ "java/lang/invoke/MethodHandle" ∧ q.1.cls ≠ "java/lang/invoke/VarHandle") ∧ Cond.instantiable q.1.cls q.2 ∈ tables_1 ∧ Cond.privateMethod q.1 ∈ tables_1 ∧ Cond.instanceMethod q.1 ∈ tables_1
theorem lw_p0 : lw_okq (⟨"DayDesk", "advance", "(I)I"⟩, 9) := ⟨⟨by decide +kernel, by decide +kernel⟩, List.mem_of_getElem? (i := 5) (by decide +kernel), List.mem_of_getElem? (i := 47) (by decide +kernel), List.mem_of_getElem? (i := 48) (by decide +kernel)⟩
theorem lw_p1 : lw_okq (⟨"DayDesk", "openStatements", "()V"⟩, 9) := ⟨⟨by decide +kernel, by decide +kernel⟩, List.mem_of_getElem? (i := 5) (by decide +kernel), List.mem_of_getElem? (i := 51) (by decide +kernel), List.mem_of_getElem? (i := 52) (by decide +kernel)⟩
theorem lw_p2 : lw_okq (⟨"DayDesk", "phaseNow", "()I"⟩, 9) := ⟨⟨by decide +kernel, by decide +kernel⟩, List.mem_of_getElem? (i := 5) (by decide +kernel), List.mem_of_getElem? (i := 73) (by decide +kernel), List.mem_of_getElem? (i := 74) (by decide +kernel)⟩
theorem lw_p3 : lw_okq (⟨"DayDesk", "nextResolving", "()I"⟩, 9) := ⟨⟨by decide +kernel, by decide +kernel⟩, List.mem_of_getElem? (i := 5) (by decide +kernel), List.mem_of_getElem? (i := 87) (by decide +kernel), List.mem_of_getElem? (i := 88) (by decide +kernel)⟩
theorem lw_p4 : lw_okq (⟨"DayDesk", "nextPhaseBegins", "()I"⟩, 9) := ⟨⟨by decide +kernel, by decide +kernel⟩, List.mem_of_getElem? (i := 5) (by decide +kernel), List.mem_of_getElem? (i := 91) (by decide +kernel), List.mem_of_getElem? (i := 92) (by decide +kernel)⟩
theorem lw_p5 : lw_okq (⟨"DayDesk", "addNumber", "(J)V"⟩, 9) := ⟨⟨by decide +kernel, by decide +kernel⟩, List.mem_of_getElem? (i := 5) (by decide +kernel), List.mem_of_getElem? (i := 119) (by decide +kernel), List.mem_of_getElem? (i := 120) (by decide +kernel)⟩
theorem lw_p6 : lw_okq (⟨"DayDesk", "addCharacter", "(C)V"⟩, 9) := ⟨⟨by decide +kernel, by decide +kernel⟩, List.mem_of_getElem? (i := 5) (by decide +kernel), List.mem_of_getElem? (i := 123) (by decide +kernel), List.mem_of_getElem? (i := 124) (by decide +kernel)⟩
theorem lw_p7 : lw_okq (⟨"DayDeskModel", "tick", "()I"⟩, 7) := ⟨⟨by decide +kernel, by decide +kernel⟩, List.mem_of_getElem? (i := 134) (by decide +kernel), List.mem_of_getElem? (i := 167) (by decide +kernel), List.mem_of_getElem? (i := 168) (by decide +kernel)⟩
theorem lw_p8 : lw_okq (⟨"DayDeskModel", "begin", "()V"⟩, 7) := ⟨⟨by decide +kernel, by decide +kernel⟩, List.mem_of_getElem? (i := 134) (by decide +kernel), List.mem_of_getElem? (i := 172) (by decide +kernel), List.mem_of_getElem? (i := 173) (by decide +kernel)⟩
theorem lw_p9 : lw_okq (⟨"DayDeskModel", "put", "(I)V"⟩, 7) := ⟨⟨by decide +kernel, by decide +kernel⟩, List.mem_of_getElem? (i := 134) (by decide +kernel), List.mem_of_getElem? (i := 223) (by decide +kernel), List.mem_of_getElem? (i := 224) (by decide +kernel)⟩
theorem lw_p10 : lw_okq (⟨"DayDeskModel", "number", "(J)V"⟩, 7) := ⟨⟨by decide +kernel, by decide +kernel⟩, List.mem_of_getElem? (i := 134) (by decide +kernel), List.mem_of_getElem? (i := 227) (by decide +kernel), List.mem_of_getElem? (i := 228) (by decide +kernel)⟩
def lw_privs_1 : List (MethodName × Nat) := [(⟨"DayDesk", "advance", "(I)I"⟩, 9), (⟨"DayDesk", "openStatements", "()V"⟩, 9), (⟨"DayDesk", "phaseNow", "()I"⟩, 9), (⟨"DayDesk", "nextResolving", "()I"⟩, 9), (⟨"DayDesk", "nextPhaseBegins", "()I"⟩, 9), (⟨"DayDesk", "addNumber", "(J)V"⟩, 9), (⟨"DayDesk", "addCharacter", "(C)V"⟩, 9), (⟨"DayDeskModel", "tick", "()I"⟩, 7), (⟨"DayDeskModel", "begin", "()V"⟩, 7), (⟨"DayDeskModel", "put", "(I)V"⟩, 7), (⟨"DayDeskModel", "number", "(J)V"⟩, 7)]
theorem lw_r1 : ∀ q ∈ lw_privs_1, lw_okq q := List.forall_mem_cons.mpr ⟨lw_p0, List.forall_mem_cons.mpr ⟨lw_p1, List.forall_mem_cons.mpr ⟨lw_p2, List.forall_mem_cons.mpr ⟨lw_p3, List.forall_mem_cons.mpr ⟨lw_p4, List.forall_mem_cons.mpr ⟨lw_p5, List.forall_mem_cons.mpr ⟨lw_p6, List.forall_mem_cons.mpr ⟨lw_p7, List.forall_mem_cons.mpr ⟨lw_p8, List.forall_mem_cons.mpr ⟨lw_p9, List.forall_mem_cons.mpr ⟨lw_p10, fun _ h => absurd h List.not_mem_nil⟩⟩⟩⟩⟩⟩⟩⟩⟩⟩⟩
def lw_privs : List (MethodName × Nat) := lw_privs_1
def lw_tbl : List Cond := k2_sels lw_privs ++ tables_1
theorem lw_privs_ok : ∀ q ∈ lw_privs, lw_okq q := lw_r1
/-! ===== BEGIN words of one list among another's, by their places ===== -/
theorem goodIn_r {big : List Cond} (ws : List Cond) (ps : List Nat) (hp : ws = ps.filterMap (fun i => big[i]?)) (h : ws.all goodWord = true) : GoodIn big ws := by
  intro w hw
  have h1 := List.all_eq_true.mp h w hw
  rw [hp] at hw
  obtain ⟨i, -, hi⟩ := List.mem_filterMap.mp hw
  have hm : w ∈ big := by first | exact List.mem_of_getElem? hi | exact List.getElem?_mem hi
  exact ⟨hm, good_of_word h1⟩
theorem goodIn_app {big a b : List Cond} (ha : GoodIn big a) (hb : GoodIn big b) : GoodIn big (a ++ b) := fun w h => (List.mem_append.mp h).elim (ha w) (hb w)
theorem goodIn_ca {big a b : List Cond} {c : Cond} (ha : GoodIn big (c :: a)) (hb : GoodIn big b) : GoodIn big (c :: (a ++ b)) := fun w h => (List.mem_cons.mp h).elim (fun e => ha w (List.mem_cons.mpr (Or.inl e))) (fun h => (List.mem_append.mp h).elim (fun h => ha w (List.mem_cons.mpr (Or.inr h))) (hb w))
theorem goodIn_sub {big ws : List Cond} (hm : ∀ w ∈ ws, w ∈ big) (h : ws.all goodWord = true) : GoodIn big ws := fun w hw => ⟨hm w hw, good_of_word (List.all_eq_true.mp h w hw)⟩
/-! ===== END ===== -/

/-! ===== BEGIN printed: names, fields, word lists, decode rows ===== -/
def RX0 : String := "DayDesk"
def TX0 : u_T := fun k => match k with
  | 0 => ("DayDesk", "day", "I", false)
  | 1 => ("DayDesk", "tick", "I", false)
  | 2 => ("DayDesk", "opening", "[J", true)
  | 3 => ("DayDesk", "went", "[J", true)
  | 4 => ("DayDesk", "came", "[J", true)
  | 5 => ("DayDesk", "now", "[J", true)
  | 6 => ("DayDesk", "moved", "[J", true)
  | 7 => ("DayDesk", "line", "[C", true)
  | _ => ("DayDesk", "lineLength", "I", false)
def tyX0 : Nat → FieldType := fun k => match k with
  | 0 => .int
  | 1 => .int
  | 2 => .array .long
  | 3 => .array .long
  | 4 => .array .long
  | 5 => .array .long
  | 6 => .array .long
  | 7 => .array .char
  | _ => .int
abbrev wsX00 : List Cond := u_ws RX0 TX0 9
theorem nmX0 : ∀ a, a < 9 → ∀ b, b < 9 → a ≠ b → (TX0 a).2.1 ≠ (TX0 b).2.1 := by decide +kernel
theorem tyX0_ok : ∀ k, k < 9 → parseFieldDescriptor (TX0 k).2.2.1 = some (tyX0 k) := by decide +kernel
abbrev cX0_init : ByteArray := prog_1_method_1_code
def yX0_init : MethodName := ⟨RX0, "<init>", "()V"⟩
abbrev cX0_pass : ByteArray := prog_1_method_2_code
def yX0_pass : MethodName := ⟨RX0, "pass", "()I"⟩
abbrev cX0_skip : ByteArray := prog_1_method_3_code
def yX0_skip : MethodName := ⟨RX0, "skip", "(I)I"⟩
abbrev cX0_may : ByteArray := prog_1_method_4_code
def yX0_may : MethodName := ⟨RX0, "may", "(IIZ)Z"⟩
abbrev cX0_look : ByteArray := prog_1_method_5_code
def yX0_look : MethodName := ⟨RX0, "look", "(I)I"⟩
abbrev cX0_move : ByteArray := prog_1_method_6_code
def yX0_move : MethodName := ⟨RX0, "move", "(IJ)I"⟩
abbrev cX0_row : ByteArray := prog_1_method_7_code
def yX0_row : MethodName := ⟨RX0, "row", "(II)J"⟩
abbrev cX0_isTold : ByteArray := prog_1_method_8_code
def yX0_isTold : MethodName := ⟨RX0, "isTold", "(I)Z"⟩
abbrev cX0_write : ByteArray := prog_1_method_9_code
def yX0_write : MethodName := ⟨RX0, "write", "(I)I"⟩
abbrev cX0_at : ByteArray := prog_1_method_10_code
def yX0_at : MethodName := ⟨RX0, "at", "(I)I"⟩
abbrev cX0_advance : ByteArray := prog_1_method_11_code
def yX0_advance : MethodName := ⟨RX0, "advance", "(I)I"⟩
abbrev cX0_openStatements : ByteArray := prog_1_method_12_code
def yX0_openStatements : MethodName := ⟨RX0, "openStatements", "()V"⟩
abbrev cX0_isResolving : ByteArray := prog_1_method_13_code
def yX0_isResolving : MethodName := ⟨RX0, "isResolving", "(I)Z"⟩
abbrev cX0_resolvingsUntil : ByteArray := prog_1_method_14_code
def yX0_resolvingsUntil : MethodName := ⟨RX0, "resolvingsUntil", "(I)I"⟩
abbrev cX0_nextResolving : ByteArray := prog_1_method_15_code
def yX0_nextResolving : MethodName := ⟨RX0, "nextResolving", "()I"⟩
abbrev cX0_phaseNow : ByteArray := prog_1_method_16_code
def yX0_phaseNow : MethodName := ⟨RX0, "phaseNow", "()I"⟩
abbrev cX0_nextPhaseBegins : ByteArray := prog_1_method_17_code
def yX0_nextPhaseBegins : MethodName := ⟨RX0, "nextPhaseBegins", "()I"⟩
abbrev cX0_isClosedWhenEarly : ByteArray := prog_1_method_18_code
def yX0_isClosedWhenEarly : MethodName := ⟨RX0, "isClosedWhenEarly", "(I)Z"⟩
abbrev cX0_isClosedWhenShut : ByteArray := prog_1_method_19_code
def yX0_isClosedWhenShut : MethodName := ⟨RX0, "isClosedWhenShut", "(I)Z"⟩
abbrev cX0_isPosition : ByteArray := prog_1_method_20_code
def yX0_isPosition : MethodName := ⟨RX0, "isPosition", "(I)Z"⟩
abbrev cX0_isWithin : ByteArray := prog_1_method_21_code
def yX0_isWithin : MethodName := ⟨RX0, "isWithin", "(JJ)Z"⟩
abbrev cX0_addNumber : ByteArray := prog_1_method_22_code
def yX0_addNumber : MethodName := ⟨RX0, "addNumber", "(J)V"⟩
abbrev cX0_addCharacter : ByteArray := prog_1_method_23_code
def yX0_addCharacter : MethodName := ⟨RX0, "addCharacter", "(C)V"⟩
def RX1 : String := "DayDeskModel"
def TX1 : u_T := fun k => match k with
  | 0 => ("DayDeskModel", "ticks", "J", false)
  | 1 => ("DayDeskModel", "opening", "[J", true)
  | 2 => ("DayDeskModel", "moves", "I", false)
  | 3 => ("DayDeskModel", "moveOf", "[I", true)
  | 4 => ("DayDeskModel", "moveBy", "[J", true)
  | 5 => ("DayDeskModel", "written", "I", false)
  | _ => ("DayDeskModel", "text", "[I", true)
def tyX1 : Nat → FieldType := fun k => match k with
  | 0 => .long
  | 1 => .array .long
  | 2 => .int
  | 3 => .array .int
  | 4 => .array .long
  | 5 => .int
  | _ => .array .int
abbrev wsX10 : List Cond := u_ws RX1 TX1 7
theorem nmX1 : ∀ a, a < 7 → ∀ b, b < 7 → a ≠ b → (TX1 a).2.1 ≠ (TX1 b).2.1 := by decide +kernel
theorem tyX1_ok : ∀ k, k < 7 → parseFieldDescriptor (TX1 k).2.2.1 = some (tyX1 k) := by decide +kernel
abbrev cX1_init : ByteArray := prog_3_method_1_code
def yX1_init : MethodName := ⟨RX1, "<init>", "()V"⟩
abbrev cX1_tick : ByteArray := prog_3_method_2_code
def yX1_tick : MethodName := ⟨RX1, "tick", "()I"⟩
abbrev cX1_isResolved : ByteArray := prog_3_method_3_code
def yX1_isResolved : MethodName := ⟨RX1, "isResolved", "(I)Z"⟩
abbrev cX1_phaseOf : ByteArray := prog_3_method_4_code
def yX1_phaseOf : MethodName := ⟨RX1, "phaseOf", "(I)I"⟩
abbrev cX1_begin : ByteArray := prog_3_method_5_code
def yX1_begin : MethodName := ⟨RX1, "begin", "()V"⟩
abbrev cX1_pass : ByteArray := prog_3_method_6_code
def yX1_pass : MethodName := ⟨RX1, "pass", "()I"⟩
abbrev cX1_skip : ByteArray := prog_3_method_7_code
def yX1_skip : MethodName := ⟨RX1, "skip", "(I)I"⟩
abbrev cX1_may : ByteArray := prog_3_method_8_code
def yX1_may : MethodName := ⟨RX1, "may", "(IIZ)Z"⟩
abbrev cX1_look : ByteArray := prog_3_method_9_code
def yX1_look : MethodName := ⟨RX1, "look", "(I)I"⟩
abbrev cX1_isPosition : ByteArray := prog_3_method_10_code
def yX1_isPosition : MethodName := ⟨RX1, "isPosition", "(I)Z"⟩
abbrev cX1_isWithin : ByteArray := prog_3_method_11_code
def yX1_isWithin : MethodName := ⟨RX1, "isWithin", "(J)Z"⟩
abbrev cX1_move : ByteArray := prog_3_method_12_code
def yX1_move : MethodName := ⟨RX1, "move", "(IJ)I"⟩
abbrev cX1_row : ByteArray := prog_3_method_13_code
def yX1_row : MethodName := ⟨RX1, "row", "(II)J"⟩
abbrev cX1_isTold : ByteArray := prog_3_method_14_code
def yX1_isTold : MethodName := ⟨RX1, "isTold", "(I)Z"⟩
abbrev cX1_put : ByteArray := prog_3_method_15_code
def yX1_put : MethodName := ⟨RX1, "put", "(I)V"⟩
abbrev cX1_number : ByteArray := prog_3_method_16_code
def yX1_number : MethodName := ⟨RX1, "number", "(J)V"⟩
abbrev cX1_write : ByteArray := prog_3_method_17_code
def yX1_write : MethodName := ⟨RX1, "write", "(I)I"⟩
abbrev cX1_at : ByteArray := prog_3_method_18_code
def yX1_at : MethodName := ⟨RX1, "at", "(I)I"⟩
def RJ9 : String := "java/lang/Math"
def TJ9 : u_T := fun k => match k with
  | _ => ("", "", "", false)
def tyJ9 : Nat → FieldType := fun k => match k with
  | _ => .int
abbrev wsJ90 : List Cond := u_ws RJ9 TJ9 0
theorem nmJ9 : ∀ a, a < 0 → ∀ b, b < 0 → a ≠ b → (TJ9 a).2.1 ≠ (TJ9 b).2.1 := by decide +kernel
theorem tyJ9_ok : ∀ k, k < 0 → parseFieldDescriptor (TJ9 k).2.2.1 = some (tyJ9 k) := by decide +kernel
abbrev cJ9_min_7cf53 : ByteArray := prog_4_method_69_code
def yJ9_min_7cf53 : MethodName := ⟨RJ9, "min", "(II)I"⟩
def RL : String := "DayDeskLaw"
abbrev cL_law : ByteArray := code
def yL_law : MethodName := ⟨RL, "law", "([I)Z"⟩
def wsX0_init : List Cond := .code yX0_init cX0_init 1 none :: ([.methodLink RX0 1 objectInit, .instanceMethod objectInit, .code objectInit ⟨#[0xb1]⟩ 1 none, .fieldLink RX0 7 "DayDesk" "day" "I", .fieldLink RX0 13 "DayDesk" "tick" "I", .arrayClass .long, .fieldLink RX0 16 "DayDesk" "opening" "[J", .fieldLink RX0 20 "DayDesk" "went" "[J", .fieldLink RX0 23 "DayDesk" "came" "[J", .fieldLink RX0 26 "DayDesk" "now" "[J", .fieldLink RX0 29 "DayDesk" "moved" "[J", .arrayClass .char, .fieldLink RX0 32 "DayDesk" "line" "[C", .fieldLink RX0 36 "DayDesk" "lineLength" "I"] ++ wsX00)
def wsX0_openStatements : List Cond := .code yX0_openStatements cX0_openStatements 2 none :: ([.fieldLink RX0 16 "DayDesk" "opening" "[J", .fieldLink RX0 26 "DayDesk" "now" "[J", .fieldLink RX0 20 "DayDesk" "went" "[J", .fieldLink RX0 23 "DayDesk" "came" "[J", .fieldLink RX0 29 "DayDesk" "moved" "[J"] ++ wsX00)
def wsX0_advance : List Cond := .code yX0_advance cX0_advance 4 (some .int) :: ([.fieldLink RX0 13 "DayDesk" "tick" "I", .fieldLink RX0 7 "DayDesk" "day" "I", .methodLink RX0 86 yX0_openStatements, .instanceMethod yX0_openStatements, .selects RX0 yX0_openStatements yX0_openStatements, .initialized RX0, .code yX0_openStatements cX0_openStatements 2 none, .fieldLink RX0 16 "DayDesk" "opening" "[J", .fieldLink RX0 26 "DayDesk" "now" "[J", .fieldLink RX0 20 "DayDesk" "went" "[J", .fieldLink RX0 23 "DayDesk" "came" "[J", .fieldLink RX0 29 "DayDesk" "moved" "[J"] ++ wsX00)
def wsX0_isResolving : List Cond := .code yX0_isResolving cX0_isResolving 1 (some .boolean) :: ([])
def wsX0_pass : List Cond := .code yX0_pass cX0_pass 2 (some .int) :: ([.fieldLink RX0 13 "DayDesk" "tick" "I", .methodLink RX0 39 yX0_advance, .instanceMethod yX0_advance, .selects RX0 yX0_advance yX0_advance, .initialized RX0, .code yX0_advance cX0_advance 4 (some .int), .fieldLink RX0 7 "DayDesk" "day" "I", .methodLink RX0 86 yX0_openStatements, .instanceMethod yX0_openStatements, .selects RX0 yX0_openStatements yX0_openStatements, .code yX0_openStatements cX0_openStatements 2 none, .fieldLink RX0 16 "DayDesk" "opening" "[J", .fieldLink RX0 26 "DayDesk" "now" "[J", .fieldLink RX0 20 "DayDesk" "went" "[J", .fieldLink RX0 23 "DayDesk" "came" "[J", .fieldLink RX0 29 "DayDesk" "moved" "[J", .methodLink RX0 43 yX0_isResolving, .static yX0_isResolving, .code yX0_isResolving cX0_isResolving 1 (some .boolean)] ++ wsX00)
def wsX0_resolvingsUntil : List Cond := .code yX0_resolvingsUntil cX0_resolvingsUntil 2 (some .int) :: ([.methodLink RX0 89 Lib.Math.min.name, .static Lib.Math.min.name, .initialized "java/lang/Math", .code Lib.Math.min.name Lib.Math.min.code 2 (some .int)])
def wsX0_skip : List Cond := .code yX0_skip cX0_skip 4 (some .int) :: ([.constant RX0 47 (100000), .fieldLink RX0 13 "DayDesk" "tick" "I", .methodLink RX0 48 yX0_resolvingsUntil, .static yX0_resolvingsUntil, .initialized RX0, .code yX0_resolvingsUntil cX0_resolvingsUntil 2 (some .int), .methodLink RX0 89 Lib.Math.min.name, .static Lib.Math.min.name, .initialized "java/lang/Math", .code Lib.Math.min.name Lib.Math.min.code 2 (some .int), .methodLink RX0 39 yX0_advance, .instanceMethod yX0_advance, .selects RX0 yX0_advance yX0_advance, .code yX0_advance cX0_advance 4 (some .int), .fieldLink RX0 7 "DayDesk" "day" "I", .methodLink RX0 86 yX0_openStatements, .instanceMethod yX0_openStatements, .selects RX0 yX0_openStatements yX0_openStatements, .code yX0_openStatements cX0_openStatements 2 none, .fieldLink RX0 16 "DayDesk" "opening" "[J", .fieldLink RX0 26 "DayDesk" "now" "[J", .fieldLink RX0 20 "DayDesk" "went" "[J", .fieldLink RX0 23 "DayDesk" "came" "[J", .fieldLink RX0 29 "DayDesk" "moved" "[J"] ++ wsX00)
def wsX0_phaseNow : List Cond := .code yX0_phaseNow cX0_phaseNow 1 (some .int) :: ([.fieldLink RX0 13 "DayDesk" "tick" "I"] ++ wsX00)
def wsX0_isClosedWhenEarly : List Cond := .code yX0_isClosedWhenEarly cX0_isClosedWhenEarly 1 (some .boolean) :: ([])
def wsX0_isClosedWhenShut : List Cond := .code yX0_isClosedWhenShut cX0_isClosedWhenShut 1 (some .boolean) :: ([.methodLink RX0 55 yX0_isClosedWhenEarly, .static yX0_isClosedWhenEarly, .initialized RX0, .code yX0_isClosedWhenEarly cX0_isClosedWhenEarly 1 (some .boolean)])
def wsX0_may : List Cond := .code yX0_may cX0_may 4 (some .boolean) :: ([.methodLink RX0 51 yX0_phaseNow, .instanceMethod yX0_phaseNow, .selects RX0 yX0_phaseNow yX0_phaseNow, .initialized RX0, .code yX0_phaseNow cX0_phaseNow 1 (some .int), .fieldLink RX0 13 "DayDesk" "tick" "I", .methodLink RX0 55 yX0_isClosedWhenEarly, .static yX0_isClosedWhenEarly, .code yX0_isClosedWhenEarly cX0_isClosedWhenEarly 1 (some .boolean), .methodLink RX0 58 yX0_isClosedWhenShut, .static yX0_isClosedWhenShut, .code yX0_isClosedWhenShut cX0_isClosedWhenShut 1 (some .boolean)] ++ wsX00)
def wsX0_nextResolving : List Cond := .code yX0_nextResolving cX0_nextResolving 1 (some .int) :: ([.fieldLink RX0 13 "DayDesk" "tick" "I", .methodLink RX0 48 yX0_resolvingsUntil, .static yX0_resolvingsUntil, .initialized RX0, .code yX0_resolvingsUntil cX0_resolvingsUntil 2 (some .int), .methodLink RX0 89 Lib.Math.min.name, .static Lib.Math.min.name, .initialized "java/lang/Math", .code Lib.Math.min.name Lib.Math.min.code 2 (some .int)] ++ wsX00)
def wsX0_nextPhaseBegins : List Cond := .code yX0_nextPhaseBegins cX0_nextPhaseBegins 1 (some .int) :: ([.methodLink RX0 51 yX0_phaseNow, .instanceMethod yX0_phaseNow, .selects RX0 yX0_phaseNow yX0_phaseNow, .initialized RX0, .code yX0_phaseNow cX0_phaseNow 1 (some .int), .fieldLink RX0 13 "DayDesk" "tick" "I"] ++ wsX00)
def wsX0_look : List Cond := .code yX0_look cX0_look 2 (some .int) :: ([.fieldLink RX0 7 "DayDesk" "day" "I", .fieldLink RX0 13 "DayDesk" "tick" "I", .methodLink RX0 51 yX0_phaseNow, .instanceMethod yX0_phaseNow, .selects RX0 yX0_phaseNow yX0_phaseNow, .initialized RX0, .code yX0_phaseNow cX0_phaseNow 1 (some .int), .methodLink RX0 61 yX0_nextResolving, .instanceMethod yX0_nextResolving, .selects RX0 yX0_nextResolving yX0_nextResolving, .code yX0_nextResolving cX0_nextResolving 1 (some .int), .methodLink RX0 48 yX0_resolvingsUntil, .static yX0_resolvingsUntil, .code yX0_resolvingsUntil cX0_resolvingsUntil 2 (some .int), .methodLink RX0 89 Lib.Math.min.name, .static Lib.Math.min.name, .initialized "java/lang/Math", .code Lib.Math.min.name Lib.Math.min.code 2 (some .int), .methodLink RX0 64 yX0_nextPhaseBegins, .instanceMethod yX0_nextPhaseBegins, .selects RX0 yX0_nextPhaseBegins yX0_nextPhaseBegins, .code yX0_nextPhaseBegins cX0_nextPhaseBegins 1 (some .int)] ++ wsX00)
def wsX0_isPosition : List Cond := .code yX0_isPosition cX0_isPosition 1 (some .boolean) :: ([])
def wsX0_isWithin : List Cond := .code yX0_isWithin cX0_isWithin 4 (some .boolean) :: ([])
def wsX0_move : List Cond := .code yX0_move cX0_move 10 (some .int) :: ([.constantLong RX0 70 (10000000000000000), .fieldLink RX0 26 "DayDesk" "now" "[J", .fieldLink RX0 20 "DayDesk" "went" "[J", .fieldLink RX0 23 "DayDesk" "came" "[J", .constantLong RX0 76 (9000000000000000000), .fieldLink RX0 29 "DayDesk" "moved" "[J", .methodLink RX0 67 yX0_isPosition, .static yX0_isPosition, .initialized RX0, .code yX0_isPosition cX0_isPosition 1 (some .boolean), .methodLink RX0 72 yX0_isWithin, .static yX0_isWithin, .code yX0_isWithin cX0_isWithin 4 (some .boolean)] ++ wsX00)
def wsX0_row : List Cond := .code yX0_row cX0_row 3 (some .long) :: ([.fieldLink RX0 16 "DayDesk" "opening" "[J", .fieldLink RX0 20 "DayDesk" "went" "[J", .fieldLink RX0 23 "DayDesk" "came" "[J", .fieldLink RX0 26 "DayDesk" "now" "[J", .fieldLink RX0 29 "DayDesk" "moved" "[J", .methodLink RX0 67 yX0_isPosition, .static yX0_isPosition, .initialized RX0, .code yX0_isPosition cX0_isPosition 1 (some .boolean)] ++ wsX00)
def wsX0_isTold : List Cond := .code yX0_isTold cX0_isTold 2 (some .boolean) :: ([.fieldLink RX0 16 "DayDesk" "opening" "[J", .fieldLink RX0 29 "DayDesk" "moved" "[J", .methodLink RX0 67 yX0_isPosition, .static yX0_isPosition, .initialized RX0, .code yX0_isPosition cX0_isPosition 1 (some .boolean)] ++ wsX00)
def wsX0_addCharacter : List Cond := .code yX0_addCharacter cX0_addCharacter 2 none :: ([.fieldLink RX0 36 "DayDesk" "lineLength" "I", .fieldLink RX0 32 "DayDesk" "line" "[C"] ++ wsX00)
def wsX0_addNumber : List Cond := .code yX0_addNumber cX0_addNumber 7 none :: ([.constantLong RX0 95 (1000000000000000000), .constantLong RX0 97 (48), .constantLong RX0 99 (10), .methodLink RX0 82 yX0_addCharacter, .instanceMethod yX0_addCharacter, .selects RX0 yX0_addCharacter yX0_addCharacter, .initialized RX0, .code yX0_addCharacter cX0_addCharacter 2 none, .fieldLink RX0 36 "DayDesk" "lineLength" "I", .fieldLink RX0 32 "DayDesk" "line" "[C"] ++ wsX00)
def wsX0_write : List Cond := .code yX0_write cX0_write 2 (some .int) :: ([.fieldLink RX0 36 "DayDesk" "lineLength" "I", .fieldLink RX0 16 "DayDesk" "opening" "[J", .fieldLink RX0 20 "DayDesk" "went" "[J", .fieldLink RX0 23 "DayDesk" "came" "[J", .fieldLink RX0 26 "DayDesk" "now" "[J", .fieldLink RX0 29 "DayDesk" "moved" "[J", .methodLink RX0 67 yX0_isPosition, .static yX0_isPosition, .initialized RX0, .code yX0_isPosition cX0_isPosition 1 (some .boolean), .methodLink RX0 78 yX0_addNumber, .instanceMethod yX0_addNumber, .selects RX0 yX0_addNumber yX0_addNumber, .code yX0_addNumber cX0_addNumber 7 none, .constantLong RX0 95 (1000000000000000000), .constantLong RX0 97 (48), .constantLong RX0 99 (10), .methodLink RX0 82 yX0_addCharacter, .instanceMethod yX0_addCharacter, .selects RX0 yX0_addCharacter yX0_addCharacter, .code yX0_addCharacter cX0_addCharacter 2 none, .fieldLink RX0 32 "DayDesk" "line" "[C"] ++ wsX00)
def wsX0_at : List Cond := .code yX0_at cX0_at 2 (some .int) :: ([.fieldLink RX0 36 "DayDesk" "lineLength" "I", .fieldLink RX0 32 "DayDesk" "line" "[C"] ++ wsX00)
def wsX1_init : List Cond := .code yX1_init cX1_init 1 none :: ([.methodLink RX1 1 objectInit, .instanceMethod objectInit, .code objectInit ⟨#[0xb1]⟩ 1 none, .arrayClass .long, .fieldLink RX1 7 "DayDeskModel" "opening" "[J", .arrayClass .int, .fieldLink RX1 13 "DayDeskModel" "moveOf" "[I", .fieldLink RX1 17 "DayDeskModel" "moveBy" "[J", .fieldLink RX1 20 "DayDeskModel" "text" "[I"] ++ wsX10)
def wsX1_tick : List Cond := .code yX1_tick cX1_tick 1 (some .int) :: ([.fieldLink RX1 23 "DayDeskModel" "ticks" "J", .constantLong RX1 27 (1000)] ++ wsX10)
def wsX1_isResolved : List Cond := .code yX1_isResolved cX1_isResolved 1 (some .boolean) :: ([])
def wsX1_phaseOf : List Cond := .code yX1_phaseOf cX1_phaseOf 1 (some .int) :: ([])
def wsX1_isPosition : List Cond := .code yX1_isPosition cX1_isPosition 1 (some .boolean) :: ([])
def wsX1_row : List Cond := .code yX1_row cX1_row 10 (some .long) :: ([.fieldLink RX1 33 "DayDeskModel" "moves" "I", .fieldLink RX1 13 "DayDeskModel" "moveOf" "[I", .fieldLink RX1 17 "DayDeskModel" "moveBy" "[J", .fieldLink RX1 7 "DayDeskModel" "opening" "[J", .methodLink RX1 60 yX1_isPosition, .static yX1_isPosition, .initialized RX1, .code yX1_isPosition cX1_isPosition 1 (some .boolean)] ++ wsX10)
def wsX1_begin : List Cond := .code yX1_begin cX1_begin 2 none :: ([.fieldLink RX1 7 "DayDeskModel" "opening" "[J", .fieldLink RX1 33 "DayDeskModel" "moves" "I", .methodLink RX1 29 yX1_row, .instanceMethod yX1_row, .selects RX1 yX1_row yX1_row, .initialized RX1, .code yX1_row cX1_row 10 (some .long), .fieldLink RX1 13 "DayDeskModel" "moveOf" "[I", .fieldLink RX1 17 "DayDeskModel" "moveBy" "[J", .methodLink RX1 60 yX1_isPosition, .static yX1_isPosition, .code yX1_isPosition cX1_isPosition 1 (some .boolean)] ++ wsX10)
def wsX1_pass_r1 : List Cond := [Cond.fieldLink RX1 23 "DayDeskModel" "ticks" "J", Cond.methodLink RX1 37 yX1_tick, Cond.instanceMethod yX1_tick, Cond.selects RX1 yX1_tick yX1_tick, Cond.initialized RX1, Cond.code yX1_tick cX1_tick 1 (some .int), Cond.constantLong RX1 27 (1000), Cond.methodLink RX1 41 yX1_begin, Cond.instanceMethod yX1_begin, Cond.selects RX1 yX1_begin yX1_begin, Cond.code yX1_begin cX1_begin 2 none, Cond.fieldLink RX1 7 "DayDeskModel" "opening" "[J", Cond.fieldLink RX1 33 "DayDeskModel" "moves" "I", Cond.methodLink RX1 29 yX1_row, Cond.instanceMethod yX1_row, Cond.selects RX1 yX1_row yX1_row, Cond.code yX1_row cX1_row 10 (some .long), Cond.fieldLink RX1 13 "DayDeskModel" "moveOf" "[I", Cond.fieldLink RX1 17 "DayDeskModel" "moveBy" "[J", Cond.methodLink RX1 60 yX1_isPosition, Cond.static yX1_isPosition, Cond.code yX1_isPosition cX1_isPosition 1 (some .boolean), Cond.methodLink RX1 44 yX1_isResolved, Cond.static yX1_isResolved]
def wsX1_pass_r2 : List Cond := [Cond.code yX1_isResolved cX1_isResolved 1 (some .boolean)]
def wsX1_pass : List Cond := .code yX1_pass cX1_pass 2 (some .int) :: ((wsX1_pass_r1 ++ wsX1_pass_r2) ++ wsX10)
def wsX1_skip_r1 : List Cond := [Cond.constant RX1 48 (100000), Cond.methodLink RX1 49 yX1_pass, Cond.instanceMethod yX1_pass, Cond.selects RX1 yX1_pass yX1_pass, Cond.initialized RX1, Cond.code yX1_pass cX1_pass 2 (some .int), Cond.fieldLink RX1 23 "DayDeskModel" "ticks" "J", Cond.methodLink RX1 37 yX1_tick, Cond.instanceMethod yX1_tick, Cond.selects RX1 yX1_tick yX1_tick, Cond.code yX1_tick cX1_tick 1 (some .int), Cond.constantLong RX1 27 (1000), Cond.methodLink RX1 41 yX1_begin, Cond.instanceMethod yX1_begin, Cond.selects RX1 yX1_begin yX1_begin, Cond.code yX1_begin cX1_begin 2 none, Cond.fieldLink RX1 7 "DayDeskModel" "opening" "[J", Cond.fieldLink RX1 33 "DayDeskModel" "moves" "I", Cond.methodLink RX1 29 yX1_row, Cond.instanceMethod yX1_row, Cond.selects RX1 yX1_row yX1_row, Cond.code yX1_row cX1_row 10 (some .long), Cond.fieldLink RX1 13 "DayDeskModel" "moveOf" "[I", Cond.fieldLink RX1 17 "DayDeskModel" "moveBy" "[J"]
def wsX1_skip_r2 : List Cond := [Cond.methodLink RX1 60 yX1_isPosition, Cond.static yX1_isPosition, Cond.code yX1_isPosition cX1_isPosition 1 (some .boolean), Cond.methodLink RX1 44 yX1_isResolved, Cond.static yX1_isResolved, Cond.code yX1_isResolved cX1_isResolved 1 (some .boolean)]
def wsX1_skip : List Cond := .code yX1_skip cX1_skip 4 (some .int) :: ((wsX1_skip_r1 ++ wsX1_skip_r2) ++ wsX10)
def wsX1_may : List Cond := .code yX1_may cX1_may 7 (some .boolean) :: ([.methodLink RX1 37 yX1_tick, .instanceMethod yX1_tick, .selects RX1 yX1_tick yX1_tick, .initialized RX1, .code yX1_tick cX1_tick 1 (some .int), .fieldLink RX1 23 "DayDeskModel" "ticks" "J", .constantLong RX1 27 (1000), .methodLink RX1 52 yX1_phaseOf, .static yX1_phaseOf, .code yX1_phaseOf cX1_phaseOf 1 (some .int)] ++ wsX10)
def wsX1_look : List Cond := .code yX1_look cX1_look 5 (some .int) :: ([.fieldLink RX1 23 "DayDeskModel" "ticks" "J", .constantLong RX1 27 (1000), .methodLink RX1 37 yX1_tick, .instanceMethod yX1_tick, .selects RX1 yX1_tick yX1_tick, .initialized RX1, .code yX1_tick cX1_tick 1 (some .int), .methodLink RX1 52 yX1_phaseOf, .static yX1_phaseOf, .code yX1_phaseOf cX1_phaseOf 1 (some .int), .methodLink RX1 44 yX1_isResolved, .static yX1_isResolved, .code yX1_isResolved cX1_isResolved 1 (some .boolean)] ++ wsX10)
def wsX1_isWithin : List Cond := .code yX1_isWithin cX1_isWithin 2 (some .boolean) :: ([.constantLong RX1 56 (-9000000000000000000), .constantLong RX1 58 (9000000000000000000)])
def wsX1_move : List Cond := .code yX1_move cX1_move 4 (some .int) :: ([.constantLong RX1 63 (-10000000000000000), .constantLong RX1 65 (10000000000000000), .fieldLink RX1 13 "DayDeskModel" "moveOf" "[I", .fieldLink RX1 33 "DayDeskModel" "moves" "I", .fieldLink RX1 17 "DayDeskModel" "moveBy" "[J", .methodLink RX1 60 yX1_isPosition, .static yX1_isPosition, .initialized RX1, .code yX1_isPosition cX1_isPosition 1 (some .boolean), .methodLink RX1 29 yX1_row, .instanceMethod yX1_row, .selects RX1 yX1_row yX1_row, .code yX1_row cX1_row 10 (some .long), .fieldLink RX1 7 "DayDeskModel" "opening" "[J", .methodLink RX1 67 yX1_isWithin, .static yX1_isWithin, .code yX1_isWithin cX1_isWithin 2 (some .boolean), .constantLong RX1 56 (-9000000000000000000), .constantLong RX1 58 (9000000000000000000)] ++ wsX10)
def wsX1_isTold : List Cond := .code yX1_isTold cX1_isTold 2 (some .boolean) :: ([.fieldLink RX1 7 "DayDeskModel" "opening" "[J", .methodLink RX1 60 yX1_isPosition, .static yX1_isPosition, .initialized RX1, .code yX1_isPosition cX1_isPosition 1 (some .boolean), .methodLink RX1 29 yX1_row, .instanceMethod yX1_row, .selects RX1 yX1_row yX1_row, .code yX1_row cX1_row 10 (some .long), .fieldLink RX1 33 "DayDeskModel" "moves" "I", .fieldLink RX1 13 "DayDeskModel" "moveOf" "[I", .fieldLink RX1 17 "DayDeskModel" "moveBy" "[J"] ++ wsX10)
def wsX1_put : List Cond := .code yX1_put cX1_put 2 none :: ([.fieldLink RX1 20 "DayDeskModel" "text" "[I", .fieldLink RX1 71 "DayDeskModel" "written" "I"] ++ wsX10)
def wsX1_number : List Cond := .code yX1_number cX1_number 9 none :: ([.constantLong RX1 78 (10), .methodLink RX1 74 yX1_put, .instanceMethod yX1_put, .selects RX1 yX1_put yX1_put, .initialized RX1, .code yX1_put cX1_put 2 none, .fieldLink RX1 20 "DayDeskModel" "text" "[I", .fieldLink RX1 71 "DayDeskModel" "written" "I"] ++ wsX10)
def wsX1_write : List Cond := .code yX1_write cX1_write 3 (some .int) :: ([.fieldLink RX1 71 "DayDeskModel" "written" "I", .methodLink RX1 60 yX1_isPosition, .static yX1_isPosition, .initialized RX1, .code yX1_isPosition cX1_isPosition 1 (some .boolean), .methodLink RX1 74 yX1_put, .instanceMethod yX1_put, .selects RX1 yX1_put yX1_put, .code yX1_put cX1_put 2 none, .fieldLink RX1 20 "DayDeskModel" "text" "[I", .methodLink RX1 29 yX1_row, .instanceMethod yX1_row, .selects RX1 yX1_row yX1_row, .code yX1_row cX1_row 10 (some .long), .fieldLink RX1 33 "DayDeskModel" "moves" "I", .fieldLink RX1 13 "DayDeskModel" "moveOf" "[I", .fieldLink RX1 17 "DayDeskModel" "moveBy" "[J", .fieldLink RX1 7 "DayDeskModel" "opening" "[J", .methodLink RX1 80 yX1_number, .instanceMethod yX1_number, .selects RX1 yX1_number yX1_number, .code yX1_number cX1_number 9 none, .constantLong RX1 78 (10)] ++ wsX10)
def wsX1_at : List Cond := .code yX1_at cX1_at 2 (some .int) :: ([.fieldLink RX1 71 "DayDeskModel" "written" "I", .fieldLink RX1 20 "DayDeskModel" "text" "[I"] ++ wsX10)
def wsJ9_min_7cf53 : List Cond := .code yJ9_min_7cf53 cJ9_min_7cf53 2 (some .int) :: ([])
def wsL_law_r1 : List Cond := [Cond.classLink RL 7 RX0, Cond.instantiable RX0 9, Cond.initialized RX0, Cond.classLink RL 10 RX1, Cond.instantiable RX1 7, Cond.initialized RX1, Cond.constantLong RL 32 (4294967295), Cond.methodLink RL 9 yX0_init, Cond.instanceMethod yX0_init, Cond.code yX0_init cX0_init 1 none, Cond.methodLink RX0 1 objectInit, Cond.instanceMethod objectInit, Cond.code objectInit ⟨#[0xb1]⟩ 1 none, Cond.fieldLink RX0 7 "DayDesk" "day" "I", Cond.fieldLink RX0 13 "DayDesk" "tick" "I", Cond.arrayClass .long, Cond.fieldLink RX0 16 "DayDesk" "opening" "[J", Cond.fieldLink RX0 20 "DayDesk" "went" "[J", Cond.fieldLink RX0 23 "DayDesk" "came" "[J", Cond.fieldLink RX0 26 "DayDesk" "now" "[J", Cond.fieldLink RX0 29 "DayDesk" "moved" "[J", Cond.arrayClass .char, Cond.fieldLink RX0 32 "DayDesk" "line" "[C", Cond.fieldLink RX0 36 "DayDesk" "lineLength" "I"]
def wsL_law_r2 : List Cond := [Cond.methodLink RL 12 yX1_init, Cond.instanceMethod yX1_init, Cond.code yX1_init cX1_init 1 none, Cond.methodLink RX1 1 objectInit, Cond.fieldLink RX1 7 "DayDeskModel" "opening" "[J", Cond.arrayClass .int, Cond.fieldLink RX1 13 "DayDeskModel" "moveOf" "[I", Cond.fieldLink RX1 17 "DayDeskModel" "moveBy" "[J", Cond.fieldLink RX1 20 "DayDeskModel" "text" "[I", Cond.methodLink RL 13 yX0_pass, Cond.instanceMethod yX0_pass, Cond.selects RX0 yX0_pass yX0_pass, Cond.code yX0_pass cX0_pass 2 (some .int), Cond.methodLink RX0 39 yX0_advance, Cond.instanceMethod yX0_advance, Cond.selects RX0 yX0_advance yX0_advance, Cond.code yX0_advance cX0_advance 4 (some .int), Cond.methodLink RX0 86 yX0_openStatements, Cond.instanceMethod yX0_openStatements, Cond.selects RX0 yX0_openStatements yX0_openStatements, Cond.code yX0_openStatements cX0_openStatements 2 none, Cond.methodLink RX0 43 yX0_isResolving, Cond.static yX0_isResolving, Cond.code yX0_isResolving cX0_isResolving 1 (some .boolean)]
def wsL_law_r3 : List Cond := [Cond.methodLink RL 17 yX1_pass, Cond.instanceMethod yX1_pass, Cond.selects RX1 yX1_pass yX1_pass, Cond.code yX1_pass cX1_pass 2 (some .int), Cond.fieldLink RX1 23 "DayDeskModel" "ticks" "J", Cond.methodLink RX1 37 yX1_tick, Cond.instanceMethod yX1_tick, Cond.selects RX1 yX1_tick yX1_tick, Cond.code yX1_tick cX1_tick 1 (some .int), Cond.constantLong RX1 27 (1000), Cond.methodLink RX1 41 yX1_begin, Cond.instanceMethod yX1_begin, Cond.selects RX1 yX1_begin yX1_begin, Cond.code yX1_begin cX1_begin 2 none, Cond.fieldLink RX1 33 "DayDeskModel" "moves" "I", Cond.methodLink RX1 29 yX1_row, Cond.instanceMethod yX1_row, Cond.selects RX1 yX1_row yX1_row, Cond.code yX1_row cX1_row 10 (some .long), Cond.methodLink RX1 60 yX1_isPosition, Cond.static yX1_isPosition, Cond.code yX1_isPosition cX1_isPosition 1 (some .boolean), Cond.methodLink RX1 44 yX1_isResolved, Cond.static yX1_isResolved]
def wsL_law_r4 : List Cond := [Cond.code yX1_isResolved cX1_isResolved 1 (some .boolean), Cond.methodLink RL 18 yX0_skip, Cond.instanceMethod yX0_skip, Cond.selects RX0 yX0_skip yX0_skip, Cond.code yX0_skip cX0_skip 4 (some .int), Cond.constant RX0 47 (100000), Cond.methodLink RX0 48 yX0_resolvingsUntil, Cond.static yX0_resolvingsUntil, Cond.code yX0_resolvingsUntil cX0_resolvingsUntil 2 (some .int), Cond.methodLink RX0 89 Lib.Math.min.name, Cond.static Lib.Math.min.name, Cond.initialized "java/lang/Math", Cond.code Lib.Math.min.name Lib.Math.min.code 2 (some .int), Cond.methodLink RL 22 yX1_skip, Cond.instanceMethod yX1_skip, Cond.selects RX1 yX1_skip yX1_skip, Cond.code yX1_skip cX1_skip 4 (some .int), Cond.constant RX1 48 (100000), Cond.methodLink RX1 49 yX1_pass, Cond.methodLink RL 23 yX0_may, Cond.instanceMethod yX0_may, Cond.selects RX0 yX0_may yX0_may, Cond.code yX0_may cX0_may 4 (some .boolean), Cond.methodLink RX0 51 yX0_phaseNow]
def wsL_law_r5 : List Cond := [Cond.instanceMethod yX0_phaseNow, Cond.selects RX0 yX0_phaseNow yX0_phaseNow, Cond.code yX0_phaseNow cX0_phaseNow 1 (some .int), Cond.methodLink RX0 55 yX0_isClosedWhenEarly, Cond.static yX0_isClosedWhenEarly, Cond.code yX0_isClosedWhenEarly cX0_isClosedWhenEarly 1 (some .boolean), Cond.methodLink RX0 58 yX0_isClosedWhenShut, Cond.static yX0_isClosedWhenShut, Cond.code yX0_isClosedWhenShut cX0_isClosedWhenShut 1 (some .boolean), Cond.methodLink RL 27 yX1_may, Cond.instanceMethod yX1_may, Cond.selects RX1 yX1_may yX1_may, Cond.code yX1_may cX1_may 7 (some .boolean), Cond.methodLink RX1 52 yX1_phaseOf, Cond.static yX1_phaseOf, Cond.code yX1_phaseOf cX1_phaseOf 1 (some .int), Cond.methodLink RL 28 yX0_look, Cond.instanceMethod yX0_look, Cond.selects RX0 yX0_look yX0_look, Cond.code yX0_look cX0_look 2 (some .int), Cond.methodLink RX0 61 yX0_nextResolving, Cond.instanceMethod yX0_nextResolving, Cond.selects RX0 yX0_nextResolving yX0_nextResolving, Cond.code yX0_nextResolving cX0_nextResolving 1 (some .int)]
def wsL_law_r6 : List Cond := [Cond.methodLink RX0 64 yX0_nextPhaseBegins, Cond.instanceMethod yX0_nextPhaseBegins, Cond.selects RX0 yX0_nextPhaseBegins yX0_nextPhaseBegins, Cond.code yX0_nextPhaseBegins cX0_nextPhaseBegins 1 (some .int), Cond.methodLink RL 31 yX1_look, Cond.instanceMethod yX1_look, Cond.selects RX1 yX1_look yX1_look, Cond.code yX1_look cX1_look 5 (some .int), Cond.methodLink RL 34 yX0_move, Cond.instanceMethod yX0_move, Cond.selects RX0 yX0_move yX0_move, Cond.code yX0_move cX0_move 10 (some .int), Cond.constantLong RX0 70 (10000000000000000), Cond.constantLong RX0 76 (9000000000000000000), Cond.methodLink RX0 67 yX0_isPosition, Cond.static yX0_isPosition, Cond.code yX0_isPosition cX0_isPosition 1 (some .boolean), Cond.methodLink RX0 72 yX0_isWithin, Cond.static yX0_isWithin, Cond.code yX0_isWithin cX0_isWithin 4 (some .boolean), Cond.methodLink RL 38 yX1_move, Cond.instanceMethod yX1_move, Cond.selects RX1 yX1_move yX1_move, Cond.code yX1_move cX1_move 4 (some .int)]
def wsL_law_r7 : List Cond := [Cond.constantLong RX1 63 (-10000000000000000), Cond.constantLong RX1 65 (10000000000000000), Cond.methodLink RX1 67 yX1_isWithin, Cond.static yX1_isWithin, Cond.code yX1_isWithin cX1_isWithin 2 (some .boolean), Cond.constantLong RX1 56 (-9000000000000000000), Cond.constantLong RX1 58 (9000000000000000000), Cond.methodLink RL 39 yX0_row, Cond.instanceMethod yX0_row, Cond.selects RX0 yX0_row yX0_row, Cond.code yX0_row cX0_row 3 (some .long), Cond.methodLink RL 43 yX1_row, Cond.methodLink RL 44 yX0_isTold, Cond.instanceMethod yX0_isTold, Cond.selects RX0 yX0_isTold yX0_isTold, Cond.code yX0_isTold cX0_isTold 2 (some .boolean), Cond.methodLink RL 48 yX1_isTold, Cond.instanceMethod yX1_isTold, Cond.selects RX1 yX1_isTold yX1_isTold, Cond.code yX1_isTold cX1_isTold 2 (some .boolean), Cond.methodLink RL 49 yX0_write, Cond.instanceMethod yX0_write, Cond.selects RX0 yX0_write yX0_write, Cond.code yX0_write cX0_write 2 (some .int)]
def wsL_law_r8 : List Cond := [Cond.methodLink RX0 78 yX0_addNumber, Cond.instanceMethod yX0_addNumber, Cond.selects RX0 yX0_addNumber yX0_addNumber, Cond.code yX0_addNumber cX0_addNumber 7 none, Cond.constantLong RX0 95 (1000000000000000000), Cond.constantLong RX0 97 (48), Cond.constantLong RX0 99 (10), Cond.methodLink RX0 82 yX0_addCharacter, Cond.instanceMethod yX0_addCharacter, Cond.selects RX0 yX0_addCharacter yX0_addCharacter, Cond.code yX0_addCharacter cX0_addCharacter 2 none, Cond.methodLink RL 52 yX1_write, Cond.instanceMethod yX1_write, Cond.selects RX1 yX1_write yX1_write, Cond.code yX1_write cX1_write 3 (some .int), Cond.fieldLink RX1 71 "DayDeskModel" "written" "I", Cond.methodLink RX1 74 yX1_put, Cond.instanceMethod yX1_put, Cond.selects RX1 yX1_put yX1_put, Cond.code yX1_put cX1_put 2 none, Cond.methodLink RX1 80 yX1_number, Cond.instanceMethod yX1_number, Cond.selects RX1 yX1_number yX1_number, Cond.code yX1_number cX1_number 9 none]
def wsL_law_r9 : List Cond := [Cond.constantLong RX1 78 (10), Cond.methodLink RL 53 yX0_at, Cond.instanceMethod yX0_at, Cond.selects RX0 yX0_at yX0_at, Cond.code yX0_at cX0_at 2 (some .int), Cond.methodLink RL 56 yX1_at, Cond.instanceMethod yX1_at, Cond.selects RX1 yX1_at yX1_at, Cond.code yX1_at cX1_at 2 (some .int)]
def wsL_law : List Cond := (wsL_law_r1 ++ (wsL_law_r2 ++ (wsL_law_r3 ++ (wsL_law_r4 ++ (wsL_law_r5 ++ (wsL_law_r6 ++ (wsL_law_r7 ++ (wsL_law_r8 ++ wsL_law_r9)))))))) ++ wsX00 ++ wsX10 ++ ([] : List Cond)
set_option maxRecDepth 20000 in
theorem wsL_law_in : ∀ w ∈ wsL_law, w ∈ lw_tbl := fun w h => (goodIn_p wsL_law [19, 22, 148, 56, 60, 64, 67, 176, 180, 185, 189, 192, 195, 71, 75, 78, 199, 82, 86, 89, 92, 205, 208, 96, 100, 104, 212, 108, 111, 115, 216, 221, 120, 124, 228, 128, 132, 136, 232, 236, 240, 143, 245] (by decide +kernel) (by decide +kernel) w h).1
theorem inlX0 : ∀ w ∈ wsX00, w ∈ wsL_law := fun _ h => List.mem_append_left _ (List.mem_append_left _ (List.mem_append_right _ h))
theorem inX0 : ∀ w ∈ wsX00, w ∈ lw_tbl := fun w h => wsL_law_in w (inlX0 w h)
theorem inlX1 : ∀ w ∈ wsX10, w ∈ wsL_law := fun _ h => List.mem_append_left _ (List.mem_append_right _ h)
theorem inX1 : ∀ w ∈ wsX10, w ∈ lw_tbl := fun w h => wsL_law_in w (inlX1 w h)
theorem inJ9 : ∀ w ∈ wsJ90, w ∈ lw_tbl := by decide +kernel
theorem dX0_init_0 : decode cX0_init 0 = .ok (.aload_n 0, 1) := by decide +kernel
theorem dX0_init_1 : decode cX0_init 1 = .ok (.invokespecial 1, 3) := by decide +kernel
theorem dX0_init_4 : decode cX0_init 4 = .ok (.aload_n 0, 1) := by decide +kernel
theorem dX0_init_5 : decode cX0_init 5 = .ok (.iconst 0, 1) := by decide +kernel
theorem dX0_init_6 : decode cX0_init 6 = .ok (.putfield 7, 3) := by decide +kernel
theorem dX0_init_9 : decode cX0_init 9 = .ok (.aload_n 0, 1) := by decide +kernel
theorem dX0_init_10 : decode cX0_init 10 = .ok (.iconst 0, 1) := by decide +kernel
theorem dX0_init_11 : decode cX0_init 11 = .ok (.putfield 13, 3) := by decide +kernel
theorem dX0_init_14 : decode cX0_init 14 = .ok (.aload_n 0, 1) := by decide +kernel
theorem dX0_init_15 : decode cX0_init 15 = .ok (.sipush 200, 3) := by decide +kernel
theorem dX0_init_18 : decode cX0_init 18 = .ok (.newarray .long, 2) := by decide +kernel
theorem dX0_init_20 : decode cX0_init 20 = .ok (.putfield 16, 3) := by decide +kernel
theorem dX0_init_23 : decode cX0_init 23 = .ok (.aload_n 0, 1) := by decide +kernel
theorem dX0_init_24 : decode cX0_init 24 = .ok (.sipush 200, 3) := by decide +kernel
theorem dX0_init_27 : decode cX0_init 27 = .ok (.newarray .long, 2) := by decide +kernel
theorem dX0_init_29 : decode cX0_init 29 = .ok (.putfield 20, 3) := by decide +kernel
theorem dX0_init_32 : decode cX0_init 32 = .ok (.aload_n 0, 1) := by decide +kernel
theorem dX0_init_33 : decode cX0_init 33 = .ok (.sipush 200, 3) := by decide +kernel
theorem dX0_init_36 : decode cX0_init 36 = .ok (.newarray .long, 2) := by decide +kernel
theorem dX0_init_38 : decode cX0_init 38 = .ok (.putfield 23, 3) := by decide +kernel
theorem dX0_init_41 : decode cX0_init 41 = .ok (.aload_n 0, 1) := by decide +kernel
theorem dX0_init_42 : decode cX0_init 42 = .ok (.sipush 200, 3) := by decide +kernel
theorem dX0_init_45 : decode cX0_init 45 = .ok (.newarray .long, 2) := by decide +kernel
theorem dX0_init_47 : decode cX0_init 47 = .ok (.putfield 26, 3) := by decide +kernel
theorem dX0_init_50 : decode cX0_init 50 = .ok (.aload_n 0, 1) := by decide +kernel
theorem dX0_init_51 : decode cX0_init 51 = .ok (.sipush 200, 3) := by decide +kernel
theorem dX0_init_54 : decode cX0_init 54 = .ok (.newarray .long, 2) := by decide +kernel
theorem dX0_init_56 : decode cX0_init 56 = .ok (.putfield 29, 3) := by decide +kernel
theorem dX0_init_59 : decode cX0_init 59 = .ok (.aload_n 0, 1) := by decide +kernel
theorem dX0_init_60 : decode cX0_init 60 = .ok (.bipush 104, 2) := by decide +kernel
theorem dX0_init_62 : decode cX0_init 62 = .ok (.newarray .char, 2) := by decide +kernel
theorem dX0_init_64 : decode cX0_init 64 = .ok (.putfield 32, 3) := by decide +kernel
theorem dX0_init_67 : decode cX0_init 67 = .ok (.aload_n 0, 1) := by decide +kernel
theorem dX0_init_68 : decode cX0_init 68 = .ok (.iconst 0, 1) := by decide +kernel
theorem dX0_init_69 : decode cX0_init 69 = .ok (.putfield 36, 3) := by decide +kernel
theorem dX0_init_72 : decode cX0_init 72 = .ok (.return_, 1) := by decide +kernel
set_option maxRecDepth 20000 in
theorem ggX0_pass_X0_advance : GoodIn wsX0_pass wsX0_advance := goodIn_r _ [6, 1, 7, 8, 9, 10, 5, 11, 12, 13, 14, 15, 16, 20, 21, 22, 23, 24, 25, 26, 27, 28] (by decide +kernel) (by decide +kernel)
set_option maxRecDepth 20000 in
theorem gX0_pass_X0_advance : GoodIn wsX0_pass (wsV RX0 39 RX0 yX0_advance wsX0_advance) := goodIn_app (goodIn_of _ (by decide +kernel)) ggX0_pass_X0_advance
set_option maxRecDepth 20000 in
theorem ggX0_pass_X0_isResolving : GoodIn wsX0_pass wsX0_isResolving := goodIn_r _ [19] (by decide +kernel) (by decide +kernel)
set_option maxRecDepth 20000 in
theorem gX0_pass_X0_isResolving : GoodIn wsX0_pass (va_wsS RX0 43 yX0_isResolving wsX0_isResolving) := goodIn_app (goodIn_of _ (by decide +kernel)) ggX0_pass_X0_isResolving
theorem dX0_pass_0 : decode cX0_pass 0 = .ok (.aload_n 0, 1) := by decide +kernel
theorem dX0_pass_1 : decode cX0_pass 1 = .ok (.iconst 1, 1) := by decide +kernel
theorem dX0_pass_2 : decode cX0_pass 2 = .ok (.invokevirtual 39, 3) := by decide +kernel
theorem dX0_pass_5 : decode cX0_pass 5 = .ok (.pop, 1) := by decide +kernel
theorem dX0_pass_6 : decode cX0_pass 6 = .ok (.iconst 0, 1) := by decide +kernel
theorem dX0_pass_7 : decode cX0_pass 7 = .ok (.istore_n 1, 1) := by decide +kernel
theorem dX0_pass_8 : decode cX0_pass 8 = .ok (.aload_n 0, 1) := by decide +kernel
theorem dX0_pass_9 : decode cX0_pass 9 = .ok (.getfield 13, 3) := by decide +kernel
theorem dX0_pass_12 : decode cX0_pass 12 = .ok (.invokestatic 43, 3) := by decide +kernel
theorem dX0_pass_15 : decode cX0_pass 15 = .ok (.ifCond .eq 6, 3) := by decide +kernel
theorem dX0_pass_18 : decode cX0_pass 18 = .ok (.iinc 1 1, 3) := by decide +kernel
theorem dX0_pass_21 : decode cX0_pass 21 = .ok (.aload_n 0, 1) := by decide +kernel
theorem dX0_pass_22 : decode cX0_pass 22 = .ok (.getfield 13, 3) := by decide +kernel
theorem dX0_pass_25 : decode cX0_pass 25 = .ok (.sipush 900, 3) := by decide +kernel
theorem dX0_pass_28 : decode cX0_pass 28 = .ok (.if_icmp .ne 6, 3) := by decide +kernel
theorem dX0_pass_31 : decode cX0_pass 31 = .ok (.iinc 1 2, 3) := by decide +kernel
theorem dX0_pass_34 : decode cX0_pass 34 = .ok (.aload_n 0, 1) := by decide +kernel
theorem dX0_pass_35 : decode cX0_pass 35 = .ok (.getfield 13, 3) := by decide +kernel
theorem dX0_pass_38 : decode cX0_pass 38 = .ok (.ifCond .ne 6, 3) := by decide +kernel
theorem dX0_pass_41 : decode cX0_pass 41 = .ok (.iinc 1 4, 3) := by decide +kernel
theorem dX0_pass_44 : decode cX0_pass 44 = .ok (.iload_n 1, 1) := by decide +kernel
theorem dX0_pass_45 : decode cX0_pass 45 = .ok (.ireturn, 1) := by decide +kernel
set_option maxRecDepth 20000 in
theorem ggX0_skip_X0_resolvingsUntil : GoodIn wsX0_skip wsX0_resolvingsUntil := goodIn_r _ [6, 7, 8, 9, 10] (by decide +kernel) (by decide +kernel)
set_option maxRecDepth 20000 in
theorem gX0_skip_X0_resolvingsUntil : GoodIn wsX0_skip (va_wsS RX0 48 yX0_resolvingsUntil wsX0_resolvingsUntil) := goodIn_app (goodIn_of _ (by decide +kernel)) ggX0_skip_X0_resolvingsUntil
set_option maxRecDepth 20000 in
theorem ggX0_skip_X0_advance : GoodIn wsX0_skip wsX0_advance := goodIn_r _ [14, 2, 15, 16, 17, 18, 5, 19, 20, 21, 22, 23, 24, 25, 26, 27, 28, 29, 30, 31, 32, 33] (by decide +kernel) (by decide +kernel)
set_option maxRecDepth 20000 in
theorem gX0_skip_X0_advance : GoodIn wsX0_skip (wsV RX0 39 RX0 yX0_advance wsX0_advance) := goodIn_app (goodIn_of _ (by decide +kernel)) ggX0_skip_X0_advance
theorem dX0_skip_0 : decode cX0_skip 0 = .ok (.iload_n 1, 1) := by decide +kernel
theorem dX0_skip_1 : decode cX0_skip 1 = .ok (.iconst 1, 1) := by decide +kernel
theorem dX0_skip_2 : decode cX0_skip 2 = .ok (.if_icmp .lt 9, 3) := by decide +kernel
theorem dX0_skip_5 : decode cX0_skip 5 = .ok (.iload_n 1, 1) := by decide +kernel
theorem dX0_skip_6 : decode cX0_skip 6 = .ok (.ldc 47, 2) := by decide +kernel
theorem dX0_skip_8 : decode cX0_skip 8 = .ok (.if_icmp .le 5, 3) := by decide +kernel
theorem dX0_skip_11 : decode cX0_skip 11 = .ok (.iconst (-1), 1) := by decide +kernel
theorem dX0_skip_12 : decode cX0_skip 12 = .ok (.ireturn, 1) := by decide +kernel
theorem dX0_skip_13 : decode cX0_skip 13 = .ok (.aload_n 0, 1) := by decide +kernel
theorem dX0_skip_14 : decode cX0_skip 14 = .ok (.getfield 13, 3) := by decide +kernel
theorem dX0_skip_17 : decode cX0_skip 17 = .ok (.invokestatic 48, 3) := by decide +kernel
theorem dX0_skip_20 : decode cX0_skip 20 = .ok (.istore_n 2, 1) := by decide +kernel
theorem dX0_skip_21 : decode cX0_skip 21 = .ok (.aload_n 0, 1) := by decide +kernel
theorem dX0_skip_22 : decode cX0_skip 22 = .ok (.iload_n 1, 1) := by decide +kernel
theorem dX0_skip_23 : decode cX0_skip 23 = .ok (.invokevirtual 39, 3) := by decide +kernel
theorem dX0_skip_26 : decode cX0_skip 26 = .ok (.istore_n 3, 1) := by decide +kernel
theorem dX0_skip_27 : decode cX0_skip 27 = .ok (.iload_n 3, 1) := by decide +kernel
theorem dX0_skip_28 : decode cX0_skip 28 = .ok (.bipush 16, 2) := by decide +kernel
theorem dX0_skip_30 : decode cX0_skip 30 = .ok (.imul, 1) := by decide +kernel
theorem dX0_skip_31 : decode cX0_skip 31 = .ok (.aload_n 0, 1) := by decide +kernel
theorem dX0_skip_32 : decode cX0_skip 32 = .ok (.getfield 13, 3) := by decide +kernel
theorem dX0_skip_35 : decode cX0_skip 35 = .ok (.invokestatic 48, 3) := by decide +kernel
theorem dX0_skip_38 : decode cX0_skip 38 = .ok (.iadd, 1) := by decide +kernel
theorem dX0_skip_39 : decode cX0_skip 39 = .ok (.iload_n 2, 1) := by decide +kernel
theorem dX0_skip_40 : decode cX0_skip 40 = .ok (.isub, 1) := by decide +kernel
theorem dX0_skip_41 : decode cX0_skip 41 = .ok (.ireturn, 1) := by decide +kernel
set_option maxRecDepth 20000 in
theorem ggX0_may_X0_phaseNow : GoodIn wsX0_may wsX0_phaseNow := goodIn_r _ [5, 6, 13, 14, 15, 16, 17, 18, 19, 20, 21] (by decide +kernel) (by decide +kernel)
set_option maxRecDepth 20000 in
theorem gX0_may_X0_phaseNow : GoodIn wsX0_may (wsV RX0 51 RX0 yX0_phaseNow wsX0_phaseNow) := goodIn_app (goodIn_of _ (by decide +kernel)) ggX0_may_X0_phaseNow
set_option maxRecDepth 20000 in
theorem ggX0_may_X0_isClosedWhenEarly : GoodIn wsX0_may wsX0_isClosedWhenEarly := goodIn_r _ [9] (by decide +kernel) (by decide +kernel)
set_option maxRecDepth 20000 in
theorem gX0_may_X0_isClosedWhenEarly : GoodIn wsX0_may (va_wsS RX0 55 yX0_isClosedWhenEarly wsX0_isClosedWhenEarly) := goodIn_app (goodIn_of _ (by decide +kernel)) ggX0_may_X0_isClosedWhenEarly
set_option maxRecDepth 20000 in
theorem ggX0_may_X0_isClosedWhenShut : GoodIn wsX0_may wsX0_isClosedWhenShut := goodIn_r _ [12, 7, 8, 4, 9] (by decide +kernel) (by decide +kernel)
set_option maxRecDepth 20000 in
theorem gX0_may_X0_isClosedWhenShut : GoodIn wsX0_may (va_wsS RX0 58 yX0_isClosedWhenShut wsX0_isClosedWhenShut) := goodIn_app (goodIn_of _ (by decide +kernel)) ggX0_may_X0_isClosedWhenShut
theorem dX0_may_0 : decode cX0_may 0 = .ok (.iload_n 1, 1) := by decide +kernel
theorem dX0_may_1 : decode cX0_may 1 = .ok (.ifCond .lt 9, 3) := by decide +kernel
theorem dX0_may_4 : decode cX0_may 4 = .ok (.iload_n 1, 1) := by decide +kernel
theorem dX0_may_5 : decode cX0_may 5 = .ok (.bipush 14, 2) := by decide +kernel
theorem dX0_may_7 : decode cX0_may 7 = .ok (.if_icmp .le 5, 3) := by decide +kernel
theorem dX0_may_10 : decode cX0_may 10 = .ok (.iconst 0, 1) := by decide +kernel
theorem dX0_may_11 : decode cX0_may 11 = .ok (.ireturn, 1) := by decide +kernel
theorem dX0_may_12 : decode cX0_may 12 = .ok (.aload_n 0, 1) := by decide +kernel
theorem dX0_may_13 : decode cX0_may 13 = .ok (.invokevirtual 51, 3) := by decide +kernel
theorem dX0_may_16 : decode cX0_may 16 = .ok (.tableswitch 93 0 4 #[36, 93, 49, 65, 80], 36) := by decide +kernel
theorem dX0_may_52 : decode cX0_may 52 = .ok (.iload_n 1, 1) := by decide +kernel
theorem dX0_may_53 : decode cX0_may 53 = .ok (.invokestatic 55, 3) := by decide +kernel
theorem dX0_may_56 : decode cX0_may 56 = .ok (.ifCond .ne 7, 3) := by decide +kernel
theorem dX0_may_59 : decode cX0_may 59 = .ok (.iconst 1, 1) := by decide +kernel
theorem dX0_may_60 : decode cX0_may 60 = .ok (.goto 4, 3) := by decide +kernel
theorem dX0_may_63 : decode cX0_may 63 = .ok (.iconst 0, 1) := by decide +kernel
theorem dX0_may_64 : decode cX0_may 64 = .ok (.ireturn, 1) := by decide +kernel
theorem dX0_may_65 : decode cX0_may 65 = .ok (.iload_n 1, 1) := by decide +kernel
theorem dX0_may_66 : decode cX0_may 66 = .ok (.iconst 5, 1) := by decide +kernel
theorem dX0_may_67 : decode cX0_may 67 = .ok (.if_icmp .ne 8, 3) := by decide +kernel
theorem dX0_may_70 : decode cX0_may 70 = .ok (.iload_n 2, 1) := by decide +kernel
theorem dX0_may_71 : decode cX0_may 71 = .ok (.iconst 4, 1) := by decide +kernel
theorem dX0_may_72 : decode cX0_may 72 = .ok (.if_icmp .gt 7, 3) := by decide +kernel
theorem dX0_may_75 : decode cX0_may 75 = .ok (.iconst 1, 1) := by decide +kernel
theorem dX0_may_76 : decode cX0_may 76 = .ok (.goto 4, 3) := by decide +kernel
theorem dX0_may_79 : decode cX0_may 79 = .ok (.iconst 0, 1) := by decide +kernel
theorem dX0_may_80 : decode cX0_may 80 = .ok (.ireturn, 1) := by decide +kernel
theorem dX0_may_81 : decode cX0_may 81 = .ok (.iload_n 1, 1) := by decide +kernel
theorem dX0_may_82 : decode cX0_may 82 = .ok (.iconst 5, 1) := by decide +kernel
theorem dX0_may_83 : decode cX0_may 83 = .ok (.if_icmp .ne 7, 3) := by decide +kernel
theorem dX0_may_86 : decode cX0_may 86 = .ok (.iload_n 3, 1) := by decide +kernel
theorem dX0_may_87 : decode cX0_may 87 = .ok (.ifCond .eq 7, 3) := by decide +kernel
theorem dX0_may_90 : decode cX0_may 90 = .ok (.iconst 1, 1) := by decide +kernel
theorem dX0_may_91 : decode cX0_may 91 = .ok (.goto 4, 3) := by decide +kernel
theorem dX0_may_94 : decode cX0_may 94 = .ok (.iconst 0, 1) := by decide +kernel
theorem dX0_may_95 : decode cX0_may 95 = .ok (.ireturn, 1) := by decide +kernel
theorem dX0_may_96 : decode cX0_may 96 = .ok (.iload_n 1, 1) := by decide +kernel
theorem dX0_may_97 : decode cX0_may 97 = .ok (.invokestatic 58, 3) := by decide +kernel
theorem dX0_may_100 : decode cX0_may 100 = .ok (.ifCond .ne 7, 3) := by decide +kernel
theorem dX0_may_103 : decode cX0_may 103 = .ok (.iconst 1, 1) := by decide +kernel
theorem dX0_may_104 : decode cX0_may 104 = .ok (.goto 4, 3) := by decide +kernel
theorem dX0_may_107 : decode cX0_may 107 = .ok (.iconst 0, 1) := by decide +kernel
theorem dX0_may_108 : decode cX0_may 108 = .ok (.ireturn, 1) := by decide +kernel
theorem dX0_may_109 : decode cX0_may 109 = .ok (.iconst 1, 1) := by decide +kernel
theorem dX0_may_110 : decode cX0_may 110 = .ok (.ireturn, 1) := by decide +kernel
set_option maxRecDepth 20000 in
theorem ggX0_look_X0_phaseNow : GoodIn wsX0_look wsX0_phaseNow := goodIn_r _ [7, 2, 23, 24, 25, 26, 27, 28, 29, 30, 31] (by decide +kernel) (by decide +kernel)
set_option maxRecDepth 20000 in
theorem gX0_look_X0_phaseNow : GoodIn wsX0_look (wsV RX0 51 RX0 yX0_phaseNow wsX0_phaseNow) := goodIn_app (goodIn_of _ (by decide +kernel)) ggX0_look_X0_phaseNow
set_option maxRecDepth 20000 in
theorem ggX0_look_X0_nextResolving : GoodIn wsX0_look wsX0_nextResolving := goodIn_r _ [11, 2, 12, 13, 6, 14, 15, 16, 17, 18, 23, 24, 25, 26, 27, 28, 29, 30, 31] (by decide +kernel) (by decide +kernel)
set_option maxRecDepth 20000 in
theorem gX0_look_X0_nextResolving : GoodIn wsX0_look (wsV RX0 61 RX0 yX0_nextResolving wsX0_nextResolving) := goodIn_app (goodIn_of _ (by decide +kernel)) ggX0_look_X0_nextResolving
set_option maxRecDepth 20000 in
theorem ggX0_look_X0_nextPhaseBegins : GoodIn wsX0_look wsX0_nextPhaseBegins := goodIn_r _ [22, 3, 4, 5, 6, 7, 2, 23, 24, 25, 26, 27, 28, 29, 30, 31] (by decide +kernel) (by decide +kernel)
set_option maxRecDepth 20000 in
theorem gX0_look_X0_nextPhaseBegins : GoodIn wsX0_look (wsV RX0 64 RX0 yX0_nextPhaseBegins wsX0_nextPhaseBegins) := goodIn_app (goodIn_of _ (by decide +kernel)) ggX0_look_X0_nextPhaseBegins
theorem dX0_look_0 : decode cX0_look 0 = .ok (.iload_n 1, 1) := by decide +kernel
theorem dX0_look_1 : decode cX0_look 1 = .ok (.tableswitch 70 0 4 #[35, 40, 45, 50, 60], 35) := by decide +kernel
theorem dX0_look_36 : decode cX0_look 36 = .ok (.aload_n 0, 1) := by decide +kernel
theorem dX0_look_37 : decode cX0_look 37 = .ok (.getfield 7, 3) := by decide +kernel
theorem dX0_look_40 : decode cX0_look 40 = .ok (.ireturn, 1) := by decide +kernel
theorem dX0_look_41 : decode cX0_look 41 = .ok (.aload_n 0, 1) := by decide +kernel
theorem dX0_look_42 : decode cX0_look 42 = .ok (.getfield 13, 3) := by decide +kernel
theorem dX0_look_45 : decode cX0_look 45 = .ok (.ireturn, 1) := by decide +kernel
theorem dX0_look_46 : decode cX0_look 46 = .ok (.aload_n 0, 1) := by decide +kernel
theorem dX0_look_47 : decode cX0_look 47 = .ok (.invokevirtual 51, 3) := by decide +kernel
theorem dX0_look_50 : decode cX0_look 50 = .ok (.ireturn, 1) := by decide +kernel
theorem dX0_look_51 : decode cX0_look 51 = .ok (.aload_n 0, 1) := by decide +kernel
theorem dX0_look_52 : decode cX0_look 52 = .ok (.invokevirtual 61, 3) := by decide +kernel
theorem dX0_look_55 : decode cX0_look 55 = .ok (.aload_n 0, 1) := by decide +kernel
theorem dX0_look_56 : decode cX0_look 56 = .ok (.getfield 13, 3) := by decide +kernel
theorem dX0_look_59 : decode cX0_look 59 = .ok (.isub, 1) := by decide +kernel
theorem dX0_look_60 : decode cX0_look 60 = .ok (.ireturn, 1) := by decide +kernel
theorem dX0_look_61 : decode cX0_look 61 = .ok (.aload_n 0, 1) := by decide +kernel
theorem dX0_look_62 : decode cX0_look 62 = .ok (.invokevirtual 64, 3) := by decide +kernel
theorem dX0_look_65 : decode cX0_look 65 = .ok (.aload_n 0, 1) := by decide +kernel
theorem dX0_look_66 : decode cX0_look 66 = .ok (.getfield 13, 3) := by decide +kernel
theorem dX0_look_69 : decode cX0_look 69 = .ok (.isub, 1) := by decide +kernel
theorem dX0_look_70 : decode cX0_look 70 = .ok (.ireturn, 1) := by decide +kernel
theorem dX0_look_71 : decode cX0_look 71 = .ok (.iconst (-1), 1) := by decide +kernel
theorem dX0_look_72 : decode cX0_look 72 = .ok (.ireturn, 1) := by decide +kernel
set_option maxRecDepth 20000 in
theorem ggX0_move_X0_isPosition : GoodIn wsX0_move wsX0_isPosition := goodIn_r _ [10] (by decide +kernel) (by decide +kernel)
set_option maxRecDepth 20000 in
theorem gX0_move_X0_isPosition : GoodIn wsX0_move (va_wsS RX0 67 yX0_isPosition wsX0_isPosition) := goodIn_app (goodIn_of _ (by decide +kernel)) ggX0_move_X0_isPosition
set_option maxRecDepth 20000 in
theorem ggX0_move_X0_isWithin : GoodIn wsX0_move wsX0_isWithin := goodIn_r _ [13] (by decide +kernel) (by decide +kernel)
set_option maxRecDepth 20000 in
theorem gX0_move_X0_isWithin : GoodIn wsX0_move (va_wsS RX0 72 yX0_isWithin wsX0_isWithin) := goodIn_app (goodIn_of _ (by decide +kernel)) ggX0_move_X0_isWithin
theorem dX0_move_0 : decode cX0_move 0 = .ok (.iload_n 1, 1) := by decide +kernel
theorem dX0_move_1 : decode cX0_move 1 = .ok (.invokestatic 67, 3) := by decide +kernel
theorem dX0_move_4 : decode cX0_move 4 = .ok (.ifCond .eq 13, 3) := by decide +kernel
theorem dX0_move_7 : decode cX0_move 7 = .ok (.lload_n 2, 1) := by decide +kernel
theorem dX0_move_8 : decode cX0_move 8 = .ok (.ldc2_w 70, 3) := by decide +kernel
theorem dX0_move_11 : decode cX0_move 11 = .ok (.invokestatic 72, 3) := by decide +kernel
theorem dX0_move_14 : decode cX0_move 14 = .ok (.ifCond .ne 5, 3) := by decide +kernel
theorem dX0_move_17 : decode cX0_move 17 = .ok (.iconst (-1), 1) := by decide +kernel
theorem dX0_move_18 : decode cX0_move 18 = .ok (.ireturn, 1) := by decide +kernel
theorem dX0_move_19 : decode cX0_move 19 = .ok (.lload_n 2, 1) := by decide +kernel
theorem dX0_move_20 : decode cX0_move 20 = .ok (.lconst 0, 1) := by decide +kernel
theorem dX0_move_21 : decode cX0_move 21 = .ok (.lcmp, 1) := by decide +kernel
theorem dX0_move_22 : decode cX0_move 22 = .ok (.ifCond .ne 5, 3) := by decide +kernel
theorem dX0_move_25 : decode cX0_move 25 = .ok (.iconst 0, 1) := by decide +kernel
theorem dX0_move_26 : decode cX0_move 26 = .ok (.ireturn, 1) := by decide +kernel
theorem dX0_move_27 : decode cX0_move 27 = .ok (.aload_n 0, 1) := by decide +kernel
theorem dX0_move_28 : decode cX0_move 28 = .ok (.getfield 26, 3) := by decide +kernel
theorem dX0_move_31 : decode cX0_move 31 = .ok (.iload_n 1, 1) := by decide +kernel
theorem dX0_move_32 : decode cX0_move 32 = .ok (.laload, 1) := by decide +kernel
theorem dX0_move_33 : decode cX0_move 33 = .ok (.lload_n 2, 1) := by decide +kernel
theorem dX0_move_34 : decode cX0_move 34 = .ok (.ladd, 1) := by decide +kernel
theorem dX0_move_35 : decode cX0_move 35 = .ok (.lstore 4, 2) := by decide +kernel
theorem dX0_move_37 : decode cX0_move 37 = .ok (.aload_n 0, 1) := by decide +kernel
theorem dX0_move_38 : decode cX0_move 38 = .ok (.getfield 20, 3) := by decide +kernel
theorem dX0_move_41 : decode cX0_move 41 = .ok (.iload_n 1, 1) := by decide +kernel
theorem dX0_move_42 : decode cX0_move 42 = .ok (.laload, 1) := by decide +kernel
theorem dX0_move_43 : decode cX0_move 43 = .ok (.lload_n 2, 1) := by decide +kernel
theorem dX0_move_44 : decode cX0_move 44 = .ok (.lconst 0, 1) := by decide +kernel
theorem dX0_move_45 : decode cX0_move 45 = .ok (.lcmp, 1) := by decide +kernel
theorem dX0_move_46 : decode cX0_move 46 = .ok (.ifCond .ge 8, 3) := by decide +kernel
theorem dX0_move_49 : decode cX0_move 49 = .ok (.lload_n 2, 1) := by decide +kernel
theorem dX0_move_50 : decode cX0_move 50 = .ok (.lneg, 1) := by decide +kernel
theorem dX0_move_51 : decode cX0_move 51 = .ok (.goto 4, 3) := by decide +kernel
theorem dX0_move_54 : decode cX0_move 54 = .ok (.lconst 0, 1) := by decide +kernel
theorem dX0_move_55 : decode cX0_move 55 = .ok (.ladd, 1) := by decide +kernel
theorem dX0_move_56 : decode cX0_move 56 = .ok (.lstore 6, 2) := by decide +kernel
theorem dX0_move_58 : decode cX0_move 58 = .ok (.aload_n 0, 1) := by decide +kernel
theorem dX0_move_59 : decode cX0_move 59 = .ok (.getfield 23, 3) := by decide +kernel
theorem dX0_move_62 : decode cX0_move 62 = .ok (.iload_n 1, 1) := by decide +kernel
theorem dX0_move_63 : decode cX0_move 63 = .ok (.laload, 1) := by decide +kernel
theorem dX0_move_64 : decode cX0_move 64 = .ok (.lload_n 2, 1) := by decide +kernel
theorem dX0_move_65 : decode cX0_move 65 = .ok (.lconst 0, 1) := by decide +kernel
theorem dX0_move_66 : decode cX0_move 66 = .ok (.lcmp, 1) := by decide +kernel
theorem dX0_move_67 : decode cX0_move 67 = .ok (.ifCond .le 7, 3) := by decide +kernel
theorem dX0_move_70 : decode cX0_move 70 = .ok (.lload_n 2, 1) := by decide +kernel
theorem dX0_move_71 : decode cX0_move 71 = .ok (.goto 4, 3) := by decide +kernel
theorem dX0_move_74 : decode cX0_move 74 = .ok (.lconst 0, 1) := by decide +kernel
theorem dX0_move_75 : decode cX0_move 75 = .ok (.ladd, 1) := by decide +kernel
theorem dX0_move_76 : decode cX0_move 76 = .ok (.lstore 8, 2) := by decide +kernel
theorem dX0_move_78 : decode cX0_move 78 = .ok (.lload 4, 2) := by decide +kernel
theorem dX0_move_80 : decode cX0_move 80 = .ok (.ldc2_w 76, 3) := by decide +kernel
theorem dX0_move_83 : decode cX0_move 83 = .ok (.invokestatic 72, 3) := by decide +kernel
theorem dX0_move_86 : decode cX0_move 86 = .ok (.ifCond .eq 25, 3) := by decide +kernel
theorem dX0_move_89 : decode cX0_move 89 = .ok (.lload 6, 2) := by decide +kernel
theorem dX0_move_91 : decode cX0_move 91 = .ok (.ldc2_w 76, 3) := by decide +kernel
theorem dX0_move_94 : decode cX0_move 94 = .ok (.invokestatic 72, 3) := by decide +kernel
theorem dX0_move_97 : decode cX0_move 97 = .ok (.ifCond .eq 14, 3) := by decide +kernel
theorem dX0_move_100 : decode cX0_move 100 = .ok (.lload 8, 2) := by decide +kernel
theorem dX0_move_102 : decode cX0_move 102 = .ok (.ldc2_w 76, 3) := by decide +kernel
theorem dX0_move_105 : decode cX0_move 105 = .ok (.invokestatic 72, 3) := by decide +kernel
theorem dX0_move_108 : decode cX0_move 108 = .ok (.ifCond .ne 5, 3) := by decide +kernel
theorem dX0_move_111 : decode cX0_move 111 = .ok (.iconst (-1), 1) := by decide +kernel
theorem dX0_move_112 : decode cX0_move 112 = .ok (.ireturn, 1) := by decide +kernel
theorem dX0_move_113 : decode cX0_move 113 = .ok (.aload_n 0, 1) := by decide +kernel
theorem dX0_move_114 : decode cX0_move 114 = .ok (.getfield 26, 3) := by decide +kernel
theorem dX0_move_117 : decode cX0_move 117 = .ok (.iload_n 1, 1) := by decide +kernel
theorem dX0_move_118 : decode cX0_move 118 = .ok (.lload 4, 2) := by decide +kernel
theorem dX0_move_120 : decode cX0_move 120 = .ok (.lastore, 1) := by decide +kernel
theorem dX0_move_121 : decode cX0_move 121 = .ok (.aload_n 0, 1) := by decide +kernel
theorem dX0_move_122 : decode cX0_move 122 = .ok (.getfield 20, 3) := by decide +kernel
theorem dX0_move_125 : decode cX0_move 125 = .ok (.iload_n 1, 1) := by decide +kernel
theorem dX0_move_126 : decode cX0_move 126 = .ok (.lload 6, 2) := by decide +kernel
theorem dX0_move_128 : decode cX0_move 128 = .ok (.lastore, 1) := by decide +kernel
theorem dX0_move_129 : decode cX0_move 129 = .ok (.aload_n 0, 1) := by decide +kernel
theorem dX0_move_130 : decode cX0_move 130 = .ok (.getfield 23, 3) := by decide +kernel
theorem dX0_move_133 : decode cX0_move 133 = .ok (.iload_n 1, 1) := by decide +kernel
theorem dX0_move_134 : decode cX0_move 134 = .ok (.lload 8, 2) := by decide +kernel
theorem dX0_move_136 : decode cX0_move 136 = .ok (.lastore, 1) := by decide +kernel
theorem dX0_move_137 : decode cX0_move 137 = .ok (.aload_n 0, 1) := by decide +kernel
theorem dX0_move_138 : decode cX0_move 138 = .ok (.getfield 29, 3) := by decide +kernel
theorem dX0_move_141 : decode cX0_move 141 = .ok (.iload_n 1, 1) := by decide +kernel
theorem dX0_move_142 : decode cX0_move 142 = .ok (.dup2, 1) := by decide +kernel
theorem dX0_move_143 : decode cX0_move 143 = .ok (.laload, 1) := by decide +kernel
theorem dX0_move_144 : decode cX0_move 144 = .ok (.lconst 1, 1) := by decide +kernel
theorem dX0_move_145 : decode cX0_move 145 = .ok (.ladd, 1) := by decide +kernel
theorem dX0_move_146 : decode cX0_move 146 = .ok (.lastore, 1) := by decide +kernel
theorem dX0_move_147 : decode cX0_move 147 = .ok (.iconst 1, 1) := by decide +kernel
theorem dX0_move_148 : decode cX0_move 148 = .ok (.ireturn, 1) := by decide +kernel
set_option maxRecDepth 20000 in
theorem ggX0_row_X0_isPosition : GoodIn wsX0_row wsX0_isPosition := goodIn_r _ [9] (by decide +kernel) (by decide +kernel)
set_option maxRecDepth 20000 in
theorem gX0_row_X0_isPosition : GoodIn wsX0_row (va_wsS RX0 67 yX0_isPosition wsX0_isPosition) := goodIn_app (goodIn_of _ (by decide +kernel)) ggX0_row_X0_isPosition
theorem dX0_row_0 : decode cX0_row 0 = .ok (.iload_n 1, 1) := by decide +kernel
theorem dX0_row_1 : decode cX0_row 1 = .ok (.invokestatic 67, 3) := by decide +kernel
theorem dX0_row_4 : decode cX0_row 4 = .ok (.ifCond .ne 5, 3) := by decide +kernel
theorem dX0_row_7 : decode cX0_row 7 = .ok (.lconst 0, 1) := by decide +kernel
theorem dX0_row_8 : decode cX0_row 8 = .ok (.lreturn, 1) := by decide +kernel
theorem dX0_row_9 : decode cX0_row 9 = .ok (.iload_n 2, 1) := by decide +kernel
theorem dX0_row_10 : decode cX0_row 10 = .ok (.tableswitch 69 0 4 #[34, 41, 48, 55, 62], 34) := by decide +kernel
theorem dX0_row_44 : decode cX0_row 44 = .ok (.aload_n 0, 1) := by decide +kernel
theorem dX0_row_45 : decode cX0_row 45 = .ok (.getfield 16, 3) := by decide +kernel
theorem dX0_row_48 : decode cX0_row 48 = .ok (.iload_n 1, 1) := by decide +kernel
theorem dX0_row_49 : decode cX0_row 49 = .ok (.laload, 1) := by decide +kernel
theorem dX0_row_50 : decode cX0_row 50 = .ok (.lreturn, 1) := by decide +kernel
theorem dX0_row_51 : decode cX0_row 51 = .ok (.aload_n 0, 1) := by decide +kernel
theorem dX0_row_52 : decode cX0_row 52 = .ok (.getfield 20, 3) := by decide +kernel
theorem dX0_row_55 : decode cX0_row 55 = .ok (.iload_n 1, 1) := by decide +kernel
theorem dX0_row_56 : decode cX0_row 56 = .ok (.laload, 1) := by decide +kernel
theorem dX0_row_57 : decode cX0_row 57 = .ok (.lreturn, 1) := by decide +kernel
theorem dX0_row_58 : decode cX0_row 58 = .ok (.aload_n 0, 1) := by decide +kernel
theorem dX0_row_59 : decode cX0_row 59 = .ok (.getfield 23, 3) := by decide +kernel
theorem dX0_row_62 : decode cX0_row 62 = .ok (.iload_n 1, 1) := by decide +kernel
theorem dX0_row_63 : decode cX0_row 63 = .ok (.laload, 1) := by decide +kernel
theorem dX0_row_64 : decode cX0_row 64 = .ok (.lreturn, 1) := by decide +kernel
theorem dX0_row_65 : decode cX0_row 65 = .ok (.aload_n 0, 1) := by decide +kernel
theorem dX0_row_66 : decode cX0_row 66 = .ok (.getfield 26, 3) := by decide +kernel
theorem dX0_row_69 : decode cX0_row 69 = .ok (.iload_n 1, 1) := by decide +kernel
theorem dX0_row_70 : decode cX0_row 70 = .ok (.laload, 1) := by decide +kernel
theorem dX0_row_71 : decode cX0_row 71 = .ok (.lreturn, 1) := by decide +kernel
theorem dX0_row_72 : decode cX0_row 72 = .ok (.aload_n 0, 1) := by decide +kernel
theorem dX0_row_73 : decode cX0_row 73 = .ok (.getfield 29, 3) := by decide +kernel
theorem dX0_row_76 : decode cX0_row 76 = .ok (.iload_n 1, 1) := by decide +kernel
theorem dX0_row_77 : decode cX0_row 77 = .ok (.laload, 1) := by decide +kernel
theorem dX0_row_78 : decode cX0_row 78 = .ok (.lreturn, 1) := by decide +kernel
theorem dX0_row_79 : decode cX0_row 79 = .ok (.lconst 0, 1) := by decide +kernel
theorem dX0_row_80 : decode cX0_row 80 = .ok (.lreturn, 1) := by decide +kernel
set_option maxRecDepth 20000 in
theorem ggX0_isTold_X0_isPosition : GoodIn wsX0_isTold wsX0_isPosition := goodIn_r _ [6] (by decide +kernel) (by decide +kernel)
set_option maxRecDepth 20000 in
theorem gX0_isTold_X0_isPosition : GoodIn wsX0_isTold (va_wsS RX0 67 yX0_isPosition wsX0_isPosition) := goodIn_app (goodIn_of _ (by decide +kernel)) ggX0_isTold_X0_isPosition
theorem dX0_isTold_0 : decode cX0_isTold 0 = .ok (.iload_n 1, 1) := by decide +kernel
theorem dX0_isTold_1 : decode cX0_isTold 1 = .ok (.invokestatic 67, 3) := by decide +kernel
theorem dX0_isTold_4 : decode cX0_isTold 4 = .ok (.ifCond .eq 29, 3) := by decide +kernel
theorem dX0_isTold_7 : decode cX0_isTold 7 = .ok (.aload_n 0, 1) := by decide +kernel
theorem dX0_isTold_8 : decode cX0_isTold 8 = .ok (.getfield 16, 3) := by decide +kernel
theorem dX0_isTold_11 : decode cX0_isTold 11 = .ok (.iload_n 1, 1) := by decide +kernel
theorem dX0_isTold_12 : decode cX0_isTold 12 = .ok (.laload, 1) := by decide +kernel
theorem dX0_isTold_13 : decode cX0_isTold 13 = .ok (.lconst 0, 1) := by decide +kernel
theorem dX0_isTold_14 : decode cX0_isTold 14 = .ok (.lcmp, 1) := by decide +kernel
theorem dX0_isTold_15 : decode cX0_isTold 15 = .ok (.ifCond .ne 14, 3) := by decide +kernel
theorem dX0_isTold_18 : decode cX0_isTold 18 = .ok (.aload_n 0, 1) := by decide +kernel
theorem dX0_isTold_19 : decode cX0_isTold 19 = .ok (.getfield 29, 3) := by decide +kernel
theorem dX0_isTold_22 : decode cX0_isTold 22 = .ok (.iload_n 1, 1) := by decide +kernel
theorem dX0_isTold_23 : decode cX0_isTold 23 = .ok (.laload, 1) := by decide +kernel
theorem dX0_isTold_24 : decode cX0_isTold 24 = .ok (.lconst 0, 1) := by decide +kernel
theorem dX0_isTold_25 : decode cX0_isTold 25 = .ok (.lcmp, 1) := by decide +kernel
theorem dX0_isTold_26 : decode cX0_isTold 26 = .ok (.ifCond .eq 7, 3) := by decide +kernel
theorem dX0_isTold_29 : decode cX0_isTold 29 = .ok (.iconst 1, 1) := by decide +kernel
theorem dX0_isTold_30 : decode cX0_isTold 30 = .ok (.goto 4, 3) := by decide +kernel
theorem dX0_isTold_33 : decode cX0_isTold 33 = .ok (.iconst 0, 1) := by decide +kernel
theorem dX0_isTold_34 : decode cX0_isTold 34 = .ok (.ireturn, 1) := by decide +kernel
set_option maxRecDepth 20000 in
theorem ggX0_write_X0_isPosition : GoodIn wsX0_write wsX0_isPosition := goodIn_r _ [10] (by decide +kernel) (by decide +kernel)
set_option maxRecDepth 20000 in
theorem gX0_write_X0_isPosition : GoodIn wsX0_write (va_wsS RX0 67 yX0_isPosition wsX0_isPosition) := goodIn_app (goodIn_of _ (by decide +kernel)) ggX0_write_X0_isPosition
set_option maxRecDepth 20000 in
theorem ggX0_write_X0_addNumber : GoodIn wsX0_write wsX0_addNumber := goodIn_r _ [14, 15, 16, 17, 18, 19, 20, 9, 21, 1, 22, 23, 24, 25, 26, 27, 28, 29, 30, 31] (by decide +kernel) (by decide +kernel)
set_option maxRecDepth 20000 in
theorem gX0_write_X0_addNumber : GoodIn wsX0_write (wsV RX0 78 RX0 yX0_addNumber wsX0_addNumber) := goodIn_app (goodIn_of _ (by decide +kernel)) ggX0_write_X0_addNumber
set_option maxRecDepth 20000 in
theorem ggX0_write_X0_addCharacter : GoodIn wsX0_write wsX0_addCharacter := goodIn_r _ [21, 1, 22, 23, 24, 25, 26, 27, 28, 29, 30, 31] (by decide +kernel) (by decide +kernel)
set_option maxRecDepth 20000 in
theorem gX0_write_X0_addCharacter : GoodIn wsX0_write (wsV RX0 82 RX0 yX0_addCharacter wsX0_addCharacter) := goodIn_app (goodIn_of _ (by decide +kernel)) ggX0_write_X0_addCharacter
theorem dX0_write_0 : decode cX0_write 0 = .ok (.iload_n 1, 1) := by decide +kernel
theorem dX0_write_1 : decode cX0_write 1 = .ok (.invokestatic 67, 3) := by decide +kernel
theorem dX0_write_4 : decode cX0_write 4 = .ok (.ifCond .ne 5, 3) := by decide +kernel
theorem dX0_write_7 : decode cX0_write 7 = .ok (.iconst (-1), 1) := by decide +kernel
theorem dX0_write_8 : decode cX0_write 8 = .ok (.ireturn, 1) := by decide +kernel
theorem dX0_write_9 : decode cX0_write 9 = .ok (.aload_n 0, 1) := by decide +kernel
theorem dX0_write_10 : decode cX0_write 10 = .ok (.iconst 0, 1) := by decide +kernel
theorem dX0_write_11 : decode cX0_write 11 = .ok (.putfield 36, 3) := by decide +kernel
theorem dX0_write_14 : decode cX0_write 14 = .ok (.aload_n 0, 1) := by decide +kernel
theorem dX0_write_15 : decode cX0_write 15 = .ok (.aload_n 0, 1) := by decide +kernel
theorem dX0_write_16 : decode cX0_write 16 = .ok (.getfield 16, 3) := by decide +kernel
theorem dX0_write_19 : decode cX0_write 19 = .ok (.iload_n 1, 1) := by decide +kernel
theorem dX0_write_20 : decode cX0_write 20 = .ok (.laload, 1) := by decide +kernel
theorem dX0_write_21 : decode cX0_write 21 = .ok (.invokevirtual 78, 3) := by decide +kernel
theorem dX0_write_24 : decode cX0_write 24 = .ok (.aload_n 0, 1) := by decide +kernel
theorem dX0_write_25 : decode cX0_write 25 = .ok (.bipush 32, 2) := by decide +kernel
theorem dX0_write_27 : decode cX0_write 27 = .ok (.invokevirtual 82, 3) := by decide +kernel
theorem dX0_write_30 : decode cX0_write 30 = .ok (.aload_n 0, 1) := by decide +kernel
theorem dX0_write_31 : decode cX0_write 31 = .ok (.aload_n 0, 1) := by decide +kernel
theorem dX0_write_32 : decode cX0_write 32 = .ok (.getfield 20, 3) := by decide +kernel
theorem dX0_write_35 : decode cX0_write 35 = .ok (.iload_n 1, 1) := by decide +kernel
theorem dX0_write_36 : decode cX0_write 36 = .ok (.laload, 1) := by decide +kernel
theorem dX0_write_37 : decode cX0_write 37 = .ok (.invokevirtual 78, 3) := by decide +kernel
theorem dX0_write_40 : decode cX0_write 40 = .ok (.aload_n 0, 1) := by decide +kernel
theorem dX0_write_41 : decode cX0_write 41 = .ok (.bipush 32, 2) := by decide +kernel
theorem dX0_write_43 : decode cX0_write 43 = .ok (.invokevirtual 82, 3) := by decide +kernel
theorem dX0_write_46 : decode cX0_write 46 = .ok (.aload_n 0, 1) := by decide +kernel
theorem dX0_write_47 : decode cX0_write 47 = .ok (.aload_n 0, 1) := by decide +kernel
theorem dX0_write_48 : decode cX0_write 48 = .ok (.getfield 23, 3) := by decide +kernel
theorem dX0_write_51 : decode cX0_write 51 = .ok (.iload_n 1, 1) := by decide +kernel
theorem dX0_write_52 : decode cX0_write 52 = .ok (.laload, 1) := by decide +kernel
theorem dX0_write_53 : decode cX0_write 53 = .ok (.invokevirtual 78, 3) := by decide +kernel
theorem dX0_write_56 : decode cX0_write 56 = .ok (.aload_n 0, 1) := by decide +kernel
theorem dX0_write_57 : decode cX0_write 57 = .ok (.bipush 32, 2) := by decide +kernel
theorem dX0_write_59 : decode cX0_write 59 = .ok (.invokevirtual 82, 3) := by decide +kernel
theorem dX0_write_62 : decode cX0_write 62 = .ok (.aload_n 0, 1) := by decide +kernel
theorem dX0_write_63 : decode cX0_write 63 = .ok (.aload_n 0, 1) := by decide +kernel
theorem dX0_write_64 : decode cX0_write 64 = .ok (.getfield 26, 3) := by decide +kernel
theorem dX0_write_67 : decode cX0_write 67 = .ok (.iload_n 1, 1) := by decide +kernel
theorem dX0_write_68 : decode cX0_write 68 = .ok (.laload, 1) := by decide +kernel
theorem dX0_write_69 : decode cX0_write 69 = .ok (.invokevirtual 78, 3) := by decide +kernel
theorem dX0_write_72 : decode cX0_write 72 = .ok (.aload_n 0, 1) := by decide +kernel
theorem dX0_write_73 : decode cX0_write 73 = .ok (.bipush 32, 2) := by decide +kernel
theorem dX0_write_75 : decode cX0_write 75 = .ok (.invokevirtual 82, 3) := by decide +kernel
theorem dX0_write_78 : decode cX0_write 78 = .ok (.aload_n 0, 1) := by decide +kernel
theorem dX0_write_79 : decode cX0_write 79 = .ok (.aload_n 0, 1) := by decide +kernel
theorem dX0_write_80 : decode cX0_write 80 = .ok (.getfield 29, 3) := by decide +kernel
theorem dX0_write_83 : decode cX0_write 83 = .ok (.iload_n 1, 1) := by decide +kernel
theorem dX0_write_84 : decode cX0_write 84 = .ok (.laload, 1) := by decide +kernel
theorem dX0_write_85 : decode cX0_write 85 = .ok (.invokevirtual 78, 3) := by decide +kernel
theorem dX0_write_88 : decode cX0_write 88 = .ok (.aload_n 0, 1) := by decide +kernel
theorem dX0_write_89 : decode cX0_write 89 = .ok (.getfield 36, 3) := by decide +kernel
theorem dX0_write_92 : decode cX0_write 92 = .ok (.ireturn, 1) := by decide +kernel
theorem dX0_at_0 : decode cX0_at 0 = .ok (.iload_n 1, 1) := by decide +kernel
theorem dX0_at_1 : decode cX0_at 1 = .ok (.ifCond .lt 20, 3) := by decide +kernel
theorem dX0_at_4 : decode cX0_at 4 = .ok (.iload_n 1, 1) := by decide +kernel
theorem dX0_at_5 : decode cX0_at 5 = .ok (.aload_n 0, 1) := by decide +kernel
theorem dX0_at_6 : decode cX0_at 6 = .ok (.getfield 36, 3) := by decide +kernel
theorem dX0_at_9 : decode cX0_at 9 = .ok (.if_icmp .ge 12, 3) := by decide +kernel
theorem dX0_at_12 : decode cX0_at 12 = .ok (.aload_n 0, 1) := by decide +kernel
theorem dX0_at_13 : decode cX0_at 13 = .ok (.getfield 32, 3) := by decide +kernel
theorem dX0_at_16 : decode cX0_at 16 = .ok (.iload_n 1, 1) := by decide +kernel
theorem dX0_at_17 : decode cX0_at 17 = .ok (.caload, 1) := by decide +kernel
theorem dX0_at_18 : decode cX0_at 18 = .ok (.goto 4, 3) := by decide +kernel
theorem dX0_at_21 : decode cX0_at 21 = .ok (.iconst (-1), 1) := by decide +kernel
theorem dX0_at_22 : decode cX0_at 22 = .ok (.ireturn, 1) := by decide +kernel
set_option maxRecDepth 20000 in
theorem ggX0_advance_X0_openStatements : GoodIn wsX0_advance wsX0_openStatements := goodIn_r _ [7, 8, 9, 10, 11, 12, 13, 14, 15, 16, 17, 18, 19, 20, 21] (by decide +kernel) (by decide +kernel)
set_option maxRecDepth 20000 in
theorem gX0_advance_X0_openStatements : GoodIn wsX0_advance (wsV RX0 86 RX0 yX0_openStatements wsX0_openStatements) := goodIn_app (goodIn_of _ (by decide +kernel)) ggX0_advance_X0_openStatements
theorem dX0_advance_0 : decode cX0_advance 0 = .ok (.aload_n 0, 1) := by decide +kernel
theorem dX0_advance_1 : decode cX0_advance 1 = .ok (.getfield 13, 3) := by decide +kernel
theorem dX0_advance_4 : decode cX0_advance 4 = .ok (.iload_n 1, 1) := by decide +kernel
theorem dX0_advance_5 : decode cX0_advance 5 = .ok (.iadd, 1) := by decide +kernel
theorem dX0_advance_6 : decode cX0_advance 6 = .ok (.istore_n 2, 1) := by decide +kernel
theorem dX0_advance_7 : decode cX0_advance 7 = .ok (.iload_n 2, 1) := by decide +kernel
theorem dX0_advance_8 : decode cX0_advance 8 = .ok (.sipush 1000, 3) := by decide +kernel
theorem dX0_advance_11 : decode cX0_advance 11 = .ok (.idiv, 1) := by decide +kernel
theorem dX0_advance_12 : decode cX0_advance 12 = .ok (.istore_n 3, 1) := by decide +kernel
theorem dX0_advance_13 : decode cX0_advance 13 = .ok (.aload_n 0, 1) := by decide +kernel
theorem dX0_advance_14 : decode cX0_advance 14 = .ok (.iload_n 2, 1) := by decide +kernel
theorem dX0_advance_15 : decode cX0_advance 15 = .ok (.sipush 1000, 3) := by decide +kernel
theorem dX0_advance_18 : decode cX0_advance 18 = .ok (.irem, 1) := by decide +kernel
theorem dX0_advance_19 : decode cX0_advance 19 = .ok (.putfield 13, 3) := by decide +kernel
theorem dX0_advance_22 : decode cX0_advance 22 = .ok (.aload_n 0, 1) := by decide +kernel
theorem dX0_advance_23 : decode cX0_advance 23 = .ok (.dup, 1) := by decide +kernel
theorem dX0_advance_24 : decode cX0_advance 24 = .ok (.getfield 7, 3) := by decide +kernel
theorem dX0_advance_27 : decode cX0_advance 27 = .ok (.iload_n 3, 1) := by decide +kernel
theorem dX0_advance_28 : decode cX0_advance 28 = .ok (.iadd, 1) := by decide +kernel
theorem dX0_advance_29 : decode cX0_advance 29 = .ok (.putfield 7, 3) := by decide +kernel
theorem dX0_advance_32 : decode cX0_advance 32 = .ok (.iload_n 3, 1) := by decide +kernel
theorem dX0_advance_33 : decode cX0_advance 33 = .ok (.ifCond .le 7, 3) := by decide +kernel
theorem dX0_advance_36 : decode cX0_advance 36 = .ok (.aload_n 0, 1) := by decide +kernel
theorem dX0_advance_37 : decode cX0_advance 37 = .ok (.invokevirtual 86, 3) := by decide +kernel
theorem dX0_advance_40 : decode cX0_advance 40 = .ok (.iload_n 3, 1) := by decide +kernel
theorem dX0_advance_41 : decode cX0_advance 41 = .ok (.ireturn, 1) := by decide +kernel
theorem dX0_openStatements_0 : decode cX0_openStatements 0 = .ok (.iconst 0, 1) := by decide +kernel
theorem dX0_openStatements_1 : decode cX0_openStatements 1 = .ok (.istore_n 1, 1) := by decide +kernel
theorem dX0_openStatements_2 : decode cX0_openStatements 2 = .ok (.iload_n 1, 1) := by decide +kernel
theorem dX0_openStatements_3 : decode cX0_openStatements 3 = .ok (.sipush 200, 3) := by decide +kernel
theorem dX0_openStatements_6 : decode cX0_openStatements 6 = .ok (.if_icmp .ge 42, 3) := by decide +kernel
theorem dX0_openStatements_9 : decode cX0_openStatements 9 = .ok (.aload_n 0, 1) := by decide +kernel
theorem dX0_openStatements_10 : decode cX0_openStatements 10 = .ok (.getfield 16, 3) := by decide +kernel
theorem dX0_openStatements_13 : decode cX0_openStatements 13 = .ok (.iload_n 1, 1) := by decide +kernel
theorem dX0_openStatements_14 : decode cX0_openStatements 14 = .ok (.aload_n 0, 1) := by decide +kernel
theorem dX0_openStatements_15 : decode cX0_openStatements 15 = .ok (.getfield 26, 3) := by decide +kernel
theorem dX0_openStatements_18 : decode cX0_openStatements 18 = .ok (.iload_n 1, 1) := by decide +kernel
theorem dX0_openStatements_19 : decode cX0_openStatements 19 = .ok (.laload, 1) := by decide +kernel
theorem dX0_openStatements_20 : decode cX0_openStatements 20 = .ok (.lastore, 1) := by decide +kernel
theorem dX0_openStatements_21 : decode cX0_openStatements 21 = .ok (.aload_n 0, 1) := by decide +kernel
theorem dX0_openStatements_22 : decode cX0_openStatements 22 = .ok (.getfield 20, 3) := by decide +kernel
theorem dX0_openStatements_25 : decode cX0_openStatements 25 = .ok (.iload_n 1, 1) := by decide +kernel
theorem dX0_openStatements_26 : decode cX0_openStatements 26 = .ok (.lconst 0, 1) := by decide +kernel
theorem dX0_openStatements_27 : decode cX0_openStatements 27 = .ok (.lastore, 1) := by decide +kernel
theorem dX0_openStatements_28 : decode cX0_openStatements 28 = .ok (.aload_n 0, 1) := by decide +kernel
theorem dX0_openStatements_29 : decode cX0_openStatements 29 = .ok (.getfield 23, 3) := by decide +kernel
theorem dX0_openStatements_32 : decode cX0_openStatements 32 = .ok (.iload_n 1, 1) := by decide +kernel
theorem dX0_openStatements_33 : decode cX0_openStatements 33 = .ok (.lconst 0, 1) := by decide +kernel
theorem dX0_openStatements_34 : decode cX0_openStatements 34 = .ok (.lastore, 1) := by decide +kernel
theorem dX0_openStatements_35 : decode cX0_openStatements 35 = .ok (.aload_n 0, 1) := by decide +kernel
theorem dX0_openStatements_36 : decode cX0_openStatements 36 = .ok (.getfield 29, 3) := by decide +kernel
theorem dX0_openStatements_39 : decode cX0_openStatements 39 = .ok (.iload_n 1, 1) := by decide +kernel
theorem dX0_openStatements_40 : decode cX0_openStatements 40 = .ok (.lconst 0, 1) := by decide +kernel
theorem dX0_openStatements_41 : decode cX0_openStatements 41 = .ok (.lastore, 1) := by decide +kernel
theorem dX0_openStatements_42 : decode cX0_openStatements 42 = .ok (.iinc 1 1, 3) := by decide +kernel
theorem dX0_openStatements_45 : decode cX0_openStatements 45 = .ok (.goto (-43), 3) := by decide +kernel
theorem dX0_openStatements_48 : decode cX0_openStatements 48 = .ok (.return_, 1) := by decide +kernel
theorem dX0_isResolving_0 : decode cX0_isResolving 0 = .ok (.iload_n 0, 1) := by decide +kernel
theorem dX0_isResolving_1 : decode cX0_isResolving 1 = .ok (.sipush 150, 3) := by decide +kernel
theorem dX0_isResolving_4 : decode cX0_isResolving 4 = .ok (.if_icmp .lt 21, 3) := by decide +kernel
theorem dX0_isResolving_7 : decode cX0_isResolving 7 = .ok (.iload_n 0, 1) := by decide +kernel
theorem dX0_isResolving_8 : decode cX0_isResolving 8 = .ok (.sipush 900, 3) := by decide +kernel
theorem dX0_isResolving_11 : decode cX0_isResolving 11 = .ok (.if_icmp .gt 14, 3) := by decide +kernel
theorem dX0_isResolving_14 : decode cX0_isResolving 14 = .ok (.iload_n 0, 1) := by decide +kernel
theorem dX0_isResolving_15 : decode cX0_isResolving 15 = .ok (.bipush 50, 2) := by decide +kernel
theorem dX0_isResolving_17 : decode cX0_isResolving 17 = .ok (.irem, 1) := by decide +kernel
theorem dX0_isResolving_18 : decode cX0_isResolving 18 = .ok (.ifCond .ne 7, 3) := by decide +kernel
theorem dX0_isResolving_21 : decode cX0_isResolving 21 = .ok (.iconst 1, 1) := by decide +kernel
theorem dX0_isResolving_22 : decode cX0_isResolving 22 = .ok (.goto 4, 3) := by decide +kernel
theorem dX0_isResolving_25 : decode cX0_isResolving 25 = .ok (.iconst 0, 1) := by decide +kernel
theorem dX0_isResolving_26 : decode cX0_isResolving 26 = .ok (.ireturn, 1) := by decide +kernel
theorem dX0_resolvingsUntil_0 : decode cX0_resolvingsUntil 0 = .ok (.iload_n 0, 1) := by decide +kernel
theorem dX0_resolvingsUntil_1 : decode cX0_resolvingsUntil 1 = .ok (.sipush 150, 3) := by decide +kernel
theorem dX0_resolvingsUntil_4 : decode cX0_resolvingsUntil 4 = .ok (.if_icmp .ge 5, 3) := by decide +kernel
theorem dX0_resolvingsUntil_7 : decode cX0_resolvingsUntil 7 = .ok (.iconst 0, 1) := by decide +kernel
theorem dX0_resolvingsUntil_8 : decode cX0_resolvingsUntil 8 = .ok (.ireturn, 1) := by decide +kernel
theorem dX0_resolvingsUntil_9 : decode cX0_resolvingsUntil 9 = .ok (.iload_n 0, 1) := by decide +kernel
theorem dX0_resolvingsUntil_10 : decode cX0_resolvingsUntil 10 = .ok (.sipush 900, 3) := by decide +kernel
theorem dX0_resolvingsUntil_13 : decode cX0_resolvingsUntil 13 = .ok (.invokestatic 89, 3) := by decide +kernel
theorem dX0_resolvingsUntil_16 : decode cX0_resolvingsUntil 16 = .ok (.istore_n 1, 1) := by decide +kernel
theorem dX0_resolvingsUntil_17 : decode cX0_resolvingsUntil 17 = .ok (.iload_n 1, 1) := by decide +kernel
theorem dX0_resolvingsUntil_18 : decode cX0_resolvingsUntil 18 = .ok (.sipush 150, 3) := by decide +kernel
theorem dX0_resolvingsUntil_21 : decode cX0_resolvingsUntil 21 = .ok (.isub, 1) := by decide +kernel
theorem dX0_resolvingsUntil_22 : decode cX0_resolvingsUntil 22 = .ok (.bipush 50, 2) := by decide +kernel
theorem dX0_resolvingsUntil_24 : decode cX0_resolvingsUntil 24 = .ok (.idiv, 1) := by decide +kernel
theorem dX0_resolvingsUntil_25 : decode cX0_resolvingsUntil 25 = .ok (.iconst 1, 1) := by decide +kernel
theorem dX0_resolvingsUntil_26 : decode cX0_resolvingsUntil 26 = .ok (.iadd, 1) := by decide +kernel
theorem dX0_resolvingsUntil_27 : decode cX0_resolvingsUntil 27 = .ok (.ireturn, 1) := by decide +kernel
set_option maxRecDepth 20000 in
theorem ggX0_nextResolving_X0_resolvingsUntil : GoodIn wsX0_nextResolving wsX0_resolvingsUntil := goodIn_r _ [5, 6, 7, 8, 9] (by decide +kernel) (by decide +kernel)
set_option maxRecDepth 20000 in
theorem gX0_nextResolving_X0_resolvingsUntil : GoodIn wsX0_nextResolving (va_wsS RX0 48 yX0_resolvingsUntil wsX0_resolvingsUntil) := goodIn_app (goodIn_of _ (by decide +kernel)) ggX0_nextResolving_X0_resolvingsUntil
theorem dX0_nextResolving_0 : decode cX0_nextResolving 0 = .ok (.aload_n 0, 1) := by decide +kernel
theorem dX0_nextResolving_1 : decode cX0_nextResolving 1 = .ok (.getfield 13, 3) := by decide +kernel
theorem dX0_nextResolving_4 : decode cX0_nextResolving 4 = .ok (.sipush 900, 3) := by decide +kernel
theorem dX0_nextResolving_7 : decode cX0_nextResolving 7 = .ok (.if_icmp .lt 7, 3) := by decide +kernel
theorem dX0_nextResolving_10 : decode cX0_nextResolving 10 = .ok (.sipush 1150, 3) := by decide +kernel
theorem dX0_nextResolving_13 : decode cX0_nextResolving 13 = .ok (.ireturn, 1) := by decide +kernel
theorem dX0_nextResolving_14 : decode cX0_nextResolving 14 = .ok (.sipush 150, 3) := by decide +kernel
theorem dX0_nextResolving_17 : decode cX0_nextResolving 17 = .ok (.aload_n 0, 1) := by decide +kernel
theorem dX0_nextResolving_18 : decode cX0_nextResolving 18 = .ok (.getfield 13, 3) := by decide +kernel
theorem dX0_nextResolving_21 : decode cX0_nextResolving 21 = .ok (.invokestatic 48, 3) := by decide +kernel
theorem dX0_nextResolving_24 : decode cX0_nextResolving 24 = .ok (.bipush 50, 2) := by decide +kernel
theorem dX0_nextResolving_26 : decode cX0_nextResolving 26 = .ok (.imul, 1) := by decide +kernel
theorem dX0_nextResolving_27 : decode cX0_nextResolving 27 = .ok (.iadd, 1) := by decide +kernel
theorem dX0_nextResolving_28 : decode cX0_nextResolving 28 = .ok (.ireturn, 1) := by decide +kernel
theorem dX0_phaseNow_0 : decode cX0_phaseNow 0 = .ok (.aload_n 0, 1) := by decide +kernel
theorem dX0_phaseNow_1 : decode cX0_phaseNow 1 = .ok (.getfield 13, 3) := by decide +kernel
theorem dX0_phaseNow_4 : decode cX0_phaseNow 4 = .ok (.bipush 100, 2) := by decide +kernel
theorem dX0_phaseNow_6 : decode cX0_phaseNow 6 = .ok (.if_icmp .ge 5, 3) := by decide +kernel
theorem dX0_phaseNow_9 : decode cX0_phaseNow 9 = .ok (.iconst 0, 1) := by decide +kernel
theorem dX0_phaseNow_10 : decode cX0_phaseNow 10 = .ok (.ireturn, 1) := by decide +kernel
theorem dX0_phaseNow_11 : decode cX0_phaseNow 11 = .ok (.aload_n 0, 1) := by decide +kernel
theorem dX0_phaseNow_12 : decode cX0_phaseNow 12 = .ok (.getfield 13, 3) := by decide +kernel
theorem dX0_phaseNow_15 : decode cX0_phaseNow 15 = .ok (.sipush 700, 3) := by decide +kernel
theorem dX0_phaseNow_18 : decode cX0_phaseNow 18 = .ok (.if_icmp .ge 5, 3) := by decide +kernel
theorem dX0_phaseNow_21 : decode cX0_phaseNow 21 = .ok (.iconst 1, 1) := by decide +kernel
theorem dX0_phaseNow_22 : decode cX0_phaseNow 22 = .ok (.ireturn, 1) := by decide +kernel
theorem dX0_phaseNow_23 : decode cX0_phaseNow 23 = .ok (.aload_n 0, 1) := by decide +kernel
theorem dX0_phaseNow_24 : decode cX0_phaseNow 24 = .ok (.getfield 13, 3) := by decide +kernel
theorem dX0_phaseNow_27 : decode cX0_phaseNow 27 = .ok (.sipush 800, 3) := by decide +kernel
theorem dX0_phaseNow_30 : decode cX0_phaseNow 30 = .ok (.if_icmp .ge 5, 3) := by decide +kernel
theorem dX0_phaseNow_33 : decode cX0_phaseNow 33 = .ok (.iconst 2, 1) := by decide +kernel
theorem dX0_phaseNow_34 : decode cX0_phaseNow 34 = .ok (.ireturn, 1) := by decide +kernel
theorem dX0_phaseNow_35 : decode cX0_phaseNow 35 = .ok (.aload_n 0, 1) := by decide +kernel
theorem dX0_phaseNow_36 : decode cX0_phaseNow 36 = .ok (.getfield 13, 3) := by decide +kernel
theorem dX0_phaseNow_39 : decode cX0_phaseNow 39 = .ok (.sipush 900, 3) := by decide +kernel
theorem dX0_phaseNow_42 : decode cX0_phaseNow 42 = .ok (.if_icmp .ge 7, 3) := by decide +kernel
theorem dX0_phaseNow_45 : decode cX0_phaseNow 45 = .ok (.iconst 3, 1) := by decide +kernel
theorem dX0_phaseNow_46 : decode cX0_phaseNow 46 = .ok (.goto 4, 3) := by decide +kernel
theorem dX0_phaseNow_49 : decode cX0_phaseNow 49 = .ok (.iconst 4, 1) := by decide +kernel
theorem dX0_phaseNow_50 : decode cX0_phaseNow 50 = .ok (.ireturn, 1) := by decide +kernel
set_option maxRecDepth 20000 in
theorem ggX0_nextPhaseBegins_X0_phaseNow : GoodIn wsX0_nextPhaseBegins wsX0_phaseNow := goodIn_r _ [5, 6, 7, 8, 9, 10, 11, 12, 13, 14, 15] (by decide +kernel) (by decide +kernel)
set_option maxRecDepth 20000 in
theorem gX0_nextPhaseBegins_X0_phaseNow : GoodIn wsX0_nextPhaseBegins (wsV RX0 51 RX0 yX0_phaseNow wsX0_phaseNow) := goodIn_app (goodIn_of _ (by decide +kernel)) ggX0_nextPhaseBegins_X0_phaseNow
theorem dX0_nextPhaseBegins_0 : decode cX0_nextPhaseBegins 0 = .ok (.aload_n 0, 1) := by decide +kernel
theorem dX0_nextPhaseBegins_1 : decode cX0_nextPhaseBegins 1 = .ok (.invokevirtual 51, 3) := by decide +kernel
theorem dX0_nextPhaseBegins_4 : decode cX0_nextPhaseBegins 4 = .ok (.tableswitch 47 0 3 #[32, 35, 39, 43], 32) := by decide +kernel
theorem dX0_nextPhaseBegins_36 : decode cX0_nextPhaseBegins 36 = .ok (.bipush 100, 2) := by decide +kernel
theorem dX0_nextPhaseBegins_38 : decode cX0_nextPhaseBegins 38 = .ok (.ireturn, 1) := by decide +kernel
theorem dX0_nextPhaseBegins_39 : decode cX0_nextPhaseBegins 39 = .ok (.sipush 700, 3) := by decide +kernel
theorem dX0_nextPhaseBegins_42 : decode cX0_nextPhaseBegins 42 = .ok (.ireturn, 1) := by decide +kernel
theorem dX0_nextPhaseBegins_43 : decode cX0_nextPhaseBegins 43 = .ok (.sipush 800, 3) := by decide +kernel
theorem dX0_nextPhaseBegins_46 : decode cX0_nextPhaseBegins 46 = .ok (.ireturn, 1) := by decide +kernel
theorem dX0_nextPhaseBegins_47 : decode cX0_nextPhaseBegins 47 = .ok (.sipush 900, 3) := by decide +kernel
theorem dX0_nextPhaseBegins_50 : decode cX0_nextPhaseBegins 50 = .ok (.ireturn, 1) := by decide +kernel
theorem dX0_nextPhaseBegins_51 : decode cX0_nextPhaseBegins 51 = .ok (.sipush 1000, 3) := by decide +kernel
theorem dX0_nextPhaseBegins_54 : decode cX0_nextPhaseBegins 54 = .ok (.ireturn, 1) := by decide +kernel
theorem dX0_isClosedWhenEarly_0 : decode cX0_isClosedWhenEarly 0 = .ok (.iload_n 0, 1) := by decide +kernel
theorem dX0_isClosedWhenEarly_1 : decode cX0_isClosedWhenEarly 1 = .ok (.iconst 3, 1) := by decide +kernel
theorem dX0_isClosedWhenEarly_2 : decode cX0_isClosedWhenEarly 2 = .ok (.if_icmp .eq 25, 3) := by decide +kernel
theorem dX0_isClosedWhenEarly_5 : decode cX0_isClosedWhenEarly 5 = .ok (.iload_n 0, 1) := by decide +kernel
theorem dX0_isClosedWhenEarly_6 : decode cX0_isClosedWhenEarly 6 = .ok (.iconst 4, 1) := by decide +kernel
theorem dX0_isClosedWhenEarly_7 : decode cX0_isClosedWhenEarly 7 = .ok (.if_icmp .eq 20, 3) := by decide +kernel
theorem dX0_isClosedWhenEarly_10 : decode cX0_isClosedWhenEarly 10 = .ok (.iload_n 0, 1) := by decide +kernel
theorem dX0_isClosedWhenEarly_11 : decode cX0_isClosedWhenEarly 11 = .ok (.iconst 5, 1) := by decide +kernel
theorem dX0_isClosedWhenEarly_12 : decode cX0_isClosedWhenEarly 12 = .ok (.if_icmp .eq 15, 3) := by decide +kernel
theorem dX0_isClosedWhenEarly_15 : decode cX0_isClosedWhenEarly 15 = .ok (.iload_n 0, 1) := by decide +kernel
theorem dX0_isClosedWhenEarly_16 : decode cX0_isClosedWhenEarly 16 = .ok (.bipush 6, 2) := by decide +kernel
theorem dX0_isClosedWhenEarly_18 : decode cX0_isClosedWhenEarly 18 = .ok (.if_icmp .eq 9, 3) := by decide +kernel
theorem dX0_isClosedWhenEarly_21 : decode cX0_isClosedWhenEarly 21 = .ok (.iload_n 0, 1) := by decide +kernel
theorem dX0_isClosedWhenEarly_22 : decode cX0_isClosedWhenEarly 22 = .ok (.bipush 13, 2) := by decide +kernel
theorem dX0_isClosedWhenEarly_24 : decode cX0_isClosedWhenEarly 24 = .ok (.if_icmp .ne 7, 3) := by decide +kernel
theorem dX0_isClosedWhenEarly_27 : decode cX0_isClosedWhenEarly 27 = .ok (.iconst 1, 1) := by decide +kernel
theorem dX0_isClosedWhenEarly_28 : decode cX0_isClosedWhenEarly 28 = .ok (.goto 4, 3) := by decide +kernel
theorem dX0_isClosedWhenEarly_31 : decode cX0_isClosedWhenEarly 31 = .ok (.iconst 0, 1) := by decide +kernel
theorem dX0_isClosedWhenEarly_32 : decode cX0_isClosedWhenEarly 32 = .ok (.ireturn, 1) := by decide +kernel
set_option maxRecDepth 20000 in
theorem ggX0_isClosedWhenShut_X0_isClosedWhenEarly : GoodIn wsX0_isClosedWhenShut wsX0_isClosedWhenEarly := goodIn_r _ [4] (by decide +kernel) (by decide +kernel)
set_option maxRecDepth 20000 in
theorem gX0_isClosedWhenShut_X0_isClosedWhenEarly : GoodIn wsX0_isClosedWhenShut (va_wsS RX0 55 yX0_isClosedWhenEarly wsX0_isClosedWhenEarly) := goodIn_app (goodIn_of _ (by decide +kernel)) ggX0_isClosedWhenShut_X0_isClosedWhenEarly
theorem dX0_isClosedWhenShut_0 : decode cX0_isClosedWhenShut 0 = .ok (.iload_n 0, 1) := by decide +kernel
theorem dX0_isClosedWhenShut_1 : decode cX0_isClosedWhenShut 1 = .ok (.invokestatic 55, 3) := by decide +kernel
theorem dX0_isClosedWhenShut_4 : decode cX0_isClosedWhenShut 4 = .ok (.ifCond .ne 15, 3) := by decide +kernel
theorem dX0_isClosedWhenShut_7 : decode cX0_isClosedWhenShut 7 = .ok (.iload_n 0, 1) := by decide +kernel
theorem dX0_isClosedWhenShut_8 : decode cX0_isClosedWhenShut 8 = .ok (.bipush 7, 2) := by decide +kernel
theorem dX0_isClosedWhenShut_10 : decode cX0_isClosedWhenShut 10 = .ok (.if_icmp .eq 9, 3) := by decide +kernel
theorem dX0_isClosedWhenShut_13 : decode cX0_isClosedWhenShut 13 = .ok (.iload_n 0, 1) := by decide +kernel
theorem dX0_isClosedWhenShut_14 : decode cX0_isClosedWhenShut 14 = .ok (.bipush 8, 2) := by decide +kernel
theorem dX0_isClosedWhenShut_16 : decode cX0_isClosedWhenShut 16 = .ok (.if_icmp .ne 7, 3) := by decide +kernel
theorem dX0_isClosedWhenShut_19 : decode cX0_isClosedWhenShut 19 = .ok (.iconst 1, 1) := by decide +kernel
theorem dX0_isClosedWhenShut_20 : decode cX0_isClosedWhenShut 20 = .ok (.goto 4, 3) := by decide +kernel
theorem dX0_isClosedWhenShut_23 : decode cX0_isClosedWhenShut 23 = .ok (.iconst 0, 1) := by decide +kernel
theorem dX0_isClosedWhenShut_24 : decode cX0_isClosedWhenShut 24 = .ok (.ireturn, 1) := by decide +kernel
theorem dX0_isPosition_0 : decode cX0_isPosition 0 = .ok (.iload_n 0, 1) := by decide +kernel
theorem dX0_isPosition_1 : decode cX0_isPosition 1 = .ok (.ifCond .lt 14, 3) := by decide +kernel
theorem dX0_isPosition_4 : decode cX0_isPosition 4 = .ok (.iload_n 0, 1) := by decide +kernel
theorem dX0_isPosition_5 : decode cX0_isPosition 5 = .ok (.sipush 200, 3) := by decide +kernel
theorem dX0_isPosition_8 : decode cX0_isPosition 8 = .ok (.if_icmp .ge 7, 3) := by decide +kernel
theorem dX0_isPosition_11 : decode cX0_isPosition 11 = .ok (.iconst 1, 1) := by decide +kernel
theorem dX0_isPosition_12 : decode cX0_isPosition 12 = .ok (.goto 4, 3) := by decide +kernel
theorem dX0_isPosition_15 : decode cX0_isPosition 15 = .ok (.iconst 0, 1) := by decide +kernel
theorem dX0_isPosition_16 : decode cX0_isPosition 16 = .ok (.ireturn, 1) := by decide +kernel
theorem dX0_isWithin_0 : decode cX0_isWithin 0 = .ok (.lload_n 0, 1) := by decide +kernel
theorem dX0_isWithin_1 : decode cX0_isWithin 1 = .ok (.lload_n 2, 1) := by decide +kernel
theorem dX0_isWithin_2 : decode cX0_isWithin 2 = .ok (.lneg, 1) := by decide +kernel
theorem dX0_isWithin_3 : decode cX0_isWithin 3 = .ok (.lcmp, 1) := by decide +kernel
theorem dX0_isWithin_4 : decode cX0_isWithin 4 = .ok (.ifCond .lt 13, 3) := by decide +kernel
theorem dX0_isWithin_7 : decode cX0_isWithin 7 = .ok (.lload_n 0, 1) := by decide +kernel
theorem dX0_isWithin_8 : decode cX0_isWithin 8 = .ok (.lload_n 2, 1) := by decide +kernel
theorem dX0_isWithin_9 : decode cX0_isWithin 9 = .ok (.lcmp, 1) := by decide +kernel
theorem dX0_isWithin_10 : decode cX0_isWithin 10 = .ok (.ifCond .gt 7, 3) := by decide +kernel
theorem dX0_isWithin_13 : decode cX0_isWithin 13 = .ok (.iconst 1, 1) := by decide +kernel
theorem dX0_isWithin_14 : decode cX0_isWithin 14 = .ok (.goto 4, 3) := by decide +kernel
theorem dX0_isWithin_17 : decode cX0_isWithin 17 = .ok (.iconst 0, 1) := by decide +kernel
theorem dX0_isWithin_18 : decode cX0_isWithin 18 = .ok (.ireturn, 1) := by decide +kernel
set_option maxRecDepth 20000 in
theorem ggX0_addNumber_X0_addCharacter : GoodIn wsX0_addNumber wsX0_addCharacter := goodIn_r _ [8, 9, 10, 11, 12, 13, 14, 15, 16, 17, 18, 19] (by decide +kernel) (by decide +kernel)
set_option maxRecDepth 20000 in
theorem gX0_addNumber_X0_addCharacter : GoodIn wsX0_addNumber (wsV RX0 82 RX0 yX0_addCharacter wsX0_addCharacter) := goodIn_app (goodIn_of _ (by decide +kernel)) ggX0_addNumber_X0_addCharacter
theorem dX0_addNumber_0 : decode cX0_addNumber 0 = .ok (.lload_n 1, 1) := by decide +kernel
theorem dX0_addNumber_1 : decode cX0_addNumber 1 = .ok (.lconst 0, 1) := by decide +kernel
theorem dX0_addNumber_2 : decode cX0_addNumber 2 = .ok (.lcmp, 1) := by decide +kernel
theorem dX0_addNumber_3 : decode cX0_addNumber 3 = .ok (.ifCond .ge 9, 3) := by decide +kernel
theorem dX0_addNumber_6 : decode cX0_addNumber 6 = .ok (.aload_n 0, 1) := by decide +kernel
theorem dX0_addNumber_7 : decode cX0_addNumber 7 = .ok (.bipush 45, 2) := by decide +kernel
theorem dX0_addNumber_9 : decode cX0_addNumber 9 = .ok (.invokevirtual 82, 3) := by decide +kernel
theorem dX0_addNumber_12 : decode cX0_addNumber 12 = .ok (.lload_n 1, 1) := by decide +kernel
theorem dX0_addNumber_13 : decode cX0_addNumber 13 = .ok (.lconst 0, 1) := by decide +kernel
theorem dX0_addNumber_14 : decode cX0_addNumber 14 = .ok (.lcmp, 1) := by decide +kernel
theorem dX0_addNumber_15 : decode cX0_addNumber 15 = .ok (.ifCond .ge 8, 3) := by decide +kernel
theorem dX0_addNumber_18 : decode cX0_addNumber 18 = .ok (.lload_n 1, 1) := by decide +kernel
theorem dX0_addNumber_19 : decode cX0_addNumber 19 = .ok (.lneg, 1) := by decide +kernel
theorem dX0_addNumber_20 : decode cX0_addNumber 20 = .ok (.goto 4, 3) := by decide +kernel
theorem dX0_addNumber_23 : decode cX0_addNumber 23 = .ok (.lload_n 1, 1) := by decide +kernel
theorem dX0_addNumber_24 : decode cX0_addNumber 24 = .ok (.lstore_n 3, 1) := by decide +kernel
theorem dX0_addNumber_25 : decode cX0_addNumber 25 = .ok (.ldc2_w 95, 3) := by decide +kernel
theorem dX0_addNumber_28 : decode cX0_addNumber 28 = .ok (.lstore 5, 2) := by decide +kernel
theorem dX0_addNumber_30 : decode cX0_addNumber 30 = .ok (.lload 5, 2) := by decide +kernel
theorem dX0_addNumber_32 : decode cX0_addNumber 32 = .ok (.lconst 0, 1) := by decide +kernel
theorem dX0_addNumber_33 : decode cX0_addNumber 33 = .ok (.lcmp, 1) := by decide +kernel
theorem dX0_addNumber_34 : decode cX0_addNumber 34 = .ok (.ifCond .le 46, 3) := by decide +kernel
theorem dX0_addNumber_37 : decode cX0_addNumber 37 = .ok (.lload_n 3, 1) := by decide +kernel
theorem dX0_addNumber_38 : decode cX0_addNumber 38 = .ok (.lload 5, 2) := by decide +kernel
theorem dX0_addNumber_40 : decode cX0_addNumber 40 = .ok (.lcmp, 1) := by decide +kernel
theorem dX0_addNumber_41 : decode cX0_addNumber 41 = .ok (.ifCond .ge 10, 3) := by decide +kernel
theorem dX0_addNumber_44 : decode cX0_addNumber 44 = .ok (.lload 5, 2) := by decide +kernel
theorem dX0_addNumber_46 : decode cX0_addNumber 46 = .ok (.lconst 1, 1) := by decide +kernel
theorem dX0_addNumber_47 : decode cX0_addNumber 47 = .ok (.lcmp, 1) := by decide +kernel
theorem dX0_addNumber_48 : decode cX0_addNumber 48 = .ok (.ifCond .ne 21, 3) := by decide +kernel
theorem dX0_addNumber_51 : decode cX0_addNumber 51 = .ok (.aload_n 0, 1) := by decide +kernel
theorem dX0_addNumber_52 : decode cX0_addNumber 52 = .ok (.ldc2_w 97, 3) := by decide +kernel
theorem dX0_addNumber_55 : decode cX0_addNumber 55 = .ok (.lload_n 3, 1) := by decide +kernel
theorem dX0_addNumber_56 : decode cX0_addNumber 56 = .ok (.lload 5, 2) := by decide +kernel
theorem dX0_addNumber_58 : decode cX0_addNumber 58 = .ok (.ldiv, 1) := by decide +kernel
theorem dX0_addNumber_59 : decode cX0_addNumber 59 = .ok (.ldc2_w 99, 3) := by decide +kernel
theorem dX0_addNumber_62 : decode cX0_addNumber 62 = .ok (.lrem, 1) := by decide +kernel
theorem dX0_addNumber_63 : decode cX0_addNumber 63 = .ok (.ladd, 1) := by decide +kernel
theorem dX0_addNumber_64 : decode cX0_addNumber 64 = .ok (.l2i, 1) := by decide +kernel
theorem dX0_addNumber_65 : decode cX0_addNumber 65 = .ok (.i2c, 1) := by decide +kernel
theorem dX0_addNumber_66 : decode cX0_addNumber 66 = .ok (.invokevirtual 82, 3) := by decide +kernel
theorem dX0_addNumber_69 : decode cX0_addNumber 69 = .ok (.lload 5, 2) := by decide +kernel
theorem dX0_addNumber_71 : decode cX0_addNumber 71 = .ok (.ldc2_w 99, 3) := by decide +kernel
theorem dX0_addNumber_74 : decode cX0_addNumber 74 = .ok (.ldiv, 1) := by decide +kernel
theorem dX0_addNumber_75 : decode cX0_addNumber 75 = .ok (.lstore 5, 2) := by decide +kernel
theorem dX0_addNumber_77 : decode cX0_addNumber 77 = .ok (.goto (-47), 3) := by decide +kernel
theorem dX0_addNumber_80 : decode cX0_addNumber 80 = .ok (.return_, 1) := by decide +kernel
theorem dX0_addCharacter_0 : decode cX0_addCharacter 0 = .ok (.aload_n 0, 1) := by decide +kernel
theorem dX0_addCharacter_1 : decode cX0_addCharacter 1 = .ok (.getfield 36, 3) := by decide +kernel
theorem dX0_addCharacter_4 : decode cX0_addCharacter 4 = .ok (.ifCond .lt 35, 3) := by decide +kernel
theorem dX0_addCharacter_7 : decode cX0_addCharacter 7 = .ok (.aload_n 0, 1) := by decide +kernel
theorem dX0_addCharacter_8 : decode cX0_addCharacter 8 = .ok (.getfield 36, 3) := by decide +kernel
theorem dX0_addCharacter_11 : decode cX0_addCharacter 11 = .ok (.aload_n 0, 1) := by decide +kernel
theorem dX0_addCharacter_12 : decode cX0_addCharacter 12 = .ok (.getfield 32, 3) := by decide +kernel
theorem dX0_addCharacter_15 : decode cX0_addCharacter 15 = .ok (.arraylength, 1) := by decide +kernel
theorem dX0_addCharacter_16 : decode cX0_addCharacter 16 = .ok (.if_icmp .ge 23, 3) := by decide +kernel
theorem dX0_addCharacter_19 : decode cX0_addCharacter 19 = .ok (.aload_n 0, 1) := by decide +kernel
theorem dX0_addCharacter_20 : decode cX0_addCharacter 20 = .ok (.getfield 32, 3) := by decide +kernel
theorem dX0_addCharacter_23 : decode cX0_addCharacter 23 = .ok (.aload_n 0, 1) := by decide +kernel
theorem dX0_addCharacter_24 : decode cX0_addCharacter 24 = .ok (.getfield 36, 3) := by decide +kernel
theorem dX0_addCharacter_27 : decode cX0_addCharacter 27 = .ok (.iload_n 1, 1) := by decide +kernel
theorem dX0_addCharacter_28 : decode cX0_addCharacter 28 = .ok (.castore, 1) := by decide +kernel
theorem dX0_addCharacter_29 : decode cX0_addCharacter 29 = .ok (.aload_n 0, 1) := by decide +kernel
theorem dX0_addCharacter_30 : decode cX0_addCharacter 30 = .ok (.dup, 1) := by decide +kernel
theorem dX0_addCharacter_31 : decode cX0_addCharacter 31 = .ok (.getfield 36, 3) := by decide +kernel
theorem dX0_addCharacter_34 : decode cX0_addCharacter 34 = .ok (.iconst 1, 1) := by decide +kernel
theorem dX0_addCharacter_35 : decode cX0_addCharacter 35 = .ok (.iadd, 1) := by decide +kernel
theorem dX0_addCharacter_36 : decode cX0_addCharacter 36 = .ok (.putfield 36, 3) := by decide +kernel
theorem dX0_addCharacter_39 : decode cX0_addCharacter 39 = .ok (.return_, 1) := by decide +kernel
theorem dX1_init_0 : decode cX1_init 0 = .ok (.aload_n 0, 1) := by decide +kernel
theorem dX1_init_1 : decode cX1_init 1 = .ok (.invokespecial 1, 3) := by decide +kernel
theorem dX1_init_4 : decode cX1_init 4 = .ok (.aload_n 0, 1) := by decide +kernel
theorem dX1_init_5 : decode cX1_init 5 = .ok (.sipush 200, 3) := by decide +kernel
theorem dX1_init_8 : decode cX1_init 8 = .ok (.newarray .long, 2) := by decide +kernel
theorem dX1_init_10 : decode cX1_init 10 = .ok (.putfield 7, 3) := by decide +kernel
theorem dX1_init_13 : decode cX1_init 13 = .ok (.aload_n 0, 1) := by decide +kernel
theorem dX1_init_14 : decode cX1_init 14 = .ok (.sipush 520, 3) := by decide +kernel
theorem dX1_init_17 : decode cX1_init 17 = .ok (.newarray .int, 2) := by decide +kernel
theorem dX1_init_19 : decode cX1_init 19 = .ok (.putfield 13, 3) := by decide +kernel
theorem dX1_init_22 : decode cX1_init 22 = .ok (.aload_n 0, 1) := by decide +kernel
theorem dX1_init_23 : decode cX1_init 23 = .ok (.sipush 520, 3) := by decide +kernel
theorem dX1_init_26 : decode cX1_init 26 = .ok (.newarray .long, 2) := by decide +kernel
theorem dX1_init_28 : decode cX1_init 28 = .ok (.putfield 17, 3) := by decide +kernel
theorem dX1_init_31 : decode cX1_init 31 = .ok (.aload_n 0, 1) := by decide +kernel
theorem dX1_init_32 : decode cX1_init 32 = .ok (.bipush 120, 2) := by decide +kernel
theorem dX1_init_34 : decode cX1_init 34 = .ok (.newarray .int, 2) := by decide +kernel
theorem dX1_init_36 : decode cX1_init 36 = .ok (.putfield 20, 3) := by decide +kernel
theorem dX1_init_39 : decode cX1_init 39 = .ok (.return_, 1) := by decide +kernel
theorem dX1_tick_0 : decode cX1_tick 0 = .ok (.aload_n 0, 1) := by decide +kernel
theorem dX1_tick_1 : decode cX1_tick 1 = .ok (.getfield 23, 3) := by decide +kernel
theorem dX1_tick_4 : decode cX1_tick 4 = .ok (.ldc2_w 27, 3) := by decide +kernel
theorem dX1_tick_7 : decode cX1_tick 7 = .ok (.lrem, 1) := by decide +kernel
theorem dX1_tick_8 : decode cX1_tick 8 = .ok (.l2i, 1) := by decide +kernel
theorem dX1_tick_9 : decode cX1_tick 9 = .ok (.ireturn, 1) := by decide +kernel
theorem dX1_isResolved_0 : decode cX1_isResolved 0 = .ok (.iload_n 0, 1) := by decide +kernel
theorem dX1_isResolved_1 : decode cX1_isResolved 1 = .ok (.sipush 150, 3) := by decide +kernel
theorem dX1_isResolved_4 : decode cX1_isResolved 4 = .ok (.if_icmp .lt 21, 3) := by decide +kernel
theorem dX1_isResolved_7 : decode cX1_isResolved 7 = .ok (.iload_n 0, 1) := by decide +kernel
theorem dX1_isResolved_8 : decode cX1_isResolved 8 = .ok (.sipush 900, 3) := by decide +kernel
theorem dX1_isResolved_11 : decode cX1_isResolved 11 = .ok (.if_icmp .gt 14, 3) := by decide +kernel
theorem dX1_isResolved_14 : decode cX1_isResolved 14 = .ok (.iload_n 0, 1) := by decide +kernel
theorem dX1_isResolved_15 : decode cX1_isResolved 15 = .ok (.bipush 50, 2) := by decide +kernel
theorem dX1_isResolved_17 : decode cX1_isResolved 17 = .ok (.irem, 1) := by decide +kernel
theorem dX1_isResolved_18 : decode cX1_isResolved 18 = .ok (.ifCond .ne 7, 3) := by decide +kernel
theorem dX1_isResolved_21 : decode cX1_isResolved 21 = .ok (.iconst 1, 1) := by decide +kernel
theorem dX1_isResolved_22 : decode cX1_isResolved 22 = .ok (.goto 4, 3) := by decide +kernel
theorem dX1_isResolved_25 : decode cX1_isResolved 25 = .ok (.iconst 0, 1) := by decide +kernel
theorem dX1_isResolved_26 : decode cX1_isResolved 26 = .ok (.ireturn, 1) := by decide +kernel
theorem dX1_phaseOf_0 : decode cX1_phaseOf 0 = .ok (.iload_n 0, 1) := by decide +kernel
theorem dX1_phaseOf_1 : decode cX1_phaseOf 1 = .ok (.bipush 100, 2) := by decide +kernel
theorem dX1_phaseOf_3 : decode cX1_phaseOf 3 = .ok (.if_icmp .ge 7, 3) := by decide +kernel
theorem dX1_phaseOf_6 : decode cX1_phaseOf 6 = .ok (.iconst 0, 1) := by decide +kernel
theorem dX1_phaseOf_7 : decode cX1_phaseOf 7 = .ok (.goto 37, 3) := by decide +kernel
theorem dX1_phaseOf_10 : decode cX1_phaseOf 10 = .ok (.iload_n 0, 1) := by decide +kernel
theorem dX1_phaseOf_11 : decode cX1_phaseOf 11 = .ok (.sipush 700, 3) := by decide +kernel
theorem dX1_phaseOf_14 : decode cX1_phaseOf 14 = .ok (.if_icmp .ge 7, 3) := by decide +kernel
theorem dX1_phaseOf_17 : decode cX1_phaseOf 17 = .ok (.iconst 1, 1) := by decide +kernel
theorem dX1_phaseOf_18 : decode cX1_phaseOf 18 = .ok (.goto 26, 3) := by decide +kernel
theorem dX1_phaseOf_21 : decode cX1_phaseOf 21 = .ok (.iload_n 0, 1) := by decide +kernel
theorem dX1_phaseOf_22 : decode cX1_phaseOf 22 = .ok (.sipush 800, 3) := by decide +kernel
theorem dX1_phaseOf_25 : decode cX1_phaseOf 25 = .ok (.if_icmp .ge 7, 3) := by decide +kernel
theorem dX1_phaseOf_28 : decode cX1_phaseOf 28 = .ok (.iconst 2, 1) := by decide +kernel
theorem dX1_phaseOf_29 : decode cX1_phaseOf 29 = .ok (.goto 15, 3) := by decide +kernel
theorem dX1_phaseOf_32 : decode cX1_phaseOf 32 = .ok (.iload_n 0, 1) := by decide +kernel
theorem dX1_phaseOf_33 : decode cX1_phaseOf 33 = .ok (.sipush 900, 3) := by decide +kernel
theorem dX1_phaseOf_36 : decode cX1_phaseOf 36 = .ok (.if_icmp .ge 7, 3) := by decide +kernel
theorem dX1_phaseOf_39 : decode cX1_phaseOf 39 = .ok (.iconst 3, 1) := by decide +kernel
theorem dX1_phaseOf_40 : decode cX1_phaseOf 40 = .ok (.goto 4, 3) := by decide +kernel
theorem dX1_phaseOf_43 : decode cX1_phaseOf 43 = .ok (.iconst 4, 1) := by decide +kernel
theorem dX1_phaseOf_44 : decode cX1_phaseOf 44 = .ok (.ireturn, 1) := by decide +kernel
set_option maxRecDepth 20000 in
theorem ggX1_begin_X1_row : GoodIn wsX1_begin wsX1_row := goodIn_r _ [7, 2, 8, 9, 1, 10, 11, 6, 12, 13, 14, 15, 16, 17, 18, 19] (by decide +kernel) (by decide +kernel)
set_option maxRecDepth 20000 in
theorem gX1_begin_X1_row : GoodIn wsX1_begin (wsV RX1 29 RX1 yX1_row wsX1_row) := goodIn_app (goodIn_of _ (by decide +kernel)) ggX1_begin_X1_row
theorem dX1_begin_0 : decode cX1_begin 0 = .ok (.iconst 0, 1) := by decide +kernel
theorem dX1_begin_1 : decode cX1_begin 1 = .ok (.istore_n 1, 1) := by decide +kernel
theorem dX1_begin_2 : decode cX1_begin 2 = .ok (.iload_n 1, 1) := by decide +kernel
theorem dX1_begin_3 : decode cX1_begin 3 = .ok (.sipush 200, 3) := by decide +kernel
theorem dX1_begin_6 : decode cX1_begin 6 = .ok (.if_icmp .ge 21, 3) := by decide +kernel
theorem dX1_begin_9 : decode cX1_begin 9 = .ok (.aload_n 0, 1) := by decide +kernel
theorem dX1_begin_10 : decode cX1_begin 10 = .ok (.getfield 7, 3) := by decide +kernel
theorem dX1_begin_13 : decode cX1_begin 13 = .ok (.iload_n 1, 1) := by decide +kernel
theorem dX1_begin_14 : decode cX1_begin 14 = .ok (.aload_n 0, 1) := by decide +kernel
theorem dX1_begin_15 : decode cX1_begin 15 = .ok (.iload_n 1, 1) := by decide +kernel
theorem dX1_begin_16 : decode cX1_begin 16 = .ok (.iconst 3, 1) := by decide +kernel
theorem dX1_begin_17 : decode cX1_begin 17 = .ok (.invokevirtual 29, 3) := by decide +kernel
theorem dX1_begin_20 : decode cX1_begin 20 = .ok (.lastore, 1) := by decide +kernel
theorem dX1_begin_21 : decode cX1_begin 21 = .ok (.iinc 1 1, 3) := by decide +kernel
theorem dX1_begin_24 : decode cX1_begin 24 = .ok (.goto (-22), 3) := by decide +kernel
theorem dX1_begin_27 : decode cX1_begin 27 = .ok (.aload_n 0, 1) := by decide +kernel
theorem dX1_begin_28 : decode cX1_begin 28 = .ok (.iconst 0, 1) := by decide +kernel
theorem dX1_begin_29 : decode cX1_begin 29 = .ok (.putfield 33, 3) := by decide +kernel
theorem dX1_begin_32 : decode cX1_begin 32 = .ok (.return_, 1) := by decide +kernel
set_option maxRecDepth 20000 in
theorem ggX1_pass_X1_tick : GoodIn wsX1_pass wsX1_tick := goodIn_r _ [6, 1, 7, 26, 27, 28, 29, 30, 31, 32] (by decide +kernel) (by decide +kernel)
set_option maxRecDepth 20000 in
theorem gX1_pass_X1_tick : GoodIn wsX1_pass (wsV RX1 37 RX1 yX1_tick wsX1_tick) := goodIn_app (goodIn_of _ (by decide +kernel)) ggX1_pass_X1_tick
set_option maxRecDepth 20000 in
theorem ggX1_pass_X1_begin : GoodIn wsX1_pass wsX1_begin := goodIn_r _ [11, 12, 13, 14, 15, 16, 5, 17, 18, 19, 20, 21, 22, 26, 27, 28, 29, 30, 31, 32] (by decide +kernel) (by decide +kernel)
set_option maxRecDepth 20000 in
theorem gX1_pass_X1_begin : GoodIn wsX1_pass (wsV RX1 41 RX1 yX1_begin wsX1_begin) := goodIn_app (goodIn_of _ (by decide +kernel)) ggX1_pass_X1_begin
set_option maxRecDepth 20000 in
theorem ggX1_pass_X1_isResolved : GoodIn wsX1_pass wsX1_isResolved := goodIn_r _ [25] (by decide +kernel) (by decide +kernel)
set_option maxRecDepth 20000 in
theorem gX1_pass_X1_isResolved : GoodIn wsX1_pass (va_wsS RX1 44 yX1_isResolved wsX1_isResolved) := goodIn_app (goodIn_of _ (by decide +kernel)) ggX1_pass_X1_isResolved
theorem dX1_pass_0 : decode cX1_pass 0 = .ok (.aload_n 0, 1) := by decide +kernel
theorem dX1_pass_1 : decode cX1_pass 1 = .ok (.dup, 1) := by decide +kernel
theorem dX1_pass_2 : decode cX1_pass 2 = .ok (.getfield 23, 3) := by decide +kernel
theorem dX1_pass_5 : decode cX1_pass 5 = .ok (.lconst 1, 1) := by decide +kernel
theorem dX1_pass_6 : decode cX1_pass 6 = .ok (.ladd, 1) := by decide +kernel
theorem dX1_pass_7 : decode cX1_pass 7 = .ok (.putfield 23, 3) := by decide +kernel
theorem dX1_pass_10 : decode cX1_pass 10 = .ok (.aload_n 0, 1) := by decide +kernel
theorem dX1_pass_11 : decode cX1_pass 11 = .ok (.invokevirtual 37, 3) := by decide +kernel
theorem dX1_pass_14 : decode cX1_pass 14 = .ok (.istore_n 1, 1) := by decide +kernel
theorem dX1_pass_15 : decode cX1_pass 15 = .ok (.iload_n 1, 1) := by decide +kernel
theorem dX1_pass_16 : decode cX1_pass 16 = .ok (.ifCond .ne 7, 3) := by decide +kernel
theorem dX1_pass_19 : decode cX1_pass 19 = .ok (.aload_n 0, 1) := by decide +kernel
theorem dX1_pass_20 : decode cX1_pass 20 = .ok (.invokevirtual 41, 3) := by decide +kernel
theorem dX1_pass_23 : decode cX1_pass 23 = .ok (.iload_n 1, 1) := by decide +kernel
theorem dX1_pass_24 : decode cX1_pass 24 = .ok (.invokestatic 44, 3) := by decide +kernel
theorem dX1_pass_27 : decode cX1_pass 27 = .ok (.ifCond .eq 7, 3) := by decide +kernel
theorem dX1_pass_30 : decode cX1_pass 30 = .ok (.iconst 1, 1) := by decide +kernel
theorem dX1_pass_31 : decode cX1_pass 31 = .ok (.goto 4, 3) := by decide +kernel
theorem dX1_pass_34 : decode cX1_pass 34 = .ok (.iconst 0, 1) := by decide +kernel
theorem dX1_pass_35 : decode cX1_pass 35 = .ok (.iload_n 1, 1) := by decide +kernel
theorem dX1_pass_36 : decode cX1_pass 36 = .ok (.sipush 900, 3) := by decide +kernel
theorem dX1_pass_39 : decode cX1_pass 39 = .ok (.if_icmp .ne 7, 3) := by decide +kernel
theorem dX1_pass_42 : decode cX1_pass 42 = .ok (.iconst 2, 1) := by decide +kernel
theorem dX1_pass_43 : decode cX1_pass 43 = .ok (.goto 4, 3) := by decide +kernel
theorem dX1_pass_46 : decode cX1_pass 46 = .ok (.iconst 0, 1) := by decide +kernel
theorem dX1_pass_47 : decode cX1_pass 47 = .ok (.iadd, 1) := by decide +kernel
theorem dX1_pass_48 : decode cX1_pass 48 = .ok (.iload_n 1, 1) := by decide +kernel
theorem dX1_pass_49 : decode cX1_pass 49 = .ok (.ifCond .ne 7, 3) := by decide +kernel
theorem dX1_pass_52 : decode cX1_pass 52 = .ok (.iconst 4, 1) := by decide +kernel
theorem dX1_pass_53 : decode cX1_pass 53 = .ok (.goto 4, 3) := by decide +kernel
theorem dX1_pass_56 : decode cX1_pass 56 = .ok (.iconst 0, 1) := by decide +kernel
theorem dX1_pass_57 : decode cX1_pass 57 = .ok (.iadd, 1) := by decide +kernel
theorem dX1_pass_58 : decode cX1_pass 58 = .ok (.ireturn, 1) := by decide +kernel
set_option maxRecDepth 20000 in
theorem ggX1_skip_X1_pass : GoodIn wsX1_skip wsX1_pass := goodIn_r _ [6, 7, 8, 9, 10, 5, 11, 12, 13, 14, 15, 16, 17, 18, 19, 20, 21, 22, 23, 24, 25, 26, 27, 28, 29, 30, 31, 32, 33, 34, 35, 36, 37] (by decide +kernel) (by decide +kernel)
set_option maxRecDepth 20000 in
theorem gX1_skip_X1_pass : GoodIn wsX1_skip (wsV RX1 49 RX1 yX1_pass wsX1_pass) := goodIn_app (goodIn_of _ (by decide +kernel)) ggX1_skip_X1_pass
theorem dX1_skip_0 : decode cX1_skip 0 = .ok (.iload_n 1, 1) := by decide +kernel
theorem dX1_skip_1 : decode cX1_skip 1 = .ok (.iconst 1, 1) := by decide +kernel
theorem dX1_skip_2 : decode cX1_skip 2 = .ok (.if_icmp .lt 9, 3) := by decide +kernel
theorem dX1_skip_5 : decode cX1_skip 5 = .ok (.iload_n 1, 1) := by decide +kernel
theorem dX1_skip_6 : decode cX1_skip 6 = .ok (.ldc 48, 2) := by decide +kernel
theorem dX1_skip_8 : decode cX1_skip 8 = .ok (.if_icmp .le 5, 3) := by decide +kernel
theorem dX1_skip_11 : decode cX1_skip 11 = .ok (.iconst (-1), 1) := by decide +kernel
theorem dX1_skip_12 : decode cX1_skip 12 = .ok (.ireturn, 1) := by decide +kernel
theorem dX1_skip_13 : decode cX1_skip 13 = .ok (.iconst 0, 1) := by decide +kernel
theorem dX1_skip_14 : decode cX1_skip 14 = .ok (.istore_n 2, 1) := by decide +kernel
theorem dX1_skip_15 : decode cX1_skip 15 = .ok (.iconst 0, 1) := by decide +kernel
theorem dX1_skip_16 : decode cX1_skip 16 = .ok (.istore_n 3, 1) := by decide +kernel
theorem dX1_skip_17 : decode cX1_skip 17 = .ok (.iload_n 3, 1) := by decide +kernel
theorem dX1_skip_18 : decode cX1_skip 18 = .ok (.iload_n 1, 1) := by decide +kernel
theorem dX1_skip_19 : decode cX1_skip 19 = .ok (.if_icmp .ge 18, 3) := by decide +kernel
theorem dX1_skip_22 : decode cX1_skip 22 = .ok (.iload_n 2, 1) := by decide +kernel
theorem dX1_skip_23 : decode cX1_skip 23 = .ok (.aload_n 0, 1) := by decide +kernel
theorem dX1_skip_24 : decode cX1_skip 24 = .ok (.invokevirtual 49, 3) := by decide +kernel
theorem dX1_skip_27 : decode cX1_skip 27 = .ok (.iconst 1, 1) := by decide +kernel
theorem dX1_skip_28 : decode cX1_skip 28 = .ok (.iand, 1) := by decide +kernel
theorem dX1_skip_29 : decode cX1_skip 29 = .ok (.iadd, 1) := by decide +kernel
theorem dX1_skip_30 : decode cX1_skip 30 = .ok (.istore_n 2, 1) := by decide +kernel
theorem dX1_skip_31 : decode cX1_skip 31 = .ok (.iinc 3 1, 3) := by decide +kernel
theorem dX1_skip_34 : decode cX1_skip 34 = .ok (.goto (-17), 3) := by decide +kernel
theorem dX1_skip_37 : decode cX1_skip 37 = .ok (.iload_n 2, 1) := by decide +kernel
theorem dX1_skip_38 : decode cX1_skip 38 = .ok (.ireturn, 1) := by decide +kernel
set_option maxRecDepth 20000 in
theorem ggX1_may_X1_tick : GoodIn wsX1_may wsX1_tick := goodIn_r _ [5, 6, 7, 11, 12, 13, 14, 15, 16, 17] (by decide +kernel) (by decide +kernel)
set_option maxRecDepth 20000 in
theorem gX1_may_X1_tick : GoodIn wsX1_may (wsV RX1 37 RX1 yX1_tick wsX1_tick) := goodIn_app (goodIn_of _ (by decide +kernel)) ggX1_may_X1_tick
set_option maxRecDepth 20000 in
theorem ggX1_may_X1_phaseOf : GoodIn wsX1_may wsX1_phaseOf := goodIn_r _ [10] (by decide +kernel) (by decide +kernel)
set_option maxRecDepth 20000 in
theorem gX1_may_X1_phaseOf : GoodIn wsX1_may (va_wsS RX1 52 yX1_phaseOf wsX1_phaseOf) := goodIn_app (goodIn_of _ (by decide +kernel)) ggX1_may_X1_phaseOf
theorem dX1_may_0 : decode cX1_may 0 = .ok (.aload_n 0, 1) := by decide +kernel
theorem dX1_may_1 : decode cX1_may 1 = .ok (.invokevirtual 37, 3) := by decide +kernel
theorem dX1_may_4 : decode cX1_may 4 = .ok (.invokestatic 52, 3) := by decide +kernel
theorem dX1_may_7 : decode cX1_may 7 = .ok (.istore 4, 2) := by decide +kernel
theorem dX1_may_9 : decode cX1_may 9 = .ok (.iload_n 1, 1) := by decide +kernel
theorem dX1_may_10 : decode cX1_may 10 = .ok (.iconst 3, 1) := by decide +kernel
theorem dX1_may_11 : decode cX1_may 11 = .ok (.if_icmp .lt 9, 3) := by decide +kernel
theorem dX1_may_14 : decode cX1_may 14 = .ok (.iload_n 1, 1) := by decide +kernel
theorem dX1_may_15 : decode cX1_may 15 = .ok (.bipush 6, 2) := by decide +kernel
theorem dX1_may_17 : decode cX1_may 17 = .ok (.if_icmp .le 9, 3) := by decide +kernel
theorem dX1_may_20 : decode cX1_may 20 = .ok (.iload_n 1, 1) := by decide +kernel
theorem dX1_may_21 : decode cX1_may 21 = .ok (.bipush 13, 2) := by decide +kernel
theorem dX1_may_23 : decode cX1_may 23 = .ok (.if_icmp .ne 7, 3) := by decide +kernel
theorem dX1_may_26 : decode cX1_may 26 = .ok (.iconst 1, 1) := by decide +kernel
theorem dX1_may_27 : decode cX1_may 27 = .ok (.goto 4, 3) := by decide +kernel
theorem dX1_may_30 : decode cX1_may 30 = .ok (.iconst 0, 1) := by decide +kernel
theorem dX1_may_31 : decode cX1_may 31 = .ok (.istore 5, 2) := by decide +kernel
theorem dX1_may_33 : decode cX1_may 33 = .ok (.iload_n 1, 1) := by decide +kernel
theorem dX1_may_34 : decode cX1_may 34 = .ok (.ifCond .lt 13, 3) := by decide +kernel
theorem dX1_may_37 : decode cX1_may 37 = .ok (.iload_n 1, 1) := by decide +kernel
theorem dX1_may_38 : decode cX1_may 38 = .ok (.bipush 14, 2) := by decide +kernel
theorem dX1_may_40 : decode cX1_may 40 = .ok (.if_icmp .gt 7, 3) := by decide +kernel
theorem dX1_may_43 : decode cX1_may 43 = .ok (.iconst 1, 1) := by decide +kernel
theorem dX1_may_44 : decode cX1_may 44 = .ok (.goto 4, 3) := by decide +kernel
theorem dX1_may_47 : decode cX1_may 47 = .ok (.iconst 0, 1) := by decide +kernel
theorem dX1_may_48 : decode cX1_may 48 = .ok (.istore 6, 2) := by decide +kernel
theorem dX1_may_50 : decode cX1_may 50 = .ok (.iload 6, 2) := by decide +kernel
theorem dX1_may_52 : decode cX1_may 52 = .ok (.ifCond .eq 40, 3) := by decide +kernel
theorem dX1_may_55 : decode cX1_may 55 = .ok (.iload 4, 2) := by decide +kernel
theorem dX1_may_57 : decode cX1_may 57 = .ok (.ifCond .ne 8, 3) := by decide +kernel
theorem dX1_may_60 : decode cX1_may 60 = .ok (.iload 5, 2) := by decide +kernel
theorem dX1_may_62 : decode cX1_may 62 = .ok (.ifCond .ne 30, 3) := by decide +kernel
theorem dX1_may_65 : decode cX1_may 65 = .ok (.iload 4, 2) := by decide +kernel
theorem dX1_may_67 : decode cX1_may 67 = .ok (.iconst 4, 1) := by decide +kernel
theorem dX1_may_68 : decode cX1_may 68 = .ok (.if_icmp .ne 20, 3) := by decide +kernel
theorem dX1_may_71 : decode cX1_may 71 = .ok (.iload 5, 2) := by decide +kernel
theorem dX1_may_73 : decode cX1_may 73 = .ok (.ifCond .ne 19, 3) := by decide +kernel
theorem dX1_may_76 : decode cX1_may 76 = .ok (.iload_n 1, 1) := by decide +kernel
theorem dX1_may_77 : decode cX1_may 77 = .ok (.bipush 7, 2) := by decide +kernel
theorem dX1_may_79 : decode cX1_may 79 = .ok (.if_icmp .eq 13, 3) := by decide +kernel
theorem dX1_may_82 : decode cX1_may 82 = .ok (.iload_n 1, 1) := by decide +kernel
theorem dX1_may_83 : decode cX1_may 83 = .ok (.bipush 8, 2) := by decide +kernel
theorem dX1_may_85 : decode cX1_may 85 = .ok (.if_icmp .eq 7, 3) := by decide +kernel
theorem dX1_may_88 : decode cX1_may 88 = .ok (.iconst 1, 1) := by decide +kernel
theorem dX1_may_89 : decode cX1_may 89 = .ok (.goto 4, 3) := by decide +kernel
theorem dX1_may_92 : decode cX1_may 92 = .ok (.iconst 0, 1) := by decide +kernel
theorem dX1_may_93 : decode cX1_may 93 = .ok (.istore 6, 2) := by decide +kernel
theorem dX1_may_95 : decode cX1_may 95 = .ok (.iload 6, 2) := by decide +kernel
theorem dX1_may_97 : decode cX1_may 97 = .ok (.ifCond .eq 33, 3) := by decide +kernel
theorem dX1_may_100 : decode cX1_may 100 = .ok (.iload_n 1, 1) := by decide +kernel
theorem dX1_may_101 : decode cX1_may 101 = .ok (.iconst 5, 1) := by decide +kernel
theorem dX1_may_102 : decode cX1_may 102 = .ok (.if_icmp .ne 24, 3) := by decide +kernel
theorem dX1_may_105 : decode cX1_may 105 = .ok (.iload 4, 2) := by decide +kernel
theorem dX1_may_107 : decode cX1_may 107 = .ok (.iconst 2, 1) := by decide +kernel
theorem dX1_may_108 : decode cX1_may 108 = .ok (.if_icmp .ne 8, 3) := by decide +kernel
theorem dX1_may_111 : decode cX1_may 111 = .ok (.iload_n 2, 1) := by decide +kernel
theorem dX1_may_112 : decode cX1_may 112 = .ok (.iconst 4, 1) := by decide +kernel
theorem dX1_may_113 : decode cX1_may 113 = .ok (.if_icmp .gt 17, 3) := by decide +kernel
theorem dX1_may_116 : decode cX1_may 116 = .ok (.iload 4, 2) := by decide +kernel
theorem dX1_may_118 : decode cX1_may 118 = .ok (.iconst 3, 1) := by decide +kernel
theorem dX1_may_119 : decode cX1_may 119 = .ok (.if_icmp .ne 7, 3) := by decide +kernel
theorem dX1_may_122 : decode cX1_may 122 = .ok (.iload_n 3, 1) := by decide +kernel
theorem dX1_may_123 : decode cX1_may 123 = .ok (.ifCond .eq 7, 3) := by decide +kernel
theorem dX1_may_126 : decode cX1_may 126 = .ok (.iconst 1, 1) := by decide +kernel
theorem dX1_may_127 : decode cX1_may 127 = .ok (.goto 4, 3) := by decide +kernel
theorem dX1_may_130 : decode cX1_may 130 = .ok (.iconst 0, 1) := by decide +kernel
theorem dX1_may_131 : decode cX1_may 131 = .ok (.ireturn, 1) := by decide +kernel
set_option maxRecDepth 20000 in
theorem ggX1_look_X1_tick : GoodIn wsX1_look wsX1_tick := goodIn_r _ [7, 1, 2, 14, 15, 16, 17, 18, 19, 20] (by decide +kernel) (by decide +kernel)
set_option maxRecDepth 20000 in
theorem gX1_look_X1_tick : GoodIn wsX1_look (wsV RX1 37 RX1 yX1_tick wsX1_tick) := goodIn_app (goodIn_of _ (by decide +kernel)) ggX1_look_X1_tick
set_option maxRecDepth 20000 in
theorem ggX1_look_X1_phaseOf : GoodIn wsX1_look wsX1_phaseOf := goodIn_r _ [10] (by decide +kernel) (by decide +kernel)
set_option maxRecDepth 20000 in
theorem gX1_look_X1_phaseOf : GoodIn wsX1_look (va_wsS RX1 52 yX1_phaseOf wsX1_phaseOf) := goodIn_app (goodIn_of _ (by decide +kernel)) ggX1_look_X1_phaseOf
set_option maxRecDepth 20000 in
theorem ggX1_look_X1_isResolved : GoodIn wsX1_look wsX1_isResolved := goodIn_r _ [13] (by decide +kernel) (by decide +kernel)
set_option maxRecDepth 20000 in
theorem gX1_look_X1_isResolved : GoodIn wsX1_look (va_wsS RX1 44 yX1_isResolved wsX1_isResolved) := goodIn_app (goodIn_of _ (by decide +kernel)) ggX1_look_X1_isResolved
theorem dX1_look_0 : decode cX1_look 0 = .ok (.aload_n 0, 1) := by decide +kernel
theorem dX1_look_1 : decode cX1_look 1 = .ok (.invokevirtual 37, 3) := by decide +kernel
theorem dX1_look_4 : decode cX1_look 4 = .ok (.istore_n 2, 1) := by decide +kernel
theorem dX1_look_5 : decode cX1_look 5 = .ok (.iload_n 1, 1) := by decide +kernel
theorem dX1_look_6 : decode cX1_look 6 = .ok (.iconst 3, 1) := by decide +kernel
theorem dX1_look_7 : decode cX1_look 7 = .ok (.if_icmp .ge 42, 3) := by decide +kernel
theorem dX1_look_10 : decode cX1_look 10 = .ok (.iload_n 1, 1) := by decide +kernel
theorem dX1_look_11 : decode cX1_look 11 = .ok (.ifCond .ne 15, 3) := by decide +kernel
theorem dX1_look_14 : decode cX1_look 14 = .ok (.aload_n 0, 1) := by decide +kernel
theorem dX1_look_15 : decode cX1_look 15 = .ok (.getfield 23, 3) := by decide +kernel
theorem dX1_look_18 : decode cX1_look 18 = .ok (.ldc2_w 27, 3) := by decide +kernel
theorem dX1_look_21 : decode cX1_look 21 = .ok (.ldiv, 1) := by decide +kernel
theorem dX1_look_22 : decode cX1_look 22 = .ok (.l2i, 1) := by decide +kernel
theorem dX1_look_23 : decode cX1_look 23 = .ok (.goto 25, 3) := by decide +kernel
theorem dX1_look_26 : decode cX1_look 26 = .ok (.iload_n 1, 1) := by decide +kernel
theorem dX1_look_27 : decode cX1_look 27 = .ok (.iconst 1, 1) := by decide +kernel
theorem dX1_look_28 : decode cX1_look 28 = .ok (.if_icmp .ne 7, 3) := by decide +kernel
theorem dX1_look_31 : decode cX1_look 31 = .ok (.iload_n 2, 1) := by decide +kernel
theorem dX1_look_32 : decode cX1_look 32 = .ok (.goto 16, 3) := by decide +kernel
theorem dX1_look_35 : decode cX1_look 35 = .ok (.iload_n 1, 1) := by decide +kernel
theorem dX1_look_36 : decode cX1_look 36 = .ok (.iconst 2, 1) := by decide +kernel
theorem dX1_look_37 : decode cX1_look 37 = .ok (.if_icmp .ne 10, 3) := by decide +kernel
theorem dX1_look_40 : decode cX1_look 40 = .ok (.iload_n 2, 1) := by decide +kernel
theorem dX1_look_41 : decode cX1_look 41 = .ok (.invokestatic 52, 3) := by decide +kernel
theorem dX1_look_44 : decode cX1_look 44 = .ok (.goto 4, 3) := by decide +kernel
theorem dX1_look_47 : decode cX1_look 47 = .ok (.iconst (-1), 1) := by decide +kernel
theorem dX1_look_48 : decode cX1_look 48 = .ok (.ireturn, 1) := by decide +kernel
theorem dX1_look_49 : decode cX1_look 49 = .ok (.iconst 1, 1) := by decide +kernel
theorem dX1_look_50 : decode cX1_look 50 = .ok (.istore_n 3, 1) := by decide +kernel
theorem dX1_look_51 : decode cX1_look 51 = .ok (.iconst 0, 1) := by decide +kernel
theorem dX1_look_52 : decode cX1_look 52 = .ok (.istore 4, 2) := by decide +kernel
theorem dX1_look_54 : decode cX1_look 54 = .ok (.iload 4, 2) := by decide +kernel
theorem dX1_look_56 : decode cX1_look 56 = .ok (.sipush 1200, 3) := by decide +kernel
theorem dX1_look_59 : decode cX1_look 59 = .ok (.if_icmp .ge 50, 3) := by decide +kernel
theorem dX1_look_62 : decode cX1_look 62 = .ok (.iload_n 1, 1) := by decide +kernel
theorem dX1_look_63 : decode cX1_look 63 = .ok (.iconst 3, 1) := by decide +kernel
theorem dX1_look_64 : decode cX1_look 64 = .ok (.if_icmp .ne 19, 3) := by decide +kernel
theorem dX1_look_67 : decode cX1_look 67 = .ok (.iload_n 2, 1) := by decide +kernel
theorem dX1_look_68 : decode cX1_look 68 = .ok (.iload_n 3, 1) := by decide +kernel
theorem dX1_look_69 : decode cX1_look 69 = .ok (.iadd, 1) := by decide +kernel
theorem dX1_look_70 : decode cX1_look 70 = .ok (.sipush 1000, 3) := by decide +kernel
theorem dX1_look_73 : decode cX1_look 73 = .ok (.irem, 1) := by decide +kernel
theorem dX1_look_74 : decode cX1_look 74 = .ok (.invokestatic 44, 3) := by decide +kernel
theorem dX1_look_77 : decode cX1_look 77 = .ok (.ifCond .ne 32, 3) := by decide +kernel
theorem dX1_look_80 : decode cX1_look 80 = .ok (.goto 20, 3) := by decide +kernel
theorem dX1_look_83 : decode cX1_look 83 = .ok (.iload_n 2, 1) := by decide +kernel
theorem dX1_look_84 : decode cX1_look 84 = .ok (.iload_n 3, 1) := by decide +kernel
theorem dX1_look_85 : decode cX1_look 85 = .ok (.iadd, 1) := by decide +kernel
theorem dX1_look_86 : decode cX1_look 86 = .ok (.sipush 1000, 3) := by decide +kernel
theorem dX1_look_89 : decode cX1_look 89 = .ok (.irem, 1) := by decide +kernel
theorem dX1_look_90 : decode cX1_look 90 = .ok (.invokestatic 52, 3) := by decide +kernel
theorem dX1_look_93 : decode cX1_look 93 = .ok (.iload_n 2, 1) := by decide +kernel
theorem dX1_look_94 : decode cX1_look 94 = .ok (.invokestatic 52, 3) := by decide +kernel
theorem dX1_look_97 : decode cX1_look 97 = .ok (.if_icmp .ne 12, 3) := by decide +kernel
theorem dX1_look_100 : decode cX1_look 100 = .ok (.iinc 3 1, 3) := by decide +kernel
theorem dX1_look_103 : decode cX1_look 103 = .ok (.iinc 4 1, 3) := by decide +kernel
theorem dX1_look_106 : decode cX1_look 106 = .ok (.goto (-52), 3) := by decide +kernel
theorem dX1_look_109 : decode cX1_look 109 = .ok (.iload_n 1, 1) := by decide +kernel
theorem dX1_look_110 : decode cX1_look 110 = .ok (.iconst 4, 1) := by decide +kernel
theorem dX1_look_111 : decode cX1_look 111 = .ok (.if_icmp .le 7, 3) := by decide +kernel
theorem dX1_look_114 : decode cX1_look 114 = .ok (.iconst (-1), 1) := by decide +kernel
theorem dX1_look_115 : decode cX1_look 115 = .ok (.goto 4, 3) := by decide +kernel
theorem dX1_look_118 : decode cX1_look 118 = .ok (.iload_n 3, 1) := by decide +kernel
theorem dX1_look_119 : decode cX1_look 119 = .ok (.ireturn, 1) := by decide +kernel
theorem dX1_isPosition_0 : decode cX1_isPosition 0 = .ok (.iload_n 0, 1) := by decide +kernel
theorem dX1_isPosition_1 : decode cX1_isPosition 1 = .ok (.ifCond .lt 14, 3) := by decide +kernel
theorem dX1_isPosition_4 : decode cX1_isPosition 4 = .ok (.iload_n 0, 1) := by decide +kernel
theorem dX1_isPosition_5 : decode cX1_isPosition 5 = .ok (.sipush 200, 3) := by decide +kernel
theorem dX1_isPosition_8 : decode cX1_isPosition 8 = .ok (.if_icmp .ge 7, 3) := by decide +kernel
theorem dX1_isPosition_11 : decode cX1_isPosition 11 = .ok (.iconst 1, 1) := by decide +kernel
theorem dX1_isPosition_12 : decode cX1_isPosition 12 = .ok (.goto 4, 3) := by decide +kernel
theorem dX1_isPosition_15 : decode cX1_isPosition 15 = .ok (.iconst 0, 1) := by decide +kernel
theorem dX1_isPosition_16 : decode cX1_isPosition 16 = .ok (.ireturn, 1) := by decide +kernel
theorem dX1_isWithin_0 : decode cX1_isWithin 0 = .ok (.lload_n 0, 1) := by decide +kernel
theorem dX1_isWithin_1 : decode cX1_isWithin 1 = .ok (.ldc2_w 56, 3) := by decide +kernel
theorem dX1_isWithin_4 : decode cX1_isWithin 4 = .ok (.lcmp, 1) := by decide +kernel
theorem dX1_isWithin_5 : decode cX1_isWithin 5 = .ok (.ifCond .lt 15, 3) := by decide +kernel
theorem dX1_isWithin_8 : decode cX1_isWithin 8 = .ok (.lload_n 0, 1) := by decide +kernel
theorem dX1_isWithin_9 : decode cX1_isWithin 9 = .ok (.ldc2_w 58, 3) := by decide +kernel
theorem dX1_isWithin_12 : decode cX1_isWithin 12 = .ok (.lcmp, 1) := by decide +kernel
theorem dX1_isWithin_13 : decode cX1_isWithin 13 = .ok (.ifCond .gt 7, 3) := by decide +kernel
theorem dX1_isWithin_16 : decode cX1_isWithin 16 = .ok (.iconst 1, 1) := by decide +kernel
theorem dX1_isWithin_17 : decode cX1_isWithin 17 = .ok (.goto 4, 3) := by decide +kernel
theorem dX1_isWithin_20 : decode cX1_isWithin 20 = .ok (.iconst 0, 1) := by decide +kernel
theorem dX1_isWithin_21 : decode cX1_isWithin 21 = .ok (.ireturn, 1) := by decide +kernel
set_option maxRecDepth 20000 in
theorem ggX1_move_X1_isPosition : GoodIn wsX1_move wsX1_isPosition := goodIn_r _ [9] (by decide +kernel) (by decide +kernel)
set_option maxRecDepth 20000 in
theorem gX1_move_X1_isPosition : GoodIn wsX1_move (va_wsS RX1 60 yX1_isPosition wsX1_isPosition) := goodIn_app (goodIn_of _ (by decide +kernel)) ggX1_move_X1_isPosition
set_option maxRecDepth 20000 in
theorem ggX1_move_X1_row : GoodIn wsX1_move wsX1_row := goodIn_r _ [13, 4, 3, 5, 14, 6, 7, 8, 9, 20, 21, 22, 23, 24, 25, 26] (by decide +kernel) (by decide +kernel)
set_option maxRecDepth 20000 in
theorem gX1_move_X1_row : GoodIn wsX1_move (wsV RX1 29 RX1 yX1_row wsX1_row) := goodIn_app (goodIn_of _ (by decide +kernel)) ggX1_move_X1_row
set_option maxRecDepth 20000 in
theorem ggX1_move_X1_isWithin : GoodIn wsX1_move wsX1_isWithin := goodIn_r _ [17, 18, 19] (by decide +kernel) (by decide +kernel)
set_option maxRecDepth 20000 in
theorem gX1_move_X1_isWithin : GoodIn wsX1_move (va_wsS RX1 67 yX1_isWithin wsX1_isWithin) := goodIn_app (goodIn_of _ (by decide +kernel)) ggX1_move_X1_isWithin
theorem dX1_move_0 : decode cX1_move 0 = .ok (.iload_n 1, 1) := by decide +kernel
theorem dX1_move_1 : decode cX1_move 1 = .ok (.invokestatic 60, 3) := by decide +kernel
theorem dX1_move_4 : decode cX1_move 4 = .ok (.ifCond .eq 64, 3) := by decide +kernel
theorem dX1_move_7 : decode cX1_move 7 = .ok (.lload_n 2, 1) := by decide +kernel
theorem dX1_move_8 : decode cX1_move 8 = .ok (.ldc2_w 63, 3) := by decide +kernel
theorem dX1_move_11 : decode cX1_move 11 = .ok (.lcmp, 1) := by decide +kernel
theorem dX1_move_12 : decode cX1_move 12 = .ok (.ifCond .lt 56, 3) := by decide +kernel
theorem dX1_move_15 : decode cX1_move 15 = .ok (.lload_n 2, 1) := by decide +kernel
theorem dX1_move_16 : decode cX1_move 16 = .ok (.ldc2_w 65, 3) := by decide +kernel
theorem dX1_move_19 : decode cX1_move 19 = .ok (.lcmp, 1) := by decide +kernel
theorem dX1_move_20 : decode cX1_move 20 = .ok (.ifCond .gt 48, 3) := by decide +kernel
theorem dX1_move_23 : decode cX1_move 23 = .ok (.aload_n 0, 1) := by decide +kernel
theorem dX1_move_24 : decode cX1_move 24 = .ok (.iload_n 1, 1) := by decide +kernel
theorem dX1_move_25 : decode cX1_move 25 = .ok (.iconst 3, 1) := by decide +kernel
theorem dX1_move_26 : decode cX1_move 26 = .ok (.invokevirtual 29, 3) := by decide +kernel
theorem dX1_move_29 : decode cX1_move 29 = .ok (.lload_n 2, 1) := by decide +kernel
theorem dX1_move_30 : decode cX1_move 30 = .ok (.ladd, 1) := by decide +kernel
theorem dX1_move_31 : decode cX1_move 31 = .ok (.invokestatic 67, 3) := by decide +kernel
theorem dX1_move_34 : decode cX1_move 34 = .ok (.ifCond .eq 34, 3) := by decide +kernel
theorem dX1_move_37 : decode cX1_move 37 = .ok (.lload_n 2, 1) := by decide +kernel
theorem dX1_move_38 : decode cX1_move 38 = .ok (.lconst 0, 1) := by decide +kernel
theorem dX1_move_39 : decode cX1_move 39 = .ok (.lcmp, 1) := by decide +kernel
theorem dX1_move_40 : decode cX1_move 40 = .ok (.ifCond .ge 14, 3) := by decide +kernel
theorem dX1_move_43 : decode cX1_move 43 = .ok (.aload_n 0, 1) := by decide +kernel
theorem dX1_move_44 : decode cX1_move 44 = .ok (.iload_n 1, 1) := by decide +kernel
theorem dX1_move_45 : decode cX1_move 45 = .ok (.iconst 1, 1) := by decide +kernel
theorem dX1_move_46 : decode cX1_move 46 = .ok (.invokevirtual 29, 3) := by decide +kernel
theorem dX1_move_49 : decode cX1_move 49 = .ok (.lload_n 2, 1) := by decide +kernel
theorem dX1_move_50 : decode cX1_move 50 = .ok (.lsub, 1) := by decide +kernel
theorem dX1_move_51 : decode cX1_move 51 = .ok (.goto 11, 3) := by decide +kernel
theorem dX1_move_54 : decode cX1_move 54 = .ok (.aload_n 0, 1) := by decide +kernel
theorem dX1_move_55 : decode cX1_move 55 = .ok (.iload_n 1, 1) := by decide +kernel
theorem dX1_move_56 : decode cX1_move 56 = .ok (.iconst 2, 1) := by decide +kernel
theorem dX1_move_57 : decode cX1_move 57 = .ok (.invokevirtual 29, 3) := by decide +kernel
theorem dX1_move_60 : decode cX1_move 60 = .ok (.lload_n 2, 1) := by decide +kernel
theorem dX1_move_61 : decode cX1_move 61 = .ok (.ladd, 1) := by decide +kernel
theorem dX1_move_62 : decode cX1_move 62 = .ok (.invokestatic 67, 3) := by decide +kernel
theorem dX1_move_65 : decode cX1_move 65 = .ok (.ifCond .ne 5, 3) := by decide +kernel
theorem dX1_move_68 : decode cX1_move 68 = .ok (.iconst (-1), 1) := by decide +kernel
theorem dX1_move_69 : decode cX1_move 69 = .ok (.ireturn, 1) := by decide +kernel
theorem dX1_move_70 : decode cX1_move 70 = .ok (.lload_n 2, 1) := by decide +kernel
theorem dX1_move_71 : decode cX1_move 71 = .ok (.lconst 0, 1) := by decide +kernel
theorem dX1_move_72 : decode cX1_move 72 = .ok (.lcmp, 1) := by decide +kernel
theorem dX1_move_73 : decode cX1_move 73 = .ok (.ifCond .ne 5, 3) := by decide +kernel
theorem dX1_move_76 : decode cX1_move 76 = .ok (.iconst 0, 1) := by decide +kernel
theorem dX1_move_77 : decode cX1_move 77 = .ok (.ireturn, 1) := by decide +kernel
theorem dX1_move_78 : decode cX1_move 78 = .ok (.aload_n 0, 1) := by decide +kernel
theorem dX1_move_79 : decode cX1_move 79 = .ok (.getfield 13, 3) := by decide +kernel
theorem dX1_move_82 : decode cX1_move 82 = .ok (.aload_n 0, 1) := by decide +kernel
theorem dX1_move_83 : decode cX1_move 83 = .ok (.getfield 33, 3) := by decide +kernel
theorem dX1_move_86 : decode cX1_move 86 = .ok (.iload_n 1, 1) := by decide +kernel
theorem dX1_move_87 : decode cX1_move 87 = .ok (.iastore, 1) := by decide +kernel
theorem dX1_move_88 : decode cX1_move 88 = .ok (.aload_n 0, 1) := by decide +kernel
theorem dX1_move_89 : decode cX1_move 89 = .ok (.getfield 17, 3) := by decide +kernel
theorem dX1_move_92 : decode cX1_move 92 = .ok (.aload_n 0, 1) := by decide +kernel
theorem dX1_move_93 : decode cX1_move 93 = .ok (.getfield 33, 3) := by decide +kernel
theorem dX1_move_96 : decode cX1_move 96 = .ok (.lload_n 2, 1) := by decide +kernel
theorem dX1_move_97 : decode cX1_move 97 = .ok (.lastore, 1) := by decide +kernel
theorem dX1_move_98 : decode cX1_move 98 = .ok (.aload_n 0, 1) := by decide +kernel
theorem dX1_move_99 : decode cX1_move 99 = .ok (.dup, 1) := by decide +kernel
theorem dX1_move_100 : decode cX1_move 100 = .ok (.getfield 33, 3) := by decide +kernel
theorem dX1_move_103 : decode cX1_move 103 = .ok (.iconst 1, 1) := by decide +kernel
theorem dX1_move_104 : decode cX1_move 104 = .ok (.iadd, 1) := by decide +kernel
theorem dX1_move_105 : decode cX1_move 105 = .ok (.putfield 33, 3) := by decide +kernel
theorem dX1_move_108 : decode cX1_move 108 = .ok (.iconst 1, 1) := by decide +kernel
theorem dX1_move_109 : decode cX1_move 109 = .ok (.ireturn, 1) := by decide +kernel
set_option maxRecDepth 20000 in
theorem ggX1_row_X1_isPosition : GoodIn wsX1_row wsX1_isPosition := goodIn_r _ [8] (by decide +kernel) (by decide +kernel)
set_option maxRecDepth 20000 in
theorem gX1_row_X1_isPosition : GoodIn wsX1_row (va_wsS RX1 60 yX1_isPosition wsX1_isPosition) := goodIn_app (goodIn_of _ (by decide +kernel)) ggX1_row_X1_isPosition
theorem dX1_row_0 : decode cX1_row 0 = .ok (.iload_n 1, 1) := by decide +kernel
theorem dX1_row_1 : decode cX1_row 1 = .ok (.invokestatic 60, 3) := by decide +kernel
theorem dX1_row_4 : decode cX1_row 4 = .ok (.ifCond .eq 12, 3) := by decide +kernel
theorem dX1_row_7 : decode cX1_row 7 = .ok (.iload_n 2, 1) := by decide +kernel
theorem dX1_row_8 : decode cX1_row 8 = .ok (.ifCond .lt 8, 3) := by decide +kernel
theorem dX1_row_11 : decode cX1_row 11 = .ok (.iload_n 2, 1) := by decide +kernel
theorem dX1_row_12 : decode cX1_row 12 = .ok (.iconst 4, 1) := by decide +kernel
theorem dX1_row_13 : decode cX1_row 13 = .ok (.if_icmp .le 5, 3) := by decide +kernel
theorem dX1_row_16 : decode cX1_row 16 = .ok (.lconst 0, 1) := by decide +kernel
theorem dX1_row_17 : decode cX1_row 17 = .ok (.lreturn, 1) := by decide +kernel
theorem dX1_row_18 : decode cX1_row 18 = .ok (.lconst 0, 1) := by decide +kernel
theorem dX1_row_19 : decode cX1_row 19 = .ok (.lstore_n 3, 1) := by decide +kernel
theorem dX1_row_20 : decode cX1_row 20 = .ok (.lconst 0, 1) := by decide +kernel
theorem dX1_row_21 : decode cX1_row 21 = .ok (.lstore 5, 2) := by decide +kernel
theorem dX1_row_23 : decode cX1_row 23 = .ok (.lconst 0, 1) := by decide +kernel
theorem dX1_row_24 : decode cX1_row 24 = .ok (.lstore 7, 2) := by decide +kernel
theorem dX1_row_26 : decode cX1_row 26 = .ok (.iconst 0, 1) := by decide +kernel
theorem dX1_row_27 : decode cX1_row 27 = .ok (.istore 9, 2) := by decide +kernel
theorem dX1_row_29 : decode cX1_row 29 = .ok (.iload 9, 2) := by decide +kernel
theorem dX1_row_31 : decode cX1_row 31 = .ok (.aload_n 0, 1) := by decide +kernel
theorem dX1_row_32 : decode cX1_row 32 = .ok (.getfield 33, 3) := by decide +kernel
theorem dX1_row_35 : decode cX1_row 35 = .ok (.if_icmp .ge 81, 3) := by decide +kernel
theorem dX1_row_38 : decode cX1_row 38 = .ok (.aload_n 0, 1) := by decide +kernel
theorem dX1_row_39 : decode cX1_row 39 = .ok (.getfield 13, 3) := by decide +kernel
theorem dX1_row_42 : decode cX1_row 42 = .ok (.iload 9, 2) := by decide +kernel
theorem dX1_row_44 : decode cX1_row 44 = .ok (.iaload, 1) := by decide +kernel
theorem dX1_row_45 : decode cX1_row 45 = .ok (.iload_n 1, 1) := by decide +kernel
theorem dX1_row_46 : decode cX1_row 46 = .ok (.if_icmp .ne 64, 3) := by decide +kernel
theorem dX1_row_49 : decode cX1_row 49 = .ok (.aload_n 0, 1) := by decide +kernel
theorem dX1_row_50 : decode cX1_row 50 = .ok (.getfield 17, 3) := by decide +kernel
theorem dX1_row_53 : decode cX1_row 53 = .ok (.iload 9, 2) := by decide +kernel
theorem dX1_row_55 : decode cX1_row 55 = .ok (.laload, 1) := by decide +kernel
theorem dX1_row_56 : decode cX1_row 56 = .ok (.lconst 0, 1) := by decide +kernel
theorem dX1_row_57 : decode cX1_row 57 = .ok (.lcmp, 1) := by decide +kernel
theorem dX1_row_58 : decode cX1_row 58 = .ok (.ifCond .ge 15, 3) := by decide +kernel
theorem dX1_row_61 : decode cX1_row 61 = .ok (.lload_n 3, 1) := by decide +kernel
theorem dX1_row_62 : decode cX1_row 62 = .ok (.aload_n 0, 1) := by decide +kernel
theorem dX1_row_63 : decode cX1_row 63 = .ok (.getfield 17, 3) := by decide +kernel
theorem dX1_row_66 : decode cX1_row 66 = .ok (.iload 9, 2) := by decide +kernel
theorem dX1_row_68 : decode cX1_row 68 = .ok (.laload, 1) := by decide +kernel
theorem dX1_row_69 : decode cX1_row 69 = .ok (.lsub, 1) := by decide +kernel
theorem dX1_row_70 : decode cX1_row 70 = .ok (.goto 4, 3) := by decide +kernel
theorem dX1_row_73 : decode cX1_row 73 = .ok (.lload_n 3, 1) := by decide +kernel
theorem dX1_row_74 : decode cX1_row 74 = .ok (.lstore_n 3, 1) := by decide +kernel
theorem dX1_row_75 : decode cX1_row 75 = .ok (.aload_n 0, 1) := by decide +kernel
theorem dX1_row_76 : decode cX1_row 76 = .ok (.getfield 17, 3) := by decide +kernel
theorem dX1_row_79 : decode cX1_row 79 = .ok (.iload 9, 2) := by decide +kernel
theorem dX1_row_81 : decode cX1_row 81 = .ok (.laload, 1) := by decide +kernel
theorem dX1_row_82 : decode cX1_row 82 = .ok (.lconst 0, 1) := by decide +kernel
theorem dX1_row_83 : decode cX1_row 83 = .ok (.lcmp, 1) := by decide +kernel
theorem dX1_row_84 : decode cX1_row 84 = .ok (.ifCond .le 16, 3) := by decide +kernel
theorem dX1_row_87 : decode cX1_row 87 = .ok (.lload 5, 2) := by decide +kernel
theorem dX1_row_89 : decode cX1_row 89 = .ok (.aload_n 0, 1) := by decide +kernel
theorem dX1_row_90 : decode cX1_row 90 = .ok (.getfield 17, 3) := by decide +kernel
theorem dX1_row_93 : decode cX1_row 93 = .ok (.iload 9, 2) := by decide +kernel
theorem dX1_row_95 : decode cX1_row 95 = .ok (.laload, 1) := by decide +kernel
theorem dX1_row_96 : decode cX1_row 96 = .ok (.ladd, 1) := by decide +kernel
theorem dX1_row_97 : decode cX1_row 97 = .ok (.goto 5, 3) := by decide +kernel
theorem dX1_row_100 : decode cX1_row 100 = .ok (.lload 5, 2) := by decide +kernel
theorem dX1_row_102 : decode cX1_row 102 = .ok (.lstore 5, 2) := by decide +kernel
theorem dX1_row_104 : decode cX1_row 104 = .ok (.lload 7, 2) := by decide +kernel
theorem dX1_row_106 : decode cX1_row 106 = .ok (.lconst 1, 1) := by decide +kernel
theorem dX1_row_107 : decode cX1_row 107 = .ok (.ladd, 1) := by decide +kernel
theorem dX1_row_108 : decode cX1_row 108 = .ok (.lstore 7, 2) := by decide +kernel
theorem dX1_row_110 : decode cX1_row 110 = .ok (.iinc 9 1, 3) := by decide +kernel
theorem dX1_row_113 : decode cX1_row 113 = .ok (.goto (-84), 3) := by decide +kernel
theorem dX1_row_116 : decode cX1_row 116 = .ok (.iload_n 2, 1) := by decide +kernel
theorem dX1_row_117 : decode cX1_row 117 = .ok (.ifCond .ne 12, 3) := by decide +kernel
theorem dX1_row_120 : decode cX1_row 120 = .ok (.aload_n 0, 1) := by decide +kernel
theorem dX1_row_121 : decode cX1_row 121 = .ok (.getfield 7, 3) := by decide +kernel
theorem dX1_row_124 : decode cX1_row 124 = .ok (.iload_n 1, 1) := by decide +kernel
theorem dX1_row_125 : decode cX1_row 125 = .ok (.laload, 1) := by decide +kernel
theorem dX1_row_126 : decode cX1_row 126 = .ok (.goto 43, 3) := by decide +kernel
theorem dX1_row_129 : decode cX1_row 129 = .ok (.iload_n 2, 1) := by decide +kernel
theorem dX1_row_130 : decode cX1_row 130 = .ok (.iconst 1, 1) := by decide +kernel
theorem dX1_row_131 : decode cX1_row 131 = .ok (.if_icmp .ne 7, 3) := by decide +kernel
theorem dX1_row_134 : decode cX1_row 134 = .ok (.lload_n 3, 1) := by decide +kernel
theorem dX1_row_135 : decode cX1_row 135 = .ok (.goto 34, 3) := by decide +kernel
theorem dX1_row_138 : decode cX1_row 138 = .ok (.iload_n 2, 1) := by decide +kernel
theorem dX1_row_139 : decode cX1_row 139 = .ok (.iconst 2, 1) := by decide +kernel
theorem dX1_row_140 : decode cX1_row 140 = .ok (.if_icmp .ne 8, 3) := by decide +kernel
theorem dX1_row_143 : decode cX1_row 143 = .ok (.lload 5, 2) := by decide +kernel
theorem dX1_row_145 : decode cX1_row 145 = .ok (.goto 24, 3) := by decide +kernel
theorem dX1_row_148 : decode cX1_row 148 = .ok (.iload_n 2, 1) := by decide +kernel
theorem dX1_row_149 : decode cX1_row 149 = .ok (.iconst 3, 1) := by decide +kernel
theorem dX1_row_150 : decode cX1_row 150 = .ok (.if_icmp .ne 17, 3) := by decide +kernel
theorem dX1_row_153 : decode cX1_row 153 = .ok (.aload_n 0, 1) := by decide +kernel
theorem dX1_row_154 : decode cX1_row 154 = .ok (.getfield 7, 3) := by decide +kernel
theorem dX1_row_157 : decode cX1_row 157 = .ok (.iload_n 1, 1) := by decide +kernel
theorem dX1_row_158 : decode cX1_row 158 = .ok (.laload, 1) := by decide +kernel
theorem dX1_row_159 : decode cX1_row 159 = .ok (.lload_n 3, 1) := by decide +kernel
theorem dX1_row_160 : decode cX1_row 160 = .ok (.lsub, 1) := by decide +kernel
theorem dX1_row_161 : decode cX1_row 161 = .ok (.lload 5, 2) := by decide +kernel
theorem dX1_row_163 : decode cX1_row 163 = .ok (.ladd, 1) := by decide +kernel
theorem dX1_row_164 : decode cX1_row 164 = .ok (.goto 5, 3) := by decide +kernel
theorem dX1_row_167 : decode cX1_row 167 = .ok (.lload 7, 2) := by decide +kernel
theorem dX1_row_169 : decode cX1_row 169 = .ok (.lreturn, 1) := by decide +kernel
set_option maxRecDepth 20000 in
theorem ggX1_isTold_X1_isPosition : GoodIn wsX1_isTold wsX1_isPosition := goodIn_r _ [5] (by decide +kernel) (by decide +kernel)
set_option maxRecDepth 20000 in
theorem gX1_isTold_X1_isPosition : GoodIn wsX1_isTold (va_wsS RX1 60 yX1_isPosition wsX1_isPosition) := goodIn_app (goodIn_of _ (by decide +kernel)) ggX1_isTold_X1_isPosition
set_option maxRecDepth 20000 in
theorem ggX1_isTold_X1_row : GoodIn wsX1_isTold wsX1_row := goodIn_r _ [9, 10, 11, 12, 1, 2, 3, 4, 5, 13, 14, 15, 16, 17, 18, 19] (by decide +kernel) (by decide +kernel)
set_option maxRecDepth 20000 in
theorem gX1_isTold_X1_row : GoodIn wsX1_isTold (wsV RX1 29 RX1 yX1_row wsX1_row) := goodIn_app (goodIn_of _ (by decide +kernel)) ggX1_isTold_X1_row
theorem dX1_isTold_0 : decode cX1_isTold 0 = .ok (.iload_n 1, 1) := by decide +kernel
theorem dX1_isTold_1 : decode cX1_isTold 1 = .ok (.invokestatic 60, 3) := by decide +kernel
theorem dX1_isTold_4 : decode cX1_isTold 4 = .ok (.ifCond .eq 29, 3) := by decide +kernel
theorem dX1_isTold_7 : decode cX1_isTold 7 = .ok (.aload_n 0, 1) := by decide +kernel
theorem dX1_isTold_8 : decode cX1_isTold 8 = .ok (.getfield 7, 3) := by decide +kernel
theorem dX1_isTold_11 : decode cX1_isTold 11 = .ok (.iload_n 1, 1) := by decide +kernel
theorem dX1_isTold_12 : decode cX1_isTold 12 = .ok (.laload, 1) := by decide +kernel
theorem dX1_isTold_13 : decode cX1_isTold 13 = .ok (.lconst 0, 1) := by decide +kernel
theorem dX1_isTold_14 : decode cX1_isTold 14 = .ok (.lcmp, 1) := by decide +kernel
theorem dX1_isTold_15 : decode cX1_isTold 15 = .ok (.ifCond .ne 14, 3) := by decide +kernel
theorem dX1_isTold_18 : decode cX1_isTold 18 = .ok (.aload_n 0, 1) := by decide +kernel
theorem dX1_isTold_19 : decode cX1_isTold 19 = .ok (.iload_n 1, 1) := by decide +kernel
theorem dX1_isTold_20 : decode cX1_isTold 20 = .ok (.iconst 4, 1) := by decide +kernel
theorem dX1_isTold_21 : decode cX1_isTold 21 = .ok (.invokevirtual 29, 3) := by decide +kernel
theorem dX1_isTold_24 : decode cX1_isTold 24 = .ok (.lconst 0, 1) := by decide +kernel
theorem dX1_isTold_25 : decode cX1_isTold 25 = .ok (.lcmp, 1) := by decide +kernel
theorem dX1_isTold_26 : decode cX1_isTold 26 = .ok (.ifCond .le 7, 3) := by decide +kernel
theorem dX1_isTold_29 : decode cX1_isTold 29 = .ok (.iconst 1, 1) := by decide +kernel
theorem dX1_isTold_30 : decode cX1_isTold 30 = .ok (.goto 4, 3) := by decide +kernel
theorem dX1_isTold_33 : decode cX1_isTold 33 = .ok (.iconst 0, 1) := by decide +kernel
theorem dX1_isTold_34 : decode cX1_isTold 34 = .ok (.ireturn, 1) := by decide +kernel
theorem dX1_put_0 : decode cX1_put 0 = .ok (.aload_n 0, 1) := by decide +kernel
theorem dX1_put_1 : decode cX1_put 1 = .ok (.getfield 20, 3) := by decide +kernel
theorem dX1_put_4 : decode cX1_put 4 = .ok (.aload_n 0, 1) := by decide +kernel
theorem dX1_put_5 : decode cX1_put 5 = .ok (.getfield 71, 3) := by decide +kernel
theorem dX1_put_8 : decode cX1_put 8 = .ok (.iload_n 1, 1) := by decide +kernel
theorem dX1_put_9 : decode cX1_put 9 = .ok (.iastore, 1) := by decide +kernel
theorem dX1_put_10 : decode cX1_put 10 = .ok (.aload_n 0, 1) := by decide +kernel
theorem dX1_put_11 : decode cX1_put 11 = .ok (.dup, 1) := by decide +kernel
theorem dX1_put_12 : decode cX1_put 12 = .ok (.getfield 71, 3) := by decide +kernel
theorem dX1_put_15 : decode cX1_put 15 = .ok (.iconst 1, 1) := by decide +kernel
theorem dX1_put_16 : decode cX1_put 16 = .ok (.iadd, 1) := by decide +kernel
theorem dX1_put_17 : decode cX1_put 17 = .ok (.putfield 71, 3) := by decide +kernel
theorem dX1_put_20 : decode cX1_put 20 = .ok (.return_, 1) := by decide +kernel
set_option maxRecDepth 20000 in
theorem ggX1_number_X1_put : GoodIn wsX1_number wsX1_put := goodIn_r _ [6, 7, 8, 9, 10, 11, 12, 13, 14, 15] (by decide +kernel) (by decide +kernel)
set_option maxRecDepth 20000 in
theorem gX1_number_X1_put : GoodIn wsX1_number (wsV RX1 74 RX1 yX1_put wsX1_put) := goodIn_app (goodIn_of _ (by decide +kernel)) ggX1_number_X1_put
theorem dX1_number_0 : decode cX1_number 0 = .ok (.lload_n 1, 1) := by decide +kernel
theorem dX1_number_1 : decode cX1_number 1 = .ok (.lconst 0, 1) := by decide +kernel
theorem dX1_number_2 : decode cX1_number 2 = .ok (.lcmp, 1) := by decide +kernel
theorem dX1_number_3 : decode cX1_number 3 = .ok (.ifCond .ge 9, 3) := by decide +kernel
theorem dX1_number_6 : decode cX1_number 6 = .ok (.aload_n 0, 1) := by decide +kernel
theorem dX1_number_7 : decode cX1_number 7 = .ok (.bipush 45, 2) := by decide +kernel
theorem dX1_number_9 : decode cX1_number 9 = .ok (.invokevirtual 74, 3) := by decide +kernel
theorem dX1_number_12 : decode cX1_number 12 = .ok (.iconst 1, 1) := by decide +kernel
theorem dX1_number_13 : decode cX1_number 13 = .ok (.istore_n 3, 1) := by decide +kernel
theorem dX1_number_14 : decode cX1_number 14 = .ok (.lload_n 1, 1) := by decide +kernel
theorem dX1_number_15 : decode cX1_number 15 = .ok (.ldc2_w 78, 3) := by decide +kernel
theorem dX1_number_18 : decode cX1_number 18 = .ok (.ldiv, 1) := by decide +kernel
theorem dX1_number_19 : decode cX1_number 19 = .ok (.lstore 4, 2) := by decide +kernel
theorem dX1_number_21 : decode cX1_number 21 = .ok (.lload 4, 2) := by decide +kernel
theorem dX1_number_23 : decode cX1_number 23 = .ok (.lconst 0, 1) := by decide +kernel
theorem dX1_number_24 : decode cX1_number 24 = .ok (.lcmp, 1) := by decide +kernel
theorem dX1_number_25 : decode cX1_number 25 = .ok (.ifCond .eq 17, 3) := by decide +kernel
theorem dX1_number_28 : decode cX1_number 28 = .ok (.iinc 3 1, 3) := by decide +kernel
theorem dX1_number_31 : decode cX1_number 31 = .ok (.lload 4, 2) := by decide +kernel
theorem dX1_number_33 : decode cX1_number 33 = .ok (.ldc2_w 78, 3) := by decide +kernel
theorem dX1_number_36 : decode cX1_number 36 = .ok (.ldiv, 1) := by decide +kernel
theorem dX1_number_37 : decode cX1_number 37 = .ok (.lstore 4, 2) := by decide +kernel
theorem dX1_number_39 : decode cX1_number 39 = .ok (.goto (-18), 3) := by decide +kernel
theorem dX1_number_42 : decode cX1_number 42 = .ok (.iload_n 3, 1) := by decide +kernel
theorem dX1_number_43 : decode cX1_number 43 = .ok (.iconst 1, 1) := by decide +kernel
theorem dX1_number_44 : decode cX1_number 44 = .ok (.isub, 1) := by decide +kernel
theorem dX1_number_45 : decode cX1_number 45 = .ok (.istore 4, 2) := by decide +kernel
theorem dX1_number_47 : decode cX1_number 47 = .ok (.iload 4, 2) := by decide +kernel
theorem dX1_number_49 : decode cX1_number 49 = .ok (.ifCond .lt 67, 3) := by decide +kernel
theorem dX1_number_52 : decode cX1_number 52 = .ok (.lload_n 1, 1) := by decide +kernel
theorem dX1_number_53 : decode cX1_number 53 = .ok (.lstore 5, 2) := by decide +kernel
theorem dX1_number_55 : decode cX1_number 55 = .ok (.iconst 0, 1) := by decide +kernel
theorem dX1_number_56 : decode cX1_number 56 = .ok (.istore 7, 2) := by decide +kernel
theorem dX1_number_58 : decode cX1_number 58 = .ok (.iload 7, 2) := by decide +kernel
theorem dX1_number_60 : decode cX1_number 60 = .ok (.iload 4, 2) := by decide +kernel
theorem dX1_number_62 : decode cX1_number 62 = .ok (.if_icmp .ge 17, 3) := by decide +kernel
theorem dX1_number_65 : decode cX1_number 65 = .ok (.lload 5, 2) := by decide +kernel
theorem dX1_number_67 : decode cX1_number 67 = .ok (.ldc2_w 78, 3) := by decide +kernel
theorem dX1_number_70 : decode cX1_number 70 = .ok (.ldiv, 1) := by decide +kernel
theorem dX1_number_71 : decode cX1_number 71 = .ok (.lstore 5, 2) := by decide +kernel
theorem dX1_number_73 : decode cX1_number 73 = .ok (.iinc 7 1, 3) := by decide +kernel
theorem dX1_number_76 : decode cX1_number 76 = .ok (.goto (-18), 3) := by decide +kernel
theorem dX1_number_79 : decode cX1_number 79 = .ok (.lload 5, 2) := by decide +kernel
theorem dX1_number_81 : decode cX1_number 81 = .ok (.ldc2_w 78, 3) := by decide +kernel
theorem dX1_number_84 : decode cX1_number 84 = .ok (.lrem, 1) := by decide +kernel
theorem dX1_number_85 : decode cX1_number 85 = .ok (.lstore 7, 2) := by decide +kernel
theorem dX1_number_87 : decode cX1_number 87 = .ok (.aload_n 0, 1) := by decide +kernel
theorem dX1_number_88 : decode cX1_number 88 = .ok (.bipush 48, 2) := by decide +kernel
theorem dX1_number_90 : decode cX1_number 90 = .ok (.lload 7, 2) := by decide +kernel
theorem dX1_number_92 : decode cX1_number 92 = .ok (.lconst 0, 1) := by decide +kernel
theorem dX1_number_93 : decode cX1_number 93 = .ok (.lcmp, 1) := by decide +kernel
theorem dX1_number_94 : decode cX1_number 94 = .ok (.ifCond .ge 9, 3) := by decide +kernel
theorem dX1_number_97 : decode cX1_number 97 = .ok (.lload 7, 2) := by decide +kernel
theorem dX1_number_99 : decode cX1_number 99 = .ok (.lneg, 1) := by decide +kernel
theorem dX1_number_100 : decode cX1_number 100 = .ok (.goto 5, 3) := by decide +kernel
theorem dX1_number_103 : decode cX1_number 103 = .ok (.lload 7, 2) := by decide +kernel
theorem dX1_number_105 : decode cX1_number 105 = .ok (.l2i, 1) := by decide +kernel
theorem dX1_number_106 : decode cX1_number 106 = .ok (.iadd, 1) := by decide +kernel
theorem dX1_number_107 : decode cX1_number 107 = .ok (.invokevirtual 74, 3) := by decide +kernel
theorem dX1_number_110 : decode cX1_number 110 = .ok (.iinc 4 (-1), 3) := by decide +kernel
theorem dX1_number_113 : decode cX1_number 113 = .ok (.goto (-66), 3) := by decide +kernel
theorem dX1_number_116 : decode cX1_number 116 = .ok (.return_, 1) := by decide +kernel
set_option maxRecDepth 20000 in
theorem ggX1_write_X1_isPosition : GoodIn wsX1_write wsX1_isPosition := goodIn_r _ [5] (by decide +kernel) (by decide +kernel)
set_option maxRecDepth 20000 in
theorem gX1_write_X1_isPosition : GoodIn wsX1_write (va_wsS RX1 60 yX1_isPosition wsX1_isPosition) := goodIn_app (goodIn_of _ (by decide +kernel)) ggX1_write_X1_isPosition
set_option maxRecDepth 20000 in
theorem ggX1_write_X1_put : GoodIn wsX1_write wsX1_put := goodIn_r _ [9, 10, 1, 24, 25, 26, 27, 28, 29, 30] (by decide +kernel) (by decide +kernel)
set_option maxRecDepth 20000 in
theorem gX1_write_X1_put : GoodIn wsX1_write (wsV RX1 74 RX1 yX1_put wsX1_put) := goodIn_app (goodIn_of _ (by decide +kernel)) ggX1_write_X1_put
set_option maxRecDepth 20000 in
theorem ggX1_write_X1_row : GoodIn wsX1_write wsX1_row := goodIn_r _ [14, 15, 16, 17, 18, 2, 3, 4, 5, 24, 25, 26, 27, 28, 29, 30] (by decide +kernel) (by decide +kernel)
set_option maxRecDepth 20000 in
theorem gX1_write_X1_row : GoodIn wsX1_write (wsV RX1 29 RX1 yX1_row wsX1_row) := goodIn_app (goodIn_of _ (by decide +kernel)) ggX1_write_X1_row
set_option maxRecDepth 20000 in
theorem ggX1_write_X1_number : GoodIn wsX1_write wsX1_number := goodIn_r _ [22, 23, 6, 7, 8, 4, 9, 10, 1, 24, 25, 26, 27, 28, 29, 30] (by decide +kernel) (by decide +kernel)
set_option maxRecDepth 20000 in
theorem gX1_write_X1_number : GoodIn wsX1_write (wsV RX1 80 RX1 yX1_number wsX1_number) := goodIn_app (goodIn_of _ (by decide +kernel)) ggX1_write_X1_number
theorem dX1_write_0 : decode cX1_write 0 = .ok (.iload_n 1, 1) := by decide +kernel
theorem dX1_write_1 : decode cX1_write 1 = .ok (.invokestatic 60, 3) := by decide +kernel
theorem dX1_write_4 : decode cX1_write 4 = .ok (.ifCond .ne 5, 3) := by decide +kernel
theorem dX1_write_7 : decode cX1_write 7 = .ok (.iconst (-1), 1) := by decide +kernel
theorem dX1_write_8 : decode cX1_write 8 = .ok (.ireturn, 1) := by decide +kernel
theorem dX1_write_9 : decode cX1_write 9 = .ok (.aload_n 0, 1) := by decide +kernel
theorem dX1_write_10 : decode cX1_write 10 = .ok (.iconst 0, 1) := by decide +kernel
theorem dX1_write_11 : decode cX1_write 11 = .ok (.putfield 71, 3) := by decide +kernel
theorem dX1_write_14 : decode cX1_write 14 = .ok (.iconst 0, 1) := by decide +kernel
theorem dX1_write_15 : decode cX1_write 15 = .ok (.istore_n 2, 1) := by decide +kernel
theorem dX1_write_16 : decode cX1_write 16 = .ok (.iload_n 2, 1) := by decide +kernel
theorem dX1_write_17 : decode cX1_write 17 = .ok (.iconst 5, 1) := by decide +kernel
theorem dX1_write_18 : decode cX1_write 18 = .ok (.if_icmp .ge 29, 3) := by decide +kernel
theorem dX1_write_21 : decode cX1_write 21 = .ok (.iload_n 2, 1) := by decide +kernel
theorem dX1_write_22 : decode cX1_write 22 = .ok (.ifCond .le 9, 3) := by decide +kernel
theorem dX1_write_25 : decode cX1_write 25 = .ok (.aload_n 0, 1) := by decide +kernel
theorem dX1_write_26 : decode cX1_write 26 = .ok (.bipush 32, 2) := by decide +kernel
theorem dX1_write_28 : decode cX1_write 28 = .ok (.invokevirtual 74, 3) := by decide +kernel
theorem dX1_write_31 : decode cX1_write 31 = .ok (.aload_n 0, 1) := by decide +kernel
theorem dX1_write_32 : decode cX1_write 32 = .ok (.aload_n 0, 1) := by decide +kernel
theorem dX1_write_33 : decode cX1_write 33 = .ok (.iload_n 1, 1) := by decide +kernel
theorem dX1_write_34 : decode cX1_write 34 = .ok (.iload_n 2, 1) := by decide +kernel
theorem dX1_write_35 : decode cX1_write 35 = .ok (.invokevirtual 29, 3) := by decide +kernel
theorem dX1_write_38 : decode cX1_write 38 = .ok (.invokevirtual 80, 3) := by decide +kernel
theorem dX1_write_41 : decode cX1_write 41 = .ok (.iinc 2 1, 3) := by decide +kernel
theorem dX1_write_44 : decode cX1_write 44 = .ok (.goto (-28), 3) := by decide +kernel
theorem dX1_write_47 : decode cX1_write 47 = .ok (.aload_n 0, 1) := by decide +kernel
theorem dX1_write_48 : decode cX1_write 48 = .ok (.getfield 71, 3) := by decide +kernel
theorem dX1_write_51 : decode cX1_write 51 = .ok (.ireturn, 1) := by decide +kernel
theorem dX1_at_0 : decode cX1_at 0 = .ok (.iload_n 1, 1) := by decide +kernel
theorem dX1_at_1 : decode cX1_at 1 = .ok (.ifCond .lt 20, 3) := by decide +kernel
theorem dX1_at_4 : decode cX1_at 4 = .ok (.iload_n 1, 1) := by decide +kernel
theorem dX1_at_5 : decode cX1_at 5 = .ok (.aload_n 0, 1) := by decide +kernel
theorem dX1_at_6 : decode cX1_at 6 = .ok (.getfield 71, 3) := by decide +kernel
theorem dX1_at_9 : decode cX1_at 9 = .ok (.if_icmp .ge 12, 3) := by decide +kernel
theorem dX1_at_12 : decode cX1_at 12 = .ok (.aload_n 0, 1) := by decide +kernel
theorem dX1_at_13 : decode cX1_at 13 = .ok (.getfield 20, 3) := by decide +kernel
theorem dX1_at_16 : decode cX1_at 16 = .ok (.iload_n 1, 1) := by decide +kernel
theorem dX1_at_17 : decode cX1_at 17 = .ok (.iaload, 1) := by decide +kernel
theorem dX1_at_18 : decode cX1_at 18 = .ok (.goto 4, 3) := by decide +kernel
theorem dX1_at_21 : decode cX1_at 21 = .ok (.iconst (-1), 1) := by decide +kernel
theorem dX1_at_22 : decode cX1_at 22 = .ok (.ireturn, 1) := by decide +kernel
theorem dJ9_min_7cf53_0 : decode cJ9_min_7cf53 0 = .ok (.iload_n 0, 1) := by decide +kernel
theorem dJ9_min_7cf53_1 : decode cJ9_min_7cf53 1 = .ok (.iload_n 1, 1) := by decide +kernel
theorem dJ9_min_7cf53_2 : decode cJ9_min_7cf53 2 = .ok (.if_icmp .gt 7, 3) := by decide +kernel
theorem dJ9_min_7cf53_5 : decode cJ9_min_7cf53 5 = .ok (.iload_n 0, 1) := by decide +kernel
theorem dJ9_min_7cf53_6 : decode cJ9_min_7cf53 6 = .ok (.goto 4, 3) := by decide +kernel
theorem dJ9_min_7cf53_9 : decode cJ9_min_7cf53 9 = .ok (.iload_n 1, 1) := by decide +kernel
theorem dJ9_min_7cf53_10 : decode cJ9_min_7cf53 10 = .ok (.ireturn, 1) := by decide +kernel
set_option maxRecDepth 20000 in
theorem ggL_law_X0_init : GoodIn wsL_law wsX0_init := goodIn_r _ [9, 10, 11, 12, 13, 14, 15, 16, 17, 18, 19, 20, 21, 22, 23, 201, 202, 203, 204, 205, 206, 207, 208, 209] (by decide +kernel) (by decide +kernel)
set_option maxRecDepth 20000 in
theorem gL_law_X0_init : GoodIn wsL_law (wsX0_init) := ggL_law_X0_init
set_option maxRecDepth 20000 in
theorem ggL_law_X1_init : GoodIn wsL_law wsX1_init := goodIn_r _ [26, 27, 11, 12, 15, 28, 29, 30, 31, 32, 210, 211, 212, 213, 214, 215, 216] (by decide +kernel) (by decide +kernel)
set_option maxRecDepth 20000 in
theorem gL_law_X1_init : GoodIn wsL_law (wsX1_init) := ggL_law_X1_init
set_option maxRecDepth 20000 in
theorem ggL_law_X0_pass : GoodIn wsL_law wsX0_pass := goodIn_r _ [36, 14, 37, 38, 39, 2, 40, 13, 41, 42, 43, 44, 16, 19, 17, 18, 20, 45, 46, 47, 201, 202, 203, 204, 205, 206, 207, 208, 209] (by decide +kernel) (by decide +kernel)
set_option maxRecDepth 20000 in
theorem gL_law_X0_pass : GoodIn wsL_law (wsV RL 13 RX0 yX0_pass wsX0_pass) := goodIn_app (goodIn_of _ (by decide +kernel)) ggL_law_X0_pass
set_option maxRecDepth 20000 in
theorem ggL_law_X1_pass : GoodIn wsL_law wsX1_pass := goodIn_r _ [51, 52, 53, 54, 55, 5, 56, 57, 58, 59, 60, 61, 28, 62, 63, 64, 65, 66, 30, 31, 67, 68, 69, 70, 71, 72, 210, 211, 212, 213, 214, 215, 216] (by decide +kernel) (by decide +kernel)
set_option maxRecDepth 20000 in
theorem gL_law_X1_pass : GoodIn wsL_law (wsV RL 17 RX1 yX1_pass wsX1_pass) := goodIn_app (goodIn_of _ (by decide +kernel)) ggL_law_X1_pass
set_option maxRecDepth 20000 in
theorem ggL_law_X0_skip : GoodIn wsL_law wsX0_skip := goodIn_r _ [76, 77, 14, 78, 79, 2, 80, 81, 82, 83, 84, 37, 38, 39, 40, 13, 41, 42, 43, 44, 16, 19, 17, 18, 20, 201, 202, 203, 204, 205, 206, 207, 208, 209] (by decide +kernel) (by decide +kernel)
set_option maxRecDepth 20000 in
theorem gL_law_X0_skip : GoodIn wsL_law (wsV RL 18 RX0 yX0_skip wsX0_skip) := goodIn_app (goodIn_of _ (by decide +kernel)) ggL_law_X0_skip
set_option maxRecDepth 20000 in
theorem ggL_law_X1_skip : GoodIn wsL_law wsX1_skip := goodIn_r _ [88, 89, 90, 49, 50, 5, 51, 52, 53, 54, 55, 56, 57, 58, 59, 60, 61, 28, 62, 63, 64, 65, 66, 30, 31, 67, 68, 69, 70, 71, 72, 210, 211, 212, 213, 214, 215, 216] (by decide +kernel) (by decide +kernel)
set_option maxRecDepth 20000 in
theorem gL_law_X1_skip : GoodIn wsL_law (wsV RL 22 RX1 yX1_skip wsX1_skip) := goodIn_app (goodIn_of _ (by decide +kernel)) ggL_law_X1_skip
set_option maxRecDepth 20000 in
theorem ggL_law_X0_may : GoodIn wsL_law wsX0_may := goodIn_r _ [94, 95, 96, 97, 2, 98, 14, 99, 100, 101, 102, 103, 104, 201, 202, 203, 204, 205, 206, 207, 208, 209] (by decide +kernel) (by decide +kernel)
set_option maxRecDepth 20000 in
theorem gL_law_X0_may : GoodIn wsL_law (wsV RL 23 RX0 yX0_may wsX0_may) := goodIn_app (goodIn_of _ (by decide +kernel)) ggL_law_X0_may
set_option maxRecDepth 20000 in
theorem ggL_law_X1_may : GoodIn wsL_law wsX1_may := goodIn_r _ [108, 53, 54, 55, 5, 56, 52, 57, 109, 110, 111, 210, 211, 212, 213, 214, 215, 216] (by decide +kernel) (by decide +kernel)
set_option maxRecDepth 20000 in
theorem gL_law_X1_may : GoodIn wsL_law (wsV RL 27 RX1 yX1_may wsX1_may) := goodIn_app (goodIn_of _ (by decide +kernel)) ggL_law_X1_may
set_option maxRecDepth 20000 in
theorem ggL_law_X0_look : GoodIn wsL_law wsX0_look := goodIn_r _ [115, 13, 14, 95, 96, 97, 2, 98, 116, 117, 118, 119, 78, 79, 80, 81, 82, 83, 84, 120, 121, 122, 123, 201, 202, 203, 204, 205, 206, 207, 208, 209] (by decide +kernel) (by decide +kernel)
set_option maxRecDepth 20000 in
theorem gL_law_X0_look : GoodIn wsL_law (wsV RL 28 RX0 yX0_look wsX0_look) := goodIn_app (goodIn_of _ (by decide +kernel)) ggL_law_X0_look
set_option maxRecDepth 20000 in
theorem ggL_law_X1_look : GoodIn wsL_law wsX1_look := goodIn_r _ [127, 52, 57, 53, 54, 55, 5, 56, 109, 110, 111, 70, 71, 72, 210, 211, 212, 213, 214, 215, 216] (by decide +kernel) (by decide +kernel)
set_option maxRecDepth 20000 in
theorem gL_law_X1_look : GoodIn wsL_law (wsV RL 31 RX1 yX1_look wsX1_look) := goodIn_app (goodIn_of _ (by decide +kernel)) ggL_law_X1_look
set_option maxRecDepth 20000 in
theorem ggL_law_X0_move : GoodIn wsL_law wsX0_move := goodIn_r _ [131, 132, 19, 17, 18, 133, 20, 134, 135, 2, 136, 137, 138, 139, 201, 202, 203, 204, 205, 206, 207, 208, 209] (by decide +kernel) (by decide +kernel)
set_option maxRecDepth 20000 in
theorem gL_law_X0_move : GoodIn wsL_law (wsV RL 34 RX0 yX0_move wsX0_move) := goodIn_app (goodIn_of _ (by decide +kernel)) ggL_law_X0_move
set_option maxRecDepth 20000 in
theorem ggL_law_X1_move : GoodIn wsL_law wsX1_move := goodIn_r _ [143, 144, 145, 30, 62, 31, 67, 68, 5, 69, 63, 64, 65, 66, 28, 146, 147, 148, 149, 150, 210, 211, 212, 213, 214, 215, 216] (by decide +kernel) (by decide +kernel)
set_option maxRecDepth 20000 in
theorem gL_law_X1_move : GoodIn wsL_law (wsV RL 38 RX1 yX1_move wsX1_move) := goodIn_app (goodIn_of _ (by decide +kernel)) ggL_law_X1_move
set_option maxRecDepth 20000 in
theorem ggL_law_X0_row : GoodIn wsL_law wsX0_row := goodIn_r _ [154, 16, 17, 18, 19, 20, 134, 135, 2, 136, 201, 202, 203, 204, 205, 206, 207, 208, 209] (by decide +kernel) (by decide +kernel)
set_option maxRecDepth 20000 in
theorem gL_law_X0_row : GoodIn wsL_law (wsV RL 39 RX0 yX0_row wsX0_row) := goodIn_app (goodIn_of _ (by decide +kernel)) ggL_law_X0_row
set_option maxRecDepth 20000 in
theorem ggL_law_X1_row : GoodIn wsL_law wsX1_row := goodIn_r _ [66, 62, 30, 31, 28, 67, 68, 5, 69, 210, 211, 212, 213, 214, 215, 216] (by decide +kernel) (by decide +kernel)
set_option maxRecDepth 20000 in
theorem gL_law_X1_row : GoodIn wsL_law (wsV RL 43 RX1 yX1_row wsX1_row) := goodIn_app (goodIn_of _ (by decide +kernel)) ggL_law_X1_row
set_option maxRecDepth 20000 in
theorem ggL_law_X0_isTold : GoodIn wsL_law wsX0_isTold := goodIn_r _ [159, 16, 20, 134, 135, 2, 136, 201, 202, 203, 204, 205, 206, 207, 208, 209] (by decide +kernel) (by decide +kernel)
set_option maxRecDepth 20000 in
theorem gL_law_X0_isTold : GoodIn wsL_law (wsV RL 44 RX0 yX0_isTold wsX0_isTold) := goodIn_app (goodIn_of _ (by decide +kernel)) ggL_law_X0_isTold
set_option maxRecDepth 20000 in
theorem ggL_law_X1_isTold : GoodIn wsL_law wsX1_isTold := goodIn_r _ [163, 28, 67, 68, 5, 69, 63, 64, 65, 66, 62, 30, 31, 210, 211, 212, 213, 214, 215, 216] (by decide +kernel) (by decide +kernel)
set_option maxRecDepth 20000 in
theorem gL_law_X1_isTold : GoodIn wsL_law (wsV RL 48 RX1 yX1_isTold wsX1_isTold) := goodIn_app (goodIn_of _ (by decide +kernel)) ggL_law_X1_isTold
set_option maxRecDepth 20000 in
theorem ggL_law_X0_write : GoodIn wsL_law wsX0_write := goodIn_r _ [167, 23, 16, 17, 18, 19, 20, 134, 135, 2, 136, 168, 169, 170, 171, 172, 173, 174, 175, 176, 177, 178, 22, 201, 202, 203, 204, 205, 206, 207, 208, 209] (by decide +kernel) (by decide +kernel)
set_option maxRecDepth 20000 in
theorem gL_law_X0_write : GoodIn wsL_law (wsV RL 49 RX0 yX0_write wsX0_write) := goodIn_app (goodIn_of _ (by decide +kernel)) ggL_law_X0_write
set_option maxRecDepth 20000 in
theorem ggL_law_X1_write : GoodIn wsL_law wsX1_write := goodIn_r _ [182, 183, 67, 68, 5, 69, 184, 185, 186, 187, 32, 63, 64, 65, 66, 62, 30, 31, 28, 188, 189, 190, 191, 192, 210, 211, 212, 213, 214, 215, 216] (by decide +kernel) (by decide +kernel)
set_option maxRecDepth 20000 in
theorem gL_law_X1_write : GoodIn wsL_law (wsV RL 52 RX1 yX1_write wsX1_write) := goodIn_app (goodIn_of _ (by decide +kernel)) ggL_law_X1_write
set_option maxRecDepth 20000 in
theorem ggL_law_X0_at : GoodIn wsL_law wsX0_at := goodIn_r _ [196, 23, 22, 201, 202, 203, 204, 205, 206, 207, 208, 209] (by decide +kernel) (by decide +kernel)
set_option maxRecDepth 20000 in
theorem gL_law_X0_at : GoodIn wsL_law (wsV RL 53 RX0 yX0_at wsX0_at) := goodIn_app (goodIn_of _ (by decide +kernel)) ggL_law_X0_at
set_option maxRecDepth 20000 in
theorem ggL_law_X1_at : GoodIn wsL_law wsX1_at := goodIn_r _ [200, 183, 32, 210, 211, 212, 213, 214, 215, 216] (by decide +kernel) (by decide +kernel)
set_option maxRecDepth 20000 in
theorem gL_law_X1_at : GoodIn wsL_law (wsV RL 56 RX1 yX1_at wsX1_at) := goodIn_app (goodIn_of _ (by decide +kernel)) ggL_law_X1_at
theorem dL_law_0 : decode cL_law 0 = .ok (.new 7, 3) := by decide +kernel
theorem dL_law_3 : decode cL_law 3 = .ok (.dup, 1) := by decide +kernel
theorem dL_law_4 : decode cL_law 4 = .ok (.invokespecial 9, 3) := by decide +kernel
theorem dL_law_7 : decode cL_law 7 = .ok (.astore_n 1, 1) := by decide +kernel
theorem dL_law_8 : decode cL_law 8 = .ok (.new 10, 3) := by decide +kernel
theorem dL_law_11 : decode cL_law 11 = .ok (.dup, 1) := by decide +kernel
theorem dL_law_12 : decode cL_law 12 = .ok (.invokespecial 12, 3) := by decide +kernel
theorem dL_law_15 : decode cL_law 15 = .ok (.astore_n 2, 1) := by decide +kernel
theorem dL_law_16 : decode cL_law 16 = .ok (.iconst 0, 1) := by decide +kernel
theorem dL_law_17 : decode cL_law 17 = .ok (.istore_n 3, 1) := by decide +kernel
theorem dL_law_18 : decode cL_law 18 = .ok (.iload_n 3, 1) := by decide +kernel
theorem dL_law_19 : decode cL_law 19 = .ok (.aload_n 0, 1) := by decide +kernel
theorem dL_law_20 : decode cL_law 20 = .ok (.arraylength, 1) := by decide +kernel
theorem dL_law_21 : decode cL_law 21 = .ok (.iconst 4, 1) := by decide +kernel
theorem dL_law_22 : decode cL_law 22 = .ok (.isub, 1) := by decide +kernel
theorem dL_law_23 : decode cL_law 23 = .ok (.if_icmp .gt 351, 3) := by decide +kernel
theorem dL_law_26 : decode cL_law 26 = .ok (.aload_n 0, 1) := by decide +kernel
theorem dL_law_27 : decode cL_law 27 = .ok (.iload_n 3, 1) := by decide +kernel
theorem dL_law_28 : decode cL_law 28 = .ok (.iaload, 1) := by decide +kernel
theorem dL_law_29 : decode cL_law 29 = .ok (.bipush 15, 2) := by decide +kernel
theorem dL_law_31 : decode cL_law 31 = .ok (.iand, 1) := by decide +kernel
theorem dL_law_32 : decode cL_law 32 = .ok (.tableswitch 336 0 8 #[52, 65, 88, 147, 170, 233, 267, 290, 313], 52) := by decide +kernel
theorem dL_law_84 : decode cL_law 84 = .ok (.aload_n 1, 1) := by decide +kernel
theorem dL_law_85 : decode cL_law 85 = .ok (.invokevirtual 13, 3) := by decide +kernel
theorem dL_law_88 : decode cL_law 88 = .ok (.aload_n 2, 1) := by decide +kernel
theorem dL_law_89 : decode cL_law 89 = .ok (.invokevirtual 17, 3) := by decide +kernel
theorem dL_law_92 : decode cL_law 92 = .ok (.if_icmp .eq 276, 3) := by decide +kernel
theorem dL_law_95 : decode cL_law 95 = .ok (.iconst 0, 1) := by decide +kernel
theorem dL_law_96 : decode cL_law 96 = .ok (.ireturn, 1) := by decide +kernel
theorem dL_law_97 : decode cL_law 97 = .ok (.aload_n 1, 1) := by decide +kernel
theorem dL_law_98 : decode cL_law 98 = .ok (.aload_n 0, 1) := by decide +kernel
theorem dL_law_99 : decode cL_law 99 = .ok (.iload_n 3, 1) := by decide +kernel
theorem dL_law_100 : decode cL_law 100 = .ok (.iconst 1, 1) := by decide +kernel
theorem dL_law_101 : decode cL_law 101 = .ok (.iadd, 1) := by decide +kernel
theorem dL_law_102 : decode cL_law 102 = .ok (.iaload, 1) := by decide +kernel
theorem dL_law_103 : decode cL_law 103 = .ok (.invokevirtual 18, 3) := by decide +kernel
theorem dL_law_106 : decode cL_law 106 = .ok (.aload_n 2, 1) := by decide +kernel
theorem dL_law_107 : decode cL_law 107 = .ok (.aload_n 0, 1) := by decide +kernel
theorem dL_law_108 : decode cL_law 108 = .ok (.iload_n 3, 1) := by decide +kernel
theorem dL_law_109 : decode cL_law 109 = .ok (.iconst 1, 1) := by decide +kernel
theorem dL_law_110 : decode cL_law 110 = .ok (.iadd, 1) := by decide +kernel
theorem dL_law_111 : decode cL_law 111 = .ok (.iaload, 1) := by decide +kernel
theorem dL_law_112 : decode cL_law 112 = .ok (.invokevirtual 22, 3) := by decide +kernel
theorem dL_law_115 : decode cL_law 115 = .ok (.if_icmp .eq 253, 3) := by decide +kernel
theorem dL_law_118 : decode cL_law 118 = .ok (.iconst 0, 1) := by decide +kernel
theorem dL_law_119 : decode cL_law 119 = .ok (.ireturn, 1) := by decide +kernel
theorem dL_law_120 : decode cL_law 120 = .ok (.aload_n 1, 1) := by decide +kernel
theorem dL_law_121 : decode cL_law 121 = .ok (.aload_n 0, 1) := by decide +kernel
theorem dL_law_122 : decode cL_law 122 = .ok (.iload_n 3, 1) := by decide +kernel
theorem dL_law_123 : decode cL_law 123 = .ok (.iconst 1, 1) := by decide +kernel
theorem dL_law_124 : decode cL_law 124 = .ok (.iadd, 1) := by decide +kernel
theorem dL_law_125 : decode cL_law 125 = .ok (.iaload, 1) := by decide +kernel
theorem dL_law_126 : decode cL_law 126 = .ok (.aload_n 0, 1) := by decide +kernel
theorem dL_law_127 : decode cL_law 127 = .ok (.iload_n 3, 1) := by decide +kernel
theorem dL_law_128 : decode cL_law 128 = .ok (.iconst 2, 1) := by decide +kernel
theorem dL_law_129 : decode cL_law 129 = .ok (.iadd, 1) := by decide +kernel
theorem dL_law_130 : decode cL_law 130 = .ok (.iaload, 1) := by decide +kernel
theorem dL_law_131 : decode cL_law 131 = .ok (.aload_n 0, 1) := by decide +kernel
theorem dL_law_132 : decode cL_law 132 = .ok (.iload_n 3, 1) := by decide +kernel
theorem dL_law_133 : decode cL_law 133 = .ok (.iconst 3, 1) := by decide +kernel
theorem dL_law_134 : decode cL_law 134 = .ok (.iadd, 1) := by decide +kernel
theorem dL_law_135 : decode cL_law 135 = .ok (.iaload, 1) := by decide +kernel
theorem dL_law_136 : decode cL_law 136 = .ok (.ifCond .eq 7, 3) := by decide +kernel
theorem dL_law_139 : decode cL_law 139 = .ok (.iconst 1, 1) := by decide +kernel
theorem dL_law_140 : decode cL_law 140 = .ok (.goto 4, 3) := by decide +kernel
theorem dL_law_143 : decode cL_law 143 = .ok (.iconst 0, 1) := by decide +kernel
theorem dL_law_144 : decode cL_law 144 = .ok (.invokevirtual 23, 3) := by decide +kernel
theorem dL_law_147 : decode cL_law 147 = .ok (.aload_n 2, 1) := by decide +kernel
theorem dL_law_148 : decode cL_law 148 = .ok (.aload_n 0, 1) := by decide +kernel
theorem dL_law_149 : decode cL_law 149 = .ok (.iload_n 3, 1) := by decide +kernel
theorem dL_law_150 : decode cL_law 150 = .ok (.iconst 1, 1) := by decide +kernel
theorem dL_law_151 : decode cL_law 151 = .ok (.iadd, 1) := by decide +kernel
theorem dL_law_152 : decode cL_law 152 = .ok (.iaload, 1) := by decide +kernel
theorem dL_law_153 : decode cL_law 153 = .ok (.aload_n 0, 1) := by decide +kernel
theorem dL_law_154 : decode cL_law 154 = .ok (.iload_n 3, 1) := by decide +kernel
theorem dL_law_155 : decode cL_law 155 = .ok (.iconst 2, 1) := by decide +kernel
theorem dL_law_156 : decode cL_law 156 = .ok (.iadd, 1) := by decide +kernel
theorem dL_law_157 : decode cL_law 157 = .ok (.iaload, 1) := by decide +kernel
theorem dL_law_158 : decode cL_law 158 = .ok (.aload_n 0, 1) := by decide +kernel
theorem dL_law_159 : decode cL_law 159 = .ok (.iload_n 3, 1) := by decide +kernel
theorem dL_law_160 : decode cL_law 160 = .ok (.iconst 3, 1) := by decide +kernel
theorem dL_law_161 : decode cL_law 161 = .ok (.iadd, 1) := by decide +kernel
theorem dL_law_162 : decode cL_law 162 = .ok (.iaload, 1) := by decide +kernel
theorem dL_law_163 : decode cL_law 163 = .ok (.ifCond .eq 7, 3) := by decide +kernel
theorem dL_law_166 : decode cL_law 166 = .ok (.iconst 1, 1) := by decide +kernel
theorem dL_law_167 : decode cL_law 167 = .ok (.goto 4, 3) := by decide +kernel
theorem dL_law_170 : decode cL_law 170 = .ok (.iconst 0, 1) := by decide +kernel
theorem dL_law_171 : decode cL_law 171 = .ok (.invokevirtual 27, 3) := by decide +kernel
theorem dL_law_174 : decode cL_law 174 = .ok (.if_icmp .eq 194, 3) := by decide +kernel
theorem dL_law_177 : decode cL_law 177 = .ok (.iconst 0, 1) := by decide +kernel
theorem dL_law_178 : decode cL_law 178 = .ok (.ireturn, 1) := by decide +kernel
theorem dL_law_179 : decode cL_law 179 = .ok (.aload_n 1, 1) := by decide +kernel
theorem dL_law_180 : decode cL_law 180 = .ok (.aload_n 0, 1) := by decide +kernel
theorem dL_law_181 : decode cL_law 181 = .ok (.iload_n 3, 1) := by decide +kernel
theorem dL_law_182 : decode cL_law 182 = .ok (.iconst 1, 1) := by decide +kernel
theorem dL_law_183 : decode cL_law 183 = .ok (.iadd, 1) := by decide +kernel
theorem dL_law_184 : decode cL_law 184 = .ok (.iaload, 1) := by decide +kernel
theorem dL_law_185 : decode cL_law 185 = .ok (.invokevirtual 28, 3) := by decide +kernel
theorem dL_law_188 : decode cL_law 188 = .ok (.aload_n 2, 1) := by decide +kernel
theorem dL_law_189 : decode cL_law 189 = .ok (.aload_n 0, 1) := by decide +kernel
theorem dL_law_190 : decode cL_law 190 = .ok (.iload_n 3, 1) := by decide +kernel
theorem dL_law_191 : decode cL_law 191 = .ok (.iconst 1, 1) := by decide +kernel
theorem dL_law_192 : decode cL_law 192 = .ok (.iadd, 1) := by decide +kernel
theorem dL_law_193 : decode cL_law 193 = .ok (.iaload, 1) := by decide +kernel
theorem dL_law_194 : decode cL_law 194 = .ok (.invokevirtual 31, 3) := by decide +kernel
theorem dL_law_197 : decode cL_law 197 = .ok (.if_icmp .eq 171, 3) := by decide +kernel
theorem dL_law_200 : decode cL_law 200 = .ok (.iconst 0, 1) := by decide +kernel
theorem dL_law_201 : decode cL_law 201 = .ok (.ireturn, 1) := by decide +kernel
theorem dL_law_202 : decode cL_law 202 = .ok (.aload_n 1, 1) := by decide +kernel
theorem dL_law_203 : decode cL_law 203 = .ok (.aload_n 0, 1) := by decide +kernel
theorem dL_law_204 : decode cL_law 204 = .ok (.iload_n 3, 1) := by decide +kernel
theorem dL_law_205 : decode cL_law 205 = .ok (.iconst 1, 1) := by decide +kernel
theorem dL_law_206 : decode cL_law 206 = .ok (.iadd, 1) := by decide +kernel
theorem dL_law_207 : decode cL_law 207 = .ok (.iaload, 1) := by decide +kernel
theorem dL_law_208 : decode cL_law 208 = .ok (.aload_n 0, 1) := by decide +kernel
theorem dL_law_209 : decode cL_law 209 = .ok (.iload_n 3, 1) := by decide +kernel
theorem dL_law_210 : decode cL_law 210 = .ok (.iconst 2, 1) := by decide +kernel
theorem dL_law_211 : decode cL_law 211 = .ok (.iadd, 1) := by decide +kernel
theorem dL_law_212 : decode cL_law 212 = .ok (.iaload, 1) := by decide +kernel
theorem dL_law_213 : decode cL_law 213 = .ok (.i2l, 1) := by decide +kernel
theorem dL_law_214 : decode cL_law 214 = .ok (.bipush 32, 2) := by decide +kernel
theorem dL_law_216 : decode cL_law 216 = .ok (.lshl, 1) := by decide +kernel
theorem dL_law_217 : decode cL_law 217 = .ok (.aload_n 0, 1) := by decide +kernel
theorem dL_law_218 : decode cL_law 218 = .ok (.iload_n 3, 1) := by decide +kernel
theorem dL_law_219 : decode cL_law 219 = .ok (.iconst 3, 1) := by decide +kernel
theorem dL_law_220 : decode cL_law 220 = .ok (.iadd, 1) := by decide +kernel
theorem dL_law_221 : decode cL_law 221 = .ok (.iaload, 1) := by decide +kernel
theorem dL_law_222 : decode cL_law 222 = .ok (.i2l, 1) := by decide +kernel
theorem dL_law_223 : decode cL_law 223 = .ok (.ldc2_w 32, 3) := by decide +kernel
theorem dL_law_226 : decode cL_law 226 = .ok (.land, 1) := by decide +kernel
theorem dL_law_227 : decode cL_law 227 = .ok (.lor, 1) := by decide +kernel
theorem dL_law_228 : decode cL_law 228 = .ok (.invokevirtual 34, 3) := by decide +kernel
theorem dL_law_231 : decode cL_law 231 = .ok (.aload_n 2, 1) := by decide +kernel
theorem dL_law_232 : decode cL_law 232 = .ok (.aload_n 0, 1) := by decide +kernel
theorem dL_law_233 : decode cL_law 233 = .ok (.iload_n 3, 1) := by decide +kernel
theorem dL_law_234 : decode cL_law 234 = .ok (.iconst 1, 1) := by decide +kernel
theorem dL_law_235 : decode cL_law 235 = .ok (.iadd, 1) := by decide +kernel
theorem dL_law_236 : decode cL_law 236 = .ok (.iaload, 1) := by decide +kernel
theorem dL_law_237 : decode cL_law 237 = .ok (.aload_n 0, 1) := by decide +kernel
theorem dL_law_238 : decode cL_law 238 = .ok (.iload_n 3, 1) := by decide +kernel
theorem dL_law_239 : decode cL_law 239 = .ok (.iconst 2, 1) := by decide +kernel
theorem dL_law_240 : decode cL_law 240 = .ok (.iadd, 1) := by decide +kernel
theorem dL_law_241 : decode cL_law 241 = .ok (.iaload, 1) := by decide +kernel
theorem dL_law_242 : decode cL_law 242 = .ok (.i2l, 1) := by decide +kernel
theorem dL_law_243 : decode cL_law 243 = .ok (.bipush 32, 2) := by decide +kernel
theorem dL_law_245 : decode cL_law 245 = .ok (.lshl, 1) := by decide +kernel
theorem dL_law_246 : decode cL_law 246 = .ok (.aload_n 0, 1) := by decide +kernel
theorem dL_law_247 : decode cL_law 247 = .ok (.iload_n 3, 1) := by decide +kernel
theorem dL_law_248 : decode cL_law 248 = .ok (.iconst 3, 1) := by decide +kernel
theorem dL_law_249 : decode cL_law 249 = .ok (.iadd, 1) := by decide +kernel
theorem dL_law_250 : decode cL_law 250 = .ok (.iaload, 1) := by decide +kernel
theorem dL_law_251 : decode cL_law 251 = .ok (.i2l, 1) := by decide +kernel
theorem dL_law_252 : decode cL_law 252 = .ok (.ldc2_w 32, 3) := by decide +kernel
theorem dL_law_255 : decode cL_law 255 = .ok (.land, 1) := by decide +kernel
theorem dL_law_256 : decode cL_law 256 = .ok (.lor, 1) := by decide +kernel
theorem dL_law_257 : decode cL_law 257 = .ok (.invokevirtual 38, 3) := by decide +kernel
theorem dL_law_260 : decode cL_law 260 = .ok (.if_icmp .eq 108, 3) := by decide +kernel
theorem dL_law_263 : decode cL_law 263 = .ok (.iconst 0, 1) := by decide +kernel
theorem dL_law_264 : decode cL_law 264 = .ok (.ireturn, 1) := by decide +kernel
theorem dL_law_265 : decode cL_law 265 = .ok (.aload_n 1, 1) := by decide +kernel
theorem dL_law_266 : decode cL_law 266 = .ok (.aload_n 0, 1) := by decide +kernel
theorem dL_law_267 : decode cL_law 267 = .ok (.iload_n 3, 1) := by decide +kernel
theorem dL_law_268 : decode cL_law 268 = .ok (.iconst 1, 1) := by decide +kernel
theorem dL_law_269 : decode cL_law 269 = .ok (.iadd, 1) := by decide +kernel
theorem dL_law_270 : decode cL_law 270 = .ok (.iaload, 1) := by decide +kernel
theorem dL_law_271 : decode cL_law 271 = .ok (.aload_n 0, 1) := by decide +kernel
theorem dL_law_272 : decode cL_law 272 = .ok (.iload_n 3, 1) := by decide +kernel
theorem dL_law_273 : decode cL_law 273 = .ok (.iconst 2, 1) := by decide +kernel
theorem dL_law_274 : decode cL_law 274 = .ok (.iadd, 1) := by decide +kernel
theorem dL_law_275 : decode cL_law 275 = .ok (.iaload, 1) := by decide +kernel
theorem dL_law_276 : decode cL_law 276 = .ok (.invokevirtual 39, 3) := by decide +kernel
theorem dL_law_279 : decode cL_law 279 = .ok (.aload_n 2, 1) := by decide +kernel
theorem dL_law_280 : decode cL_law 280 = .ok (.aload_n 0, 1) := by decide +kernel
theorem dL_law_281 : decode cL_law 281 = .ok (.iload_n 3, 1) := by decide +kernel
theorem dL_law_282 : decode cL_law 282 = .ok (.iconst 1, 1) := by decide +kernel
theorem dL_law_283 : decode cL_law 283 = .ok (.iadd, 1) := by decide +kernel
theorem dL_law_284 : decode cL_law 284 = .ok (.iaload, 1) := by decide +kernel
theorem dL_law_285 : decode cL_law 285 = .ok (.aload_n 0, 1) := by decide +kernel
theorem dL_law_286 : decode cL_law 286 = .ok (.iload_n 3, 1) := by decide +kernel
theorem dL_law_287 : decode cL_law 287 = .ok (.iconst 2, 1) := by decide +kernel
theorem dL_law_288 : decode cL_law 288 = .ok (.iadd, 1) := by decide +kernel
theorem dL_law_289 : decode cL_law 289 = .ok (.iaload, 1) := by decide +kernel
theorem dL_law_290 : decode cL_law 290 = .ok (.invokevirtual 43, 3) := by decide +kernel
theorem dL_law_293 : decode cL_law 293 = .ok (.lcmp, 1) := by decide +kernel
theorem dL_law_294 : decode cL_law 294 = .ok (.ifCond .eq 74, 3) := by decide +kernel
theorem dL_law_297 : decode cL_law 297 = .ok (.iconst 0, 1) := by decide +kernel
theorem dL_law_298 : decode cL_law 298 = .ok (.ireturn, 1) := by decide +kernel
theorem dL_law_299 : decode cL_law 299 = .ok (.aload_n 1, 1) := by decide +kernel
theorem dL_law_300 : decode cL_law 300 = .ok (.aload_n 0, 1) := by decide +kernel
theorem dL_law_301 : decode cL_law 301 = .ok (.iload_n 3, 1) := by decide +kernel
theorem dL_law_302 : decode cL_law 302 = .ok (.iconst 1, 1) := by decide +kernel
theorem dL_law_303 : decode cL_law 303 = .ok (.iadd, 1) := by decide +kernel
theorem dL_law_304 : decode cL_law 304 = .ok (.iaload, 1) := by decide +kernel
theorem dL_law_305 : decode cL_law 305 = .ok (.invokevirtual 44, 3) := by decide +kernel
theorem dL_law_308 : decode cL_law 308 = .ok (.aload_n 2, 1) := by decide +kernel
theorem dL_law_309 : decode cL_law 309 = .ok (.aload_n 0, 1) := by decide +kernel
theorem dL_law_310 : decode cL_law 310 = .ok (.iload_n 3, 1) := by decide +kernel
theorem dL_law_311 : decode cL_law 311 = .ok (.iconst 1, 1) := by decide +kernel
theorem dL_law_312 : decode cL_law 312 = .ok (.iadd, 1) := by decide +kernel
theorem dL_law_313 : decode cL_law 313 = .ok (.iaload, 1) := by decide +kernel
theorem dL_law_314 : decode cL_law 314 = .ok (.invokevirtual 48, 3) := by decide +kernel
theorem dL_law_317 : decode cL_law 317 = .ok (.if_icmp .eq 51, 3) := by decide +kernel
theorem dL_law_320 : decode cL_law 320 = .ok (.iconst 0, 1) := by decide +kernel
theorem dL_law_321 : decode cL_law 321 = .ok (.ireturn, 1) := by decide +kernel
theorem dL_law_322 : decode cL_law 322 = .ok (.aload_n 1, 1) := by decide +kernel
theorem dL_law_323 : decode cL_law 323 = .ok (.aload_n 0, 1) := by decide +kernel
theorem dL_law_324 : decode cL_law 324 = .ok (.iload_n 3, 1) := by decide +kernel
theorem dL_law_325 : decode cL_law 325 = .ok (.iconst 1, 1) := by decide +kernel
theorem dL_law_326 : decode cL_law 326 = .ok (.iadd, 1) := by decide +kernel
theorem dL_law_327 : decode cL_law 327 = .ok (.iaload, 1) := by decide +kernel
theorem dL_law_328 : decode cL_law 328 = .ok (.invokevirtual 49, 3) := by decide +kernel
theorem dL_law_331 : decode cL_law 331 = .ok (.aload_n 2, 1) := by decide +kernel
theorem dL_law_332 : decode cL_law 332 = .ok (.aload_n 0, 1) := by decide +kernel
theorem dL_law_333 : decode cL_law 333 = .ok (.iload_n 3, 1) := by decide +kernel
theorem dL_law_334 : decode cL_law 334 = .ok (.iconst 1, 1) := by decide +kernel
theorem dL_law_335 : decode cL_law 335 = .ok (.iadd, 1) := by decide +kernel
theorem dL_law_336 : decode cL_law 336 = .ok (.iaload, 1) := by decide +kernel
theorem dL_law_337 : decode cL_law 337 = .ok (.invokevirtual 52, 3) := by decide +kernel
theorem dL_law_340 : decode cL_law 340 = .ok (.if_icmp .eq 28, 3) := by decide +kernel
theorem dL_law_343 : decode cL_law 343 = .ok (.iconst 0, 1) := by decide +kernel
theorem dL_law_344 : decode cL_law 344 = .ok (.ireturn, 1) := by decide +kernel
theorem dL_law_345 : decode cL_law 345 = .ok (.aload_n 1, 1) := by decide +kernel
theorem dL_law_346 : decode cL_law 346 = .ok (.aload_n 0, 1) := by decide +kernel
theorem dL_law_347 : decode cL_law 347 = .ok (.iload_n 3, 1) := by decide +kernel
theorem dL_law_348 : decode cL_law 348 = .ok (.iconst 1, 1) := by decide +kernel
theorem dL_law_349 : decode cL_law 349 = .ok (.iadd, 1) := by decide +kernel
theorem dL_law_350 : decode cL_law 350 = .ok (.iaload, 1) := by decide +kernel
theorem dL_law_351 : decode cL_law 351 = .ok (.invokevirtual 53, 3) := by decide +kernel
theorem dL_law_354 : decode cL_law 354 = .ok (.aload_n 2, 1) := by decide +kernel
theorem dL_law_355 : decode cL_law 355 = .ok (.aload_n 0, 1) := by decide +kernel
theorem dL_law_356 : decode cL_law 356 = .ok (.iload_n 3, 1) := by decide +kernel
theorem dL_law_357 : decode cL_law 357 = .ok (.iconst 1, 1) := by decide +kernel
theorem dL_law_358 : decode cL_law 358 = .ok (.iadd, 1) := by decide +kernel
theorem dL_law_359 : decode cL_law 359 = .ok (.iaload, 1) := by decide +kernel
theorem dL_law_360 : decode cL_law 360 = .ok (.invokevirtual 56, 3) := by decide +kernel
theorem dL_law_363 : decode cL_law 363 = .ok (.if_icmp .eq 5, 3) := by decide +kernel
theorem dL_law_366 : decode cL_law 366 = .ok (.iconst 0, 1) := by decide +kernel
theorem dL_law_367 : decode cL_law 367 = .ok (.ireturn, 1) := by decide +kernel
theorem dL_law_368 : decode cL_law 368 = .ok (.iinc 3 4, 3) := by decide +kernel
theorem dL_law_371 : decode cL_law 371 = .ok (.goto (-353), 3) := by decide +kernel
theorem dL_law_374 : decode cL_law 374 = .ok (.iconst 1, 1) := by decide +kernel
theorem dL_law_375 : decode cL_law 375 = .ok (.ireturn, 1) := by decide +kernel
abbrev vwCl : List vw_C := [(RX0, TX0, 9), (RX1, TX1, 7)]
end
section
-- rows of my own over the kit's: W at an instruction with its numbers as nI, lN
section
variable {p : Program} {l : Launch} {e : Env} {R : Room} {s : State} {m : MethodId} {args : Array Value} {below : List Frame} {meth : Method} {c : Code} {H : Heap} {locs : List Loc} {cells slots : Nat} {Q : State → Prop}
variable {cc : ByteArray} {pc : Nat} {ls : Array Slot} {rest : List Value} {D : va_G} {cl : List vw_C} {A : Nat → Prop} {a : Nat} {tys : List (ClassId × FieldType)} {ws : va_W} {H0 : Heap}
theorem dk_asi {x y : Int32} (h : x = y) (k : W p l e R s m args below meth c H locs cells slots Q (F0 m pc ls (.int y :: rest))) : W p l e R s m args below meth c H locs cells slots Q (F0 m pc ls (.int x :: rest)) := by
  rw [h]; exact k
theorem dk_asl {x y : Int64} (h : x = y) (k : W p l e R s m args below meth c H locs cells slots Q (F0 m pc ls (.long y :: rest))) : W p l e R s m args below meth c H locs cells slots Q (F0 m pc ls (.long x :: rest)) := by
  rw [h]; exact k
theorem dk_icmp_eq (hexec : p.tables.exec = Jvm.exec) (hb : c.code = cc) {x y : Nat} {off : Int} {tgt : Nat} (hdg : decode cc pc = .ok (.if_icmp .eq off, 3)) (ht : (pc : Int) + off = (tgt : Int)) (hx : x < 2 ^ 31) (hy : y < 2 ^ 31) (kt : x = y → W p l e R s m args below meth c H locs cells slots Q (F0 m tgt ls rest)) (kf : x ≠ y → W p l e R s m args below meth c H locs cells slots Q (F0 m (pc + 3) ls rest)) : W p l e R s m args below meth c H locs cells slots Q (F0 m pc ls (.int (nI y) :: .int (nI x) :: rest)) :=
  lv_icmp_eq hexec hb hdg ht (fun q => kt ((nI_eq hx hy).mp q)) (fun q => kf (fun z => q ((nI_eq hx hy).mpr z)))
theorem dk_icmp_ne (hexec : p.tables.exec = Jvm.exec) (hb : c.code = cc) {x y : Nat} {off : Int} {tgt : Nat} (hdg : decode cc pc = .ok (.if_icmp .ne off, 3)) (ht : (pc : Int) + off = (tgt : Int)) (hx : x < 2 ^ 31) (hy : y < 2 ^ 31) (kt : x ≠ y → W p l e R s m args below meth c H locs cells slots Q (F0 m tgt ls rest)) (kf : x = y → W p l e R s m args below meth c H locs cells slots Q (F0 m (pc + 3) ls rest)) : W p l e R s m args below meth c H locs cells slots Q (F0 m pc ls (.int (nI y) :: .int (nI x) :: rest)) :=
  lv_icmp_ne hexec hb hdg ht (fun q => kt (fun z => q ((nI_eq hx hy).mpr z))) (fun q => kf ((nI_eq hx hy).mp q))
theorem dk_icmp_lt (hexec : p.tables.exec = Jvm.exec) (hb : c.code = cc) {x y : Nat} {off : Int} {tgt : Nat} (hdg : decode cc pc = .ok (.if_icmp .lt off, 3)) (ht : (pc : Int) + off = (tgt : Int)) (hx : x < 2 ^ 31) (hy : y < 2 ^ 31) (kt : x < y → W p l e R s m args below meth c H locs cells slots Q (F0 m tgt ls rest)) (kf : y ≤ x → W p l e R s m args below meth c H locs cells slots Q (F0 m (pc + 3) ls rest)) : W p l e R s m args below meth c H locs cells slots Q (F0 m pc ls (.int (nI y) :: .int (nI x) :: rest)) :=
  lv_icmp_lt hexec hb hdg ht (fun q => kt ((nI_ltI hx hy).mp q)) (fun q => kf (Nat.le_of_not_lt fun z => q ((nI_ltI hx hy).mpr z)))
theorem dk_icmp_ge (hexec : p.tables.exec = Jvm.exec) (hb : c.code = cc) {x y : Nat} {off : Int} {tgt : Nat} (hdg : decode cc pc = .ok (.if_icmp .ge off, 3)) (ht : (pc : Int) + off = (tgt : Int)) (hx : x < 2 ^ 31) (hy : y < 2 ^ 31) (kt : y ≤ x → W p l e R s m args below meth c H locs cells slots Q (F0 m tgt ls rest)) (kf : x < y → W p l e R s m args below meth c H locs cells slots Q (F0 m (pc + 3) ls rest)) : W p l e R s m args below meth c H locs cells slots Q (F0 m pc ls (.int (nI y) :: .int (nI x) :: rest)) :=
  lv_icmp_ge hexec hb hdg ht (fun q => kt ((nI_leI hy hx).mp q)) (fun q => kf (Nat.lt_of_not_le fun z => q ((nI_leI hy hx).mpr z)))
theorem dk_icmp_gt (hexec : p.tables.exec = Jvm.exec) (hb : c.code = cc) {x y : Nat} {off : Int} {tgt : Nat} (hdg : decode cc pc = .ok (.if_icmp .gt off, 3)) (ht : (pc : Int) + off = (tgt : Int)) (hx : x < 2 ^ 31) (hy : y < 2 ^ 31) (kt : y < x → W p l e R s m args below meth c H locs cells slots Q (F0 m tgt ls rest)) (kf : x ≤ y → W p l e R s m args below meth c H locs cells slots Q (F0 m (pc + 3) ls rest)) : W p l e R s m args below meth c H locs cells slots Q (F0 m pc ls (.int (nI y) :: .int (nI x) :: rest)) :=
  lv_icmp_gt hexec hb hdg ht (fun q => kt ((nI_ltI hy hx).mp q)) (fun q => kf (Nat.le_of_not_lt fun z => q ((nI_ltI hy hx).mpr z)))
theorem dk_icmp_le (hexec : p.tables.exec = Jvm.exec) (hb : c.code = cc) {x y : Nat} {off : Int} {tgt : Nat} (hdg : decode cc pc = .ok (.if_icmp .le off, 3)) (ht : (pc : Int) + off = (tgt : Int)) (hx : x < 2 ^ 31) (hy : y < 2 ^ 31) (kt : x ≤ y → W p l e R s m args below meth c H locs cells slots Q (F0 m tgt ls rest)) (kf : y < x → W p l e R s m args below meth c H locs cells slots Q (F0 m (pc + 3) ls rest)) : W p l e R s m args below meth c H locs cells slots Q (F0 m pc ls (.int (nI y) :: .int (nI x) :: rest)) :=
  lv_icmp_le hexec hb hdg ht (fun q => kt ((nI_leI hx hy).mp q)) (fun q => kf (Nat.lt_of_not_le fun z => q ((nI_leI hx hy).mpr z)))
theorem dk_if_eq (hexec : p.tables.exec = Jvm.exec) (hb : c.code = cc) {x : Nat} {off : Int} {tgt : Nat} (hdg : decode cc pc = .ok (.ifCond .eq off, 3)) (ht : (pc : Int) + off = (tgt : Int)) (hx : x < 2 ^ 31) (kt : x = 0 → W p l e R s m args below meth c H locs cells slots Q (F0 m tgt ls rest)) (kf : 0 < x → W p l e R s m args below meth c H locs cells slots Q (F0 m (pc + 3) ls rest)) : W p l e R s m args below meth c H locs cells slots Q (F0 m pc ls (.int (nI x) :: rest)) :=
  lv_if_eq hexec hb hdg ht (fun q => kt ((nI_eq hx (by omega)).mp (q.trans nI_0.symm))) (fun q => kf (Nat.pos_of_ne_zero fun z => q (by rw [z]; exact nI_0)))
theorem dk_if_ne (hexec : p.tables.exec = Jvm.exec) (hb : c.code = cc) {x : Nat} {off : Int} {tgt : Nat} (hdg : decode cc pc = .ok (.ifCond .ne off, 3)) (ht : (pc : Int) + off = (tgt : Int)) (hx : x < 2 ^ 31) (kt : 0 < x → W p l e R s m args below meth c H locs cells slots Q (F0 m tgt ls rest)) (kf : x = 0 → W p l e R s m args below meth c H locs cells slots Q (F0 m (pc + 3) ls rest)) : W p l e R s m args below meth c H locs cells slots Q (F0 m pc ls (.int (nI x) :: rest)) :=
  lv_if_ne hexec hb hdg ht (fun q => kt (Nat.pos_of_ne_zero fun z => q (by rw [z]; exact nI_0))) (fun q => kf ((nI_eq hx (by omega)).mp (q.trans nI_0.symm)))
theorem dk_if_gt (hexec : p.tables.exec = Jvm.exec) (hb : c.code = cc) {x : Nat} {off : Int} {tgt : Nat} (hdg : decode cc pc = .ok (.ifCond .gt off, 3)) (ht : (pc : Int) + off = (tgt : Int)) (hx : x < 2 ^ 31) (kt : 0 < x → W p l e R s m args below meth c H locs cells slots Q (F0 m tgt ls rest)) (kf : x = 0 → W p l e R s m args below meth c H locs cells slots Q (F0 m (pc + 3) ls rest)) : W p l e R s m args below meth c H locs cells slots Q (F0 m pc ls (.int (nI x) :: rest)) :=
  lv_if_gt hexec hb hdg ht (fun q => kt ((nI_ltI (by omega) hx).mp (by rw [nI_0]; exact q))) (fun q => kf (Nat.eq_zero_of_not_pos fun z => q (by rw [← nI_0]; exact (nI_ltI (by omega) hx).mpr z)))
theorem dk_if_le (hexec : p.tables.exec = Jvm.exec) (hb : c.code = cc) {x : Nat} {off : Int} {tgt : Nat} (hdg : decode cc pc = .ok (.ifCond .le off, 3)) (ht : (pc : Int) + off = (tgt : Int)) (hx : x < 2 ^ 31) (kt : x = 0 → W p l e R s m args below meth c H locs cells slots Q (F0 m tgt ls rest)) (kf : 0 < x → W p l e R s m args below meth c H locs cells slots Q (F0 m (pc + 3) ls rest)) : W p l e R s m args below meth c H locs cells slots Q (F0 m pc ls (.int (nI x) :: rest)) :=
  lv_if_le hexec hb hdg ht (fun q => kt (Nat.le_zero.mp ((nI_leI hx (by omega)).mp (by rw [nI_0]; exact q)))) (fun q => kf (Nat.pos_of_ne_zero fun z => q (by rw [z, ← nI_0]; exact (nI_leI (by omega) (by omega)).mpr (Nat.le_refl 0))))
theorem dk_if_lt (hexec : p.tables.exec = Jvm.exec) (hb : c.code = cc) {x : Nat} {off : Int} {tgt : Nat} (hdg : decode cc pc = .ok (.ifCond .lt off, 3)) (ht : (pc : Int) + off = (tgt : Int)) (hx : x < 2 ^ 31) (kf : W p l e R s m args below meth c H locs cells slots Q (F0 m (pc + 3) ls rest)) : W p l e R s m args below meth c H locs cells slots Q (F0 m pc ls (.int (nI x) :: rest)) :=
  lv_if_lt hexec hb hdg ht (fun q => absurd q (nI_pos hx)) (fun _ => kf)
theorem dk_if_ge (hexec : p.tables.exec = Jvm.exec) (hb : c.code = cc) {x : Nat} {off : Int} {tgt : Nat} (hdg : decode cc pc = .ok (.ifCond .ge off, 3)) (ht : (pc : Int) + off = (tgt : Int)) (hx : x < 2 ^ 31) (kt : W p l e R s m args below meth c H locs cells slots Q (F0 m tgt ls rest)) : W p l e R s m args below meth c H locs cells slots Q (F0 m pc ls (.int (nI x) :: rest)) :=
  lv_if_ge hexec hb hdg ht (fun _ => kt) (fun q => absurd (nI_pos' hx) q)
theorem dk_lald (hexec : p.tables.exec = Jvm.exec) (hb : c.code = cc) (hK : va_K D cl tys s) (hP : va_P D cl ws H) (q0 t0 : Nat) {cA : ClassId} {n : Nat} {f : Nat → Int64} (ha : ws[q0]? = some (a, .inl (cA, n, .inr (.inl f)))) (ht : tys[t0]? = some (cA, .long)) {j : Nat} (hj : j < n) (hn : n < 2 ^ 31) (hdg : decode cc pc = .ok (.laload, 1)) (kk : W p l e R s m args below meth c H locs cells slots Q (F0 m (pc + 1) ls (.long (f j) :: rest))) : W p l e R s m args below meth c H locs cells slots Q (F0 m pc ls (.int (nI j) :: .ref a :: rest)) :=
  va_lald hexec hb hK hP q0 t0 ha ht (vp_in_nI hj hn) hdg (by rw [nI_clamp (by omega)]; exact kk)
theorem dk_cald (hexec : p.tables.exec = Jvm.exec) (hb : c.code = cc) (hK : va_K D cl tys s) (hP : va_P D cl ws H) (q0 t0 : Nat) {cA : ClassId} {n : Nat} {f : Nat → Int32} (ha : ws[q0]? = some (a, .inl (cA, n, .inl f))) (ht : tys[t0]? = some (cA, .char)) {j : Nat} (hj : j < n) (hn : n < 2 ^ 31) (hdg : decode cc pc = .ok (.caload, 1)) (kk : W p l e R s m args below meth c H locs cells slots Q (F0 m (pc + 1) ls (.int (f j) :: rest))) : W p l e R s m args below meth c H locs cells slots Q (F0 m pc ls (.int (nI j) :: .ref a :: rest)) :=
  va_cald hexec hb hK hP q0 t0 ha ht (vp_in_nI hj hn) hdg (by rw [nI_clamp (by omega)]; exact kk)
theorem dk_iald (hexec : p.tables.exec = Jvm.exec) (hb : c.code = cc) (hK : va_K D cl tys s) (hP : va_P D cl ws H) (q0 t0 : Nat) {cA : ClassId} {n : Nat} {f : Nat → Int32} (ha : ws[q0]? = some (a, .inl (cA, n, .inl f))) (ht : tys[t0]? = some (cA, .int)) {j : Nat} (hj : j < n) (hn : n < 2 ^ 31) (hdg : decode cc pc = .ok (.iaload, 1)) (kk : W p l e R s m args below meth c H locs cells slots Q (F0 m (pc + 1) ls (.int (f j) :: rest))) : W p l e R s m args below meth c H locs cells slots Q (F0 m pc ls (.int (nI j) :: .ref a :: rest)) :=
  va_iald hexec hb hK hP q0 t0 ha ht (vp_in_nI hj hn) hdg (by rw [nI_clamp (by omega)]; exact kk)
theorem dk_last (hexec : p.tables.exec = Jvm.exec) (hb : c.code = cc) (hK : va_K D cl tys s) (hP : va_P D cl ws H) (hD : va_D A ws) (hS : va_S A H0 H locs) (q0 t0 : Nat) {cA : ClassId} {n : Nat} {f : Nat → Int64} (ha : ws[q0]? = some (a, .inl (cA, n, .inr (.inl f)))) (ht : tys[t0]? = some (cA, .long)) {j : Nat} {x : Int64} (hj : j < n) (hn : n < 2 ^ 31) (hdg : decode cc pc = .ok (.lastore, 1)) (kk : ∀ (H1 : Heap) (locs1 : List Loc), va_P D cl (ws.set q0 (a, .inl (cA, n, .inr (.inl (vp_updL f j x))))) H1 → va_D A (ws.set q0 (a, .inl (cA, n, .inr (.inl (vp_updL f j x))))) → va_S A H0 H1 locs1 → W p l e R s m args below meth c H1 locs1 cells slots Q (F0 m (pc + 1) ls rest)) : W p l e R s m args below meth c H locs cells slots Q (F0 m pc ls (.long x :: .int (nI j) :: .ref a :: rest)) :=
  va_last hexec hb hK hP hD hS q0 t0 ha ht (vp_in_nI hj hn) hdg (by rw [nI_clamp (by omega)]; exact kk)
theorem dk_iast (hexec : p.tables.exec = Jvm.exec) (hb : c.code = cc) (hK : va_K D cl tys s) (hP : va_P D cl ws H) (hD : va_D A ws) (hS : va_S A H0 H locs) (q0 t0 : Nat) {cA : ClassId} {n : Nat} {f : Nat → Int32} (ha : ws[q0]? = some (a, .inl (cA, n, .inl f))) (ht : tys[t0]? = some (cA, .int)) {j : Nat} {x : Int32} (hj : j < n) (hn : n < 2 ^ 31) (hdg : decode cc pc = .ok (.iastore, 1)) (kk : ∀ (H1 : Heap) (locs1 : List Loc), va_P D cl (ws.set q0 (a, .inl (cA, n, .inl (upd f j x)))) H1 → va_D A (ws.set q0 (a, .inl (cA, n, .inl (upd f j x)))) → va_S A H0 H1 locs1 → W p l e R s m args below meth c H1 locs1 cells slots Q (F0 m (pc + 1) ls rest)) : W p l e R s m args below meth c H locs cells slots Q (F0 m pc ls (.int x :: .int (nI j) :: .ref a :: rest)) :=
  va_iast hexec hb hK hP hD hS q0 t0 ha ht (vp_in_nI hj hn) hdg (by rw [nI_clamp (by omega)]; exact kk)
theorem dk_nar {q : Nat} (hq : q < 65536) : vp_nar .char (nI q) = nI q := by
  unfold vp_nar; rw [(pk_charN hq).1]
theorem dk_cast (hexec : p.tables.exec = Jvm.exec) (hb : c.code = cc) (hK : va_K D cl tys s) (hP : va_P D cl ws H) (hD : va_D A ws) (hS : va_S A H0 H locs) (q0 t0 : Nat) {cA : ClassId} {n : Nat} {f : Nat → Int32} (ha : ws[q0]? = some (a, .inl (cA, n, .inl f))) (ht : tys[t0]? = some (cA, .char)) {j x : Nat} (hj : j < n) (hn : n < 2 ^ 31) (hx : x < 65536) (hdg : decode cc pc = .ok (.castore, 1)) (kk : ∀ (H1 : Heap) (locs1 : List Loc), va_P D cl (ws.set q0 (a, .inl (cA, n, .inl (upd f j (nI x))))) H1 → va_D A (ws.set q0 (a, .inl (cA, n, .inl (upd f j (nI x))))) → va_S A H0 H1 locs1 → W p l e R s m args below meth c H1 locs1 cells slots Q (F0 m (pc + 1) ls rest)) : W p l e R s m args below meth c H locs cells slots Q (F0 m pc ls (.int (nI x) :: .int (nI j) :: .ref a :: rest)) :=
  va_cast hexec hb hK hP hD hS q0 t0 ha ht (vp_in_nI hj hn) hdg (by rw [nI_clamp (by omega), dk_nar hx]; exact kk)
end
-- a contract's start: the cells ws, their classes; for a method that writes also the heap's size
abbrev dk_Pr (av : List Value) (D : va_G) (cl : List vw_C) (tys : List (ClassId × FieldType)) (ws : va_W) : Array Value → State → Prop := va_Pc av (fun U => va_P D cl ws U.heap ∧ va_K D cl tys U)
abbrev dk_Pw (av : List Value) (D : va_G) (cl : List vw_C) (tys : List (ClassId × FieldType)) (ws : va_W) (sz : Nat) : Array Value → State → Prop := va_Pc av (fun U => U.heap.size = sz ∧ va_P D cl ws U.heap ∧ va_K D cl tys U ∧ va_D (fun _ => True) ws)
abbrev dk_B (D : va_G) (cl : List vw_C) (A : Nat → Prop) (ws : va_W) (t : State) : Prop := va_P D cl ws t.heap ∧ va_D A ws
abbrev dk_no : Nat → Prop := fun _ => False
theorem dk_blr {av : List Value} {D : va_G} {cl : List vw_C} {tys : List (ClassId × FieldType)} {ws : va_W} : FrameBlind (dk_Pr av D cl tys ws) := fun a U g mk q => by
  obtain ⟨q0, qP, qK⟩ := q
  exact ⟨q0, qP, va_K.moved (u := U) (U := U.calling g mk a) (Vm.Alike.refl U.vm) qK⟩
theorem dk_blw {av : List Value} {D : va_G} {cl : List vw_C} {tys : List (ClassId × FieldType)} {ws : va_W} {sz : Nat} : FrameBlind (dk_Pw av D cl tys ws sz) := fun a U g mk q => by
  obtain ⟨q0, q1, qP, qK, qD⟩ := q
  exact ⟨q0, q1, qP, va_K.moved (u := U) (U := U.calling g mk a) (Vm.Alike.refl U.vm) qK, qD⟩
theorem dk_rS {s : State} {H : Heap} {av : List Value} {D : va_G} {cl : List vw_C} {tys : List (ClassId × FieldType)} {ws : va_W} (hP : va_P D cl ws H) (hK : va_K D cl tys s) : PreS s H (dk_Pr av D cl tys ws) av :=
  ⟨dk_blr, fun U hU hW => ⟨rfl, by rw [hU]; exact hP, va_K.moved hW.alike hK⟩⟩
theorem dk_wS {s : State} {H : Heap} {av : List Value} {D : va_G} {cl : List vw_C} {tys : List (ClassId × FieldType)} {ws : va_W} {A : Nat → Prop} (hP : va_P D cl ws H) (hK : va_K D cl tys s) (hD : va_D A ws) : PreS s H (dk_Pw av D cl tys ws H.size) av :=
  ⟨dk_blw, fun U hU hW => ⟨rfl, by rw [hU], by rw [hU]; exact hP, va_K.moved hW.alike hK, hD.weaken (fun _ _ _ _ => trivial)⟩⟩
theorem dk_rV {s : State} {H : Heap} {As : List Value} {D : va_G} {cl : List vw_C} {tys : List (ClassId × FieldType)} {ws : va_W} {b ci q0 N : Nat} {C : String} {T : u_T} {fs : List Value} (hP : va_P D cl ws H) (hK : va_K D cl tys s) (hc : cl[ci]? = some (C, T, N)) (he : ws[q0]? = some (b, .inr (ci, fs))) : PreV s H C b (dk_Pr (.ref b :: As) D cl tys ws) As :=
  ⟨dk_blr, va_recv hK hP hc he, fun U hU hW => ⟨rfl, by rw [hU]; exact hP, va_K.moved hW.alike hK⟩⟩
theorem dk_wV {s : State} {H : Heap} {As : List Value} {D : va_G} {cl : List vw_C} {tys : List (ClassId × FieldType)} {ws : va_W} {A : Nat → Prop} {b ci q0 N : Nat} {C : String} {T : u_T} {fs : List Value} (hP : va_P D cl ws H) (hK : va_K D cl tys s) (hD : va_D A ws) (hc : cl[ci]? = some (C, T, N)) (he : ws[q0]? = some (b, .inr (ci, fs))) : PreV s H C b (dk_Pw (.ref b :: As) D cl tys ws H.size) As :=
  ⟨dk_blw, va_recv hK hP hc he, fun U hU hW => ⟨rfl, by rw [hU], by rw [hU]; exact hP, va_K.moved hW.alike hK, hD.weaken (fun _ _ _ _ => trivial)⟩⟩
theorem dk_kept {D : va_G} {cl : List vw_C} {ws : va_W} {H H1 : Heap} (hP : va_P D cl ws H) (hk : ∀ q : Nat, q < H.size → ¬ dk_no q → H1[q]? = H[q]?) : va_P D cl ws H1 := hP.kept (fun k q hq => hk q.1 (va_at.lt (hP k q hq)) (fun h => h))
theorem dk_P0 {D : va_G} {cl : List vw_C} {H : Heap} : va_P D cl [] H := fun k q h => by simp at h
theorem dk_D0 {A : Nat → Prop} : va_D A [] := ⟨fun i j p q h => by simp at h, fun k q h => by simp at h⟩
theorem dk_sld {p : Program} {l : Launch} {e : Env} {R : Room} {s : State} {m : MethodId} {args : Array Value} {below : List Frame} {meth : Method} {c : Code} {H : Heap} {locs : List Loc} {cells slots : Nat} {Q : State → Prop} {cc : ByteArray} {pc : Nat} {ls : Array Slot} {rest : List Value} {A : Nat → Prop} {H0 : Heap} (hexec : p.tables.exec = Jvm.exec) (hb : c.code = cc) {b L : Nat} {xs : Nat → Int32} (hX : va_X b L xs s H0) (hbl : b < H0.size) (hbA : ¬ A b) (hS : va_S A H0 H locs) {j : Nat} (hj : j < L) (hL : L < 2 ^ 31) (hdg : decode cc pc = .ok (.iaload, 1)) (kk : W p l e R s m args below meth c H locs cells slots Q (F0 m (pc + 1) ls (.int (xs j) :: rest))) : W p l e R s m args below meth c H locs cells slots Q (F0 m pc ls (.int (nI j) :: .ref b :: rest)) :=
  va_sld hexec hb hX hbl hbA hS (vp_in_nI hj hL) hdg (by rw [nI_clamp (by omega)]; exact kk)
end
section
-- what the answers are, in my words
theorem dk_lnl {a b : Int64} (h : ¬ a < b) : b ≤ a := by
  rw [Int64.le_iff_toInt_le]; rw [Int64.lt_iff_toInt_lt] at h; omega
theorem dk_lnle {a b : Int64} (h : a < b) : ¬ b ≤ a := by
  rw [Int64.le_iff_toInt_le]; rw [Int64.lt_iff_toInt_lt] at h; omega
theorem dk_inl {a b : Int32} (h : ¬ a < b) : b ≤ a := by
  rw [Int32.le_iff_toInt_le]; rw [Int32.lt_iff_toInt_lt] at h; omega
theorem dk_inle {a b : Int32} (h : ¬ a ≤ b) : b < a := by
  rw [Int32.lt_iff_toInt_lt]; rw [Int32.le_iff_toInt_le] at h; omega
theorem dk_pos {x : Int32} (h0 : ¬ x < 0) (h : ¬ nI 200 ≤ x) : ∃ j : Nat, j < 200 ∧ x = nI j := by
  rcases pk_ix x (n := 200) (by omega) with q | q | q
  · exact absurd q h0
  · exact absurd q h
  · exact q
theorem dk_min {a b : Nat} (ha : a < 2 ^ 31) (hb : b < 2 ^ 31) : (if nI b < nI a then nI b else nI a) = nI (min a b) := by
  by_cases h : b < a
  · rw [if_pos ((nI_ltI hb ha).mpr h), Nat.min_eq_right (by omega)]
  · rw [if_neg (fun q => h ((nI_ltI hb ha).mp q)), Nat.min_eq_left (by omega)]
theorem dk_ticks {x : Int32} (h1 : ¬ x < 1) (h2 : x ≤ nI 100000) : ∃ n : Nat, 1 ≤ n ∧ n ≤ 100000 ∧ x = nI n := by
  have h0 : ¬ x < 0 := fun q => h1 (by
    rw [Int32.lt_iff_toInt_lt] at q ⊢
    have e0 : (0 : Int32).toInt = 0 := by decide
    have e1 : (1 : Int32).toInt = 1 := by decide
    omega)
  obtain ⟨j, hj, rfl⟩ := nI_of h0
  refine ⟨j, ?_, (nI_leI hj (by omega)).mp h2, rfl⟩
  rcases Nat.eq_zero_or_pos j with q | q
  · rw [q] at h1; exact absurd (by decide) h1
  · exact q
/-- a number that a switch over 0 .. 4 reads -/
theorem dk_sw5 (x : Int32) : x = 0 ∨ x = 1 ∨ x = 2 ∨ x = 3 ∨ x = 4 ∨ (x.toInt < 0 ∨ 4 < x.toInt) := by
  have e0 : (0 : Int32).toInt = 0 := by decide
  have e1 : (1 : Int32).toInt = 1 := by decide
  have e2 : (2 : Int32).toInt = 2 := by decide
  have e3 : (3 : Int32).toInt = 3 := by decide
  have e4 : (4 : Int32).toInt = 4 := by decide
  simp only [← Int32.toInt_inj]
  omega
def dk_iR (t : Nat) : Prop := 150 ≤ t ∧ t ≤ 900 ∧ t % 50 = 0
def dk_rU (t : Nat) : Nat := if t < 150 then 0 else (min t 900 - 150) / 50 + 1
def dk_nR (t : Nat) : Nat := if 900 ≤ t then 1150 else 150 + dk_rU t * 50
def dk_nP (t : Nat) : Nat := if t < 100 then 100 else if t < 700 then 700 else if t < 800 then 800 else if t < 900 then 900 else 1000
def dk_ph (t : Nat) : Nat := if t < 100 then 0 else if t < 700 then 1 else if t < 800 then 2 else if t < 900 then 3 else 4
def dk_pA (t : Nat) : Nat := (if 150 ≤ t ∧ t ≤ 900 ∧ t % 50 = 0 then 1 else 0) + (if t = 900 then 2 else 0) + (if t = 0 then 4 else 0)
def dk_cE (x : Int32) : Prop := x = 3 ∨ x = 4 ∨ x = 5 ∨ x = 6 ∨ x = 13
def dk_cS (x : Int32) : Prop := dk_cE x ∨ x = 7 ∨ x = 8
def dk_may (t : Nat) (x pr mo : Int32) : Prop := ¬ x < 0 ∧ x ≤ 14 ∧ (t < 100 → ¬ dk_cE x) ∧ (700 ≤ t → t < 800 → ¬ x = 5 ∨ pr ≤ 4) ∧ (800 ≤ t → t < 900 → ¬ x = 5 ∨ ¬ mo = 0) ∧ (900 ≤ t → ¬ dk_cS x)
def dk_look (d : Int32) (t : Nat) (x r : Int32) : Prop := (x = 0 ∧ r = d) ∨ (x = 1 ∧ r = nI t) ∨ (x = 2 ∧ r = nI (dk_ph t)) ∨ (x = 3 ∧ r = nI (dk_nR t - t)) ∨ (x = 4 ∧ r = nI (dk_nP t - t)) ∨ ((x.toInt < 0 ∨ 4 < x.toInt) ∧ r = -1)
/-- what the beginning of b days makes of opening, went, came, moved -/
def dk_Op (b : Nat) (fo fw fc fn fm go gw gc gm : Nat → Int64) : Prop := (b = 0 ∧ go = fo ∧ gw = fw ∧ gc = fc ∧ gm = fm) ∨ (0 < b ∧ ∀ j, j < 200 → go j = fn j ∧ gw j = 0 ∧ gc j = 0 ∧ gm j = 0)
def dk_in (v b : Int64) : Prop := -b ≤ v ∧ v ≤ b
def dk_neg (v : Int64) : Int64 := if v < 0 then -v else 0
def dk_ps (v : Int64) : Int64 := if 0 < v then v else 0
theorem dk_rU_le (t : Nat) : dk_rU t ≤ 16 := by
  unfold dk_rU; split <;> omega
theorem dk_rU_mono {a b : Nat} (h : a ≤ b) : dk_rU a ≤ dk_rU b := by
  unfold dk_rU; (repeat' split) <;> omega
theorem dk_nR_lt {t : Nat} (h : t < 1000) : t < dk_nR t ∧ dk_nR t < 2000 := by
  unfold dk_nR dk_rU; (repeat' split) <;> omega
theorem dk_nP_lt {t : Nat} (h : t < 1000) : t < dk_nP t ∧ dk_nP t < 2000 := by
  unfold dk_nP; (repeat' split) <;> omega
/-- characters put into a row from place n on -/
def dk_ap (f : Nat → Int32) (n : Nat) : List Nat → Nat → Int32
  | [] => f
  | c :: cs => dk_ap (upd f n (nI c)) (n + 1) cs
theorem dk_ap_app (f : Nat → Int32) (n : Nat) (a b : List Nat) : dk_ap f n (a ++ b) = dk_ap (dk_ap f n a) (n + a.length) b := by
  induction a generalizing f n with
  | nil => rfl
  | cons c cs ih =>
    show dk_ap (upd f n (nI c)) (n + 1) (cs ++ b) = _
    rw [ih, List.length_cons, show n + 1 + cs.length = n + (cs.length + 1) from by omega]
    rfl
theorem dk_ap_lo (f : Nat → Int32) (n : Nat) (a : List Nat) {i : Nat} (h : i < n) : dk_ap f n a i = f i := by
  induction a generalizing f n with
  | nil => rfl
  | cons c cs ih =>
    show dk_ap (upd f n (nI c)) (n + 1) cs i = _
    rw [ih _ _ (by omega), pk_un (by omega)]
theorem dk_ap_at (f : Nat → Int32) (n : Nat) (a : List Nat) {i : Nat} (h : i < a.length) : dk_ap f n a (n + i) = nI (a.getD i 0) := by
  induction a generalizing f n i with
  | nil => exact absurd h (Nat.not_lt_zero _)
  | cons c cs ih =>
    cases i with
    | zero =>
      show dk_ap (upd f n (nI c)) (n + 1) cs (n + 0) = _
      rw [dk_ap_lo _ _ _ (by omega), Nat.add_zero, pk_us]; rfl
    | succ i =>
      show dk_ap (upd f n (nI c)) (n + 1) cs (n + (i + 1)) = _
      rw [show n + (i + 1) = n + 1 + i from by omega, ih _ _ (by simpa using h)]; rfl
/-- the digits of z from the place of 10 ^ k down, none ahead of the first that isn't 0 but the last -/
def dk_dg : Nat → Nat → List Nat
  | 0, z => [48 + z % 10]
  | k + 1, z => (if 10 ^ (k + 1) ≤ z then [48 + z / 10 ^ (k + 1) % 10] else []) ++ dk_dg k z
/-- a number in digits, - before one below 0 -/
def dk_num (v : Int64) : List Nat := (if v < 0 then [45] else []) ++ dk_dg 18 (v.toInt.natAbs)
theorem dk_dg_len (k z : Nat) : (dk_dg k z).length ≤ k + 1 := by
  induction k with
  | zero => exact Nat.le_refl _
  | succ k ih =>
    show ((if 10 ^ (k + 1) ≤ z then [48 + z / 10 ^ (k + 1) % 10] else []) ++ dk_dg k z).length ≤ _
    rw [List.length_append]
    split
    · rw [List.length_singleton]; omega
    · rw [List.length_nil]; omega
theorem dk_num_len (v : Int64) : (dk_num v).length ≤ 20 := by
  unfold dk_num
  rw [List.length_append]
  have h := dk_dg_len 18 v.toInt.natAbs
  split
  · rw [List.length_singleton]; omega
  · rw [List.length_nil]; omega
/-- the row of a position -/
def dk_txt (a b c d e : Int64) : List Nat := dk_num a ++ ([32] ++ (dk_num b ++ ([32] ++ (dk_num c ++ ([32] ++ (dk_num d ++ ([32] ++ dk_num e)))))))
theorem dk_txt_len (a b c d e : Int64) : (dk_txt a b c d e).length ≤ 104 := by
  unfold dk_txt
  have h1 := dk_num_len a
  have h2 := dk_num_len b
  have h3 := dk_num_len c
  have h4 := dk_num_len d
  have h5 := dk_num_len e
  simp only [List.length_append, List.length_singleton]
  omega
theorem dk_ap_nil (f : Nat → Int32) (n : Nat) : dk_ap f n [] = f := rfl
theorem dk_ap_cons (f : Nat → Int32) (n c : Nat) (cs : List Nat) : dk_ap f n (c :: cs) = dk_ap (upd f n (nI c)) (n + 1) cs := rfl
theorem dk_l0 : (0 : Int64).toInt = 0 := by decide
theorem dk_llt0 {v : Int64} (h : ¬ 0 ≤ v) : v < 0 := by
  rw [Int64.lt_iff_toInt_lt]; rw [Int64.le_iff_toInt_le] at h; omega
theorem dk_lge0 {v : Int64} (h : 0 ≤ v) : ¬ v < 0 := by
  rw [Int64.lt_iff_toInt_lt]; rw [Int64.le_iff_toInt_le] at h; omega
theorem dk_neg_ge {v : Int64} (h : 0 ≤ v) : (0 : Int64) = dk_neg v := by
  unfold dk_neg; rw [if_neg (dk_lge0 h)]
theorem dk_neg_lt {v : Int64} (h : ¬ 0 ≤ v) : -v = dk_neg v := by
  unfold dk_neg; rw [if_pos (dk_llt0 h)]
theorem dk_ps_le {v : Int64} (h : v ≤ 0) : (0 : Int64) = dk_ps v := by
  unfold dk_ps; rw [if_neg (fun q => dk_lnle q h)]
theorem dk_ps_gt {v : Int64} (h : ¬ v ≤ 0) : v = dk_ps v := by
  unfold dk_ps; rw [if_pos (by rw [Int64.lt_iff_toInt_lt]; rw [Int64.le_iff_toInt_le] at h; omega)]
theorem dk_lanti {v : Int64} (h : 0 ≤ v) (h2 : v ≤ 0) : v = 0 := by
  rw [Int64.le_iff_toInt_le] at h h2; exact Int64.toInt_inj.mp (by omega)
theorem dk_lnle' {v : Int64} (h : ¬ 0 ≤ v) : v ≤ 0 := by
  rw [Int64.le_iff_toInt_le] at h ⊢; omega
theorem dk_p10 {k : Nat} (h : k ≤ 18) : 0 < 10 ^ k ∧ 10 ^ k ≤ 1000000000000000000 := ⟨Nat.pow_pos (by decide), Nat.le_trans (Nat.pow_le_pow_right (by decide) h) (by decide)⟩
theorem dk_lne {n : Nat} (h0 : 0 < n) (h : n < 2 ^ 63) : ¬ lN n = 0 := fun q => by
  have a := pk_lT h
  rw [q, dk_l0] at a; omega
theorem dk_lpos {n : Nat} (h0 : 0 < n) (h : n < 2 ^ 63) : ¬ lN n ≤ 0 := fun q => by
  rw [Int64.le_iff_toInt_le, pk_lT h, dk_l0] at q; omega
theorem dk_dlt {z k m : Nat} (h : z < m) : z / k < m := Nat.lt_of_le_of_lt (Nat.div_le_self _ _) h
theorem dk_chr {n : Nat} (h : n < 65536) : ((nI n).toUInt32 % 65536).toInt32 = nI n := by
  rw [pk_char, pk_tn (by omega), Nat.mod_eq_of_lt h]
theorem dk_absP {v : Int64} (h : 0 ≤ v) : v = lN v.toInt.natAbs := by
  rw [Int64.le_iff_toInt_le, dk_l0] at h
  have a := v.toInt_lt
  exact Int64.toInt_inj.mp (by rw [pk_lT (by omega)]; omega)
theorem dk_negT {v : Int64} (h : -9223372036854775808 < v.toInt) : (-v).toInt = -v.toInt := by
  have a := v.toInt_lt
  rw [Int64.toInt_neg]
  exact Int.bmod_eq_of_le (by omega) (by omega)
theorem dk_absN {v : Int64} (h : ¬ 0 ≤ v) (hv : -9223372036854775808 < v.toInt) : -v = lN v.toInt.natAbs := by
  rw [Int64.le_iff_toInt_le, dk_l0] at h
  have a := v.toInt_lt
  exact Int64.toInt_inj.mp (by rw [pk_lT (by omega), dk_negT hv]; omega)
theorem dk_skip_le (t n : Nat) (h : t < 1000) : dk_rU t ≤ (t + n) / 1000 * 16 + dk_rU ((t + n) % 1000) := by
  have a := dk_rU_le t
  rcases Nat.eq_zero_or_pos ((t + n) / 1000) with q | q
  · have b := dk_rU_mono (a := t) (b := (t + n) % 1000) (by omega)
    omega
  · omega
/-- what move answers and does -/
def dk_mv (x : Int32) (v : Int64) (fw fc fn fm : Nat → Int64) (r : Int32) (gw gc gn gm : Nat → Int64) : Prop :=
  (r = -1 ∧ gw = fw ∧ gc = fc ∧ gn = fn ∧ gm = fm ∧ ((x < 0 ∨ nI 200 ≤ x) ∨ ¬ dk_in v 10000000000000000 ∨ ∃ j : Nat, j < 200 ∧ x = nI j ∧ ¬ v = 0 ∧ ¬ (dk_in (fn j + v) 9000000000000000000 ∧ dk_in (fw j + dk_neg v) 9000000000000000000 ∧ dk_in (fc j + dk_ps v) 9000000000000000000))) ∨
  (r = 0 ∧ gw = fw ∧ gc = fc ∧ gn = fn ∧ gm = fm ∧ v = 0 ∧ ∃ j : Nat, j < 200 ∧ x = nI j) ∨
  (r = 1 ∧ ∃ j : Nat, j < 200 ∧ x = nI j ∧ dk_in v 10000000000000000 ∧ ¬ v = 0 ∧ dk_in (fn j + v) 9000000000000000000 ∧ dk_in (fw j + dk_neg v) 9000000000000000000 ∧ dk_in (fc j + dk_ps v) 9000000000000000000 ∧ gw = vp_updL fw j (fw j + dk_neg v) ∧ gc = vp_updL fc j (fc j + dk_ps v) ∧ gn = vp_updL fn j (fn j + v) ∧ gm = vp_updL fm j (fm j + 1))
theorem dk_dg_lt (k : Nat) {z : Nat} (h : z < 10) : dk_dg k z = [48 + z] := by
  induction k with
  | zero => show [48 + z % 10] = _; rw [Nat.mod_eq_of_lt h]
  | succ k ih =>
    show (if 10 ^ (k + 1) ≤ z then [48 + z / 10 ^ (k + 1) % 10] else []) ++ dk_dg k z = _
    have a : 10 ^ (k + 1) = 10 ^ k * 10 := Nat.pow_succ ..
    have b : 0 < 10 ^ k := Nat.pow_pos (by decide)
    rw [if_neg (by omega), ih]; rfl
theorem dk_dg_s (k z : Nat) (h : 10 ≤ z) : dk_dg (k + 1) z = dk_dg k (z / 10) ++ [48 + z % 10] := by
  induction k with
  | zero =>
    show (if 10 ^ (0 + 1) ≤ z then [48 + z / 10 ^ (0 + 1) % 10] else []) ++ [48 + z % 10] = [48 + z / 10 % 10] ++ [48 + z % 10]
    rw [if_pos (by simpa using h)]
  | succ k ih =>
    show (if 10 ^ (k + 1 + 1) ≤ z then [48 + z / 10 ^ (k + 1 + 1) % 10] else []) ++ dk_dg (k + 1) z = ((if 10 ^ (k + 1) ≤ z / 10 then [48 + z / 10 / 10 ^ (k + 1) % 10] else []) ++ dk_dg k (z / 10)) ++ [48 + z % 10]
    rw [ih, Nat.div_div_eq_div_mul, show 10 * 10 ^ (k + 1) = 10 ^ (k + 1 + 1) from by rw [Nat.pow_succ 10 (k + 1), Nat.mul_comm]]
    have e : (10 ^ (k + 1) ≤ z / 10) ↔ (10 ^ (k + 1 + 1) ≤ z) := by rw [Nat.le_div_iff_mul_le (by decide), ← Nat.pow_succ]
    by_cases q : 10 ^ (k + 1 + 1) ≤ z
    · rw [if_pos q, if_pos (e.mpr q), List.append_assoc]
    · rw [if_neg q, if_neg (fun w => q (e.mp w)), List.append_assoc]
end
section
-- the reference's state in my words: what went, came, how often, by its list of moves
def dk_yw (mo : Nat → Int32) (mb : Nat → Int64) (p : Int32) : Nat → Int64
  | 0 => 0
  | k + 1 => if mo k = p then (if mb k < 0 then dk_yw mo mb p k - mb k else dk_yw mo mb p k) else dk_yw mo mb p k
def dk_yc (mo : Nat → Int32) (mb : Nat → Int64) (p : Int32) : Nat → Int64
  | 0 => 0
  | k + 1 => if mo k = p then (if 0 < mb k then dk_yc mo mb p k + mb k else dk_yc mo mb p k) else dk_yc mo mb p k
def dk_yn (mo : Nat → Int32) (p : Int32) : Nat → Nat
  | 0 => 0
  | k + 1 => if mo k = p then dk_yn mo p k + 1 else dk_yn mo p k
def dk_y3 (O : Nat → Int64) (mo : Nat → Int32) (mb : Nat → Int64) (k j : Nat) : Int64 := O j - dk_yw mo mb (nI j) k + dk_yc mo mb (nI j) k
theorem dk_yw_n {mo : Nat → Int32} {mb : Nat → Int64} {p : Int32} {i : Nat} (h : mo i = p) (h2 : ¬ 0 ≤ mb i) : dk_yw mo mb p i - mb i = dk_yw mo mb p (i + 1) := by
  show _ = if mo i = p then (if mb i < 0 then dk_yw mo mb p i - mb i else dk_yw mo mb p i) else dk_yw mo mb p i
  rw [if_pos h, if_pos (dk_llt0 h2)]
theorem dk_yw_p {mo : Nat → Int32} {mb : Nat → Int64} {p : Int32} {i : Nat} (h : mo i = p) (h2 : 0 ≤ mb i) : dk_yw mo mb p i = dk_yw mo mb p (i + 1) := by
  show _ = if mo i = p then (if mb i < 0 then dk_yw mo mb p i - mb i else dk_yw mo mb p i) else dk_yw mo mb p i
  rw [if_pos h, if_neg (dk_lge0 h2)]
theorem dk_yw_ne {mo : Nat → Int32} {mb : Nat → Int64} {p : Int32} {i : Nat} (h : ¬ mo i = p) : dk_yw mo mb p (i + 1) = dk_yw mo mb p i := by
  show (if mo i = p then (if mb i < 0 then dk_yw mo mb p i - mb i else dk_yw mo mb p i) else dk_yw mo mb p i) = _
  rw [if_neg h]
theorem dk_gt0 {v : Int64} (h : ¬ v ≤ 0) : 0 < v := by
  rw [Int64.lt_iff_toInt_lt]; rw [Int64.le_iff_toInt_le] at h; omega
theorem dk_yc_p {mo : Nat → Int32} {mb : Nat → Int64} {p : Int32} {i : Nat} (h : mo i = p) (h2 : ¬ mb i ≤ 0) : dk_yc mo mb p i + mb i = dk_yc mo mb p (i + 1) := by
  show _ = if mo i = p then (if 0 < mb i then dk_yc mo mb p i + mb i else dk_yc mo mb p i) else dk_yc mo mb p i
  rw [if_pos h, if_pos (dk_gt0 h2)]
theorem dk_yc_n {mo : Nat → Int32} {mb : Nat → Int64} {p : Int32} {i : Nat} (h : mo i = p) (h2 : mb i ≤ 0) : dk_yc mo mb p i = dk_yc mo mb p (i + 1) := by
  show _ = if mo i = p then (if 0 < mb i then dk_yc mo mb p i + mb i else dk_yc mo mb p i) else dk_yc mo mb p i
  rw [if_pos h, if_neg (fun q => dk_lnle q h2)]
theorem dk_yc_ne {mo : Nat → Int32} {mb : Nat → Int64} {p : Int32} {i : Nat} (h : ¬ mo i = p) : dk_yc mo mb p (i + 1) = dk_yc mo mb p i := by
  show (if mo i = p then (if 0 < mb i then dk_yc mo mb p i + mb i else dk_yc mo mb p i) else dk_yc mo mb p i) = _
  rw [if_neg h]
theorem dk_yn_s {mo : Nat → Int32} {p : Int32} {i : Nat} (h : mo i = p) : dk_yn mo p i + 1 = dk_yn mo p (i + 1) := by
  show _ = if mo i = p then dk_yn mo p i + 1 else dk_yn mo p i
  rw [if_pos h]
theorem dk_yn_ne {mo : Nat → Int32} {p : Int32} {i : Nat} (h : ¬ mo i = p) : dk_yn mo p (i + 1) = dk_yn mo p i := by
  show (if mo i = p then dk_yn mo p i + 1 else dk_yn mo p i) = _
  rw [if_neg h]
theorem dk_yn_le (mo : Nat → Int32) (p : Int32) (k : Nat) : dk_yn mo p k ≤ k := by
  induction k with
  | zero => exact Nat.le_refl _
  | succ k ih =>
    show (if mo k = p then dk_yn mo p k + 1 else dk_yn mo p k) ≤ _
    split <;> omega
/-- how often gridlock has been resolved when tick T of all has come -/
def dk_R (T : Nat) : Nat := T / 1000 * 16 + dk_rU (T % 1000)
theorem dk_R_s (T : Nat) : dk_R (T + 1) = dk_R T + dk_pA ((T + 1) % 1000) % 2 := by
  unfold dk_R dk_rU dk_pA
  (repeat' split) <;> omega
theorem dk_R_le (T n : Nat) : dk_R T ≤ dk_R (T + n) := by
  induction n with
  | zero => exact Nat.le_refl _
  | succ n ih => have a := dk_R_s (T + n); rw [Nat.add_assoc] at a; omega
theorem dk_pA_lt (t : Nat) : dk_pA t < 8 := by
  unfold dk_pA; (repeat' split) <;> omega
theorem dk_nR_no {t n : Nat} (ht : t < 1000) (h1 : 1 ≤ n) (h : t + n < dk_nR t) : ¬ dk_iR ((t + n) % 1000) := by
  unfold dk_nR dk_rU at h; unfold dk_iR
  revert h; (repeat' split) <;> omega
theorem dk_nR_yes {t : Nat} (ht : t < 1000) : dk_iR (dk_nR t % 1000) := by
  unfold dk_nR dk_rU dk_iR
  (repeat' split) <;> omega
theorem dk_nP_no {t n : Nat} (ht : t < 1000) (h1 : 1 ≤ n) (h : t + n < dk_nP t) : dk_ph ((t + n) % 1000) = dk_ph t := by
  unfold dk_nP at h; unfold dk_ph
  revert h; (repeat' split) <;> omega
theorem dk_nP_yes {t : Nat} (ht : t < 1000) : dk_ph (dk_nP t % 1000) ≠ dk_ph t := by
  unfold dk_nP dk_ph
  (repeat' split) <;> omega
theorem dk_ph_lt (t : Nat) : dk_ph t < 5 := by
  unfold dk_ph; (repeat' split) <;> omega
/-- what b beginnings of days make of the reference's opening and moves -/
def dk_YS (b : Nat) (O : Nat → Int64) (mo : Nat → Int32) (mb : Nat → Int64) (k : Nat) (O2 : Nat → Int64) (k2 : Nat) : Prop := (b = 0 ∧ O2 = O ∧ k2 = k) ∨ (0 < b ∧ k2 = 0 ∧ ∀ j : Nat, j < 200 → O2 j = dk_y3 O mo mb k j)
theorem dk_y3_0 (O : Nat → Int64) (mo : Nat → Int32) (mb : Nat → Int64) (j : Nat) : dk_y3 O mo mb 0 j = O j := by
  show O j - 0 + 0 = O j
  rw [Int64.sub_zero, Int64.add_zero]
theorem dk_YS_s {b b2 : Nat} {O O2 O3 : Nat → Int64} {mo : Nat → Int32} {mb : Nat → Int64} {k k2 k3 : Nat} (h : dk_YS b O mo mb k O2 k2) (h2 : dk_YS b2 O2 mo mb k2 O3 k3) : dk_YS (b + b2) O mo mb k O3 k3 := by
  rcases h with ⟨rfl, rfl, rfl⟩ | ⟨hb, rfl, hO⟩
  · rw [Nat.zero_add]; exact h2
  · rcases h2 with ⟨rfl, rfl, rfl⟩ | ⟨hb2, rfl, hO2⟩
    · exact Or.inr ⟨hb, rfl, hO⟩
    · exact Or.inr ⟨by omega, rfl, fun j hj => by rw [hO2 j hj, dk_y3_0, hO j hj]⟩
theorem dk_out {x : Int32} {j : Nat} (hj : j < 200) (h : x < 0 ∨ nI 200 ≤ x) : ¬ x = nI j := fun q => by
  subst q
  rcases h with h | h
  · exact nI_pos (by omega) h
  · exact nI_ge hj (by omega) h
theorem dk_nI_inj {i j : Nat} (hi : i < 200) (hj : j < 200) (h : nI i = nI j) : i = j := (nI_eq (by omega) (by omega)).mp h
/-- what a row holds, by five columns -/
def dk_row (f0 f1 f2 f3 f4 : Nat → Int64) (x y : Int32) (r : Int64) : Prop := (r = 0 ∧ (x < 0 ∨ nI 200 ≤ x)) ∨ ∃ j : Nat, j < 200 ∧ x = nI j ∧ ((y = 0 ∧ r = f0 j) ∨ (y = 1 ∧ r = f1 j) ∨ (y = 2 ∧ r = f2 j) ∨ (y = 3 ∧ r = f3 j) ∨ (y = 4 ∧ r = f4 j) ∨ ((y.toInt < 0 ∨ 4 < y.toInt) ∧ r = 0))
def dk_col (f0 f1 f2 f3 f4 : Nat → Int64) (y : Int32) : Nat → Int64 := if y = 0 then f0 else if y = 1 then f1 else if y = 2 then f2 else if y = 3 then f3 else if y = 4 then f4 else fun _ => 0
theorem dk_col_of {f0 f1 f2 f3 f4 : Nat → Int64} {y : Int32} {r : Int64} {j : Nat} (h : (y = 0 ∧ r = f0 j) ∨ (y = 1 ∧ r = f1 j) ∨ (y = 2 ∧ r = f2 j) ∨ (y = 3 ∧ r = f3 j) ∨ (y = 4 ∧ r = f4 j) ∨ ((y.toInt < 0 ∨ 4 < y.toInt) ∧ r = 0)) : r = dk_col f0 f1 f2 f3 f4 y j := by
  unfold dk_col
  rcases h with ⟨rfl, rfl⟩ | ⟨rfl, rfl⟩ | ⟨rfl, rfl⟩ | ⟨rfl, rfl⟩ | ⟨rfl, rfl⟩ | ⟨hy, rfl⟩
  · rw [if_pos rfl]
  · rw [if_neg (by decide), if_pos rfl]
  · rw [if_neg (by decide), if_neg (by decide), if_pos rfl]
  · rw [if_neg (by decide), if_neg (by decide), if_neg (by decide), if_pos rfl]
  · rw [if_neg (by decide), if_neg (by decide), if_neg (by decide), if_neg (by decide), if_pos rfl]
  · have e0 : (0 : Int32).toInt = 0 := by decide
    have e1 : (1 : Int32).toInt = 1 := by decide
    have e2 : (2 : Int32).toInt = 2 := by decide
    have e3 : (3 : Int32).toInt = 3 := by decide
    have e4 : (4 : Int32).toInt = 4 := by decide
    rw [if_neg (fun q => by rw [q] at hy; omega), if_neg (fun q => by rw [q] at hy; omega), if_neg (fun q => by rw [q] at hy; omega), if_neg (fun q => by rw [q] at hy; omega), if_neg (fun q => by rw [q] at hy; omega)]
theorem dk_row_in {f0 f1 f2 f3 f4 : Nat → Int64} {y : Int32} {r : Int64} {j : Nat} (hj : j < 200) (h : dk_row f0 f1 f2 f3 f4 (nI j) y r) : r = dk_col f0 f1 f2 f3 f4 y j := by
  rcases h with ⟨-, h⟩ | ⟨i, hi, e, h⟩
  · exact absurd rfl (dk_out hj h)
  · have q := dk_nI_inj hj hi e
    subst q
    exact dk_col_of h
theorem dk_row_eq {f0 f1 f2 f3 f4 g0 g1 g2 g3 g4 : Nat → Int64} {x y : Int32} {r r2 : Int64} (hg : ∀ j : Nat, j < 200 → f0 j = g0 j ∧ f1 j = g1 j ∧ f2 j = g2 j ∧ f3 j = g3 j ∧ f4 j = g4 j) (h : dk_row f0 f1 f2 f3 f4 x y r) (h2 : dk_row g0 g1 g2 g3 g4 x y r2) : r = r2 := by
  rcases h with ⟨rfl, h⟩ | ⟨j, hj, rfl, h⟩
  · rcases h2 with ⟨rfl, -⟩ | ⟨j, hj, e, -⟩
    · rfl
    · exact absurd e (dk_out hj h)
  · rw [dk_col_of h, dk_row_in hj h2]
    obtain ⟨a, b, c, d, e⟩ := hg j hj
    unfold dk_col
    (repeat' split) <;> first | assumption | rfl
/-- what at answers -/
def dk_at (f : Nat → Int32) (n : Nat) (x r : Int32) : Prop := (∃ j : Nat, j < n ∧ x = nI j ∧ r = f j) ∨ (r = -1 ∧ (x < 0 ∨ nI n ≤ x))
theorem dk_at_eq {f g : Nat → Int32} {n : Nat} {x r r2 : Int32} (hn : n < 2 ^ 31) (hg : ∀ j : Nat, j < n → f j = g j) (h : dk_at f n x r) (h2 : dk_at g n x r2) : r = r2 := by
  have no : ∀ j : Nat, j < n → ¬ (nI j < 0 ∨ nI n ≤ nI j) := fun j hj q => by
    rcases q with q | q
    · exact nI_pos (by omega) q
    · exact nI_ge hj hn q
  rcases h with ⟨j, hj, rfl, rfl⟩ | ⟨rfl, h⟩
  · rcases h2 with ⟨i, hi, e, rfl⟩ | ⟨rfl, h2⟩
    · have q := (nI_eq (by omega) (by omega)).mp e
      subst q
      exact hg j hj
    · exact absurd h2 (no j hj)
  · rcases h2 with ⟨i, hi, rfl, rfl⟩ | ⟨rfl, h2⟩
    · exact absurd h (no i hi)
    · rfl
theorem dk_look_eq {d : Int32} {t : Nat} {x r r2 : Int32} (h : dk_look d t x r) (h2 : dk_look d t x r2) : r = r2 := by
  have key : ∀ r : Int32, dk_look d t x r → r = if x = 0 then d else if x = 1 then nI t else if x = 2 then nI (dk_ph t) else if x = 3 then nI (dk_nR t - t) else if x = 4 then nI (dk_nP t - t) else -1 := by
    intro r h
    rcases h with ⟨rfl, rfl⟩ | ⟨rfl, rfl⟩ | ⟨rfl, rfl⟩ | ⟨rfl, rfl⟩ | ⟨rfl, rfl⟩ | ⟨hy, rfl⟩
    · rw [if_pos rfl]
    · rw [if_neg (by decide), if_pos rfl]
    · rw [if_neg (by decide), if_neg (by decide), if_pos rfl]
    · rw [if_neg (by decide), if_neg (by decide), if_neg (by decide), if_pos rfl]
    · rw [if_neg (by decide), if_neg (by decide), if_neg (by decide), if_neg (by decide), if_pos rfl]
    · have e0 : (0 : Int32).toInt = 0 := by decide
      have e1 : (1 : Int32).toInt = 1 := by decide
      have e2 : (2 : Int32).toInt = 2 := by decide
      have e3 : (3 : Int32).toInt = 3 := by decide
      have e4 : (4 : Int32).toInt = 4 := by decide
      rw [if_neg (fun q => by rw [q] at hy; omega), if_neg (fun q => by rw [q] at hy; omega), if_neg (fun q => by rw [q] at hy; omega), if_neg (fun q => by rw [q] at hy; omega), if_neg (fun q => by rw [q] at hy; omega)]
  rw [key r h, key r2 h2]
/-- whether a position is told -/
def dk_tld (P : Nat → Prop) (x : Int32) : Prop := ∃ j : Nat, j < 200 ∧ x = nI j ∧ P j
theorem dk_tld_out {P : Nat → Prop} {x : Int32} (h : x < 0 ∨ nI 200 ≤ x) : ¬ dk_tld P x := fun ⟨_, hj, e, _⟩ => dk_out hj h e
theorem dk_tld_no {P : Nat → Prop} {j : Nat} (hj : j < 200) (h : ¬ P j) : ¬ dk_tld P (nI j) := fun ⟨i, hi, e, q⟩ => by
  have a := dk_nI_inj hj hi e
  subst a
  exact h q
theorem dk_R_lt {T : Nat} (h : T < 100000000) : dk_R T < 2000000 := by
  unfold dk_R
  have a := dk_rU_le (T % 1000)
  omega
end
section
set_option maxHeartbeats 4000000 in
set_option maxRecDepth 100000 in
/-- isPosition: whether there is such a position -/
theorem cX_isPosition (l : Launch) (dC : Nat → ClassId) (dI : Nat → Nat → Nat) (x : Int32) : Met l yX0_isPosition wsX0_isPosition ({ frames := 0, cells := 0, slots := 0, locals := 0 }) (dk_Pr [.int x] (dC, dI) vwCl [] []) (va_Qi (fun (r : Int32) (_ : Unit) => (r = 1 ∧ ∃ j : Nat, j < 200 ∧ x = nI j) ∨ (r = 0 ∧ (x < 0 ∨ nI 200 ≤ x))) (fun _ _ => True) dk_no) 0 0 dk_no := by
  refine Met.ofW (cc := cX0_isPosition) (maxL := 1) (ret := (some .boolean)) (by decide) rfl ?_
  intro p e s m args below meth c s₁ B hml hv
  obtain ⟨rfl, hP, hK⟩ := hv
  have hx := B.exec
  have hb := B.bytes
  have hr := B.returns
  have hts := atoms_spec (ws := wsX0_isPosition) B.pre
  have hown : s.vm.findClass RX0 = some m.cls := findClass_of_methodNamed B.named
  have hlocks := B.notSynchronized
  have hS : va_S dk_no s.heap s.heap [] := va_S.rf
  have hl := lv_entry ([.int x]) (n := 1) (Nat.le_of_ble_eq_true rfl)
  rw [lg_entry_eq]
  generalize (lg_sl ([.int x]) ++ List.replicate (1 - (lg_sl ([.int x])).length) Slot.unset).toArray = ls at hl ⊢
  have hl : lv_has ls 1 [(0, .int x)] := hl
  refine lv_iload_n hx hb dX0_isPosition_0 rfl (lv_at hl 0 rfl) ?_
  refine lv_if_lt (tgt := 15) hx hb dX0_isPosition_1 (by decide) (fun c_1 => ?_) (fun c_1 => ?_)
  · refine lv_iconst (v := 0) hx hb dX0_isPosition_15 (by decide) ?_
    exact W.zret (v := 0) hx hb hr (by first | rfl | decide) (fun z8 hz8 hW8 => ⟨⟨0, (), rfl, Or.inr ⟨rfl, Or.inl c_1⟩, trivial⟩, hS.F hz8⟩) hS.2.2 dX0_isPosition_16
  · refine lv_iload_n hx hb dX0_isPosition_4 rfl (lv_at hl 0 rfl) ?_
    refine lv_sipush (v := nI 200) hx hb dX0_isPosition_5 (by decide) ?_
    refine lv_icmp_ge (tgt := 15) hx hb dX0_isPosition_8 (by decide) (fun c_8 => ?_) (fun c_8 => ?_)
    · refine lv_iconst (v := 0) hx hb dX0_isPosition_15 (by decide) ?_
      exact W.zret (v := 0) hx hb hr (by first | rfl | decide) (fun z8 hz8 hW8 => ⟨⟨0, (), rfl, Or.inr ⟨rfl, Or.inr c_8⟩, trivial⟩, hS.F hz8⟩) hS.2.2 dX0_isPosition_16
    · refine lv_iconst (v := 1) hx hb dX0_isPosition_11 (by decide) ?_
      refine lv_goto (tgt := 16) hx hb dX0_isPosition_12 (by decide) ?_
      exact W.zret (v := 1) hx hb hr (by first | rfl | decide) (fun z8 hz8 hW8 => ⟨⟨1, (), rfl, Or.inl ⟨rfl, dk_pos c_1 c_8⟩, trivial⟩, hS.F hz8⟩) hS.2.2 dX0_isPosition_16
set_option maxHeartbeats 4000000 in
set_option maxRecDepth 100000 in
/-- isWithin: -b .. b -/
theorem cX_isWithin (l : Launch) (dC : Nat → ClassId) (dI : Nat → Nat → Nat) (v b : Int64) : Met l yX0_isWithin wsX0_isWithin ({ frames := 0, cells := 0, slots := 0, locals := 0 }) (dk_Pr [.long v, .long b] (dC, dI) vwCl [] []) (va_Qi (fun (r : Int32) (_ : Unit) => (r = 1 ∧ dk_in v b) ∨ (r = 0 ∧ ¬ dk_in v b)) (fun _ _ => True) dk_no) 0 0 dk_no := by
  refine Met.ofW (cc := cX0_isWithin) (maxL := 4) (ret := (some .boolean)) (by decide) rfl ?_
  intro p e s m args below meth c s₁ B hml hv
  obtain ⟨rfl, hP, hK⟩ := hv
  have hx := B.exec
  have hb := B.bytes
  have hr := B.returns
  have hts := atoms_spec (ws := wsX0_isWithin) B.pre
  have hown : s.vm.findClass RX0 = some m.cls := findClass_of_methodNamed B.named
  have hlocks := B.notSynchronized
  have hS : va_S dk_no s.heap s.heap [] := va_S.rf
  have hl := lv_entry ([.long v, .long b]) (n := 4) (Nat.le_of_ble_eq_true rfl)
  rw [lg_entry_eq]
  generalize (lg_sl ([.long v, .long b]) ++ List.replicate (4 - (lg_sl ([.long v, .long b])).length) Slot.unset).toArray = ls at hl ⊢
  have hl : lv_has ls 4 [(0, .long v), (2, .long b)] := hl
  refine lv_lload_n hx hb dX0_isWithin_0 rfl (lv_at hl 0 rfl) ?_
  refine lv_lload_n hx hb dX0_isWithin_1 rfl (lv_at hl 1 rfl) ?_
  refine lv_lneg hx hb dX0_isWithin_2 ?_
  refine W.lcmp hx hb dX0_isWithin_3 ?_
  refine lv_if_lt (tgt := 17) hx hb dX0_isWithin_4 (by decide) (fun c_4 => ?_) (fun c_4 => ?_)
  · have c_4 : v < (-b) := (lg_cmp_lt _ _).mp c_4
    refine lv_iconst (v := 0) hx hb dX0_isWithin_17 (by decide) ?_
    exact W.zret (v := 0) hx hb hr (by first | rfl | decide) (fun z8 hz8 hW8 => ⟨⟨0, (), rfl, Or.inr ⟨rfl, fun q9 => dk_lnle c_4 q9.1⟩, trivial⟩, hS.F hz8⟩) hS.2.2 dX0_isWithin_18
  · have c_4 : ¬ (v < (-b)) := fun q9 => c_4 ((lg_cmp_lt _ _).mpr q9)
    refine lv_lload_n hx hb dX0_isWithin_7 rfl (lv_at hl 0 rfl) ?_
    refine lv_lload_n hx hb dX0_isWithin_8 rfl (lv_at hl 1 rfl) ?_
    refine W.lcmp hx hb dX0_isWithin_9 ?_
    refine lv_if_gt (tgt := 17) hx hb dX0_isWithin_10 (by decide) (fun c_10 => ?_) (fun c_10 => ?_)
    · have c_10 : b < v := (lg_cmp_gt _ _).mp c_10
      refine lv_iconst (v := 0) hx hb dX0_isWithin_17 (by decide) ?_
      exact W.zret (v := 0) hx hb hr (by first | rfl | decide) (fun z8 hz8 hW8 => ⟨⟨0, (), rfl, Or.inr ⟨rfl, fun q9 => dk_lnle c_10 q9.2⟩, trivial⟩, hS.F hz8⟩) hS.2.2 dX0_isWithin_18
    · have c_10 : ¬ (b < v) := fun q9 => c_10 ((lg_cmp_gt _ _).mpr q9)
      refine lv_iconst (v := 1) hx hb dX0_isWithin_13 (by decide) ?_
      refine lv_goto (tgt := 18) hx hb dX0_isWithin_14 (by decide) ?_
      exact W.zret (v := 1) hx hb hr (by first | rfl | decide) (fun z8 hz8 hW8 => ⟨⟨1, (), rfl, Or.inl ⟨rfl, dk_lnl c_4, dk_lnl c_10⟩, trivial⟩, hS.F hz8⟩) hS.2.2 dX0_isWithin_18
set_option maxHeartbeats 4000000 in
set_option maxRecDepth 100000 in
/-- isResolving -/
theorem cX_isResolving (l : Launch) (dC : Nat → ClassId) (dI : Nat → Nat → Nat) (t : Nat) (ht9 : t < 1000) : Met l yX0_isResolving wsX0_isResolving ({ frames := 0, cells := 0, slots := 0, locals := 0 }) (dk_Pr [.int (nI t)] (dC, dI) vwCl [] []) (va_Qi (fun (r : Int32) (_ : Unit) => (r = 1 ∧ dk_iR t) ∨ (r = 0 ∧ ¬ dk_iR t)) (fun _ _ => True) dk_no) 0 0 dk_no := by
  refine Met.ofW (cc := cX0_isResolving) (maxL := 1) (ret := (some .boolean)) (by decide) rfl ?_
  intro p e s m args below meth c s₁ B hml hv
  obtain ⟨rfl, hP, hK⟩ := hv
  have hx := B.exec
  have hb := B.bytes
  have hr := B.returns
  have hts := atoms_spec (ws := wsX0_isResolving) B.pre
  have hown : s.vm.findClass RX0 = some m.cls := findClass_of_methodNamed B.named
  have hlocks := B.notSynchronized
  have hS : va_S dk_no s.heap s.heap [] := va_S.rf
  have hl := lv_entry ([.int (nI t)]) (n := 1) (Nat.le_of_ble_eq_true rfl)
  rw [lg_entry_eq]
  generalize (lg_sl ([.int (nI t)]) ++ List.replicate (1 - (lg_sl ([.int (nI t)])).length) Slot.unset).toArray = ls at hl ⊢
  have hl : lv_has ls 1 [(0, .int (nI t))] := hl
  refine lv_iload_n hx hb dX0_isResolving_0 rfl (lv_at hl 0 rfl) ?_
  refine lv_sipush (v := nI 150) hx hb dX0_isResolving_1 (by decide) ?_
  refine dk_icmp_lt (x := t) (y := 150) (tgt := 25) hx hb dX0_isResolving_4 (by decide) (by omega) (by omega) (fun c_4 => ?_) (fun c_4 => ?_)
  · refine lv_iconst (v := 0) hx hb dX0_isResolving_25 (by decide) ?_
    exact W.zret (v := 0) hx hb hr (by first | rfl | decide) (fun z8 hz8 hW8 => ⟨⟨0, (), rfl, Or.inr ⟨rfl, by unfold dk_iR; omega⟩, trivial⟩, hS.F hz8⟩) hS.2.2 dX0_isResolving_26
  · refine lv_iload_n hx hb dX0_isResolving_7 rfl (lv_at hl 0 rfl) ?_
    refine lv_sipush (v := nI 900) hx hb dX0_isResolving_8 (by decide) ?_
    refine dk_icmp_gt (x := t) (y := 900) (tgt := 25) hx hb dX0_isResolving_11 (by decide) (by omega) (by omega) (fun c_11 => ?_) (fun c_11 => ?_)
    · refine lv_iconst (v := 0) hx hb dX0_isResolving_25 (by decide) ?_
      exact W.zret (v := 0) hx hb hr (by first | rfl | decide) (fun z8 hz8 hW8 => ⟨⟨0, (), rfl, Or.inr ⟨rfl, by unfold dk_iR; omega⟩, trivial⟩, hS.F hz8⟩) hS.2.2 dX0_isResolving_26
    · refine lv_iload_n hx hb dX0_isResolving_14 rfl (lv_at hl 0 rfl) ?_
      refine lv_bipush (v := nI 50) hx hb dX0_isResolving_15 (by decide) ?_
      refine lv_irem hx hb dX0_isResolving_17 (by decide) ?_
      refine dk_asi (y := nI (t % 50)) (pk_rem (a := t) (d := 50) (by omega) (by omega) (by omega)) ?_
      refine dk_if_ne (x := t % 50) (tgt := 25) hx hb dX0_isResolving_18 (by decide) (by omega) (fun c_18 => ?_) (fun c_18 => ?_)
      · refine lv_iconst (v := 0) hx hb dX0_isResolving_25 (by decide) ?_
        exact W.zret (v := 0) hx hb hr (by first | rfl | decide) (fun z8 hz8 hW8 => ⟨⟨0, (), rfl, Or.inr ⟨rfl, by unfold dk_iR; omega⟩, trivial⟩, hS.F hz8⟩) hS.2.2 dX0_isResolving_26
      · refine lv_iconst (v := 1) hx hb dX0_isResolving_21 (by decide) ?_
        refine lv_goto (tgt := 26) hx hb dX0_isResolving_22 (by decide) ?_
        exact W.zret (v := 1) hx hb hr (by first | rfl | decide) (fun z8 hz8 hW8 => ⟨⟨1, (), rfl, Or.inl ⟨rfl, by unfold dk_iR; omega⟩, trivial⟩, hS.F hz8⟩) hS.2.2 dX0_isResolving_26
set_option maxHeartbeats 4000000 in
set_option maxRecDepth 100000 in
/-- resolvingsUntil -/
theorem cX_resolvingsUntil (l : Launch) (dC : Nat → ClassId) (dI : Nat → Nat → Nat) (t : Nat) (ht9 : t < 1000) : Met l yX0_resolvingsUntil wsX0_resolvingsUntil ({ frames := 1, cells := 0, slots := 0, locals := 13 }) (dk_Pr [.int (nI t)] (dC, dI) vwCl [] []) (va_Qi (fun (r : Int32) (_ : Unit) => r = nI (dk_rU t)) (fun _ _ => True) dk_no) 0 0 dk_no := by
  refine Met.ofW (cc := cX0_resolvingsUntil) (maxL := 2) (ret := (some .int)) (by decide) rfl ?_
  intro p e s m args below meth c s₁ B hml hv
  obtain ⟨rfl, hP, hK⟩ := hv
  have hx := B.exec
  have hb := B.bytes
  have hr := B.returns
  have hts := atoms_spec (ws := wsX0_resolvingsUntil) B.pre
  have hown : s.vm.findClass RX0 = some m.cls := findClass_of_methodNamed B.named
  have hlocks := B.notSynchronized
  have hS : va_S dk_no s.heap s.heap [] := va_S.rf
  have hl := lv_entry ([.int (nI t)]) (n := 2) (Nat.le_of_ble_eq_true rfl)
  rw [lg_entry_eq]
  generalize (lg_sl ([.int (nI t)]) ++ List.replicate (2 - (lg_sl ([.int (nI t)])).length) Slot.unset).toArray = ls at hl ⊢
  have hl : lv_has ls 2 [(0, .int (nI t))] := hl
  refine lv_iload_n hx hb dX0_resolvingsUntil_0 rfl (lv_at hl 0 rfl) ?_
  refine lv_sipush (v := nI 150) hx hb dX0_resolvingsUntil_1 (by decide) ?_
  refine dk_icmp_ge (x := t) (y := 150) (tgt := 9) hx hb dX0_resolvingsUntil_4 (by decide) (by omega) (by omega) (fun c_4 => ?_) (fun c_4 => ?_)
  · refine lv_iload_n hx hb dX0_resolvingsUntil_9 rfl (lv_at hl 0 rfl) ?_
    refine lv_sipush (v := nI 900) hx hb dX0_resolvingsUntil_10 (by decide) ?_
    refine va_mmin hx hb (by rw [hml]; exact hl.1.symm) hown (hts (.methodLink RX0 89 Lib.Math.min.name) (by decide +kernel)) (hts (.static Lib.Math.min.name) (by decide +kernel)) (hts (.initialized "java/lang/Math") (by decide +kernel)) (hts (.code Lib.Math.min.name Lib.Math.min.code 2 (some .int)) (by decide +kernel)) (Nat.le_of_ble_eq_true rfl) (Nat.le_of_ble_eq_true rfl) (Nat.le_of_ble_eq_true rfl) (Nat.le_of_ble_eq_true rfl) dX0_resolvingsUntil_13 ?_
    refine dk_asi (y := nI (min t 900)) (dk_min (by omega) (by omega)) ?_
    refine lv_istore_n (lv' := [(1, .int (nI (min t 900))), (0, .int (nI t))]) hx hb dX0_resolvingsUntil_16 rfl hl (by decide) rfl (fun ls hl => ?_)
    refine lv_iload_n hx hb dX0_resolvingsUntil_17 rfl (lv_at hl 0 rfl) ?_
    refine lv_sipush (v := nI 150) hx hb dX0_resolvingsUntil_18 (by decide) ?_
    refine lv_isub hx hb dX0_resolvingsUntil_21 ?_
    refine dk_asi (y := nI ((min t 900) - 150)) (pk_sub (a := min t 900) (b := 150) (by omega)) ?_
    refine lv_bipush (v := nI 50) hx hb dX0_resolvingsUntil_22 (by decide) ?_
    refine lv_idiv hx hb dX0_resolvingsUntil_24 (by decide) ?_
    refine dk_asi (y := nI (((min t 900) - 150) / 50)) (pk_div (a := (min t 900) - 150) (d := 50) (by omega) (by omega) (by omega)) ?_
    refine lv_iconst (v := 1) hx hb dX0_resolvingsUntil_25 (by decide) ?_
    refine lv_iadd hx hb dX0_resolvingsUntil_26 ?_
    refine dk_asi (y := nI ((((min t 900) - 150) / 50) + 1)) (nI_add (((min t 900) - 150) / 50) 1) ?_
    exact W.iret (v := nI ((((min t 900) - 150) / 50) + 1)) hx hb hr (fun z8 hz8 hW8 => ⟨⟨(nI ((((min t 900) - 150) / 50) + 1)), (), rfl, by unfold dk_rU; rw [if_neg (by omega)], trivial⟩, hS.F hz8⟩) hS.2.2 dX0_resolvingsUntil_27
  · refine lv_iconst (v := 0) hx hb dX0_resolvingsUntil_7 (by decide) ?_
    exact W.iret (v := 0) hx hb hr (fun z8 hz8 hW8 => ⟨⟨0, (), rfl, by unfold dk_rU; rw [if_pos (by omega)]; exact nI_0.symm, trivial⟩, hS.F hz8⟩) hS.2.2 dX0_resolvingsUntil_8
set_option maxHeartbeats 4000000 in
set_option maxRecDepth 100000 in
/-- phaseNow -/
theorem cX_phaseNow (l : Launch) (dC : Nat → ClassId) (dI : Nat → Nat → Nat) (h0 qo qw qc qn qm ql : Nat) (d ll : Int32) (t : Nat) (ht9 : t < 1000) : Met l yX0_phaseNow wsX0_phaseNow ({ frames := 0, cells := 0, slots := 0, locals := 0 }) (dk_Pr [.ref h0] (dC, dI) vwCl [] [(h0, .inr (0, [.int d, .int (nI t), .ref qo, .ref qw, .ref qc, .ref qn, .ref qm, .ref ql, .int ll]))]) (va_Qi (fun (r : Int32) (_ : Unit) => (r = 0 ∧ t < 100) ∨ (r = 1 ∧ 100 ≤ t ∧ t < 700) ∨ (r = 2 ∧ 700 ≤ t ∧ t < 800) ∨ (r = 3 ∧ 800 ≤ t ∧ t < 900) ∨ (r = 4 ∧ 900 ≤ t)) (fun _ _ => True) dk_no) 0 0 dk_no := by
  refine Met.ofW (cc := cX0_phaseNow) (maxL := 1) (ret := (some .int)) (by decide) rfl ?_
  intro p e s m args below meth c s₁ B hml hv
  obtain ⟨rfl, hP, hK⟩ := hv
  have hx := B.exec
  have hb := B.bytes
  have hr := B.returns
  have hts := atoms_spec (ws := wsX0_phaseNow) B.pre
  have hown : s.vm.findClass RX0 = some m.cls := findClass_of_methodNamed B.named
  have hlocks := B.notSynchronized
  have hinX0 : ∀ w ∈ wsX00, w ∈ wsX0_phaseNow := by decide +kernel
  have hS : va_S dk_no s.heap s.heap [] := va_S.rf
  have hl := lv_entry ([.ref h0]) (n := 1) (Nat.le_of_ble_eq_true rfl)
  rw [lg_entry_eq]
  generalize (lg_sl ([.ref h0]) ++ List.replicate (1 - (lg_sl ([.ref h0])).length) Slot.unset).toArray = ls at hl ⊢
  have hl : lv_has ls 1 [(0, .ref h0)] := hl
  refine lv_aload_n hx hb dX0_phaseNow_0 rfl (lv_at hl 0 rfl) ?_
  refine va_get (D := (dC, dI)) (ci := 0) (v := .int (nI t)) (C := RX0) (T := TX0) (N := 9) hx hb hts hinX0 hown hK hP 0 rfl rfl 1 (by decide) (hts (.fieldLink RX0 13 "DayDesk" "tick" "I") (by decide +kernel)) (fun _ h9 => h9) rfl dX0_phaseNow_1 ?_
  refine lv_bipush (v := nI 100) hx hb dX0_phaseNow_4 (by decide) ?_
  refine dk_icmp_ge (x := t) (y := 100) (tgt := 11) hx hb dX0_phaseNow_6 (by decide) (by omega) (by omega) (fun c_6 => ?_) (fun c_6 => ?_)
  · refine lv_aload_n hx hb dX0_phaseNow_11 rfl (lv_at hl 0 rfl) ?_
    refine va_get (D := (dC, dI)) (ci := 0) (v := .int (nI t)) (C := RX0) (T := TX0) (N := 9) hx hb hts hinX0 hown hK hP 0 rfl rfl 1 (by decide) (hts (.fieldLink RX0 13 "DayDesk" "tick" "I") (by decide +kernel)) (fun _ h9 => h9) rfl dX0_phaseNow_12 ?_
    refine lv_sipush (v := nI 700) hx hb dX0_phaseNow_15 (by decide) ?_
    refine dk_icmp_ge (x := t) (y := 700) (tgt := 23) hx hb dX0_phaseNow_18 (by decide) (by omega) (by omega) (fun c_18 => ?_) (fun c_18 => ?_)
    · refine lv_aload_n hx hb dX0_phaseNow_23 rfl (lv_at hl 0 rfl) ?_
      refine va_get (D := (dC, dI)) (ci := 0) (v := .int (nI t)) (C := RX0) (T := TX0) (N := 9) hx hb hts hinX0 hown hK hP 0 rfl rfl 1 (by decide) (hts (.fieldLink RX0 13 "DayDesk" "tick" "I") (by decide +kernel)) (fun _ h9 => h9) rfl dX0_phaseNow_24 ?_
      refine lv_sipush (v := nI 800) hx hb dX0_phaseNow_27 (by decide) ?_
      refine dk_icmp_ge (x := t) (y := 800) (tgt := 35) hx hb dX0_phaseNow_30 (by decide) (by omega) (by omega) (fun c_30 => ?_) (fun c_30 => ?_)
      · refine lv_aload_n hx hb dX0_phaseNow_35 rfl (lv_at hl 0 rfl) ?_
        refine va_get (D := (dC, dI)) (ci := 0) (v := .int (nI t)) (C := RX0) (T := TX0) (N := 9) hx hb hts hinX0 hown hK hP 0 rfl rfl 1 (by decide) (hts (.fieldLink RX0 13 "DayDesk" "tick" "I") (by decide +kernel)) (fun _ h9 => h9) rfl dX0_phaseNow_36 ?_
        refine lv_sipush (v := nI 900) hx hb dX0_phaseNow_39 (by decide) ?_
        refine dk_icmp_ge (x := t) (y := 900) (tgt := 49) hx hb dX0_phaseNow_42 (by decide) (by omega) (by omega) (fun c_42 => ?_) (fun c_42 => ?_)
        · refine lv_iconst (v := 4) hx hb dX0_phaseNow_49 (by decide) ?_
          exact W.iret (v := 4) hx hb hr (fun z8 hz8 hW8 => ⟨⟨4, (), rfl, Or.inr (Or.inr (Or.inr (Or.inr (⟨rfl, by omega⟩)))), trivial⟩, hS.F hz8⟩) hS.2.2 dX0_phaseNow_50
        · refine lv_iconst (v := 3) hx hb dX0_phaseNow_45 (by decide) ?_
          refine lv_goto (tgt := 50) hx hb dX0_phaseNow_46 (by decide) ?_
          exact W.iret (v := 3) hx hb hr (fun z8 hz8 hW8 => ⟨⟨3, (), rfl, Or.inr (Or.inr (Or.inr (Or.inl ⟨rfl, by omega, by omega⟩))), trivial⟩, hS.F hz8⟩) hS.2.2 dX0_phaseNow_50
      · refine lv_iconst (v := 2) hx hb dX0_phaseNow_33 (by decide) ?_
        exact W.iret (v := 2) hx hb hr (fun z8 hz8 hW8 => ⟨⟨2, (), rfl, Or.inr (Or.inr (Or.inl ⟨rfl, by omega, by omega⟩)), trivial⟩, hS.F hz8⟩) hS.2.2 dX0_phaseNow_34
    · refine lv_iconst (v := 1) hx hb dX0_phaseNow_21 (by decide) ?_
      exact W.iret (v := 1) hx hb hr (fun z8 hz8 hW8 => ⟨⟨1, (), rfl, Or.inr (Or.inl ⟨rfl, by omega, by omega⟩), trivial⟩, hS.F hz8⟩) hS.2.2 dX0_phaseNow_22
  · refine lv_iconst (v := 0) hx hb dX0_phaseNow_9 (by decide) ?_
    exact W.iret (v := 0) hx hb hr (fun z8 hz8 hW8 => ⟨⟨0, (), rfl, Or.inl ⟨rfl, by omega⟩, trivial⟩, hS.F hz8⟩) hS.2.2 dX0_phaseNow_10
set_option maxHeartbeats 4000000 in
set_option maxRecDepth 100000 in
/-- nextResolving -/
theorem cX_nextResolving (l : Launch) (dC : Nat → ClassId) (dI : Nat → Nat → Nat) (h0 qo qw qc qn qm ql : Nat) (d ll : Int32) (t : Nat) (ht9 : t < 1000) : Met l yX0_nextResolving wsX0_nextResolving ({ frames := 2, cells := 0, slots := 0, locals := 34 }) (dk_Pr [.ref h0] (dC, dI) vwCl [] [(h0, .inr (0, [.int d, .int (nI t), .ref qo, .ref qw, .ref qc, .ref qn, .ref qm, .ref ql, .int ll]))]) (va_Qi (fun (r : Int32) (_ : Unit) => r = nI (dk_nR t)) (fun _ _ => True) dk_no) 0 0 dk_no := by
  refine Met.ofW (cc := cX0_nextResolving) (maxL := 1) (ret := (some .int)) (by decide) rfl ?_
  intro p e s m args below meth c s₁ B hml hv
  obtain ⟨rfl, hP, hK⟩ := hv
  have hx := B.exec
  have hb := B.bytes
  have hr := B.returns
  have hts := atoms_spec (ws := wsX0_nextResolving) B.pre
  have hown : s.vm.findClass RX0 = some m.cls := findClass_of_methodNamed B.named
  have hlocks := B.notSynchronized
  have hinX0 : ∀ w ∈ wsX00, w ∈ wsX0_nextResolving := by decide +kernel
  have hS : va_S dk_no s.heap s.heap [] := va_S.rf
  have hl := lv_entry ([.ref h0]) (n := 1) (Nat.le_of_ble_eq_true rfl)
  rw [lg_entry_eq]
  generalize (lg_sl ([.ref h0]) ++ List.replicate (1 - (lg_sl ([.ref h0])).length) Slot.unset).toArray = ls at hl ⊢
  have hl : lv_has ls 1 [(0, .ref h0)] := hl
  have hrU := dk_rU_le t
  refine lv_aload_n hx hb dX0_nextResolving_0 rfl (lv_at hl 0 rfl) ?_
  refine va_get (D := (dC, dI)) (ci := 0) (v := .int (nI t)) (C := RX0) (T := TX0) (N := 9) hx hb hts hinX0 hown hK hP 0 rfl rfl 1 (by decide) (hts (.fieldLink RX0 13 "DayDesk" "tick" "I") (by decide +kernel)) (fun _ h9 => h9) rfl dX0_nextResolving_1 ?_
  refine lv_sipush (v := nI 900) hx hb dX0_nextResolving_4 (by decide) ?_
  refine dk_icmp_lt (x := t) (y := 900) (tgt := 14) hx hb dX0_nextResolving_7 (by decide) (by omega) (by omega) (fun c_7 => ?_) (fun c_7 => ?_)
  · refine lv_sipush (v := nI 150) hx hb dX0_nextResolving_14 (by decide) ?_
    refine lv_aload_n hx hb dX0_nextResolving_17 rfl (lv_at hl 0 rfl) ?_
    refine va_get (D := (dC, dI)) (ci := 0) (v := .int (nI t)) (C := RX0) (T := TX0) (N := 9) hx hb hts hinX0 hown hK hP 0 rfl rfl 1 (by decide) (hts (.fieldLink RX0 13 "DayDesk" "tick" "I") (by decide +kernel)) (fun _ h9 => h9) rfl dX0_nextResolving_18 ?_
    have hKc := hK
    refine va_calli (va_runS (As := [.int (nI t)]) (rest := [.int (nI 150)]) ⟨hx, hb, hml, hown, hts⟩ (cX_resolvingsUntil l dC dI t ht9) (va_cwS 1 hts gX0_nextResolving_X0_resolvingsUntil rfl rfl rfl (by decide +kernel) ⟨Nat.le_of_ble_eq_true rfl, Nat.le_of_ble_eq_true rfl⟩) (dk_rS dk_P0 hKc) rfl rfl hl.1 rfl (lv_room (Nat.le_of_ble_eq_true rfl)) dX0_nextResolving_21 ⟨Nat.zero_le _, Nat.zero_le _⟩) hS (fun q _ h => False.elim h) (fun q h => False.elim h) (fun r_21 u8 t8 H1 locs ht8 hvm8 hw hB hz1 hk1 hS => ?_)
    try dsimp only at hw
    have hP := dk_kept hP hk1
    generalize H1 = H at hP hS ⊢
    subst hw
    refine lv_bipush (v := nI 50) hx hb dX0_nextResolving_24 (by decide) ?_
    refine lv_imul hx hb dX0_nextResolving_26 ?_
    refine dk_asi (y := nI ((dk_rU t) * 50)) (pk_mul (dk_rU t) 50) ?_
    refine lv_iadd hx hb dX0_nextResolving_27 ?_
    refine dk_asi (y := nI (150 + ((dk_rU t) * 50))) (nI_add 150 ((dk_rU t) * 50)) ?_
    exact W.iret (v := nI (150 + ((dk_rU t) * 50))) hx hb hr (fun z8 hz8 hW8 => ⟨⟨(nI (150 + ((dk_rU t) * 50))), (), rfl, by unfold dk_nR; rw [if_neg (by omega)], trivial⟩, hS.F hz8⟩) hS.2.2 dX0_nextResolving_28
  · refine lv_sipush (v := nI 1150) hx hb dX0_nextResolving_10 (by decide) ?_
    exact W.iret (v := nI 1150) hx hb hr (fun z8 hz8 hW8 => ⟨⟨(nI 1150), (), rfl, by unfold dk_nR; rw [if_pos (by omega)], trivial⟩, hS.F hz8⟩) hS.2.2 dX0_nextResolving_13
set_option maxHeartbeats 4000000 in
set_option maxRecDepth 100000 in
/-- nextPhaseBegins -/
theorem cX_nextPhaseBegins (l : Launch) (dC : Nat → ClassId) (dI : Nat → Nat → Nat) (h0 qo qw qc qn qm ql : Nat) (d ll : Int32) (t : Nat) (ht9 : t < 1000) : Met l yX0_nextPhaseBegins wsX0_nextPhaseBegins ({ frames := 1, cells := 0, slots := 0, locals := 20 }) (dk_Pr [.ref h0] (dC, dI) vwCl [] [(h0, .inr (0, [.int d, .int (nI t), .ref qo, .ref qw, .ref qc, .ref qn, .ref qm, .ref ql, .int ll]))]) (va_Qi (fun (r : Int32) (_ : Unit) => r = nI (dk_nP t)) (fun _ _ => True) dk_no) 0 0 dk_no := by
  refine Met.ofW (cc := cX0_nextPhaseBegins) (maxL := 1) (ret := (some .int)) (by decide) rfl ?_
  intro p e s m args below meth c s₁ B hml hv
  obtain ⟨rfl, hP, hK⟩ := hv
  have hx := B.exec
  have hb := B.bytes
  have hr := B.returns
  have hts := atoms_spec (ws := wsX0_nextPhaseBegins) B.pre
  have hown : s.vm.findClass RX0 = some m.cls := findClass_of_methodNamed B.named
  have hlocks := B.notSynchronized
  have hS : va_S dk_no s.heap s.heap [] := va_S.rf
  have hl := lv_entry ([.ref h0]) (n := 1) (Nat.le_of_ble_eq_true rfl)
  rw [lg_entry_eq]
  generalize (lg_sl ([.ref h0]) ++ List.replicate (1 - (lg_sl ([.ref h0])).length) Slot.unset).toArray = ls at hl ⊢
  have hl : lv_has ls 1 [(0, .ref h0)] := hl
  refine lv_aload_n hx hb dX0_nextPhaseBegins_0 rfl (lv_at hl 0 rfl) ?_
  have hPc := hP
  have hKc := hK
  refine va_calli (va_runV (As := []) (rest := []) ⟨hx, hb, hml, hown, hts⟩ (cX_phaseNow l dC dI h0 qo qw qc qn qm ql d ll t ht9) (cwV 0 hts gX0_nextPhaseBegins_X0_phaseNow rfl rfl rfl (by decide +kernel) ⟨Nat.le_of_ble_eq_true rfl, Nat.le_of_ble_eq_true rfl⟩) (dk_rV hPc hKc (ci := 0) (q0 := 0) rfl rfl) rfl rfl hl.1 rfl (lv_room (Nat.le_of_ble_eq_true rfl)) dX0_nextPhaseBegins_1 ⟨Nat.zero_le _, Nat.zero_le _⟩) hS (fun q _ h => False.elim h) (fun q h => False.elim h) (fun r_1 u8 t8 H1 locs ht8 hvm8 hw hB hz1 hk1 hS => ?_)
  try dsimp only at hw
  have hP := dk_kept hP hk1
  generalize H1 = H at hP hS ⊢
  rcases hw with ⟨rfl, h1⟩ | ⟨rfl, h1, h2⟩ | ⟨rfl, h1, h2⟩ | ⟨rfl, h1, h2⟩ | ⟨rfl, h1⟩
  · refine lv_tableIn (tgt := 36) (off := 32) hx hb dX0_nextPhaseBegins_4 (by decide) (by decide) (by decide) (by decide) ?_
    refine lv_bipush (v := nI 100) hx hb dX0_nextPhaseBegins_36 (by decide) ?_
    exact W.iret (v := nI 100) hx hb hr (fun z8 hz8 hW8 => ⟨⟨(nI 100), (), rfl, by rw [show dk_nP t = 100 from by unfold dk_nP; (repeat' split) <;> omega], trivial⟩, hS.F hz8⟩) hS.2.2 dX0_nextPhaseBegins_38
  · refine lv_tableIn (tgt := 39) (off := 35) hx hb dX0_nextPhaseBegins_4 (by decide) (by decide) (by decide) (by decide) ?_
    refine lv_sipush (v := nI 700) hx hb dX0_nextPhaseBegins_39 (by decide) ?_
    exact W.iret (v := nI 700) hx hb hr (fun z8 hz8 hW8 => ⟨⟨(nI 700), (), rfl, by rw [show dk_nP t = 700 from by unfold dk_nP; (repeat' split) <;> omega], trivial⟩, hS.F hz8⟩) hS.2.2 dX0_nextPhaseBegins_42
  · refine lv_tableIn (tgt := 43) (off := 39) hx hb dX0_nextPhaseBegins_4 (by decide) (by decide) (by decide) (by decide) ?_
    refine lv_sipush (v := nI 800) hx hb dX0_nextPhaseBegins_43 (by decide) ?_
    exact W.iret (v := nI 800) hx hb hr (fun z8 hz8 hW8 => ⟨⟨(nI 800), (), rfl, by rw [show dk_nP t = 800 from by unfold dk_nP; (repeat' split) <;> omega], trivial⟩, hS.F hz8⟩) hS.2.2 dX0_nextPhaseBegins_46
  · refine lv_tableIn (tgt := 47) (off := 43) hx hb dX0_nextPhaseBegins_4 (by decide) (by decide) (by decide) (by decide) ?_
    refine lv_sipush (v := nI 900) hx hb dX0_nextPhaseBegins_47 (by decide) ?_
    exact W.iret (v := nI 900) hx hb hr (fun z8 hz8 hW8 => ⟨⟨(nI 900), (), rfl, by rw [show dk_nP t = 900 from by unfold dk_nP; (repeat' split) <;> omega], trivial⟩, hS.F hz8⟩) hS.2.2 dX0_nextPhaseBegins_50
  · refine lv_tableOut (tgt := 51) hx hb dX0_nextPhaseBegins_4 (by decide) (by decide) ?_
    refine lv_sipush (v := nI 1000) hx hb dX0_nextPhaseBegins_51 (by decide) ?_
    exact W.iret (v := nI 1000) hx hb hr (fun z8 hz8 hW8 => ⟨⟨(nI 1000), (), rfl, by rw [show dk_nP t = 1000 from by unfold dk_nP; (repeat' split) <;> omega], trivial⟩, hS.F hz8⟩) hS.2.2 dX0_nextPhaseBegins_54
set_option maxHeartbeats 4000000 in
set_option maxRecDepth 100000 in
/-- isClosedWhenEarly -/
theorem cX_isClosedWhenEarly (l : Launch) (dC : Nat → ClassId) (dI : Nat → Nat → Nat) (x : Int32) : Met l yX0_isClosedWhenEarly wsX0_isClosedWhenEarly ({ frames := 0, cells := 0, slots := 0, locals := 0 }) (dk_Pr [.int x] (dC, dI) vwCl [] []) (va_Qi (fun (r : Int32) (_ : Unit) => (r = 1 ∧ dk_cE x) ∨ (r = 0 ∧ ¬ dk_cE x)) (fun _ _ => True) dk_no) 0 0 dk_no := by
  refine Met.ofW (cc := cX0_isClosedWhenEarly) (maxL := 1) (ret := (some .boolean)) (by decide) rfl ?_
  intro p e s m args below meth c s₁ B hml hv
  obtain ⟨rfl, hP, hK⟩ := hv
  have hx := B.exec
  have hb := B.bytes
  have hr := B.returns
  have hts := atoms_spec (ws := wsX0_isClosedWhenEarly) B.pre
  have hown : s.vm.findClass RX0 = some m.cls := findClass_of_methodNamed B.named
  have hlocks := B.notSynchronized
  have hS : va_S dk_no s.heap s.heap [] := va_S.rf
  have hl := lv_entry ([.int x]) (n := 1) (Nat.le_of_ble_eq_true rfl)
  rw [lg_entry_eq]
  generalize (lg_sl ([.int x]) ++ List.replicate (1 - (lg_sl ([.int x])).length) Slot.unset).toArray = ls at hl ⊢
  have hl : lv_has ls 1 [(0, .int x)] := hl
  refine lv_iload_n hx hb dX0_isClosedWhenEarly_0 rfl (lv_at hl 0 rfl) ?_
  refine lv_iconst (v := 3) hx hb dX0_isClosedWhenEarly_1 (by decide) ?_
  refine lv_icmp_eq (tgt := 27) hx hb dX0_isClosedWhenEarly_2 (by decide) (fun c_2 => ?_) (fun c_2 => ?_)
  · refine lv_iconst (v := 1) hx hb dX0_isClosedWhenEarly_27 (by decide) ?_
    refine lv_goto (tgt := 32) hx hb dX0_isClosedWhenEarly_28 (by decide) ?_
    exact W.zret (v := 1) hx hb hr (by first | rfl | decide) (fun z8 hz8 hW8 => ⟨⟨1, (), rfl, Or.inl ⟨rfl, Or.inl c_2⟩, trivial⟩, hS.F hz8⟩) hS.2.2 dX0_isClosedWhenEarly_32
  · refine lv_iload_n hx hb dX0_isClosedWhenEarly_5 rfl (lv_at hl 0 rfl) ?_
    refine lv_iconst (v := 4) hx hb dX0_isClosedWhenEarly_6 (by decide) ?_
    refine lv_icmp_eq (tgt := 27) hx hb dX0_isClosedWhenEarly_7 (by decide) (fun c_7 => ?_) (fun c_7 => ?_)
    · refine lv_iconst (v := 1) hx hb dX0_isClosedWhenEarly_27 (by decide) ?_
      refine lv_goto (tgt := 32) hx hb dX0_isClosedWhenEarly_28 (by decide) ?_
      exact W.zret (v := 1) hx hb hr (by first | rfl | decide) (fun z8 hz8 hW8 => ⟨⟨1, (), rfl, Or.inl ⟨rfl, Or.inr (Or.inl c_7)⟩, trivial⟩, hS.F hz8⟩) hS.2.2 dX0_isClosedWhenEarly_32
    · refine lv_iload_n hx hb dX0_isClosedWhenEarly_10 rfl (lv_at hl 0 rfl) ?_
      refine lv_iconst (v := 5) hx hb dX0_isClosedWhenEarly_11 (by decide) ?_
      refine lv_icmp_eq (tgt := 27) hx hb dX0_isClosedWhenEarly_12 (by decide) (fun c_12 => ?_) (fun c_12 => ?_)
      · refine lv_iconst (v := 1) hx hb dX0_isClosedWhenEarly_27 (by decide) ?_
        refine lv_goto (tgt := 32) hx hb dX0_isClosedWhenEarly_28 (by decide) ?_
        exact W.zret (v := 1) hx hb hr (by first | rfl | decide) (fun z8 hz8 hW8 => ⟨⟨1, (), rfl, Or.inl ⟨rfl, Or.inr (Or.inr (Or.inl c_12))⟩, trivial⟩, hS.F hz8⟩) hS.2.2 dX0_isClosedWhenEarly_32
      · refine lv_iload_n hx hb dX0_isClosedWhenEarly_15 rfl (lv_at hl 0 rfl) ?_
        refine lv_bipush (v := 6) hx hb dX0_isClosedWhenEarly_16 (by decide) ?_
        refine lv_icmp_eq (tgt := 27) hx hb dX0_isClosedWhenEarly_18 (by decide) (fun c_18 => ?_) (fun c_18 => ?_)
        · refine lv_iconst (v := 1) hx hb dX0_isClosedWhenEarly_27 (by decide) ?_
          refine lv_goto (tgt := 32) hx hb dX0_isClosedWhenEarly_28 (by decide) ?_
          exact W.zret (v := 1) hx hb hr (by first | rfl | decide) (fun z8 hz8 hW8 => ⟨⟨1, (), rfl, Or.inl ⟨rfl, Or.inr (Or.inr (Or.inr (Or.inl c_18)))⟩, trivial⟩, hS.F hz8⟩) hS.2.2 dX0_isClosedWhenEarly_32
        · refine lv_iload_n hx hb dX0_isClosedWhenEarly_21 rfl (lv_at hl 0 rfl) ?_
          refine lv_bipush (v := 13) hx hb dX0_isClosedWhenEarly_22 (by decide) ?_
          refine lv_icmp_ne (tgt := 31) hx hb dX0_isClosedWhenEarly_24 (by decide) (fun c_24 => ?_) (fun c_24 => ?_)
          · refine lv_iconst (v := 0) hx hb dX0_isClosedWhenEarly_31 (by decide) ?_
            exact W.zret (v := 0) hx hb hr (by first | rfl | decide) (fun z8 hz8 hW8 => ⟨⟨0, (), rfl, Or.inr ⟨rfl, by unfold dk_cE; intro q9; rcases q9 with q9 | q9 | q9 | q9 | q9 <;> contradiction⟩, trivial⟩, hS.F hz8⟩) hS.2.2 dX0_isClosedWhenEarly_32
          · refine lv_iconst (v := 1) hx hb dX0_isClosedWhenEarly_27 (by decide) ?_
            refine lv_goto (tgt := 32) hx hb dX0_isClosedWhenEarly_28 (by decide) ?_
            exact W.zret (v := 1) hx hb hr (by first | rfl | decide) (fun z8 hz8 hW8 => ⟨⟨1, (), rfl, Or.inl ⟨rfl, Or.inr (Or.inr (Or.inr (Or.inr (c_24))))⟩, trivial⟩, hS.F hz8⟩) hS.2.2 dX0_isClosedWhenEarly_32
set_option maxHeartbeats 4000000 in
set_option maxRecDepth 100000 in
/-- isClosedWhenShut -/
theorem cX_isClosedWhenShut (l : Launch) (dC : Nat → ClassId) (dI : Nat → Nat → Nat) (x : Int32) : Met l yX0_isClosedWhenShut wsX0_isClosedWhenShut ({ frames := 1, cells := 0, slots := 0, locals := 20 }) (dk_Pr [.int x] (dC, dI) vwCl [] []) (va_Qi (fun (r : Int32) (_ : Unit) => (r = 1 ∧ dk_cS x) ∨ (r = 0 ∧ ¬ dk_cS x)) (fun _ _ => True) dk_no) 0 0 dk_no := by
  refine Met.ofW (cc := cX0_isClosedWhenShut) (maxL := 1) (ret := (some .boolean)) (by decide) rfl ?_
  intro p e s m args below meth c s₁ B hml hv
  obtain ⟨rfl, hP, hK⟩ := hv
  have hx := B.exec
  have hb := B.bytes
  have hr := B.returns
  have hts := atoms_spec (ws := wsX0_isClosedWhenShut) B.pre
  have hown : s.vm.findClass RX0 = some m.cls := findClass_of_methodNamed B.named
  have hlocks := B.notSynchronized
  have hS : va_S dk_no s.heap s.heap [] := va_S.rf
  have hl := lv_entry ([.int x]) (n := 1) (Nat.le_of_ble_eq_true rfl)
  rw [lg_entry_eq]
  generalize (lg_sl ([.int x]) ++ List.replicate (1 - (lg_sl ([.int x])).length) Slot.unset).toArray = ls at hl ⊢
  have hl : lv_has ls 1 [(0, .int x)] := hl
  refine lv_iload_n hx hb dX0_isClosedWhenShut_0 rfl (lv_at hl 0 rfl) ?_
  have hPc := hP
  have hKc := hK
  refine va_calli (va_runS (As := [.int x]) (rest := []) ⟨hx, hb, hml, hown, hts⟩ (cX_isClosedWhenEarly l dC dI x) (va_cwS 1 hts gX0_isClosedWhenShut_X0_isClosedWhenEarly rfl rfl rfl (by decide +kernel) ⟨Nat.le_of_ble_eq_true rfl, Nat.le_of_ble_eq_true rfl⟩) (dk_rS dk_P0 hKc) rfl rfl hl.1 rfl (lv_room (Nat.le_of_ble_eq_true rfl)) dX0_isClosedWhenShut_1 ⟨Nat.zero_le _, Nat.zero_le _⟩) hS (fun q _ h => False.elim h) (fun q h => False.elim h) (fun r_1 u8 t8 H1 locs ht8 hvm8 hw hB hz1 hk1 hS => ?_)
  try dsimp only at hw
  have hP := dk_kept hP hk1
  generalize H1 = H at hP hS ⊢
  rcases hw with ⟨rfl, hE⟩ | ⟨rfl, hE⟩
  · refine lv_if_ne (tgt := 19) hx hb dX0_isClosedWhenShut_4 (by decide) (fun _ => ?_) (fun c9 => absurd c9 (by decide))
    refine lv_iconst (v := 1) hx hb dX0_isClosedWhenShut_19 (by decide) ?_
    refine lv_goto (tgt := 24) hx hb dX0_isClosedWhenShut_20 (by decide) ?_
    exact W.zret (v := 1) hx hb hr (by first | rfl | decide) (fun z8 hz8 hW8 => ⟨⟨1, (), rfl, Or.inl ⟨rfl, Or.inl hE⟩, trivial⟩, hS.F hz8⟩) hS.2.2 dX0_isClosedWhenShut_24
  · refine lv_if_ne (tgt := 19) hx hb dX0_isClosedWhenShut_4 (by decide) (fun c9 => absurd (by decide) c9) (fun _ => ?_)
    refine lv_iload_n hx hb dX0_isClosedWhenShut_7 rfl (lv_at hl 0 rfl) ?_
    refine lv_bipush (v := 7) hx hb dX0_isClosedWhenShut_8 (by decide) ?_
    refine lv_icmp_eq (tgt := 19) hx hb dX0_isClosedWhenShut_10 (by decide) (fun c_10 => ?_) (fun c_10 => ?_)
    · refine lv_iconst (v := 1) hx hb dX0_isClosedWhenShut_19 (by decide) ?_
      refine lv_goto (tgt := 24) hx hb dX0_isClosedWhenShut_20 (by decide) ?_
      exact W.zret (v := 1) hx hb hr (by first | rfl | decide) (fun z8 hz8 hW8 => ⟨⟨1, (), rfl, Or.inl ⟨rfl, Or.inr (Or.inl c_10)⟩, trivial⟩, hS.F hz8⟩) hS.2.2 dX0_isClosedWhenShut_24
    · refine lv_iload_n hx hb dX0_isClosedWhenShut_13 rfl (lv_at hl 0 rfl) ?_
      refine lv_bipush (v := 8) hx hb dX0_isClosedWhenShut_14 (by decide) ?_
      refine lv_icmp_ne (tgt := 23) hx hb dX0_isClosedWhenShut_16 (by decide) (fun c_16 => ?_) (fun c_16 => ?_)
      · refine lv_iconst (v := 0) hx hb dX0_isClosedWhenShut_23 (by decide) ?_
        exact W.zret (v := 0) hx hb hr (by first | rfl | decide) (fun z8 hz8 hW8 => ⟨⟨0, (), rfl, Or.inr ⟨rfl, by unfold dk_cS; intro q9; rcases q9 with q9 | q9 | q9 <;> contradiction⟩, trivial⟩, hS.F hz8⟩) hS.2.2 dX0_isClosedWhenShut_24
      · refine lv_iconst (v := 1) hx hb dX0_isClosedWhenShut_19 (by decide) ?_
        refine lv_goto (tgt := 24) hx hb dX0_isClosedWhenShut_20 (by decide) ?_
        exact W.zret (v := 1) hx hb hr (by first | rfl | decide) (fun z8 hz8 hW8 => ⟨⟨1, (), rfl, Or.inl ⟨rfl, Or.inr (Or.inr c_16)⟩, trivial⟩, hS.F hz8⟩) hS.2.2 dX0_isClosedWhenShut_24
end
section
set_option maxHeartbeats 4000000 in
set_option maxRecDepth 100000 in
/-- openStatements: each opening is what there is now, went, came, moved are 0 -/
theorem cX_open (l : Launch) (dC : Nat → ClassId) (dI : Nat → Nat → Nat) (sz : Nat) (h0 qo qw qc qn qm ql : Nat) (k1 k2 k3 k4 k5 : ClassId) (d ll : Int32) (tk : Int32) (fo fw fc fn fm : Nat → Int64) : Met l yX0_openStatements wsX0_openStatements ({ frames := 0, cells := 0, slots := 0, locals := 0 }) (dk_Pw [.ref h0] (dC, dI) vwCl [(k1, .long), (k2, .long), (k3, .long), (k4, .long), (k5, .long)] [(h0, .inr (0, [.int d, .int tk, .ref qo, .ref qw, .ref qc, .ref qn, .ref qm, .ref ql, .int ll])), (qo, .inl (k1, 200, .inr (.inl fo))), (qw, .inl (k2, 200, .inr (.inl fw))), (qc, .inl (k3, 200, .inr (.inl fc))), (qn, .inl (k4, 200, .inr (.inl fn))), (qm, .inl (k5, 200, .inr (.inl fm)))] sz) (va_Qv (fun (u : (Nat → Int64) × (Nat → Int64) × (Nat → Int64) × (Nat → Int64)) => match u with | (go, gw, gc, gm) => ∀ j : Nat, j < 200 → go j = fn j ∧ gw j = 0 ∧ gc j = 0 ∧ gm j = 0) (fun (u : (Nat → Int64) × (Nat → Int64) × (Nat → Int64) × (Nat → Int64)) z8 => match u with | (go, gw, gc, gm) => dk_B (dC, dI) vwCl (va_A [(h0, .inr (0, [.int d, .int tk, .ref qo, .ref qw, .ref qc, .ref qn, .ref qm, .ref ql, .int ll])), (qo, .inl (k1, 200, .inr (.inl fo))), (qw, .inl (k2, 200, .inr (.inl fw))), (qc, .inl (k3, 200, .inr (.inl fc))), (qn, .inl (k4, 200, .inr (.inl fn))), (qm, .inl (k5, 200, .inr (.inl fm)))] sz) [(h0, .inr (0, [.int d, .int tk, .ref qo, .ref qw, .ref qc, .ref qn, .ref qm, .ref ql, .int ll])), (qo, .inl (k1, 200, .inr (.inl go))), (qw, .inl (k2, 200, .inr (.inl gw))), (qc, .inl (k3, 200, .inr (.inl gc))), (qn, .inl (k4, 200, .inr (.inl fn))), (qm, .inl (k5, 200, .inr (.inl gm)))] z8) (va_A [(h0, .inr (0, [.int d, .int tk, .ref qo, .ref qw, .ref qc, .ref qn, .ref qm, .ref ql, .int ll])), (qo, .inl (k1, 200, .inr (.inl fo))), (qw, .inl (k2, 200, .inr (.inl fw))), (qc, .inl (k3, 200, .inr (.inl fc))), (qn, .inl (k4, 200, .inr (.inl fn))), (qm, .inl (k5, 200, .inr (.inl fm)))] sz)) 0 0 (va_A [(h0, .inr (0, [.int d, .int tk, .ref qo, .ref qw, .ref qc, .ref qn, .ref qm, .ref ql, .int ll])), (qo, .inl (k1, 200, .inr (.inl fo))), (qw, .inl (k2, 200, .inr (.inl fw))), (qc, .inl (k3, 200, .inr (.inl fc))), (qn, .inl (k4, 200, .inr (.inl fn))), (qm, .inl (k5, 200, .inr (.inl fm)))] sz) := by
  refine Met.ofW (cc := cX0_openStatements) (maxL := 2) (ret := none) (by decide) rfl ?_
  intro p e s m args below meth c s₁ B hml hv
  obtain ⟨rfl, hsz, hP, hK, hD0⟩ := hv
  have hx := B.exec
  have hb := B.bytes
  have hr := B.returns
  have hts := atoms_spec (ws := wsX0_openStatements) B.pre
  have hown : s.vm.findClass RX0 = some m.cls := findClass_of_methodNamed B.named
  have hlocks := B.notSynchronized
  have hinX0 : ∀ w ∈ wsX00, w ∈ wsX0_openStatements := by decide +kernel
  subst hsz
  have hD := hD0.self (sz := s.heap.size)
  generalize hAe : va_A [(h0, .inr (0, [.int d, .int tk, .ref qo, .ref qw, .ref qc, .ref qn, .ref qm, .ref ql, .int ll])), (qo, .inl (k1, 200, .inr (.inl fo))), (qw, .inl (k2, 200, .inr (.inl fw))), (qc, .inl (k3, 200, .inr (.inl fc))), (qn, .inl (k4, 200, .inr (.inl fn))), (qm, .inl (k5, 200, .inr (.inl fm)))] s.heap.size = A at hD ⊢
  have hA : ∀ q : Nat, s.heap.size ≤ q → A q := fun q h => by rw [← hAe]; exact Or.inr h
  have hS : va_S A s.heap s.heap [] := va_S.rf
  have hl := lv_entry ([.ref h0]) (n := 2) (Nat.le_of_ble_eq_true rfl)
  rw [lg_entry_eq]
  generalize (lg_sl ([.ref h0]) ++ List.replicate (2 - (lg_sl ([.ref h0])).length) Slot.unset).toArray = ls at hl ⊢
  have hl : lv_has ls 2 [(0, .ref h0)] := hl
  refine lv_iconst (v := nI 0) hx hb dX0_openStatements_0 (by decide) ?_
  refine lv_istore_n (lv' := [(1, .int (nI 0)), (0, .ref h0)]) hx hb dX0_openStatements_1 rfl hl (by decide) rfl (fun ls hl => ?_)
  have loop : ∀ (k i : Nat) (go gw gc gm : Nat → Int64), i ≤ 200 → 201 ≤ i + k → (∀ j : Nat, j < i → go j = fn j ∧ gw j = 0 ∧ gc j = 0 ∧ gm j = 0) → ∀ (H : Heap) (locs : List Loc), va_P (dC, dI) vwCl [(h0, .inr (0, [.int d, .int tk, .ref qo, .ref qw, .ref qc, .ref qn, .ref qm, .ref ql, .int ll])), (qo, .inl (k1, 200, .inr (.inl go))), (qw, .inl (k2, 200, .inr (.inl gw))), (qc, .inl (k3, 200, .inr (.inl gc))), (qn, .inl (k4, 200, .inr (.inl fn))), (qm, .inl (k5, 200, .inr (.inl gm)))] H → va_D A [(h0, .inr (0, [.int d, .int tk, .ref qo, .ref qw, .ref qc, .ref qn, .ref qm, .ref ql, .int ll])), (qo, .inl (k1, 200, .inr (.inl go))), (qw, .inl (k2, 200, .inr (.inl gw))), (qc, .inl (k3, 200, .inr (.inl gc))), (qn, .inl (k4, 200, .inr (.inl fn))), (qm, .inl (k5, 200, .inr (.inl gm)))] → va_S A s.heap H locs → ∀ ls : Array Slot, lv_has ls 2 [(1, .int (nI i)), (0, .ref h0)] → W p l e (headSpec wsX0_openStatements ({ frames := 0, cells := 0, slots := 0, locals := 0 })).room s m ([.ref h0] : List Value).toArray below meth c H locs 0 0 (MQ below (va_Qv (fun (u : (Nat → Int64) × (Nat → Int64) × (Nat → Int64) × (Nat → Int64)) => match u with | (go, gw, gc, gm) => ∀ j : Nat, j < 200 → go j = fn j ∧ gw j = 0 ∧ gc j = 0 ∧ gm j = 0) (fun (u : (Nat → Int64) × (Nat → Int64) × (Nat → Int64) × (Nat → Int64)) z8 => match u with | (go, gw, gc, gm) => dk_B (dC, dI) vwCl A [(h0, .inr (0, [.int d, .int tk, .ref qo, .ref qw, .ref qc, .ref qn, .ref qm, .ref ql, .int ll])), (qo, .inl (k1, 200, .inr (.inl go))), (qw, .inl (k2, 200, .inr (.inl gw))), (qc, .inl (k3, 200, .inr (.inl gc))), (qn, .inl (k4, 200, .inr (.inl fn))), (qm, .inl (k5, 200, .inr (.inl gm)))] z8) A) ([.ref h0] : List Value).toArray s 0 0 A) (F0 m 2 ls []) := by
    intro k
    induction k with
    | zero => intro i go gw gc gm h1 h2; exact absurd h2 (by omega)
    | succ k ih =>
      intro i go gw gc gm hi hk hdone H locs hP hD hS ls hl
      refine lv_iload_n hx hb dX0_openStatements_2 rfl (lv_at hl 0 rfl) ?_
      refine lv_sipush (v := nI 200) hx hb dX0_openStatements_3 (by decide) ?_
      refine dk_icmp_ge (x := i) (y := 200) (tgt := 48) hx hb dX0_openStatements_6 (by decide) (by omega) (by omega) (fun c_6 => ?_) (fun c_6 => ?_)
      · exact W.vret hx hb hr (fun z8 hz8 hW8 => ⟨⟨(go, gw, gc, gm), rfl, fun j hj => hdone j (by omega), by rw [hz8]; exact hP, hD⟩, hS.F hz8⟩) hS.2.2 dX0_openStatements_48
      · refine lv_aload_n hx hb dX0_openStatements_9 rfl (lv_at hl 1 rfl) ?_
        refine va_get (D := (dC, dI)) (ci := 0) (v := .ref qo) (C := RX0) (T := TX0) (N := 9) hx hb hts hinX0 hown hK hP 0 rfl rfl 2 (by decide) (hts (.fieldLink RX0 16 "DayDesk" "opening" "[J") (by decide +kernel)) (fun _ h9 => h9) rfl dX0_openStatements_10 ?_
        refine lv_iload_n hx hb dX0_openStatements_13 rfl (lv_at hl 0 rfl) ?_
        refine lv_aload_n hx hb dX0_openStatements_14 rfl (lv_at hl 1 rfl) ?_
        refine va_get (D := (dC, dI)) (ci := 0) (v := .ref qn) (C := RX0) (T := TX0) (N := 9) hx hb hts hinX0 hown hK hP 0 rfl rfl 5 (by decide) (hts (.fieldLink RX0 26 "DayDesk" "now" "[J") (by decide +kernel)) (fun _ h9 => h9) rfl dX0_openStatements_15 ?_
        refine lv_iload_n hx hb dX0_openStatements_18 rfl (lv_at hl 0 rfl) ?_
        refine dk_lald hx hb hK hP 4 3 rfl rfl (j := i) (by omega) (by omega) dX0_openStatements_19 ?_
        refine dk_last hx hb hK hP hD hS 1 0 rfl rfl (j := i) (by omega) (by omega) dX0_openStatements_20 (fun H locs hP hD hS => ?_)
        have hP : va_P (dC, dI) vwCl [(h0, .inr (0, [.int d, .int tk, .ref qo, .ref qw, .ref qc, .ref qn, .ref qm, .ref ql, .int ll])), (qo, .inl (k1, 200, .inr (.inl (vp_updL go i (fn i))))), (qw, .inl (k2, 200, .inr (.inl gw))), (qc, .inl (k3, 200, .inr (.inl gc))), (qn, .inl (k4, 200, .inr (.inl fn))), (qm, .inl (k5, 200, .inr (.inl gm)))] H := hP
        have hD : va_D A [(h0, .inr (0, [.int d, .int tk, .ref qo, .ref qw, .ref qc, .ref qn, .ref qm, .ref ql, .int ll])), (qo, .inl (k1, 200, .inr (.inl (vp_updL go i (fn i))))), (qw, .inl (k2, 200, .inr (.inl gw))), (qc, .inl (k3, 200, .inr (.inl gc))), (qn, .inl (k4, 200, .inr (.inl fn))), (qm, .inl (k5, 200, .inr (.inl gm)))] := hD
        refine lv_aload_n hx hb dX0_openStatements_21 rfl (lv_at hl 1 rfl) ?_
        refine va_get (D := (dC, dI)) (ci := 0) (v := .ref qw) (C := RX0) (T := TX0) (N := 9) hx hb hts hinX0 hown hK hP 0 rfl rfl 3 (by decide) (hts (.fieldLink RX0 20 "DayDesk" "went" "[J") (by decide +kernel)) (fun _ h9 => h9) rfl dX0_openStatements_22 ?_
        refine lv_iload_n hx hb dX0_openStatements_25 rfl (lv_at hl 0 rfl) ?_
        refine lv_lconst (v := 0) hx hb dX0_openStatements_26 (by decide) ?_
        refine dk_last hx hb hK hP hD hS 2 1 rfl rfl (j := i) (by omega) (by omega) dX0_openStatements_27 (fun H locs hP hD hS => ?_)
        have hP : va_P (dC, dI) vwCl [(h0, .inr (0, [.int d, .int tk, .ref qo, .ref qw, .ref qc, .ref qn, .ref qm, .ref ql, .int ll])), (qo, .inl (k1, 200, .inr (.inl (vp_updL go i (fn i))))), (qw, .inl (k2, 200, .inr (.inl (vp_updL gw i 0)))), (qc, .inl (k3, 200, .inr (.inl gc))), (qn, .inl (k4, 200, .inr (.inl fn))), (qm, .inl (k5, 200, .inr (.inl gm)))] H := hP
        have hD : va_D A [(h0, .inr (0, [.int d, .int tk, .ref qo, .ref qw, .ref qc, .ref qn, .ref qm, .ref ql, .int ll])), (qo, .inl (k1, 200, .inr (.inl (vp_updL go i (fn i))))), (qw, .inl (k2, 200, .inr (.inl (vp_updL gw i 0)))), (qc, .inl (k3, 200, .inr (.inl gc))), (qn, .inl (k4, 200, .inr (.inl fn))), (qm, .inl (k5, 200, .inr (.inl gm)))] := hD
        refine lv_aload_n hx hb dX0_openStatements_28 rfl (lv_at hl 1 rfl) ?_
        refine va_get (D := (dC, dI)) (ci := 0) (v := .ref qc) (C := RX0) (T := TX0) (N := 9) hx hb hts hinX0 hown hK hP 0 rfl rfl 4 (by decide) (hts (.fieldLink RX0 23 "DayDesk" "came" "[J") (by decide +kernel)) (fun _ h9 => h9) rfl dX0_openStatements_29 ?_
        refine lv_iload_n hx hb dX0_openStatements_32 rfl (lv_at hl 0 rfl) ?_
        refine lv_lconst (v := 0) hx hb dX0_openStatements_33 (by decide) ?_
        refine dk_last hx hb hK hP hD hS 3 2 rfl rfl (j := i) (by omega) (by omega) dX0_openStatements_34 (fun H locs hP hD hS => ?_)
        have hP : va_P (dC, dI) vwCl [(h0, .inr (0, [.int d, .int tk, .ref qo, .ref qw, .ref qc, .ref qn, .ref qm, .ref ql, .int ll])), (qo, .inl (k1, 200, .inr (.inl (vp_updL go i (fn i))))), (qw, .inl (k2, 200, .inr (.inl (vp_updL gw i 0)))), (qc, .inl (k3, 200, .inr (.inl (vp_updL gc i 0)))), (qn, .inl (k4, 200, .inr (.inl fn))), (qm, .inl (k5, 200, .inr (.inl gm)))] H := hP
        have hD : va_D A [(h0, .inr (0, [.int d, .int tk, .ref qo, .ref qw, .ref qc, .ref qn, .ref qm, .ref ql, .int ll])), (qo, .inl (k1, 200, .inr (.inl (vp_updL go i (fn i))))), (qw, .inl (k2, 200, .inr (.inl (vp_updL gw i 0)))), (qc, .inl (k3, 200, .inr (.inl (vp_updL gc i 0)))), (qn, .inl (k4, 200, .inr (.inl fn))), (qm, .inl (k5, 200, .inr (.inl gm)))] := hD
        refine lv_aload_n hx hb dX0_openStatements_35 rfl (lv_at hl 1 rfl) ?_
        refine va_get (D := (dC, dI)) (ci := 0) (v := .ref qm) (C := RX0) (T := TX0) (N := 9) hx hb hts hinX0 hown hK hP 0 rfl rfl 6 (by decide) (hts (.fieldLink RX0 29 "DayDesk" "moved" "[J") (by decide +kernel)) (fun _ h9 => h9) rfl dX0_openStatements_36 ?_
        refine lv_iload_n hx hb dX0_openStatements_39 rfl (lv_at hl 0 rfl) ?_
        refine lv_lconst (v := 0) hx hb dX0_openStatements_40 (by decide) ?_
        refine dk_last hx hb hK hP hD hS 5 4 rfl rfl (j := i) (by omega) (by omega) dX0_openStatements_41 (fun H locs hP hD hS => ?_)
        have hP : va_P (dC, dI) vwCl [(h0, .inr (0, [.int d, .int tk, .ref qo, .ref qw, .ref qc, .ref qn, .ref qm, .ref ql, .int ll])), (qo, .inl (k1, 200, .inr (.inl (vp_updL go i (fn i))))), (qw, .inl (k2, 200, .inr (.inl (vp_updL gw i 0)))), (qc, .inl (k3, 200, .inr (.inl (vp_updL gc i 0)))), (qn, .inl (k4, 200, .inr (.inl fn))), (qm, .inl (k5, 200, .inr (.inl (vp_updL gm i 0))))] H := hP
        have hD : va_D A [(h0, .inr (0, [.int d, .int tk, .ref qo, .ref qw, .ref qc, .ref qn, .ref qm, .ref ql, .int ll])), (qo, .inl (k1, 200, .inr (.inl (vp_updL go i (fn i))))), (qw, .inl (k2, 200, .inr (.inl (vp_updL gw i 0)))), (qc, .inl (k3, 200, .inr (.inl (vp_updL gc i 0)))), (qn, .inl (k4, 200, .inr (.inl fn))), (qm, .inl (k5, 200, .inr (.inl (vp_updL gm i 0))))] := hD
        refine lv_iinc (v := nI (i + 1)) (lv' := [(1, .int (nI (i + 1))), (0, .ref h0)]) hx hb dX0_openStatements_42 hl (k := 0) rfl (by rw [show Int32.ofInt 1 = nI 1 from by decide]; exact nI_add i 1) (by decide) rfl (fun ls hl => ?_)
        refine lv_goto (tgt := 2) hx hb dX0_openStatements_45 (by decide) ?_
        exact ih (i + 1) _ _ _ _ (by omega) (by omega) (fun j hj => by
          by_cases hji : j = i
          · subst hji; exact ⟨pk_uLs, pk_uLs, pk_uLs, pk_uLs⟩
          · have hq := hdone j (by omega)
            exact ⟨by rw [pk_uLn hji]; exact hq.1, by rw [pk_uLn hji]; exact hq.2.1, by rw [pk_uLn hji]; exact hq.2.2.1, by rw [pk_uLn hji]; exact hq.2.2.2⟩) _ _ hP hD hS ls (lv_sub hl [0, 1] rfl)
  exact loop 201 0 fo fw fc fm (by omega) (by omega) (fun j hj => absurd hj (Nat.not_lt_zero _)) _ _ hP hD hS ls (lv_sub hl [0, 1] rfl)
set_option maxHeartbeats 4000000 in
set_option maxRecDepth 100000 in
/-- advance: ticks pass -/
theorem cX_advance (l : Launch) (dC : Nat → ClassId) (dI : Nat → Nat → Nat) (sz : Nat) (h0 qo qw qc qn qm ql : Nat) (k1 k2 k3 k4 k5 : ClassId) (d ll : Int32) (t : Nat) (ht9 : t < 1000) (fo fw fc fn fm : Nat → Int64) (n : Nat) (hn9 : n ≤ 100000) : Met l yX0_advance wsX0_advance ({ frames := 1, cells := 0, slots := 0, locals := 21 }) (dk_Pw [.ref h0, .int (nI n)] (dC, dI) vwCl [(k1, .long), (k2, .long), (k3, .long), (k4, .long), (k5, .long)] [(h0, .inr (0, [.int d, .int (nI t), .ref qo, .ref qw, .ref qc, .ref qn, .ref qm, .ref ql, .int ll])), (qo, .inl (k1, 200, .inr (.inl fo))), (qw, .inl (k2, 200, .inr (.inl fw))), (qc, .inl (k3, 200, .inr (.inl fc))), (qn, .inl (k4, 200, .inr (.inl fn))), (qm, .inl (k5, 200, .inr (.inl fm)))] sz) (va_Qi (fun (r : Int32) (u : (Nat → Int64) × (Nat → Int64) × (Nat → Int64) × (Nat → Int64)) => match u with | (go, gw, gc, gm) => r = nI ((t + n) / 1000) ∧ dk_Op ((t + n) / 1000) fo fw fc fn fm go gw gc gm) (fun (u : (Nat → Int64) × (Nat → Int64) × (Nat → Int64) × (Nat → Int64)) z8 => match u with | (go, gw, gc, gm) => dk_B (dC, dI) vwCl (va_A [(h0, .inr (0, [.int d, .int (nI t), .ref qo, .ref qw, .ref qc, .ref qn, .ref qm, .ref ql, .int ll])), (qo, .inl (k1, 200, .inr (.inl fo))), (qw, .inl (k2, 200, .inr (.inl fw))), (qc, .inl (k3, 200, .inr (.inl fc))), (qn, .inl (k4, 200, .inr (.inl fn))), (qm, .inl (k5, 200, .inr (.inl fm)))] sz) [(h0, .inr (0, [.int (d + nI ((t + n) / 1000)), .int (nI ((t + n) % 1000)), .ref qo, .ref qw, .ref qc, .ref qn, .ref qm, .ref ql, .int ll])), (qo, .inl (k1, 200, .inr (.inl go))), (qw, .inl (k2, 200, .inr (.inl gw))), (qc, .inl (k3, 200, .inr (.inl gc))), (qn, .inl (k4, 200, .inr (.inl fn))), (qm, .inl (k5, 200, .inr (.inl gm)))] z8) (va_A [(h0, .inr (0, [.int d, .int (nI t), .ref qo, .ref qw, .ref qc, .ref qn, .ref qm, .ref ql, .int ll])), (qo, .inl (k1, 200, .inr (.inl fo))), (qw, .inl (k2, 200, .inr (.inl fw))), (qc, .inl (k3, 200, .inr (.inl fc))), (qn, .inl (k4, 200, .inr (.inl fn))), (qm, .inl (k5, 200, .inr (.inl fm)))] sz)) 0 0 (va_A [(h0, .inr (0, [.int d, .int (nI t), .ref qo, .ref qw, .ref qc, .ref qn, .ref qm, .ref ql, .int ll])), (qo, .inl (k1, 200, .inr (.inl fo))), (qw, .inl (k2, 200, .inr (.inl fw))), (qc, .inl (k3, 200, .inr (.inl fc))), (qn, .inl (k4, 200, .inr (.inl fn))), (qm, .inl (k5, 200, .inr (.inl fm)))] sz) := by
  refine Met.ofW (cc := cX0_advance) (maxL := 4) (ret := (some .int)) (by decide) rfl ?_
  intro p e s m args below meth c s₁ B hml hv
  obtain ⟨rfl, hsz, hP, hK, hD0⟩ := hv
  have hx := B.exec
  have hb := B.bytes
  have hr := B.returns
  have hts := atoms_spec (ws := wsX0_advance) B.pre
  have hown : s.vm.findClass RX0 = some m.cls := findClass_of_methodNamed B.named
  have hlocks := B.notSynchronized
  have hinX0 : ∀ w ∈ wsX00, w ∈ wsX0_advance := by decide +kernel
  subst hsz
  have hD := hD0.self (sz := s.heap.size)
  generalize hAe : va_A [(h0, .inr (0, [.int d, .int (nI t), .ref qo, .ref qw, .ref qc, .ref qn, .ref qm, .ref ql, .int ll])), (qo, .inl (k1, 200, .inr (.inl fo))), (qw, .inl (k2, 200, .inr (.inl fw))), (qc, .inl (k3, 200, .inr (.inl fc))), (qn, .inl (k4, 200, .inr (.inl fn))), (qm, .inl (k5, 200, .inr (.inl fm)))] s.heap.size = A at hD ⊢
  have hA : ∀ q : Nat, s.heap.size ≤ q → A q := fun q h => by rw [← hAe]; exact Or.inr h
  have hS : va_S A s.heap s.heap [] := va_S.rf
  have hl := lv_entry ([.ref h0, .int (nI n)]) (n := 4) (Nat.le_of_ble_eq_true rfl)
  rw [lg_entry_eq]
  generalize (lg_sl ([.ref h0, .int (nI n)]) ++ List.replicate (4 - (lg_sl ([.ref h0, .int (nI n)])).length) Slot.unset).toArray = ls at hl ⊢
  have hl : lv_has ls 4 [(0, .ref h0), (1, .int (nI n))] := hl
  refine lv_aload_n hx hb dX0_advance_0 rfl (lv_at hl 0 rfl) ?_
  refine va_get (D := (dC, dI)) (ci := 0) (v := .int (nI t)) (C := RX0) (T := TX0) (N := 9) hx hb hts hinX0 hown hK hP 0 rfl rfl 1 (by decide) (hts (.fieldLink RX0 13 "DayDesk" "tick" "I") (by decide +kernel)) (fun _ h9 => h9) rfl dX0_advance_1 ?_
  refine lv_iload_n hx hb dX0_advance_4 rfl (lv_at hl 1 rfl) ?_
  refine lv_iadd hx hb dX0_advance_5 ?_
  refine dk_asi (y := nI (t + n)) (nI_add t n) ?_
  refine lv_istore_n (lv' := [(2, .int (nI (t + n))), (0, .ref h0), (1, .int (nI n))]) hx hb dX0_advance_6 rfl hl (by decide) rfl (fun ls hl => ?_)
  refine lv_iload_n hx hb dX0_advance_7 rfl (lv_at hl 0 rfl) ?_
  refine lv_sipush (v := nI 1000) hx hb dX0_advance_8 (by decide) ?_
  refine lv_idiv hx hb dX0_advance_11 (by decide) ?_
  refine dk_asi (y := nI ((t + n) / 1000)) (pk_div (a := t + n) (d := 1000) (by omega) (by omega) (by omega)) ?_
  refine lv_istore_n (lv' := [(3, .int (nI ((t + n) / 1000))), (2, .int (nI (t + n))), (0, .ref h0), (1, .int (nI n))]) hx hb dX0_advance_12 rfl hl (by decide) rfl (fun ls hl => ?_)
  refine lv_aload_n hx hb dX0_advance_13 rfl (lv_at hl 2 rfl) ?_
  refine lv_iload_n hx hb dX0_advance_14 rfl (lv_at hl 1 rfl) ?_
  refine lv_sipush (v := nI 1000) hx hb dX0_advance_15 (by decide) ?_
  refine lv_irem hx hb dX0_advance_18 (by decide) ?_
  refine dk_asi (y := nI ((t + n) % 1000)) (pk_rem (a := t + n) (d := 1000) (by omega) (by omega) (by omega)) ?_
  refine va_put (D := (dC, dI)) (ci := 0) (v := .int (nI ((t + n) % 1000))) (ty := .int) (C := RX0) (T := TX0) (N := 9) hx hb hts hinX0 tyX0 tyX0_ok nmX0 hown hK hP hD hS 0 rfl rfl 1 (by decide) (hts (.fieldLink RX0 13 "DayDesk" "tick" "I") (by decide +kernel)) (fun _ h9 => h9) rfl (by decide +kernel) rfl rfl (Nat.le_of_ble_eq_true rfl) dX0_advance_19 (fun H locs hP hD hS => ?_)
  have hP : va_P (dC, dI) vwCl [(h0, .inr (0, [.int d, .int (nI ((t + n) % 1000)), .ref qo, .ref qw, .ref qc, .ref qn, .ref qm, .ref ql, .int ll])), (qo, .inl (k1, 200, .inr (.inl fo))), (qw, .inl (k2, 200, .inr (.inl fw))), (qc, .inl (k3, 200, .inr (.inl fc))), (qn, .inl (k4, 200, .inr (.inl fn))), (qm, .inl (k5, 200, .inr (.inl fm)))] H := hP
  have hD : va_D A [(h0, .inr (0, [.int d, .int (nI ((t + n) % 1000)), .ref qo, .ref qw, .ref qc, .ref qn, .ref qm, .ref ql, .int ll])), (qo, .inl (k1, 200, .inr (.inl fo))), (qw, .inl (k2, 200, .inr (.inl fw))), (qc, .inl (k3, 200, .inr (.inl fc))), (qn, .inl (k4, 200, .inr (.inl fn))), (qm, .inl (k5, 200, .inr (.inl fm)))] := hD
  refine lv_aload_n hx hb dX0_advance_22 rfl (lv_at hl 2 rfl) ?_
  refine lv_dup hx hb dX0_advance_23 rfl ?_
  refine va_get (D := (dC, dI)) (ci := 0) (v := .int d) (C := RX0) (T := TX0) (N := 9) hx hb hts hinX0 hown hK hP 0 rfl rfl 0 (by decide) (hts (.fieldLink RX0 7 "DayDesk" "day" "I") (by decide +kernel)) (fun _ h9 => h9) rfl dX0_advance_24 ?_
  refine lv_iload_n hx hb dX0_advance_27 rfl (lv_at hl 0 rfl) ?_
  refine lv_iadd hx hb dX0_advance_28 ?_
  refine va_put (D := (dC, dI)) (ci := 0) (v := .int (d + (nI ((t + n) / 1000)))) (ty := .int) (C := RX0) (T := TX0) (N := 9) hx hb hts hinX0 tyX0 tyX0_ok nmX0 hown hK hP hD hS 0 rfl rfl 0 (by decide) (hts (.fieldLink RX0 7 "DayDesk" "day" "I") (by decide +kernel)) (fun _ h9 => h9) rfl (by decide +kernel) rfl rfl (Nat.le_of_ble_eq_true rfl) dX0_advance_29 (fun H locs hP hD hS => ?_)
  have hP : va_P (dC, dI) vwCl [(h0, .inr (0, [.int (d + (nI ((t + n) / 1000))), .int (nI ((t + n) % 1000)), .ref qo, .ref qw, .ref qc, .ref qn, .ref qm, .ref ql, .int ll])), (qo, .inl (k1, 200, .inr (.inl fo))), (qw, .inl (k2, 200, .inr (.inl fw))), (qc, .inl (k3, 200, .inr (.inl fc))), (qn, .inl (k4, 200, .inr (.inl fn))), (qm, .inl (k5, 200, .inr (.inl fm)))] H := hP
  have hD : va_D A [(h0, .inr (0, [.int (d + (nI ((t + n) / 1000))), .int (nI ((t + n) % 1000)), .ref qo, .ref qw, .ref qc, .ref qn, .ref qm, .ref ql, .int ll])), (qo, .inl (k1, 200, .inr (.inl fo))), (qw, .inl (k2, 200, .inr (.inl fw))), (qc, .inl (k3, 200, .inr (.inl fc))), (qn, .inl (k4, 200, .inr (.inl fn))), (qm, .inl (k5, 200, .inr (.inl fm)))] := hD
  refine lv_iload_n hx hb dX0_advance_32 rfl (lv_at hl 0 rfl) ?_
  refine dk_if_le (x := (t + n) / 1000) (tgt := 40) hx hb dX0_advance_33 (by decide) (by omega) (fun c_33 => ?_) (fun c_33 => ?_)
  · refine lv_iload_n hx hb dX0_advance_40 rfl (lv_at hl 0 rfl) ?_
    exact W.iret (v := nI ((t + n) / 1000)) hx hb hr (fun z8 hz8 hW8 => ⟨⟨(nI ((t + n) / 1000)), (fo, fw, fc, fm), rfl, ⟨rfl, Or.inl ⟨by omega, rfl, rfl, rfl, rfl⟩⟩, by rw [hz8]; exact hP, hD⟩, hS.F hz8⟩) hS.2.2 dX0_advance_41
  · refine lv_aload_n hx hb dX0_advance_36 rfl (lv_at hl 2 rfl) ?_
    have hPc := hP
    have hDc := hD
    have hFc := va_free (wc := [(h0, .inr (0, [.int (d + (nI ((t + n) / 1000))), .int (nI ((t + n) % 1000)), .ref qo, .ref qw, .ref qc, .ref qn, .ref qm, .ref ql, .int ll])), (qo, .inl (k1, 200, .inr (.inl fo))), (qw, .inl (k2, 200, .inr (.inl fw))), (qc, .inl (k3, 200, .inr (.inl fc))), (qn, .inl (k4, 200, .inr (.inl fn))), (qm, .inl (k5, 200, .inr (.inl fm)))]) hD hS hA [0, 1, 2, 3, 4, 5] rfl
    have hKc := hK
    refine va_callv (va_runV (As := []) (rest := []) ⟨hx, hb, hml, hown, hts⟩ (cX_open l dC dI _ h0 qo qw qc qn qm ql k1 k2 k3 k4 k5 (d + nI ((t + n) / 1000)) ll (nI ((t + n) % 1000)) fo fw fc fn fm) (cwV 0 hts gX0_advance_X0_openStatements rfl rfl rfl (by decide +kernel) ⟨Nat.le_of_ble_eq_true rfl, Nat.le_of_ble_eq_true rfl⟩) (dk_wV hPc hKc hDc (ci := 0) (q0 := 0) rfl rfl) rfl rfl hl.1 rfl (lv_room (Nat.le_of_ble_eq_true rfl)) dX0_advance_37 ⟨Nat.zero_le _, Nat.zero_le _⟩) hS (fun q _ h => hFc q h) hFc (fun u8 t8 H1 locs ht8 hvm8 hw hB hz1 hk1 hS => ?_)
    try dsimp only at hw
    obtain ⟨go, gw, gc, gm⟩ := u8
    try dsimp only at hw hB
    obtain ⟨hP1, hD1⟩ := hB
    rw [ht8] at hP1
    obtain ⟨hP, hD⟩ := va_join (wr := []) (w1 := [(h0, .inr (0, [.int (d + (nI ((t + n) / 1000))), .int (nI ((t + n) % 1000)), .ref qo, .ref qw, .ref qc, .ref qn, .ref qm, .ref ql, .int ll])), (qo, .inl (k1, 200, .inr (.inl go))), (qw, .inl (k2, 200, .inr (.inl gw))), (qc, .inl (k3, 200, .inr (.inl gc))), (qn, .inl (k4, 200, .inr (.inl fn))), (qm, .inl (k5, 200, .inr (.inl gm)))]) hP hD [0, 1, 2, 3, 4, 5] [] rfl rfl (by decide) (by decide) hk1 hFc hP1 hD1
    generalize H1 = H at hP hS ⊢
    have hP : va_P (dC, dI) vwCl [(h0, .inr (0, [.int (d + (nI ((t + n) / 1000))), .int (nI ((t + n) % 1000)), .ref qo, .ref qw, .ref qc, .ref qn, .ref qm, .ref ql, .int ll])), (qo, .inl (k1, 200, .inr (.inl go))), (qw, .inl (k2, 200, .inr (.inl gw))), (qc, .inl (k3, 200, .inr (.inl gc))), (qn, .inl (k4, 200, .inr (.inl fn))), (qm, .inl (k5, 200, .inr (.inl gm)))] H := hP
    have hD : va_D A [(h0, .inr (0, [.int (d + (nI ((t + n) / 1000))), .int (nI ((t + n) % 1000)), .ref qo, .ref qw, .ref qc, .ref qn, .ref qm, .ref ql, .int ll])), (qo, .inl (k1, 200, .inr (.inl go))), (qw, .inl (k2, 200, .inr (.inl gw))), (qc, .inl (k3, 200, .inr (.inl gc))), (qn, .inl (k4, 200, .inr (.inl fn))), (qm, .inl (k5, 200, .inr (.inl gm)))] := hD
    refine lv_iload_n hx hb dX0_advance_40 rfl (lv_at hl 0 rfl) ?_
    exact W.iret (v := nI ((t + n) / 1000)) hx hb hr (fun z8 hz8 hW8 => ⟨⟨(nI ((t + n) / 1000)), (go, gw, gc, gm), rfl, ⟨rfl, Or.inr ⟨by omega, hw⟩⟩, by rw [hz8]; exact hP, hD⟩, hS.F hz8⟩) hS.2.2 dX0_advance_41
end
section
set_option maxHeartbeats 4000000 in
set_option maxRecDepth 100000 in
/-- pass -/
theorem cX_pass (l : Launch) (dC : Nat → ClassId) (dI : Nat → Nat → Nat) (sz : Nat) (h0 qo qw qc qn qm ql : Nat) (k1 k2 k3 k4 k5 : ClassId) (d ll : Int32) (t : Nat) (ht9 : t < 1000) (fo fw fc fn fm : Nat → Int64) : Met l yX0_pass wsX0_pass ({ frames := 2, cells := 0, slots := 0, locals := 44 }) (dk_Pw [.ref h0] (dC, dI) vwCl [(k1, .long), (k2, .long), (k3, .long), (k4, .long), (k5, .long)] [(h0, .inr (0, [.int d, .int (nI t), .ref qo, .ref qw, .ref qc, .ref qn, .ref qm, .ref ql, .int ll])), (qo, .inl (k1, 200, .inr (.inl fo))), (qw, .inl (k2, 200, .inr (.inl fw))), (qc, .inl (k3, 200, .inr (.inl fc))), (qn, .inl (k4, 200, .inr (.inl fn))), (qm, .inl (k5, 200, .inr (.inl fm)))] sz) (va_Qi (fun (r : Int32) (u : (Nat → Int64) × (Nat → Int64) × (Nat → Int64) × (Nat → Int64)) => match u with | (go, gw, gc, gm) => r = nI (dk_pA ((t + 1) % 1000)) ∧ dk_Op ((t + 1) / 1000) fo fw fc fn fm go gw gc gm) (fun (u : (Nat → Int64) × (Nat → Int64) × (Nat → Int64) × (Nat → Int64)) z8 => match u with | (go, gw, gc, gm) => dk_B (dC, dI) vwCl (va_A [(h0, .inr (0, [.int d, .int (nI t), .ref qo, .ref qw, .ref qc, .ref qn, .ref qm, .ref ql, .int ll])), (qo, .inl (k1, 200, .inr (.inl fo))), (qw, .inl (k2, 200, .inr (.inl fw))), (qc, .inl (k3, 200, .inr (.inl fc))), (qn, .inl (k4, 200, .inr (.inl fn))), (qm, .inl (k5, 200, .inr (.inl fm)))] sz) [(h0, .inr (0, [.int (d + nI ((t + 1) / 1000)), .int (nI ((t + 1) % 1000)), .ref qo, .ref qw, .ref qc, .ref qn, .ref qm, .ref ql, .int ll])), (qo, .inl (k1, 200, .inr (.inl go))), (qw, .inl (k2, 200, .inr (.inl gw))), (qc, .inl (k3, 200, .inr (.inl gc))), (qn, .inl (k4, 200, .inr (.inl fn))), (qm, .inl (k5, 200, .inr (.inl gm)))] z8) (va_A [(h0, .inr (0, [.int d, .int (nI t), .ref qo, .ref qw, .ref qc, .ref qn, .ref qm, .ref ql, .int ll])), (qo, .inl (k1, 200, .inr (.inl fo))), (qw, .inl (k2, 200, .inr (.inl fw))), (qc, .inl (k3, 200, .inr (.inl fc))), (qn, .inl (k4, 200, .inr (.inl fn))), (qm, .inl (k5, 200, .inr (.inl fm)))] sz)) 0 0 (va_A [(h0, .inr (0, [.int d, .int (nI t), .ref qo, .ref qw, .ref qc, .ref qn, .ref qm, .ref ql, .int ll])), (qo, .inl (k1, 200, .inr (.inl fo))), (qw, .inl (k2, 200, .inr (.inl fw))), (qc, .inl (k3, 200, .inr (.inl fc))), (qn, .inl (k4, 200, .inr (.inl fn))), (qm, .inl (k5, 200, .inr (.inl fm)))] sz) := by
  refine Met.ofW (cc := cX0_pass) (maxL := 2) (ret := (some .int)) (by decide) rfl ?_
  intro p e s m args below meth c s₁ B hml hv
  obtain ⟨rfl, hsz, hP, hK, hD0⟩ := hv
  have hx := B.exec
  have hb := B.bytes
  have hr := B.returns
  have hts := atoms_spec (ws := wsX0_pass) B.pre
  have hown : s.vm.findClass RX0 = some m.cls := findClass_of_methodNamed B.named
  have hlocks := B.notSynchronized
  have hinX0 : ∀ w ∈ wsX00, w ∈ wsX0_pass := by decide +kernel
  subst hsz
  have hD := hD0.self (sz := s.heap.size)
  generalize hAe : va_A [(h0, .inr (0, [.int d, .int (nI t), .ref qo, .ref qw, .ref qc, .ref qn, .ref qm, .ref ql, .int ll])), (qo, .inl (k1, 200, .inr (.inl fo))), (qw, .inl (k2, 200, .inr (.inl fw))), (qc, .inl (k3, 200, .inr (.inl fc))), (qn, .inl (k4, 200, .inr (.inl fn))), (qm, .inl (k5, 200, .inr (.inl fm)))] s.heap.size = A at hD ⊢
  have hA : ∀ q : Nat, s.heap.size ≤ q → A q := fun q h => by rw [← hAe]; exact Or.inr h
  have hS : va_S A s.heap s.heap [] := va_S.rf
  have hl := lv_entry ([.ref h0]) (n := 2) (Nat.le_of_ble_eq_true rfl)
  rw [lg_entry_eq]
  generalize (lg_sl ([.ref h0]) ++ List.replicate (2 - (lg_sl ([.ref h0])).length) Slot.unset).toArray = ls at hl ⊢
  have hl : lv_has ls 2 [(0, .ref h0)] := hl
  refine lv_aload_n hx hb dX0_pass_0 rfl (lv_at hl 0 rfl) ?_
  refine lv_iconst (v := nI 1) hx hb dX0_pass_1 (by decide) ?_
  have hPc := hP
  have hDc := hD
  have hFc := va_free (wc := [(h0, .inr (0, [.int d, .int (nI t), .ref qo, .ref qw, .ref qc, .ref qn, .ref qm, .ref ql, .int ll])), (qo, .inl (k1, 200, .inr (.inl fo))), (qw, .inl (k2, 200, .inr (.inl fw))), (qc, .inl (k3, 200, .inr (.inl fc))), (qn, .inl (k4, 200, .inr (.inl fn))), (qm, .inl (k5, 200, .inr (.inl fm)))]) hD hS hA [0, 1, 2, 3, 4, 5] rfl
  have hKc := hK
  refine va_calli (va_runV (As := [.int (nI 1)]) (rest := []) ⟨hx, hb, hml, hown, hts⟩ (cX_advance l dC dI _ h0 qo qw qc qn qm ql k1 k2 k3 k4 k5 d ll t ht9 fo fw fc fn fm 1 (by omega)) (cwV 1 hts gX0_pass_X0_advance rfl rfl rfl (by decide +kernel) ⟨Nat.le_of_ble_eq_true rfl, Nat.le_of_ble_eq_true rfl⟩) (dk_wV hPc hKc hDc (ci := 0) (q0 := 0) rfl rfl) rfl rfl hl.1 rfl (lv_room (Nat.le_of_ble_eq_true rfl)) dX0_pass_2 ⟨Nat.zero_le _, Nat.zero_le _⟩) hS (fun q _ h => hFc q h) hFc (fun r_2 u8 t8 H1 locs ht8 hvm8 hw hB hz1 hk1 hS => ?_)
  try dsimp only at hw
  obtain ⟨go, gw, gc, gm⟩ := u8
  try dsimp only at hw hB
  obtain ⟨hP1, hD1⟩ := hB
  rw [ht8] at hP1
  obtain ⟨hP, hD⟩ := va_join (wr := []) (w1 := [(h0, .inr (0, [.int (d + nI ((t + 1) / 1000)), .int (nI ((t + 1) % 1000)), .ref qo, .ref qw, .ref qc, .ref qn, .ref qm, .ref ql, .int ll])), (qo, .inl (k1, 200, .inr (.inl go))), (qw, .inl (k2, 200, .inr (.inl gw))), (qc, .inl (k3, 200, .inr (.inl gc))), (qn, .inl (k4, 200, .inr (.inl fn))), (qm, .inl (k5, 200, .inr (.inl gm)))]) hP hD [0, 1, 2, 3, 4, 5] [] rfl rfl (by decide) (by decide) hk1 hFc hP1 hD1
  generalize H1 = H at hP hS ⊢
  have hP : va_P (dC, dI) vwCl [(h0, .inr (0, [.int (d + nI ((t + 1) / 1000)), .int (nI ((t + 1) % 1000)), .ref qo, .ref qw, .ref qc, .ref qn, .ref qm, .ref ql, .int ll])), (qo, .inl (k1, 200, .inr (.inl go))), (qw, .inl (k2, 200, .inr (.inl gw))), (qc, .inl (k3, 200, .inr (.inl gc))), (qn, .inl (k4, 200, .inr (.inl fn))), (qm, .inl (k5, 200, .inr (.inl gm)))] H := hP
  have hD : va_D A [(h0, .inr (0, [.int (d + nI ((t + 1) / 1000)), .int (nI ((t + 1) % 1000)), .ref qo, .ref qw, .ref qc, .ref qn, .ref qm, .ref ql, .int ll])), (qo, .inl (k1, 200, .inr (.inl go))), (qw, .inl (k2, 200, .inr (.inl gw))), (qc, .inl (k3, 200, .inr (.inl gc))), (qn, .inl (k4, 200, .inr (.inl fn))), (qm, .inl (k5, 200, .inr (.inl gm)))] := hD
  obtain ⟨rfl, hop⟩ := hw
  refine lv_pop hx hb dX0_pass_5 rfl ?_
  refine lv_iconst (v := nI 0) hx hb dX0_pass_6 (by decide) ?_
  refine lv_istore_n (lv' := [(1, .int (nI 0)), (0, .ref h0)]) hx hb dX0_pass_7 rfl hl (by decide) rfl (fun ls hl => ?_)
  refine lv_aload_n hx hb dX0_pass_8 rfl (lv_at hl 1 rfl) ?_
  refine va_get (D := (dC, dI)) (ci := 0) (v := .int (nI ((t + 1) % 1000))) (C := RX0) (T := TX0) (N := 9) hx hb hts hinX0 hown hK hP 0 rfl rfl 1 (by decide) (hts (.fieldLink RX0 13 "DayDesk" "tick" "I") (by decide +kernel)) (fun _ h9 => h9) rfl dX0_pass_9 ?_
  have hKc := hK.sub (tys' := []) [] rfl
  refine va_calli (va_runS (As := [.int (nI ((t + 1) % 1000))]) (rest := []) ⟨hx, hb, hml, hown, hts⟩ (cX_isResolving l dC dI ((t + 1) % 1000) (by omega)) (va_cwS 1 hts gX0_pass_X0_isResolving rfl rfl rfl (by decide +kernel) ⟨Nat.le_of_ble_eq_true rfl, Nat.le_of_ble_eq_true rfl⟩) (dk_rS dk_P0 hKc) rfl rfl hl.1 rfl (lv_room (Nat.le_of_ble_eq_true rfl)) dX0_pass_12 ⟨Nat.zero_le _, Nat.zero_le _⟩) hS (fun q _ h => False.elim h) (fun q h => False.elim h) (fun r_12 u8 t8 H1 locs ht8 hvm8 hw hB hz1 hk1 hS => ?_)
  try dsimp only at hw
  have hP := dk_kept hP hk1
  generalize H1 = H at hP hS ⊢
  unfold dk_iR at hw
  rcases hw with ⟨rfl, hR⟩ | ⟨rfl, hR⟩
  · refine lv_if_eq (tgt := 21) hx hb dX0_pass_15 (by decide) (fun c9 => absurd c9 (by decide)) (fun _ => ?_)
    refine lv_iinc (v := nI (0 + 1)) (lv' := [(1, .int (nI (0 + 1))), (0, .ref h0)]) hx hb dX0_pass_18 hl (k := 0) rfl (by rw [show Int32.ofInt 1 = nI 1 from by decide]; exact nI_add 0 1) (by decide) rfl (fun ls hl => ?_)
    refine lv_aload_n hx hb dX0_pass_21 rfl (lv_at hl 1 rfl) ?_
    refine va_get (D := (dC, dI)) (ci := 0) (v := .int (nI ((t + 1) % 1000))) (C := RX0) (T := TX0) (N := 9) hx hb hts hinX0 hown hK hP 0 rfl rfl 1 (by decide) (hts (.fieldLink RX0 13 "DayDesk" "tick" "I") (by decide +kernel)) (fun _ h9 => h9) rfl dX0_pass_22 ?_
    refine lv_sipush (v := nI 900) hx hb dX0_pass_25 (by decide) ?_
    refine dk_icmp_ne (x := (t + 1) % 1000) (y := 900) (tgt := 34) hx hb dX0_pass_28 (by decide) (by omega) (by omega) (fun c_28 => ?_) (fun c_28 => ?_)
    · refine lv_aload_n hx hb dX0_pass_34 rfl (lv_at hl 1 rfl) ?_
      refine va_get (D := (dC, dI)) (ci := 0) (v := .int (nI ((t + 1) % 1000))) (C := RX0) (T := TX0) (N := 9) hx hb hts hinX0 hown hK hP 0 rfl rfl 1 (by decide) (hts (.fieldLink RX0 13 "DayDesk" "tick" "I") (by decide +kernel)) (fun _ h9 => h9) rfl dX0_pass_35 ?_
      refine dk_if_ne (x := (t + 1) % 1000) (tgt := 44) hx hb dX0_pass_38 (by decide) (by omega) (fun c_38 => ?_) (fun c_38 => ?_)
      · refine lv_iload_n hx hb dX0_pass_44 rfl (lv_at hl 0 rfl) ?_
        exact W.iret (v := nI (0 + 1)) hx hb hr (fun z8 hz8 hW8 => ⟨⟨(nI (0 + 1)), (go, gw, gc, gm), rfl, ⟨congrArg nI (by unfold dk_pA; (repeat' split) <;> omega), hop⟩, by rw [hz8]; exact hP, hD⟩, hS.F hz8⟩) hS.2.2 dX0_pass_45
      · refine lv_iinc (v := nI ((0 + 1) + 4)) (lv' := [(1, .int (nI ((0 + 1) + 4))), (0, .ref h0)]) hx hb dX0_pass_41 hl (k := 0) rfl (by rw [show Int32.ofInt 4 = nI 4 from by decide]; exact nI_add (0 + 1) 4) (by decide) rfl (fun ls hl => ?_)
        refine lv_iload_n hx hb dX0_pass_44 rfl (lv_at hl 0 rfl) ?_
        exact W.iret (v := nI ((0 + 1) + 4)) hx hb hr (fun z8 hz8 hW8 => ⟨⟨(nI ((0 + 1) + 4)), (go, gw, gc, gm), rfl, ⟨congrArg nI (by unfold dk_pA; (repeat' split) <;> omega), hop⟩, by rw [hz8]; exact hP, hD⟩, hS.F hz8⟩) hS.2.2 dX0_pass_45
    · refine lv_iinc (v := nI ((0 + 1) + 2)) (lv' := [(1, .int (nI ((0 + 1) + 2))), (0, .ref h0)]) hx hb dX0_pass_31 hl (k := 0) rfl (by rw [show Int32.ofInt 2 = nI 2 from by decide]; exact nI_add (0 + 1) 2) (by decide) rfl (fun ls hl => ?_)
      refine lv_aload_n hx hb dX0_pass_34 rfl (lv_at hl 1 rfl) ?_
      refine va_get (D := (dC, dI)) (ci := 0) (v := .int (nI ((t + 1) % 1000))) (C := RX0) (T := TX0) (N := 9) hx hb hts hinX0 hown hK hP 0 rfl rfl 1 (by decide) (hts (.fieldLink RX0 13 "DayDesk" "tick" "I") (by decide +kernel)) (fun _ h9 => h9) rfl dX0_pass_35 ?_
      refine dk_if_ne (x := (t + 1) % 1000) (tgt := 44) hx hb dX0_pass_38 (by decide) (by omega) (fun c_38 => ?_) (fun c_38 => ?_)
      · refine lv_iload_n hx hb dX0_pass_44 rfl (lv_at hl 0 rfl) ?_
        exact W.iret (v := nI ((0 + 1) + 2)) hx hb hr (fun z8 hz8 hW8 => ⟨⟨(nI ((0 + 1) + 2)), (go, gw, gc, gm), rfl, ⟨congrArg nI (by unfold dk_pA; (repeat' split) <;> omega), hop⟩, by rw [hz8]; exact hP, hD⟩, hS.F hz8⟩) hS.2.2 dX0_pass_45
      · refine lv_iinc (v := nI (((0 + 1) + 2) + 4)) (lv' := [(1, .int (nI (((0 + 1) + 2) + 4))), (0, .ref h0)]) hx hb dX0_pass_41 hl (k := 0) rfl (by rw [show Int32.ofInt 4 = nI 4 from by decide]; exact nI_add ((0 + 1) + 2) 4) (by decide) rfl (fun ls hl => ?_)
        refine lv_iload_n hx hb dX0_pass_44 rfl (lv_at hl 0 rfl) ?_
        exact W.iret (v := nI (((0 + 1) + 2) + 4)) hx hb hr (fun z8 hz8 hW8 => ⟨⟨(nI (((0 + 1) + 2) + 4)), (go, gw, gc, gm), rfl, ⟨congrArg nI (by unfold dk_pA; (repeat' split) <;> omega), hop⟩, by rw [hz8]; exact hP, hD⟩, hS.F hz8⟩) hS.2.2 dX0_pass_45
  · refine lv_if_eq (tgt := 21) hx hb dX0_pass_15 (by decide) (fun _ => ?_) (fun c9 => absurd (by decide) c9)
    refine lv_aload_n hx hb dX0_pass_21 rfl (lv_at hl 1 rfl) ?_
    refine va_get (D := (dC, dI)) (ci := 0) (v := .int (nI ((t + 1) % 1000))) (C := RX0) (T := TX0) (N := 9) hx hb hts hinX0 hown hK hP 0 rfl rfl 1 (by decide) (hts (.fieldLink RX0 13 "DayDesk" "tick" "I") (by decide +kernel)) (fun _ h9 => h9) rfl dX0_pass_22 ?_
    refine lv_sipush (v := nI 900) hx hb dX0_pass_25 (by decide) ?_
    refine dk_icmp_ne (x := (t + 1) % 1000) (y := 900) (tgt := 34) hx hb dX0_pass_28 (by decide) (by omega) (by omega) (fun c_28 => ?_) (fun c_28 => ?_)
    · refine lv_aload_n hx hb dX0_pass_34 rfl (lv_at hl 1 rfl) ?_
      refine va_get (D := (dC, dI)) (ci := 0) (v := .int (nI ((t + 1) % 1000))) (C := RX0) (T := TX0) (N := 9) hx hb hts hinX0 hown hK hP 0 rfl rfl 1 (by decide) (hts (.fieldLink RX0 13 "DayDesk" "tick" "I") (by decide +kernel)) (fun _ h9 => h9) rfl dX0_pass_35 ?_
      refine dk_if_ne (x := (t + 1) % 1000) (tgt := 44) hx hb dX0_pass_38 (by decide) (by omega) (fun c_38 => ?_) (fun c_38 => ?_)
      · refine lv_iload_n hx hb dX0_pass_44 rfl (lv_at hl 0 rfl) ?_
        exact W.iret (v := nI 0) hx hb hr (fun z8 hz8 hW8 => ⟨⟨(nI 0), (go, gw, gc, gm), rfl, ⟨congrArg nI (by unfold dk_pA; (repeat' split) <;> omega), hop⟩, by rw [hz8]; exact hP, hD⟩, hS.F hz8⟩) hS.2.2 dX0_pass_45
      · refine lv_iinc (v := nI (0 + 4)) (lv' := [(1, .int (nI (0 + 4))), (0, .ref h0)]) hx hb dX0_pass_41 hl (k := 0) rfl (by rw [show Int32.ofInt 4 = nI 4 from by decide]; exact nI_add 0 4) (by decide) rfl (fun ls hl => ?_)
        refine lv_iload_n hx hb dX0_pass_44 rfl (lv_at hl 0 rfl) ?_
        exact W.iret (v := nI (0 + 4)) hx hb hr (fun z8 hz8 hW8 => ⟨⟨(nI (0 + 4)), (go, gw, gc, gm), rfl, ⟨congrArg nI (by unfold dk_pA; (repeat' split) <;> omega), hop⟩, by rw [hz8]; exact hP, hD⟩, hS.F hz8⟩) hS.2.2 dX0_pass_45
    · refine lv_iinc (v := nI (0 + 2)) (lv' := [(1, .int (nI (0 + 2))), (0, .ref h0)]) hx hb dX0_pass_31 hl (k := 0) rfl (by rw [show Int32.ofInt 2 = nI 2 from by decide]; exact nI_add 0 2) (by decide) rfl (fun ls hl => ?_)
      refine lv_aload_n hx hb dX0_pass_34 rfl (lv_at hl 1 rfl) ?_
      refine va_get (D := (dC, dI)) (ci := 0) (v := .int (nI ((t + 1) % 1000))) (C := RX0) (T := TX0) (N := 9) hx hb hts hinX0 hown hK hP 0 rfl rfl 1 (by decide) (hts (.fieldLink RX0 13 "DayDesk" "tick" "I") (by decide +kernel)) (fun _ h9 => h9) rfl dX0_pass_35 ?_
      refine dk_if_ne (x := (t + 1) % 1000) (tgt := 44) hx hb dX0_pass_38 (by decide) (by omega) (fun c_38 => ?_) (fun c_38 => ?_)
      · refine lv_iload_n hx hb dX0_pass_44 rfl (lv_at hl 0 rfl) ?_
        exact W.iret (v := nI (0 + 2)) hx hb hr (fun z8 hz8 hW8 => ⟨⟨(nI (0 + 2)), (go, gw, gc, gm), rfl, ⟨congrArg nI (by unfold dk_pA; (repeat' split) <;> omega), hop⟩, by rw [hz8]; exact hP, hD⟩, hS.F hz8⟩) hS.2.2 dX0_pass_45
      · refine lv_iinc (v := nI ((0 + 2) + 4)) (lv' := [(1, .int (nI ((0 + 2) + 4))), (0, .ref h0)]) hx hb dX0_pass_41 hl (k := 0) rfl (by rw [show Int32.ofInt 4 = nI 4 from by decide]; exact nI_add (0 + 2) 4) (by decide) rfl (fun ls hl => ?_)
        refine lv_iload_n hx hb dX0_pass_44 rfl (lv_at hl 0 rfl) ?_
        exact W.iret (v := nI ((0 + 2) + 4)) hx hb hr (fun z8 hz8 hW8 => ⟨⟨(nI ((0 + 2) + 4)), (go, gw, gc, gm), rfl, ⟨congrArg nI (by unfold dk_pA; (repeat' split) <;> omega), hop⟩, by rw [hz8]; exact hP, hD⟩, hS.F hz8⟩) hS.2.2 dX0_pass_45
set_option maxHeartbeats 4000000 in
set_option maxRecDepth 100000 in
/-- skip -/
theorem cX_skip (l : Launch) (dC : Nat → ClassId) (dI : Nat → Nat → Nat) (sz : Nat) (h0 qo qw qc qn qm ql : Nat) (k1 k2 k3 k4 k5 : ClassId) (d ll : Int32) (t : Nat) (ht9 : t < 1000) (fo fw fc fn fm : Nat → Int64) (x : Int32) : Met l yX0_skip wsX0_skip ({ frames := 2, cells := 0, slots := 0, locals := 44 }) (dk_Pw [.ref h0, .int x] (dC, dI) vwCl [(k1, .long), (k2, .long), (k3, .long), (k4, .long), (k5, .long)] [(h0, .inr (0, [.int d, .int (nI t), .ref qo, .ref qw, .ref qc, .ref qn, .ref qm, .ref ql, .int ll])), (qo, .inl (k1, 200, .inr (.inl fo))), (qw, .inl (k2, 200, .inr (.inl fw))), (qc, .inl (k3, 200, .inr (.inl fc))), (qn, .inl (k4, 200, .inr (.inl fn))), (qm, .inl (k5, 200, .inr (.inl fm)))] sz) (va_Qi (fun (r : Int32) (u : Int32 × Nat × (Nat → Int64) × (Nat → Int64) × (Nat → Int64) × (Nat → Int64)) => match u with | (e2, t2, go, gw, gc, gm) => (r = -1 ∧ (x < 1 ∨ nI 100000 < x) ∧ e2 = d ∧ t2 = t ∧ go = fo ∧ gw = fw ∧ gc = fc ∧ gm = fm) ∨ (∃ n : Nat, 1 ≤ n ∧ n ≤ 100000 ∧ x = nI n ∧ e2 = d + nI ((t + n) / 1000) ∧ t2 = (t + n) % 1000 ∧ dk_Op ((t + n) / 1000) fo fw fc fn fm go gw gc gm ∧ r = nI ((t + n) / 1000 * 16 + dk_rU ((t + n) % 1000) - dk_rU t))) (fun (u : Int32 × Nat × (Nat → Int64) × (Nat → Int64) × (Nat → Int64) × (Nat → Int64)) z8 => match u with | (e2, t2, go, gw, gc, gm) => dk_B (dC, dI) vwCl (va_A [(h0, .inr (0, [.int d, .int (nI t), .ref qo, .ref qw, .ref qc, .ref qn, .ref qm, .ref ql, .int ll])), (qo, .inl (k1, 200, .inr (.inl fo))), (qw, .inl (k2, 200, .inr (.inl fw))), (qc, .inl (k3, 200, .inr (.inl fc))), (qn, .inl (k4, 200, .inr (.inl fn))), (qm, .inl (k5, 200, .inr (.inl fm)))] sz) [(h0, .inr (0, [.int e2, .int (nI t2), .ref qo, .ref qw, .ref qc, .ref qn, .ref qm, .ref ql, .int ll])), (qo, .inl (k1, 200, .inr (.inl go))), (qw, .inl (k2, 200, .inr (.inl gw))), (qc, .inl (k3, 200, .inr (.inl gc))), (qn, .inl (k4, 200, .inr (.inl fn))), (qm, .inl (k5, 200, .inr (.inl gm)))] z8) (va_A [(h0, .inr (0, [.int d, .int (nI t), .ref qo, .ref qw, .ref qc, .ref qn, .ref qm, .ref ql, .int ll])), (qo, .inl (k1, 200, .inr (.inl fo))), (qw, .inl (k2, 200, .inr (.inl fw))), (qc, .inl (k3, 200, .inr (.inl fc))), (qn, .inl (k4, 200, .inr (.inl fn))), (qm, .inl (k5, 200, .inr (.inl fm)))] sz)) 0 0 (va_A [(h0, .inr (0, [.int d, .int (nI t), .ref qo, .ref qw, .ref qc, .ref qn, .ref qm, .ref ql, .int ll])), (qo, .inl (k1, 200, .inr (.inl fo))), (qw, .inl (k2, 200, .inr (.inl fw))), (qc, .inl (k3, 200, .inr (.inl fc))), (qn, .inl (k4, 200, .inr (.inl fn))), (qm, .inl (k5, 200, .inr (.inl fm)))] sz) := by
  refine Met.ofW (cc := cX0_skip) (maxL := 4) (ret := (some .int)) (by decide) rfl ?_
  intro p e s m args below meth c s₁ B hml hv
  obtain ⟨rfl, hsz, hP, hK, hD0⟩ := hv
  have hx := B.exec
  have hb := B.bytes
  have hr := B.returns
  have hts := atoms_spec (ws := wsX0_skip) B.pre
  have hown : s.vm.findClass RX0 = some m.cls := findClass_of_methodNamed B.named
  have hlocks := B.notSynchronized
  have hinX0 : ∀ w ∈ wsX00, w ∈ wsX0_skip := by decide +kernel
  subst hsz
  have hD := hD0.self (sz := s.heap.size)
  generalize hAe : va_A [(h0, .inr (0, [.int d, .int (nI t), .ref qo, .ref qw, .ref qc, .ref qn, .ref qm, .ref ql, .int ll])), (qo, .inl (k1, 200, .inr (.inl fo))), (qw, .inl (k2, 200, .inr (.inl fw))), (qc, .inl (k3, 200, .inr (.inl fc))), (qn, .inl (k4, 200, .inr (.inl fn))), (qm, .inl (k5, 200, .inr (.inl fm)))] s.heap.size = A at hD ⊢
  have hA : ∀ q : Nat, s.heap.size ≤ q → A q := fun q h => by rw [← hAe]; exact Or.inr h
  have hS : va_S A s.heap s.heap [] := va_S.rf
  have hl := lv_entry ([.ref h0, .int x]) (n := 4) (Nat.le_of_ble_eq_true rfl)
  rw [lg_entry_eq]
  generalize (lg_sl ([.ref h0, .int x]) ++ List.replicate (4 - (lg_sl ([.ref h0, .int x])).length) Slot.unset).toArray = ls at hl ⊢
  have hl : lv_has ls 4 [(0, .ref h0), (1, .int x)] := hl
  refine lv_iload_n hx hb dX0_skip_0 rfl (lv_at hl 1 rfl) ?_
  refine lv_iconst (v := 1) hx hb dX0_skip_1 (by decide) ?_
  refine lv_icmp_lt (tgt := 11) hx hb dX0_skip_2 (by decide) (fun c_2 => ?_) (fun c_2 => ?_)
  · refine lv_iconst (v := (-1)) hx hb dX0_skip_11 (by decide) ?_
    exact W.iret (v := (-1)) hx hb hr (fun z8 hz8 hW8 => ⟨⟨(-1), (d, t, fo, fw, fc, fm), rfl, Or.inl ⟨rfl, Or.inl c_2, rfl, rfl, rfl, rfl, rfl, rfl⟩, by rw [hz8]; exact hP, hD⟩, hS.F hz8⟩) hS.2.2 dX0_skip_12
  · refine lv_iload_n hx hb dX0_skip_5 rfl (lv_at hl 1 rfl) ?_
    refine lv_ldc (v := nI 100000) hx hb hown (hts (.constant RX0 47 (nI 100000)) (by decide +kernel)) dX0_skip_6 ?_
    refine lv_icmp_le (tgt := 13) hx hb dX0_skip_8 (by decide) (fun c_8 => ?_) (fun c_8 => ?_)
    · obtain ⟨n, hn1, hn2, rfl⟩ := dk_ticks c_2 c_8
      have hrU1 := dk_rU_le t
      have hrU2 := dk_rU_le ((t + n) % 1000)
      have hsk := dk_skip_le t n ht9
      refine lv_aload_n hx hb dX0_skip_13 rfl (lv_at hl 0 rfl) ?_
      refine va_get (D := (dC, dI)) (ci := 0) (v := .int (nI t)) (C := RX0) (T := TX0) (N := 9) hx hb hts hinX0 hown hK hP 0 rfl rfl 1 (by decide) (hts (.fieldLink RX0 13 "DayDesk" "tick" "I") (by decide +kernel)) (fun _ h9 => h9) rfl dX0_skip_14 ?_
      have hKc := hK.sub (tys' := []) [] rfl
      refine va_calli (va_runS (As := [.int (nI t)]) (rest := []) ⟨hx, hb, hml, hown, hts⟩ (cX_resolvingsUntil l dC dI t ht9) (va_cwS 1 hts gX0_skip_X0_resolvingsUntil rfl rfl rfl (by decide +kernel) ⟨Nat.le_of_ble_eq_true rfl, Nat.le_of_ble_eq_true rfl⟩) (dk_rS dk_P0 hKc) rfl rfl hl.1 rfl (lv_room (Nat.le_of_ble_eq_true rfl)) dX0_skip_17 ⟨Nat.zero_le _, Nat.zero_le _⟩) hS (fun q _ h => False.elim h) (fun q h => False.elim h) (fun r_17 u8 t8 H1 locs ht8 hvm8 hw hB hz1 hk1 hS => ?_)
      try dsimp only at hw
      have hP := dk_kept hP hk1
      generalize H1 = H at hP hS ⊢
      subst hw
      refine lv_istore_n (lv' := [(2, .int (nI (dk_rU t))), (0, .ref h0), (1, .int (nI n))]) hx hb dX0_skip_20 rfl hl (by decide) rfl (fun ls hl => ?_)
      refine lv_aload_n hx hb dX0_skip_21 rfl (lv_at hl 1 rfl) ?_
      refine lv_iload_n hx hb dX0_skip_22 rfl (lv_at hl 2 rfl) ?_
      have hPc := hP
      have hDc := hD
      have hFc := va_free (wc := [(h0, .inr (0, [.int d, .int (nI t), .ref qo, .ref qw, .ref qc, .ref qn, .ref qm, .ref ql, .int ll])), (qo, .inl (k1, 200, .inr (.inl fo))), (qw, .inl (k2, 200, .inr (.inl fw))), (qc, .inl (k3, 200, .inr (.inl fc))), (qn, .inl (k4, 200, .inr (.inl fn))), (qm, .inl (k5, 200, .inr (.inl fm)))]) hD hS hA [0, 1, 2, 3, 4, 5] rfl
      have hKc := hK
      refine va_calli (va_runV (As := [.int (nI n)]) (rest := []) ⟨hx, hb, hml, hown, hts⟩ (cX_advance l dC dI _ h0 qo qw qc qn qm ql k1 k2 k3 k4 k5 d ll t ht9 fo fw fc fn fm n hn2) (cwV 1 hts gX0_skip_X0_advance rfl rfl rfl (by decide +kernel) ⟨Nat.le_of_ble_eq_true rfl, Nat.le_of_ble_eq_true rfl⟩) (dk_wV hPc hKc hDc (ci := 0) (q0 := 0) rfl rfl) rfl rfl hl.1 rfl (lv_room (Nat.le_of_ble_eq_true rfl)) dX0_skip_23 ⟨Nat.zero_le _, Nat.zero_le _⟩) hS (fun q _ h => hFc q h) hFc (fun r_23 u8 t8 H1 locs ht8 hvm8 hw hB hz1 hk1 hS => ?_)
      try dsimp only at hw
      obtain ⟨go, gw, gc, gm⟩ := u8
      try dsimp only at hw hB
      obtain ⟨hP1, hD1⟩ := hB
      rw [ht8] at hP1
      obtain ⟨hP, hD⟩ := va_join (wr := []) (w1 := [(h0, .inr (0, [.int (d + nI ((t + n) / 1000)), .int (nI ((t + n) % 1000)), .ref qo, .ref qw, .ref qc, .ref qn, .ref qm, .ref ql, .int ll])), (qo, .inl (k1, 200, .inr (.inl go))), (qw, .inl (k2, 200, .inr (.inl gw))), (qc, .inl (k3, 200, .inr (.inl gc))), (qn, .inl (k4, 200, .inr (.inl fn))), (qm, .inl (k5, 200, .inr (.inl gm)))]) hP hD [0, 1, 2, 3, 4, 5] [] rfl rfl (by decide) (by decide) hk1 hFc hP1 hD1
      generalize H1 = H at hP hS ⊢
      have hP : va_P (dC, dI) vwCl [(h0, .inr (0, [.int (d + nI ((t + n) / 1000)), .int (nI ((t + n) % 1000)), .ref qo, .ref qw, .ref qc, .ref qn, .ref qm, .ref ql, .int ll])), (qo, .inl (k1, 200, .inr (.inl go))), (qw, .inl (k2, 200, .inr (.inl gw))), (qc, .inl (k3, 200, .inr (.inl gc))), (qn, .inl (k4, 200, .inr (.inl fn))), (qm, .inl (k5, 200, .inr (.inl gm)))] H := hP
      have hD : va_D A [(h0, .inr (0, [.int (d + nI ((t + n) / 1000)), .int (nI ((t + n) % 1000)), .ref qo, .ref qw, .ref qc, .ref qn, .ref qm, .ref ql, .int ll])), (qo, .inl (k1, 200, .inr (.inl go))), (qw, .inl (k2, 200, .inr (.inl gw))), (qc, .inl (k3, 200, .inr (.inl gc))), (qn, .inl (k4, 200, .inr (.inl fn))), (qm, .inl (k5, 200, .inr (.inl gm)))] := hD
      obtain ⟨rfl, hop⟩ := hw
      refine lv_istore_n (lv' := [(3, .int (nI ((t + n) / 1000))), (2, .int (nI (dk_rU t))), (0, .ref h0), (1, .int (nI n))]) hx hb dX0_skip_26 rfl hl (by decide) rfl (fun ls hl => ?_)
      refine lv_iload_n hx hb dX0_skip_27 rfl (lv_at hl 0 rfl) ?_
      refine lv_bipush (v := nI 16) hx hb dX0_skip_28 (by decide) ?_
      refine lv_imul hx hb dX0_skip_30 ?_
      refine dk_asi (y := nI (((t + n) / 1000) * 16)) (pk_mul ((t + n) / 1000) 16) ?_
      refine lv_aload_n hx hb dX0_skip_31 rfl (lv_at hl 2 rfl) ?_
      refine va_get (D := (dC, dI)) (ci := 0) (v := .int (nI ((t + n) % 1000))) (C := RX0) (T := TX0) (N := 9) hx hb hts hinX0 hown hK hP 0 rfl rfl 1 (by decide) (hts (.fieldLink RX0 13 "DayDesk" "tick" "I") (by decide +kernel)) (fun _ h9 => h9) rfl dX0_skip_32 ?_
      have hKc := hK.sub (tys' := []) [] rfl
      refine va_calli (va_runS (As := [.int (nI ((t + n) % 1000))]) (rest := [.int (nI (((t + n) / 1000) * 16))]) ⟨hx, hb, hml, hown, hts⟩ (cX_resolvingsUntil l dC dI ((t + n) % 1000) (by omega)) (va_cwS 1 hts gX0_skip_X0_resolvingsUntil rfl rfl rfl (by decide +kernel) ⟨Nat.le_of_ble_eq_true rfl, Nat.le_of_ble_eq_true rfl⟩) (dk_rS dk_P0 hKc) rfl rfl hl.1 rfl (lv_room (Nat.le_of_ble_eq_true rfl)) dX0_skip_35 ⟨Nat.zero_le _, Nat.zero_le _⟩) hS (fun q _ h => False.elim h) (fun q h => False.elim h) (fun r_35 u8 t8 H1 locs ht8 hvm8 hw hB hz1 hk1 hS => ?_)
      try dsimp only at hw
      have hP := dk_kept hP hk1
      generalize H1 = H at hP hS ⊢
      subst hw
      refine lv_iadd hx hb dX0_skip_38 ?_
      refine dk_asi (y := nI ((((t + n) / 1000) * 16) + (dk_rU ((t + n) % 1000)))) (nI_add (((t + n) / 1000) * 16) (dk_rU ((t + n) % 1000))) ?_
      refine lv_iload_n hx hb dX0_skip_39 rfl (lv_at hl 1 rfl) ?_
      refine lv_isub hx hb dX0_skip_40 ?_
      refine dk_asi (y := nI (((((t + n) / 1000) * 16) + (dk_rU ((t + n) % 1000))) - (dk_rU t))) (pk_sub (a := (((t + n) / 1000) * 16) + (dk_rU ((t + n) % 1000))) (b := dk_rU t) (by omega)) ?_
      exact W.iret (v := nI (((((t + n) / 1000) * 16) + (dk_rU ((t + n) % 1000))) - (dk_rU t))) hx hb hr (fun z8 hz8 hW8 => ⟨⟨(nI (((((t + n) / 1000) * 16) + (dk_rU ((t + n) % 1000))) - (dk_rU t))), (d + nI ((t + n) / 1000), (t + n) % 1000, go, gw, gc, gm), rfl, Or.inr ⟨n, hn1, hn2, rfl, rfl, rfl, hop, rfl⟩, by rw [hz8]; exact hP, hD⟩, hS.F hz8⟩) hS.2.2 dX0_skip_41
    · refine lv_iconst (v := (-1)) hx hb dX0_skip_11 (by decide) ?_
      exact W.iret (v := (-1)) hx hb hr (fun z8 hz8 hW8 => ⟨⟨(-1), (d, t, fo, fw, fc, fm), rfl, Or.inl ⟨rfl, Or.inr (dk_inle c_8), rfl, rfl, rfl, rfl, rfl, rfl⟩, by rw [hz8]; exact hP, hD⟩, hS.F hz8⟩) hS.2.2 dX0_skip_12
set_option maxHeartbeats 4000000 in
set_option maxRecDepth 100000 in
/-- may -/
theorem cX_may (l : Launch) (dC : Nat → ClassId) (dI : Nat → Nat → Nat) (h0 qo qw qc qn qm ql : Nat) (d ll : Int32) (t : Nat) (ht9 : t < 1000) (x pr mo : Int32) : Met l yX0_may wsX0_may ({ frames := 2, cells := 0, slots := 0, locals := 40 }) (dk_Pr [.ref h0, .int x, .int pr, .int mo] (dC, dI) vwCl [] [(h0, .inr (0, [.int d, .int (nI t), .ref qo, .ref qw, .ref qc, .ref qn, .ref qm, .ref ql, .int ll]))]) (va_Qi (fun (r : Int32) (_ : Unit) => (r = 1 ∧ dk_may t x pr mo) ∨ (r = 0 ∧ ¬ dk_may t x pr mo)) (fun _ _ => True) dk_no) 0 0 dk_no := by
  refine Met.ofW (cc := cX0_may) (maxL := 4) (ret := (some .boolean)) (by decide) rfl ?_
  intro p e s m args below meth c s₁ B hml hv
  obtain ⟨rfl, hP, hK⟩ := hv
  have hx := B.exec
  have hb := B.bytes
  have hr := B.returns
  have hts := atoms_spec (ws := wsX0_may) B.pre
  have hown : s.vm.findClass RX0 = some m.cls := findClass_of_methodNamed B.named
  have hlocks := B.notSynchronized
  have hS : va_S dk_no s.heap s.heap [] := va_S.rf
  have hl := lv_entry ([.ref h0, .int x, .int pr, .int mo]) (n := 4) (Nat.le_of_ble_eq_true rfl)
  rw [lg_entry_eq]
  generalize (lg_sl ([.ref h0, .int x, .int pr, .int mo]) ++ List.replicate (4 - (lg_sl ([.ref h0, .int x, .int pr, .int mo])).length) Slot.unset).toArray = ls at hl ⊢
  have hl : lv_has ls 4 [(0, .ref h0), (1, .int x), (2, .int pr), (3, .int mo)] := hl
  refine lv_iload_n hx hb dX0_may_0 rfl (lv_at hl 1 rfl) ?_
  refine lv_if_lt (tgt := 10) hx hb dX0_may_1 (by decide) (fun c_1 => ?_) (fun c_1 => ?_)
  · refine lv_iconst (v := 0) hx hb dX0_may_10 (by decide) ?_
    exact W.zret (v := 0) hx hb hr (by first | rfl | decide) (fun z8 hz8 hW8 => ⟨⟨0, (), rfl, Or.inr ⟨rfl, fun q9 => q9.1 c_1⟩, trivial⟩, hS.F hz8⟩) hS.2.2 dX0_may_11
  · refine lv_iload_n hx hb dX0_may_4 rfl (lv_at hl 1 rfl) ?_
    refine lv_bipush (v := 14) hx hb dX0_may_5 (by decide) ?_
    refine lv_icmp_le (tgt := 12) hx hb dX0_may_7 (by decide) (fun c_7 => ?_) (fun c_7 => ?_)
    · refine lv_aload_n hx hb dX0_may_12 rfl (lv_at hl 0 rfl) ?_
      have hPc := hP
      have hKc := hK
      refine va_calli (va_runV (As := []) (rest := []) ⟨hx, hb, hml, hown, hts⟩ (cX_phaseNow l dC dI h0 qo qw qc qn qm ql d ll t ht9) (cwV 0 hts gX0_may_X0_phaseNow rfl rfl rfl (by decide +kernel) ⟨Nat.le_of_ble_eq_true rfl, Nat.le_of_ble_eq_true rfl⟩) (dk_rV hPc hKc (ci := 0) (q0 := 0) rfl rfl) rfl rfl hl.1 rfl (lv_room (Nat.le_of_ble_eq_true rfl)) dX0_may_13 ⟨Nat.zero_le _, Nat.zero_le _⟩) hS (fun q _ h => False.elim h) (fun q h => False.elim h) (fun r_13 u8 t8 H1 locs ht8 hvm8 hw hB hz1 hk1 hS => ?_)
      try dsimp only at hw
      have hP := dk_kept hP hk1
      generalize H1 = H at hP hS ⊢
      rcases hw with ⟨rfl, h1⟩ | ⟨rfl, h1, h2⟩ | ⟨rfl, h1, h2⟩ | ⟨rfl, h1, h2⟩ | ⟨rfl, h1⟩
      · refine lv_tableIn (tgt := 52) (off := 36) hx hb dX0_may_16 (by decide) (by decide) (by decide) (by decide) ?_
        refine lv_iload_n hx hb dX0_may_52 rfl (lv_at hl 1 rfl) ?_
        have hKc := hK
        refine va_calli (va_runS (As := [.int x]) (rest := []) ⟨hx, hb, hml, hown, hts⟩ (cX_isClosedWhenEarly l dC dI x) (va_cwS 1 hts gX0_may_X0_isClosedWhenEarly rfl rfl rfl (by decide +kernel) ⟨Nat.le_of_ble_eq_true rfl, Nat.le_of_ble_eq_true rfl⟩) (dk_rS dk_P0 hKc) rfl rfl hl.1 rfl (lv_room (Nat.le_of_ble_eq_true rfl)) dX0_may_53 ⟨Nat.zero_le _, Nat.zero_le _⟩) hS (fun q _ h => False.elim h) (fun q h => False.elim h) (fun r_53 u8 t8 H1 locs ht8 hvm8 hw hB hz1 hk1 hS => ?_)
        try dsimp only at hw
        have hP := dk_kept hP hk1
        generalize H1 = H at hP hS ⊢
        rcases hw with ⟨rfl, hE⟩ | ⟨rfl, hE⟩
        · refine lv_if_ne (tgt := 63) hx hb dX0_may_56 (by decide) (fun _ => ?_) (fun c9 => absurd c9 (by decide))
          refine lv_iconst (v := 0) hx hb dX0_may_63 (by decide) ?_
          exact W.zret (v := 0) hx hb hr (by first | rfl | decide) (fun z8 hz8 hW8 => ⟨⟨0, (), rfl, Or.inr ⟨rfl, by unfold dk_may; rintro ⟨q1, q2, q3, q4, q5, q6⟩; first | exact q3 (by omega) hE | exact q6 (by omega) hE | exact (q4 (by omega) (by omega)).elim (fun z9 => z9 c_67) (fun z9 => (Int32.not_le.mpr c_72) z9) | exact (q5 (by omega) (by omega)).elim (fun z9 => z9 c_83) (fun z9 => z9 c_87)⟩, trivial⟩, hS.F hz8⟩) hS.2.2 dX0_may_64
        · refine lv_if_ne (tgt := 63) hx hb dX0_may_56 (by decide) (fun c9 => absurd (by decide) c9) (fun _ => ?_)
          refine lv_iconst (v := 1) hx hb dX0_may_59 (by decide) ?_
          refine lv_goto (tgt := 64) hx hb dX0_may_60 (by decide) ?_
          exact W.zret (v := 1) hx hb hr (by first | rfl | decide) (fun z8 hz8 hW8 => ⟨⟨1, (), rfl, Or.inl ⟨rfl, by unfold dk_may; refine ⟨c_1, c_7, ?_, ?_, ?_, ?_⟩ <;> intros <;> first | assumption | (exfalso; omega) | (left; assumption) | (right; assumption) | (right; exact dk_inl (by assumption)) | (exact Or.inr (dk_inl (by assumption)))⟩, trivial⟩, hS.F hz8⟩) hS.2.2 dX0_may_64
      · refine lv_tableIn (tgt := 109) (off := 93) hx hb dX0_may_16 (by decide) (by decide) (by decide) (by decide) ?_
        refine lv_iconst (v := 1) hx hb dX0_may_109 (by decide) ?_
        exact W.zret (v := 1) hx hb hr (by first | rfl | decide) (fun z8 hz8 hW8 => ⟨⟨1, (), rfl, Or.inl ⟨rfl, by unfold dk_may; refine ⟨c_1, c_7, ?_, ?_, ?_, ?_⟩ <;> intros <;> first | assumption | (exfalso; omega) | (left; assumption) | (right; assumption) | (right; exact dk_inl (by assumption)) | (exact Or.inr (dk_inl (by assumption)))⟩, trivial⟩, hS.F hz8⟩) hS.2.2 dX0_may_110
      · refine lv_tableIn (tgt := 65) (off := 49) hx hb dX0_may_16 (by decide) (by decide) (by decide) (by decide) ?_
        refine lv_iload_n hx hb dX0_may_65 rfl (lv_at hl 1 rfl) ?_
        refine lv_iconst (v := 5) hx hb dX0_may_66 (by decide) ?_
        refine lv_icmp_ne (tgt := 75) hx hb dX0_may_67 (by decide) (fun c_67 => ?_) (fun c_67 => ?_)
        · refine lv_iconst (v := 1) hx hb dX0_may_75 (by decide) ?_
          refine lv_goto (tgt := 80) hx hb dX0_may_76 (by decide) ?_
          exact W.zret (v := 1) hx hb hr (by first | rfl | decide) (fun z8 hz8 hW8 => ⟨⟨1, (), rfl, Or.inl ⟨rfl, by unfold dk_may; refine ⟨c_1, c_7, ?_, ?_, ?_, ?_⟩ <;> intros <;> first | assumption | (exfalso; omega) | (left; assumption) | (right; assumption) | (right; exact dk_inl (by assumption)) | (exact Or.inr (dk_inl (by assumption)))⟩, trivial⟩, hS.F hz8⟩) hS.2.2 dX0_may_80
        · refine lv_iload_n hx hb dX0_may_70 rfl (lv_at hl 2 rfl) ?_
          refine lv_iconst (v := 4) hx hb dX0_may_71 (by decide) ?_
          refine lv_icmp_gt (tgt := 79) hx hb dX0_may_72 (by decide) (fun c_72 => ?_) (fun c_72 => ?_)
          · refine lv_iconst (v := 0) hx hb dX0_may_79 (by decide) ?_
            exact W.zret (v := 0) hx hb hr (by first | rfl | decide) (fun z8 hz8 hW8 => ⟨⟨0, (), rfl, Or.inr ⟨rfl, by unfold dk_may; rintro ⟨q1, q2, q3, q4, q5, q6⟩; first | exact q3 (by omega) hE | exact q6 (by omega) hE | exact (q4 (by omega) (by omega)).elim (fun z9 => z9 c_67) (fun z9 => (Int32.not_le.mpr c_72) z9) | exact (q5 (by omega) (by omega)).elim (fun z9 => z9 c_83) (fun z9 => z9 c_87)⟩, trivial⟩, hS.F hz8⟩) hS.2.2 dX0_may_80
          · refine lv_iconst (v := 1) hx hb dX0_may_75 (by decide) ?_
            refine lv_goto (tgt := 80) hx hb dX0_may_76 (by decide) ?_
            exact W.zret (v := 1) hx hb hr (by first | rfl | decide) (fun z8 hz8 hW8 => ⟨⟨1, (), rfl, Or.inl ⟨rfl, by unfold dk_may; refine ⟨c_1, c_7, ?_, ?_, ?_, ?_⟩ <;> intros <;> first | assumption | (exfalso; omega) | (left; assumption) | (right; assumption) | (right; exact dk_inl (by assumption)) | (exact Or.inr (dk_inl (by assumption)))⟩, trivial⟩, hS.F hz8⟩) hS.2.2 dX0_may_80
      · refine lv_tableIn (tgt := 81) (off := 65) hx hb dX0_may_16 (by decide) (by decide) (by decide) (by decide) ?_
        refine lv_iload_n hx hb dX0_may_81 rfl (lv_at hl 1 rfl) ?_
        refine lv_iconst (v := 5) hx hb dX0_may_82 (by decide) ?_
        refine lv_icmp_ne (tgt := 90) hx hb dX0_may_83 (by decide) (fun c_83 => ?_) (fun c_83 => ?_)
        · refine lv_iconst (v := 1) hx hb dX0_may_90 (by decide) ?_
          refine lv_goto (tgt := 95) hx hb dX0_may_91 (by decide) ?_
          exact W.zret (v := 1) hx hb hr (by first | rfl | decide) (fun z8 hz8 hW8 => ⟨⟨1, (), rfl, Or.inl ⟨rfl, by unfold dk_may; refine ⟨c_1, c_7, ?_, ?_, ?_, ?_⟩ <;> intros <;> first | assumption | (exfalso; omega) | (left; assumption) | (right; assumption) | (right; exact dk_inl (by assumption)) | (exact Or.inr (dk_inl (by assumption)))⟩, trivial⟩, hS.F hz8⟩) hS.2.2 dX0_may_95
        · refine lv_iload_n hx hb dX0_may_86 rfl (lv_at hl 3 rfl) ?_
          refine lv_if_eq (tgt := 94) hx hb dX0_may_87 (by decide) (fun c_87 => ?_) (fun c_87 => ?_)
          · refine lv_iconst (v := 0) hx hb dX0_may_94 (by decide) ?_
            exact W.zret (v := 0) hx hb hr (by first | rfl | decide) (fun z8 hz8 hW8 => ⟨⟨0, (), rfl, Or.inr ⟨rfl, by unfold dk_may; rintro ⟨q1, q2, q3, q4, q5, q6⟩; first | exact q3 (by omega) hE | exact q6 (by omega) hE | exact (q4 (by omega) (by omega)).elim (fun z9 => z9 c_67) (fun z9 => (Int32.not_le.mpr c_72) z9) | exact (q5 (by omega) (by omega)).elim (fun z9 => z9 c_83) (fun z9 => z9 c_87)⟩, trivial⟩, hS.F hz8⟩) hS.2.2 dX0_may_95
          · refine lv_iconst (v := 1) hx hb dX0_may_90 (by decide) ?_
            refine lv_goto (tgt := 95) hx hb dX0_may_91 (by decide) ?_
            exact W.zret (v := 1) hx hb hr (by first | rfl | decide) (fun z8 hz8 hW8 => ⟨⟨1, (), rfl, Or.inl ⟨rfl, by unfold dk_may; refine ⟨c_1, c_7, ?_, ?_, ?_, ?_⟩ <;> intros <;> first | assumption | (exfalso; omega) | (left; assumption) | (right; assumption) | (right; exact dk_inl (by assumption)) | (exact Or.inr (dk_inl (by assumption)))⟩, trivial⟩, hS.F hz8⟩) hS.2.2 dX0_may_95
      · refine lv_tableIn (tgt := 96) (off := 80) hx hb dX0_may_16 (by decide) (by decide) (by decide) (by decide) ?_
        refine lv_iload_n hx hb dX0_may_96 rfl (lv_at hl 1 rfl) ?_
        have hKc := hK
        refine va_calli (va_runS (As := [.int x]) (rest := []) ⟨hx, hb, hml, hown, hts⟩ (cX_isClosedWhenShut l dC dI x) (va_cwS 1 hts gX0_may_X0_isClosedWhenShut rfl rfl rfl (by decide +kernel) ⟨Nat.le_of_ble_eq_true rfl, Nat.le_of_ble_eq_true rfl⟩) (dk_rS dk_P0 hKc) rfl rfl hl.1 rfl (lv_room (Nat.le_of_ble_eq_true rfl)) dX0_may_97 ⟨Nat.zero_le _, Nat.zero_le _⟩) hS (fun q _ h => False.elim h) (fun q h => False.elim h) (fun r_97 u8 t8 H1 locs ht8 hvm8 hw hB hz1 hk1 hS => ?_)
        try dsimp only at hw
        have hP := dk_kept hP hk1
        generalize H1 = H at hP hS ⊢
        rcases hw with ⟨rfl, hE⟩ | ⟨rfl, hE⟩
        · refine lv_if_ne (tgt := 107) hx hb dX0_may_100 (by decide) (fun _ => ?_) (fun c9 => absurd c9 (by decide))
          refine lv_iconst (v := 0) hx hb dX0_may_107 (by decide) ?_
          exact W.zret (v := 0) hx hb hr (by first | rfl | decide) (fun z8 hz8 hW8 => ⟨⟨0, (), rfl, Or.inr ⟨rfl, by unfold dk_may; rintro ⟨q1, q2, q3, q4, q5, q6⟩; first | exact q3 (by omega) hE | exact q6 (by omega) hE | exact (q4 (by omega) (by omega)).elim (fun z9 => z9 c_67) (fun z9 => (Int32.not_le.mpr c_72) z9) | exact (q5 (by omega) (by omega)).elim (fun z9 => z9 c_83) (fun z9 => z9 c_87)⟩, trivial⟩, hS.F hz8⟩) hS.2.2 dX0_may_108
        · refine lv_if_ne (tgt := 107) hx hb dX0_may_100 (by decide) (fun c9 => absurd (by decide) c9) (fun _ => ?_)
          refine lv_iconst (v := 1) hx hb dX0_may_103 (by decide) ?_
          refine lv_goto (tgt := 108) hx hb dX0_may_104 (by decide) ?_
          exact W.zret (v := 1) hx hb hr (by first | rfl | decide) (fun z8 hz8 hW8 => ⟨⟨1, (), rfl, Or.inl ⟨rfl, by unfold dk_may; refine ⟨c_1, c_7, ?_, ?_, ?_, ?_⟩ <;> intros <;> first | assumption | (exfalso; omega) | (left; assumption) | (right; assumption) | (right; exact dk_inl (by assumption)) | (exact Or.inr (dk_inl (by assumption)))⟩, trivial⟩, hS.F hz8⟩) hS.2.2 dX0_may_108
    · refine lv_iconst (v := 0) hx hb dX0_may_10 (by decide) ?_
      exact W.zret (v := 0) hx hb hr (by first | rfl | decide) (fun z8 hz8 hW8 => ⟨⟨0, (), rfl, Or.inr ⟨rfl, fun q9 => c_7 q9.2.1⟩, trivial⟩, hS.F hz8⟩) hS.2.2 dX0_may_11
set_option maxHeartbeats 4000000 in
set_option maxRecDepth 100000 in
/-- look -/
theorem cX_look (l : Launch) (dC : Nat → ClassId) (dI : Nat → Nat → Nat) (h0 qo qw qc qn qm ql : Nat) (d ll : Int32) (t : Nat) (ht9 : t < 1000) (x : Int32) : Met l yX0_look wsX0_look ({ frames := 3, cells := 0, slots := 0, locals := 54 }) (dk_Pr [.ref h0, .int x] (dC, dI) vwCl [] [(h0, .inr (0, [.int d, .int (nI t), .ref qo, .ref qw, .ref qc, .ref qn, .ref qm, .ref ql, .int ll]))]) (va_Qi (fun (r : Int32) (_ : Unit) => dk_look d t x r) (fun _ _ => True) dk_no) 0 0 dk_no := by
  refine Met.ofW (cc := cX0_look) (maxL := 2) (ret := (some .int)) (by decide) rfl ?_
  intro p e s m args below meth c s₁ B hml hv
  obtain ⟨rfl, hP, hK⟩ := hv
  have hx := B.exec
  have hb := B.bytes
  have hr := B.returns
  have hts := atoms_spec (ws := wsX0_look) B.pre
  have hown : s.vm.findClass RX0 = some m.cls := findClass_of_methodNamed B.named
  have hlocks := B.notSynchronized
  have hinX0 : ∀ w ∈ wsX00, w ∈ wsX0_look := by decide +kernel
  have hS : va_S dk_no s.heap s.heap [] := va_S.rf
  have hl := lv_entry ([.ref h0, .int x]) (n := 2) (Nat.le_of_ble_eq_true rfl)
  rw [lg_entry_eq]
  generalize (lg_sl ([.ref h0, .int x]) ++ List.replicate (2 - (lg_sl ([.ref h0, .int x])).length) Slot.unset).toArray = ls at hl ⊢
  have hl : lv_has ls 2 [(0, .ref h0), (1, .int x)] := hl
  refine lv_iload_n hx hb dX0_look_0 rfl (lv_at hl 1 rfl) ?_
  rcases dk_sw5 x with rfl | rfl | rfl | rfl | rfl | hsw
  · refine lv_tableIn (tgt := 36) (off := 35) hx hb dX0_look_1 (by decide) (by decide) (by decide) (by decide) ?_
    refine lv_aload_n hx hb dX0_look_36 rfl (lv_at hl 0 rfl) ?_
    refine va_get (D := (dC, dI)) (ci := 0) (v := .int d) (C := RX0) (T := TX0) (N := 9) hx hb hts hinX0 hown hK hP 0 rfl rfl 0 (by decide) (hts (.fieldLink RX0 7 "DayDesk" "day" "I") (by decide +kernel)) (fun _ h9 => h9) rfl dX0_look_37 ?_
    exact W.iret (v := d) hx hb hr (fun z8 hz8 hW8 => ⟨⟨d, (), rfl, Or.inl ⟨rfl, rfl⟩, trivial⟩, hS.F hz8⟩) hS.2.2 dX0_look_40
  · refine lv_tableIn (tgt := 41) (off := 40) hx hb dX0_look_1 (by decide) (by decide) (by decide) (by decide) ?_
    refine lv_aload_n hx hb dX0_look_41 rfl (lv_at hl 0 rfl) ?_
    refine va_get (D := (dC, dI)) (ci := 0) (v := .int (nI t)) (C := RX0) (T := TX0) (N := 9) hx hb hts hinX0 hown hK hP 0 rfl rfl 1 (by decide) (hts (.fieldLink RX0 13 "DayDesk" "tick" "I") (by decide +kernel)) (fun _ h9 => h9) rfl dX0_look_42 ?_
    exact W.iret (v := nI t) hx hb hr (fun z8 hz8 hW8 => ⟨⟨(nI t), (), rfl, Or.inr (Or.inl ⟨rfl, rfl⟩), trivial⟩, hS.F hz8⟩) hS.2.2 dX0_look_45
  · refine lv_tableIn (tgt := 46) (off := 45) hx hb dX0_look_1 (by decide) (by decide) (by decide) (by decide) ?_
    refine lv_aload_n hx hb dX0_look_46 rfl (lv_at hl 0 rfl) ?_
    have hPc := hP
    have hKc := hK
    refine va_calli (va_runV (As := []) (rest := []) ⟨hx, hb, hml, hown, hts⟩ (cX_phaseNow l dC dI h0 qo qw qc qn qm ql d ll t ht9) (cwV 0 hts gX0_look_X0_phaseNow rfl rfl rfl (by decide +kernel) ⟨Nat.le_of_ble_eq_true rfl, Nat.le_of_ble_eq_true rfl⟩) (dk_rV hPc hKc (ci := 0) (q0 := 0) rfl rfl) rfl rfl hl.1 rfl (lv_room (Nat.le_of_ble_eq_true rfl)) dX0_look_47 ⟨Nat.zero_le _, Nat.zero_le _⟩) hS (fun q _ h => False.elim h) (fun q h => False.elim h) (fun r_47 u8 t8 H1 locs ht8 hvm8 hw hB hz1 hk1 hS => ?_)
    try dsimp only at hw
    have hP := dk_kept hP hk1
    generalize H1 = H at hP hS ⊢
    rcases hw with ⟨rfl, h1⟩ | ⟨rfl, h1, h2⟩ | ⟨rfl, h1, h2⟩ | ⟨rfl, h1, h2⟩ | ⟨rfl, h1⟩
    · exact W.iret (v := 0) hx hb hr (fun z8 hz8 hW8 => ⟨⟨0, (), rfl, Or.inr (Or.inr (Or.inl ⟨rfl, by rw [show dk_ph t = 0 from by unfold dk_ph; (repeat' split) <;> omega]; rfl⟩)), trivial⟩, hS.F hz8⟩) hS.2.2 dX0_look_50
    · exact W.iret (v := 1) hx hb hr (fun z8 hz8 hW8 => ⟨⟨1, (), rfl, Or.inr (Or.inr (Or.inl ⟨rfl, by rw [show dk_ph t = 1 from by unfold dk_ph; (repeat' split) <;> omega]; rfl⟩)), trivial⟩, hS.F hz8⟩) hS.2.2 dX0_look_50
    · exact W.iret (v := 2) hx hb hr (fun z8 hz8 hW8 => ⟨⟨2, (), rfl, Or.inr (Or.inr (Or.inl ⟨rfl, by rw [show dk_ph t = 2 from by unfold dk_ph; (repeat' split) <;> omega]; rfl⟩)), trivial⟩, hS.F hz8⟩) hS.2.2 dX0_look_50
    · exact W.iret (v := 3) hx hb hr (fun z8 hz8 hW8 => ⟨⟨3, (), rfl, Or.inr (Or.inr (Or.inl ⟨rfl, by rw [show dk_ph t = 3 from by unfold dk_ph; (repeat' split) <;> omega]; rfl⟩)), trivial⟩, hS.F hz8⟩) hS.2.2 dX0_look_50
    · exact W.iret (v := 4) hx hb hr (fun z8 hz8 hW8 => ⟨⟨4, (), rfl, Or.inr (Or.inr (Or.inl ⟨rfl, by rw [show dk_ph t = 4 from by unfold dk_ph; (repeat' split) <;> omega]; rfl⟩)), trivial⟩, hS.F hz8⟩) hS.2.2 dX0_look_50
  · refine lv_tableIn (tgt := 51) (off := 50) hx hb dX0_look_1 (by decide) (by decide) (by decide) (by decide) ?_
    refine lv_aload_n hx hb dX0_look_51 rfl (lv_at hl 0 rfl) ?_
    have hPc := hP
    have hKc := hK
    refine va_calli (va_runV (As := []) (rest := []) ⟨hx, hb, hml, hown, hts⟩ (cX_nextResolving l dC dI h0 qo qw qc qn qm ql d ll t ht9) (cwV 0 hts gX0_look_X0_nextResolving rfl rfl rfl (by decide +kernel) ⟨Nat.le_of_ble_eq_true rfl, Nat.le_of_ble_eq_true rfl⟩) (dk_rV hPc hKc (ci := 0) (q0 := 0) rfl rfl) rfl rfl hl.1 rfl (lv_room (Nat.le_of_ble_eq_true rfl)) dX0_look_52 ⟨Nat.zero_le _, Nat.zero_le _⟩) hS (fun q _ h => False.elim h) (fun q h => False.elim h) (fun r_52 u8 t8 H1 locs ht8 hvm8 hw hB hz1 hk1 hS => ?_)
    try dsimp only at hw
    have hP := dk_kept hP hk1
    generalize H1 = H at hP hS ⊢
    subst hw
    have hlt := dk_nR_lt ht9
    refine lv_aload_n hx hb dX0_look_55 rfl (lv_at hl 0 rfl) ?_
    refine va_get (D := (dC, dI)) (ci := 0) (v := .int (nI t)) (C := RX0) (T := TX0) (N := 9) hx hb hts hinX0 hown hK hP 0 rfl rfl 1 (by decide) (hts (.fieldLink RX0 13 "DayDesk" "tick" "I") (by decide +kernel)) (fun _ h9 => h9) rfl dX0_look_56 ?_
    refine lv_isub hx hb dX0_look_59 ?_
    refine dk_asi (y := nI ((dk_nR t) - t)) (pk_sub (a := dk_nR t) (b := t) (by omega)) ?_
    exact W.iret (v := nI ((dk_nR t) - t)) hx hb hr (fun z8 hz8 hW8 => ⟨⟨(nI ((dk_nR t) - t)), (), rfl, Or.inr (Or.inr (Or.inr (Or.inl ⟨rfl, rfl⟩))), trivial⟩, hS.F hz8⟩) hS.2.2 dX0_look_60
  · refine lv_tableIn (tgt := 61) (off := 60) hx hb dX0_look_1 (by decide) (by decide) (by decide) (by decide) ?_
    refine lv_aload_n hx hb dX0_look_61 rfl (lv_at hl 0 rfl) ?_
    have hPc := hP
    have hKc := hK
    refine va_calli (va_runV (As := []) (rest := []) ⟨hx, hb, hml, hown, hts⟩ (cX_nextPhaseBegins l dC dI h0 qo qw qc qn qm ql d ll t ht9) (cwV 0 hts gX0_look_X0_nextPhaseBegins rfl rfl rfl (by decide +kernel) ⟨Nat.le_of_ble_eq_true rfl, Nat.le_of_ble_eq_true rfl⟩) (dk_rV hPc hKc (ci := 0) (q0 := 0) rfl rfl) rfl rfl hl.1 rfl (lv_room (Nat.le_of_ble_eq_true rfl)) dX0_look_62 ⟨Nat.zero_le _, Nat.zero_le _⟩) hS (fun q _ h => False.elim h) (fun q h => False.elim h) (fun r_62 u8 t8 H1 locs ht8 hvm8 hw hB hz1 hk1 hS => ?_)
    try dsimp only at hw
    have hP := dk_kept hP hk1
    generalize H1 = H at hP hS ⊢
    subst hw
    have hlt := dk_nP_lt ht9
    refine lv_aload_n hx hb dX0_look_65 rfl (lv_at hl 0 rfl) ?_
    refine va_get (D := (dC, dI)) (ci := 0) (v := .int (nI t)) (C := RX0) (T := TX0) (N := 9) hx hb hts hinX0 hown hK hP 0 rfl rfl 1 (by decide) (hts (.fieldLink RX0 13 "DayDesk" "tick" "I") (by decide +kernel)) (fun _ h9 => h9) rfl dX0_look_66 ?_
    refine lv_isub hx hb dX0_look_69 ?_
    refine dk_asi (y := nI ((dk_nP t) - t)) (pk_sub (a := dk_nP t) (b := t) (by omega)) ?_
    exact W.iret (v := nI ((dk_nP t) - t)) hx hb hr (fun z8 hz8 hW8 => ⟨⟨(nI ((dk_nP t) - t)), (), rfl, Or.inr (Or.inr (Or.inr (Or.inr (Or.inl ⟨rfl, rfl⟩)))), trivial⟩, hS.F hz8⟩) hS.2.2 dX0_look_70
  · refine lv_tableOut (tgt := 71) hx hb dX0_look_1 hsw (by decide) ?_
    refine lv_iconst (v := (-1)) hx hb dX0_look_71 (by decide) ?_
    exact W.iret (v := (-1)) hx hb hr (fun z8 hz8 hW8 => ⟨⟨(-1), (), rfl, Or.inr (Or.inr (Or.inr (Or.inr (Or.inr (⟨hsw, rfl⟩))))), trivial⟩, hS.F hz8⟩) hS.2.2 dX0_look_72
end
section
set_option maxHeartbeats 4000000 in
set_option maxRecDepth 100000 in
/-- move -/
theorem cX_move (l : Launch) (dC : Nat → ClassId) (dI : Nat → Nat → Nat) (sz : Nat) (h0 qo qw qc qn qm ql : Nat) (k2 k3 k4 k5 : ClassId) (d ll tk : Int32) (fw fc fn fm : Nat → Int64) (x : Int32) (v : Int64) : Met l yX0_move wsX0_move ({ frames := 1, cells := 0, slots := 0, locals := 23 }) (dk_Pw [.ref h0, .int x, .long v] (dC, dI) vwCl [(k2, .long), (k3, .long), (k4, .long), (k5, .long)] [(h0, .inr (0, [.int d, .int tk, .ref qo, .ref qw, .ref qc, .ref qn, .ref qm, .ref ql, .int ll])), (qw, .inl (k2, 200, .inr (.inl fw))), (qc, .inl (k3, 200, .inr (.inl fc))), (qn, .inl (k4, 200, .inr (.inl fn))), (qm, .inl (k5, 200, .inr (.inl fm)))] sz) (va_Qi (fun (r : Int32) (u : (Nat → Int64) × (Nat → Int64) × (Nat → Int64) × (Nat → Int64)) => match u with | (gw, gc, gn, gm) => dk_mv x v fw fc fn fm r gw gc gn gm) (fun (u : (Nat → Int64) × (Nat → Int64) × (Nat → Int64) × (Nat → Int64)) z8 => match u with | (gw, gc, gn, gm) => dk_B (dC, dI) vwCl (va_A [(h0, .inr (0, [.int d, .int tk, .ref qo, .ref qw, .ref qc, .ref qn, .ref qm, .ref ql, .int ll])), (qw, .inl (k2, 200, .inr (.inl fw))), (qc, .inl (k3, 200, .inr (.inl fc))), (qn, .inl (k4, 200, .inr (.inl fn))), (qm, .inl (k5, 200, .inr (.inl fm)))] sz) [(h0, .inr (0, [.int d, .int tk, .ref qo, .ref qw, .ref qc, .ref qn, .ref qm, .ref ql, .int ll])), (qw, .inl (k2, 200, .inr (.inl gw))), (qc, .inl (k3, 200, .inr (.inl gc))), (qn, .inl (k4, 200, .inr (.inl gn))), (qm, .inl (k5, 200, .inr (.inl gm)))] z8) (va_A [(h0, .inr (0, [.int d, .int tk, .ref qo, .ref qw, .ref qc, .ref qn, .ref qm, .ref ql, .int ll])), (qw, .inl (k2, 200, .inr (.inl fw))), (qc, .inl (k3, 200, .inr (.inl fc))), (qn, .inl (k4, 200, .inr (.inl fn))), (qm, .inl (k5, 200, .inr (.inl fm)))] sz)) 0 0 (va_A [(h0, .inr (0, [.int d, .int tk, .ref qo, .ref qw, .ref qc, .ref qn, .ref qm, .ref ql, .int ll])), (qw, .inl (k2, 200, .inr (.inl fw))), (qc, .inl (k3, 200, .inr (.inl fc))), (qn, .inl (k4, 200, .inr (.inl fn))), (qm, .inl (k5, 200, .inr (.inl fm)))] sz) := by
  refine Met.ofW (cc := cX0_move) (maxL := 10) (ret := (some .int)) (by decide) rfl ?_
  intro p e s m args below meth c s₁ B hml hv
  obtain ⟨rfl, hsz, hP, hK, hD0⟩ := hv
  have hx := B.exec
  have hb := B.bytes
  have hr := B.returns
  have hts := atoms_spec (ws := wsX0_move) B.pre
  have hown : s.vm.findClass RX0 = some m.cls := findClass_of_methodNamed B.named
  have hlocks := B.notSynchronized
  have hinX0 : ∀ w ∈ wsX00, w ∈ wsX0_move := by decide +kernel
  subst hsz
  have hD := hD0.self (sz := s.heap.size)
  generalize hAe : va_A [(h0, .inr (0, [.int d, .int tk, .ref qo, .ref qw, .ref qc, .ref qn, .ref qm, .ref ql, .int ll])), (qw, .inl (k2, 200, .inr (.inl fw))), (qc, .inl (k3, 200, .inr (.inl fc))), (qn, .inl (k4, 200, .inr (.inl fn))), (qm, .inl (k5, 200, .inr (.inl fm)))] s.heap.size = A at hD ⊢
  have hA : ∀ q : Nat, s.heap.size ≤ q → A q := fun q h => by rw [← hAe]; exact Or.inr h
  have hS : va_S A s.heap s.heap [] := va_S.rf
  have hl := lv_entry ([.ref h0, .int x, .long v]) (n := 10) (Nat.le_of_ble_eq_true rfl)
  rw [lg_entry_eq]
  generalize (lg_sl ([.ref h0, .int x, .long v]) ++ List.replicate (10 - (lg_sl ([.ref h0, .int x, .long v])).length) Slot.unset).toArray = ls at hl ⊢
  have hl : lv_has ls 10 [(0, .ref h0), (1, .int x), (2, .long v)] := hl
  refine lv_iload_n hx hb dX0_move_0 rfl (lv_at hl 1 rfl) ?_
  have hKc := hK.sub (tys' := []) [] rfl
  refine va_calli (va_runS (As := [.int x]) (rest := []) ⟨hx, hb, hml, hown, hts⟩ (cX_isPosition l dC dI x) (va_cwS 1 hts gX0_move_X0_isPosition rfl rfl rfl (by decide +kernel) ⟨Nat.le_of_ble_eq_true rfl, Nat.le_of_ble_eq_true rfl⟩) (dk_rS dk_P0 hKc) rfl rfl hl.1 rfl (lv_room (Nat.le_of_ble_eq_true rfl)) dX0_move_1 ⟨Nat.zero_le _, Nat.zero_le _⟩) hS (fun q _ h => False.elim h) (fun q h => False.elim h) (fun r_1 u8 t8 H1 locs ht8 hvm8 hw hB hz1 hk1 hS => ?_)
  try dsimp only at hw
  have hP := dk_kept hP hk1
  generalize H1 = H at hP hS ⊢
  rcases hw with ⟨rfl, j, hj, rfl⟩ | ⟨rfl, hno⟩
  · refine lv_if_eq (tgt := 17) hx hb dX0_move_4 (by decide) (fun c9 => absurd c9 (by decide)) (fun _ => ?_)
    refine lv_lload_n hx hb dX0_move_7 rfl (lv_at hl 2 rfl) ?_
    refine lv_ldc2 (v := 10000000000000000) hx hb hown (hts (.constantLong RX0 70 10000000000000000) (by decide +kernel)) dX0_move_8 ?_
    have hKc := hK.sub (tys' := []) [] rfl
    refine va_calli (va_runS (As := [.long v, .long 10000000000000000]) (rest := []) ⟨hx, hb, hml, hown, hts⟩ (cX_isWithin l dC dI v 10000000000000000) (va_cwS 2 hts gX0_move_X0_isWithin rfl rfl rfl (by decide +kernel) ⟨Nat.le_of_ble_eq_true rfl, Nat.le_of_ble_eq_true rfl⟩) (dk_rS dk_P0 hKc) rfl rfl hl.1 rfl (lv_room (Nat.le_of_ble_eq_true rfl)) dX0_move_11 ⟨Nat.zero_le _, Nat.zero_le _⟩) hS (fun q _ h => False.elim h) (fun q h => False.elim h) (fun r_11 u8 t8 H1 locs ht8 hvm8 hw hB hz1 hk1 hS => ?_)
    try dsimp only at hw
    have hP := dk_kept hP hk1
    generalize H1 = H at hP hS ⊢
    rcases hw with ⟨rfl, hw1⟩ | ⟨rfl, hw1⟩
    · refine lv_if_ne (tgt := 19) hx hb dX0_move_14 (by decide) (fun _ => ?_) (fun c9 => absurd c9 (by decide))
      refine lv_lload_n hx hb dX0_move_19 rfl (lv_at hl 2 rfl) ?_
      refine lv_lconst (v := 0) hx hb dX0_move_20 (by decide) ?_
      refine W.lcmp hx hb dX0_move_21 ?_
      refine lv_if_ne (tgt := 27) hx hb dX0_move_22 (by decide) (fun c_22 => ?_) (fun c_22 => ?_)
      · have c_22 : ¬ (v = (0 : Int64)) := fun q9 => c_22 ((lg_cmp_eq _ _).mpr q9)
        refine lv_aload_n hx hb dX0_move_27 rfl (lv_at hl 0 rfl) ?_
        refine va_get (D := (dC, dI)) (ci := 0) (v := .ref qn) (C := RX0) (T := TX0) (N := 9) hx hb hts hinX0 hown hK hP 0 rfl rfl 5 (by decide) (hts (.fieldLink RX0 26 "DayDesk" "now" "[J") (by decide +kernel)) (fun _ h9 => h9) rfl dX0_move_28 ?_
        refine lv_iload_n hx hb dX0_move_31 rfl (lv_at hl 1 rfl) ?_
        refine dk_lald hx hb hK hP 3 2 rfl rfl (j := j) (by omega) (by omega) dX0_move_32 ?_
        refine lv_lload_n hx hb dX0_move_33 rfl (lv_at hl 2 rfl) ?_
        refine lv_ladd hx hb dX0_move_34 ?_
        refine lv_lstore (lv' := [(4, .long ((fn j) + v)), (0, .ref h0), (1, .int (nI j)), (2, .long v)]) hx hb dX0_move_35 hl (by decide) rfl (fun ls hl => ?_)
        refine lv_aload_n hx hb dX0_move_37 rfl (lv_at hl 1 rfl) ?_
        refine va_get (D := (dC, dI)) (ci := 0) (v := .ref qw) (C := RX0) (T := TX0) (N := 9) hx hb hts hinX0 hown hK hP 0 rfl rfl 3 (by decide) (hts (.fieldLink RX0 20 "DayDesk" "went" "[J") (by decide +kernel)) (fun _ h9 => h9) rfl dX0_move_38 ?_
        refine lv_iload_n hx hb dX0_move_41 rfl (lv_at hl 2 rfl) ?_
        refine dk_lald hx hb hK hP 1 0 rfl rfl (j := j) (by omega) (by omega) dX0_move_42 ?_
        refine lv_lload_n hx hb dX0_move_43 rfl (lv_at hl 3 rfl) ?_
        refine lv_lconst (v := 0) hx hb dX0_move_44 (by decide) ?_
        refine W.lcmp hx hb dX0_move_45 ?_
        refine lv_if_ge (tgt := 54) hx hb dX0_move_46 (by decide) (fun c_46 => ?_) (fun c_46 => ?_)
        · have c_46 : (0 : Int64) ≤ v := (lg_cmp_ge _ _).mp c_46
          refine lv_lconst (v := 0) hx hb dX0_move_54 (by decide) ?_
          refine dk_asl (y := dk_neg v) (by first | exact dk_neg_ge c_46 | exact dk_neg_lt c_46) ?_
          refine lv_ladd hx hb dX0_move_55 ?_
          refine lv_lstore (lv' := [(6, .long ((fw j) + (dk_neg v))), (4, .long ((fn j) + v)), (0, .ref h0), (1, .int (nI j)), (2, .long v)]) hx hb dX0_move_56 hl (by decide) rfl (fun ls hl => ?_)
          refine lv_aload_n hx hb dX0_move_58 rfl (lv_at hl 2 rfl) ?_
          refine va_get (D := (dC, dI)) (ci := 0) (v := .ref qc) (C := RX0) (T := TX0) (N := 9) hx hb hts hinX0 hown hK hP 0 rfl rfl 4 (by decide) (hts (.fieldLink RX0 23 "DayDesk" "came" "[J") (by decide +kernel)) (fun _ h9 => h9) rfl dX0_move_59 ?_
          refine lv_iload_n hx hb dX0_move_62 rfl (lv_at hl 3 rfl) ?_
          refine dk_lald hx hb hK hP 2 1 rfl rfl (j := j) (by omega) (by omega) dX0_move_63 ?_
          refine lv_lload_n hx hb dX0_move_64 rfl (lv_at hl 4 rfl) ?_
          refine lv_lconst (v := 0) hx hb dX0_move_65 (by decide) ?_
          refine W.lcmp hx hb dX0_move_66 ?_
          refine lv_if_le (tgt := 74) hx hb dX0_move_67 (by decide) (fun c_67 => ?_) (fun c_67 => ?_)
          · have c_67 : v ≤ (0 : Int64) := (lg_cmp_le _ _).mp c_67
            exact absurd (dk_lanti c_46 c_67) c_22
          · have c_67 : ¬ (v ≤ (0 : Int64)) := fun q9 => c_67 ((lg_cmp_le _ _).mpr q9)
            refine lv_lload_n hx hb dX0_move_70 rfl (lv_at hl 4 rfl) ?_
            refine lv_goto (tgt := 75) hx hb dX0_move_71 (by decide) ?_
            refine dk_asl (y := dk_ps v) (by first | exact dk_ps_le c_67 | exact dk_ps_gt c_67) ?_
            refine lv_ladd hx hb dX0_move_75 ?_
            refine lv_lstore (lv' := [(8, .long ((fc j) + (dk_ps v))), (6, .long ((fw j) + (dk_neg v))), (4, .long ((fn j) + v)), (0, .ref h0), (1, .int (nI j)), (2, .long v)]) hx hb dX0_move_76 hl (by decide) rfl (fun ls hl => ?_)
            refine lv_lload hx hb dX0_move_78 (lv_at hl 2 rfl) ?_
            refine lv_ldc2 (v := 9000000000000000000) hx hb hown (hts (.constantLong RX0 76 9000000000000000000) (by decide +kernel)) dX0_move_80 ?_
            have hKc := hK.sub (tys' := []) [] rfl
            refine va_calli (va_runS (As := [.long ((fn j) + v), .long 9000000000000000000]) (rest := []) ⟨hx, hb, hml, hown, hts⟩ (cX_isWithin l dC dI ((fn j) + v) 9000000000000000000) (va_cwS 2 hts gX0_move_X0_isWithin rfl rfl rfl (by decide +kernel) ⟨Nat.le_of_ble_eq_true rfl, Nat.le_of_ble_eq_true rfl⟩) (dk_rS dk_P0 hKc) rfl rfl hl.1 rfl (lv_room (Nat.le_of_ble_eq_true rfl)) dX0_move_83 ⟨Nat.zero_le _, Nat.zero_le _⟩) hS (fun q _ h => False.elim h) (fun q h => False.elim h) (fun r_83 u8 t8 H1 locs ht8 hvm8 hw hB hz1 hk1 hS => ?_)
            try dsimp only at hw
            have hP := dk_kept hP hk1
            generalize H1 = H at hP hS ⊢
            rcases hw with ⟨rfl, hw2⟩ | ⟨rfl, hw2⟩
            · refine lv_if_eq (tgt := 111) hx hb dX0_move_86 (by decide) (fun c9 => absurd c9 (by decide)) (fun _ => ?_)
              refine lv_lload hx hb dX0_move_89 (lv_at hl 1 rfl) ?_
              refine lv_ldc2 (v := 9000000000000000000) hx hb hown (hts (.constantLong RX0 76 9000000000000000000) (by decide +kernel)) dX0_move_91 ?_
              have hKc := hK.sub (tys' := []) [] rfl
              refine va_calli (va_runS (As := [.long ((fw j) + (dk_neg v)), .long 9000000000000000000]) (rest := []) ⟨hx, hb, hml, hown, hts⟩ (cX_isWithin l dC dI ((fw j) + (dk_neg v)) 9000000000000000000) (va_cwS 2 hts gX0_move_X0_isWithin rfl rfl rfl (by decide +kernel) ⟨Nat.le_of_ble_eq_true rfl, Nat.le_of_ble_eq_true rfl⟩) (dk_rS dk_P0 hKc) rfl rfl hl.1 rfl (lv_room (Nat.le_of_ble_eq_true rfl)) dX0_move_94 ⟨Nat.zero_le _, Nat.zero_le _⟩) hS (fun q _ h => False.elim h) (fun q h => False.elim h) (fun r_94 u8 t8 H1 locs ht8 hvm8 hw hB hz1 hk1 hS => ?_)
              try dsimp only at hw
              have hP := dk_kept hP hk1
              generalize H1 = H at hP hS ⊢
              rcases hw with ⟨rfl, hw3⟩ | ⟨rfl, hw3⟩
              · refine lv_if_eq (tgt := 111) hx hb dX0_move_97 (by decide) (fun c9 => absurd c9 (by decide)) (fun _ => ?_)
                refine lv_lload hx hb dX0_move_100 (lv_at hl 0 rfl) ?_
                refine lv_ldc2 (v := 9000000000000000000) hx hb hown (hts (.constantLong RX0 76 9000000000000000000) (by decide +kernel)) dX0_move_102 ?_
                have hKc := hK.sub (tys' := []) [] rfl
                refine va_calli (va_runS (As := [.long ((fc j) + (dk_ps v)), .long 9000000000000000000]) (rest := []) ⟨hx, hb, hml, hown, hts⟩ (cX_isWithin l dC dI ((fc j) + (dk_ps v)) 9000000000000000000) (va_cwS 2 hts gX0_move_X0_isWithin rfl rfl rfl (by decide +kernel) ⟨Nat.le_of_ble_eq_true rfl, Nat.le_of_ble_eq_true rfl⟩) (dk_rS dk_P0 hKc) rfl rfl hl.1 rfl (lv_room (Nat.le_of_ble_eq_true rfl)) dX0_move_105 ⟨Nat.zero_le _, Nat.zero_le _⟩) hS (fun q _ h => False.elim h) (fun q h => False.elim h) (fun r_105 u8 t8 H1 locs ht8 hvm8 hw hB hz1 hk1 hS => ?_)
                try dsimp only at hw
                have hP := dk_kept hP hk1
                generalize H1 = H at hP hS ⊢
                rcases hw with ⟨rfl, hw4⟩ | ⟨rfl, hw4⟩
                · refine lv_if_ne (tgt := 113) hx hb dX0_move_108 (by decide) (fun _ => ?_) (fun c9 => absurd c9 (by decide))
                  refine lv_aload_n hx hb dX0_move_113 rfl (lv_at hl 3 rfl) ?_
                  refine va_get (D := (dC, dI)) (ci := 0) (v := .ref qn) (C := RX0) (T := TX0) (N := 9) hx hb hts hinX0 hown hK hP 0 rfl rfl 5 (by decide) (hts (.fieldLink RX0 26 "DayDesk" "now" "[J") (by decide +kernel)) (fun _ h9 => h9) rfl dX0_move_114 ?_
                  refine lv_iload_n hx hb dX0_move_117 rfl (lv_at hl 4 rfl) ?_
                  refine lv_lload hx hb dX0_move_118 (lv_at hl 2 rfl) ?_
                  refine dk_last hx hb hK hP hD hS 3 2 rfl rfl (j := j) (by omega) (by omega) dX0_move_120 (fun H locs hP hD hS => ?_)
                  have hP : va_P (dC, dI) vwCl [(h0, .inr (0, [.int d, .int tk, .ref qo, .ref qw, .ref qc, .ref qn, .ref qm, .ref ql, .int ll])), (qw, .inl (k2, 200, .inr (.inl fw))), (qc, .inl (k3, 200, .inr (.inl fc))), (qn, .inl (k4, 200, .inr (.inl (vp_updL fn j ((fn j) + v))))), (qm, .inl (k5, 200, .inr (.inl fm)))] H := hP
                  have hD : va_D A [(h0, .inr (0, [.int d, .int tk, .ref qo, .ref qw, .ref qc, .ref qn, .ref qm, .ref ql, .int ll])), (qw, .inl (k2, 200, .inr (.inl fw))), (qc, .inl (k3, 200, .inr (.inl fc))), (qn, .inl (k4, 200, .inr (.inl (vp_updL fn j ((fn j) + v))))), (qm, .inl (k5, 200, .inr (.inl fm)))] := hD
                  refine lv_aload_n hx hb dX0_move_121 rfl (lv_at hl 3 rfl) ?_
                  refine va_get (D := (dC, dI)) (ci := 0) (v := .ref qw) (C := RX0) (T := TX0) (N := 9) hx hb hts hinX0 hown hK hP 0 rfl rfl 3 (by decide) (hts (.fieldLink RX0 20 "DayDesk" "went" "[J") (by decide +kernel)) (fun _ h9 => h9) rfl dX0_move_122 ?_
                  refine lv_iload_n hx hb dX0_move_125 rfl (lv_at hl 4 rfl) ?_
                  refine lv_lload hx hb dX0_move_126 (lv_at hl 1 rfl) ?_
                  refine dk_last hx hb hK hP hD hS 1 0 rfl rfl (j := j) (by omega) (by omega) dX0_move_128 (fun H locs hP hD hS => ?_)
                  have hP : va_P (dC, dI) vwCl [(h0, .inr (0, [.int d, .int tk, .ref qo, .ref qw, .ref qc, .ref qn, .ref qm, .ref ql, .int ll])), (qw, .inl (k2, 200, .inr (.inl (vp_updL fw j ((fw j) + (dk_neg v)))))), (qc, .inl (k3, 200, .inr (.inl fc))), (qn, .inl (k4, 200, .inr (.inl (vp_updL fn j ((fn j) + v))))), (qm, .inl (k5, 200, .inr (.inl fm)))] H := hP
                  have hD : va_D A [(h0, .inr (0, [.int d, .int tk, .ref qo, .ref qw, .ref qc, .ref qn, .ref qm, .ref ql, .int ll])), (qw, .inl (k2, 200, .inr (.inl (vp_updL fw j ((fw j) + (dk_neg v)))))), (qc, .inl (k3, 200, .inr (.inl fc))), (qn, .inl (k4, 200, .inr (.inl (vp_updL fn j ((fn j) + v))))), (qm, .inl (k5, 200, .inr (.inl fm)))] := hD
                  refine lv_aload_n hx hb dX0_move_129 rfl (lv_at hl 3 rfl) ?_
                  refine va_get (D := (dC, dI)) (ci := 0) (v := .ref qc) (C := RX0) (T := TX0) (N := 9) hx hb hts hinX0 hown hK hP 0 rfl rfl 4 (by decide) (hts (.fieldLink RX0 23 "DayDesk" "came" "[J") (by decide +kernel)) (fun _ h9 => h9) rfl dX0_move_130 ?_
                  refine lv_iload_n hx hb dX0_move_133 rfl (lv_at hl 4 rfl) ?_
                  refine lv_lload hx hb dX0_move_134 (lv_at hl 0 rfl) ?_
                  refine dk_last hx hb hK hP hD hS 2 1 rfl rfl (j := j) (by omega) (by omega) dX0_move_136 (fun H locs hP hD hS => ?_)
                  have hP : va_P (dC, dI) vwCl [(h0, .inr (0, [.int d, .int tk, .ref qo, .ref qw, .ref qc, .ref qn, .ref qm, .ref ql, .int ll])), (qw, .inl (k2, 200, .inr (.inl (vp_updL fw j ((fw j) + (dk_neg v)))))), (qc, .inl (k3, 200, .inr (.inl (vp_updL fc j ((fc j) + (dk_ps v)))))), (qn, .inl (k4, 200, .inr (.inl (vp_updL fn j ((fn j) + v))))), (qm, .inl (k5, 200, .inr (.inl fm)))] H := hP
                  have hD : va_D A [(h0, .inr (0, [.int d, .int tk, .ref qo, .ref qw, .ref qc, .ref qn, .ref qm, .ref ql, .int ll])), (qw, .inl (k2, 200, .inr (.inl (vp_updL fw j ((fw j) + (dk_neg v)))))), (qc, .inl (k3, 200, .inr (.inl (vp_updL fc j ((fc j) + (dk_ps v)))))), (qn, .inl (k4, 200, .inr (.inl (vp_updL fn j ((fn j) + v))))), (qm, .inl (k5, 200, .inr (.inl fm)))] := hD
                  refine lv_aload_n hx hb dX0_move_137 rfl (lv_at hl 3 rfl) ?_
                  refine va_get (D := (dC, dI)) (ci := 0) (v := .ref qm) (C := RX0) (T := TX0) (N := 9) hx hb hts hinX0 hown hK hP 0 rfl rfl 6 (by decide) (hts (.fieldLink RX0 29 "DayDesk" "moved" "[J") (by decide +kernel)) (fun _ h9 => h9) rfl dX0_move_138 ?_
                  refine lv_iload_n hx hb dX0_move_141 rfl (lv_at hl 4 rfl) ?_
                  refine lv_dup2_11 hx hb dX0_move_142 rfl rfl ?_
                  refine dk_lald hx hb hK hP 4 3 rfl rfl (j := j) (by omega) (by omega) dX0_move_143 ?_
                  refine lv_lconst (v := 1) hx hb dX0_move_144 (by decide) ?_
                  refine lv_ladd hx hb dX0_move_145 ?_
                  refine dk_last hx hb hK hP hD hS 4 3 rfl rfl (j := j) (by omega) (by omega) dX0_move_146 (fun H locs hP hD hS => ?_)
                  have hP : va_P (dC, dI) vwCl [(h0, .inr (0, [.int d, .int tk, .ref qo, .ref qw, .ref qc, .ref qn, .ref qm, .ref ql, .int ll])), (qw, .inl (k2, 200, .inr (.inl (vp_updL fw j ((fw j) + (dk_neg v)))))), (qc, .inl (k3, 200, .inr (.inl (vp_updL fc j ((fc j) + (dk_ps v)))))), (qn, .inl (k4, 200, .inr (.inl (vp_updL fn j ((fn j) + v))))), (qm, .inl (k5, 200, .inr (.inl (vp_updL fm j ((fm j) + 1)))))] H := hP
                  have hD : va_D A [(h0, .inr (0, [.int d, .int tk, .ref qo, .ref qw, .ref qc, .ref qn, .ref qm, .ref ql, .int ll])), (qw, .inl (k2, 200, .inr (.inl (vp_updL fw j ((fw j) + (dk_neg v)))))), (qc, .inl (k3, 200, .inr (.inl (vp_updL fc j ((fc j) + (dk_ps v)))))), (qn, .inl (k4, 200, .inr (.inl (vp_updL fn j ((fn j) + v))))), (qm, .inl (k5, 200, .inr (.inl (vp_updL fm j ((fm j) + 1)))))] := hD
                  refine lv_iconst (v := 1) hx hb dX0_move_147 (by decide) ?_
                  exact W.iret (v := 1) hx hb hr (fun z8 hz8 hW8 => ⟨⟨1, (vp_updL fw j (fw j + dk_neg v), vp_updL fc j (fc j + dk_ps v), vp_updL fn j (fn j + v), vp_updL fm j (fm j + 1)), rfl, Or.inr (Or.inr ⟨rfl, j, hj, rfl, hw1, c_22, hw2, hw3, hw4, rfl, rfl, rfl, rfl⟩), by rw [hz8]; exact hP, hD⟩, hS.F hz8⟩) hS.2.2 dX0_move_148
                · refine lv_if_ne (tgt := 113) hx hb dX0_move_108 (by decide) (fun c9 => absurd (by decide) c9) (fun _ => ?_)
                  refine lv_iconst (v := (-1)) hx hb dX0_move_111 (by decide) ?_
                  exact W.iret (v := (-1)) hx hb hr (fun z8 hz8 hW8 => ⟨⟨(-1), (fw, fc, fn, fm), rfl, Or.inl ⟨rfl, rfl, rfl, rfl, rfl, Or.inr (Or.inr ⟨j, hj, rfl, c_22, fun q9 => by first | exact hw2 q9.1 | exact hw3 q9.2.1 | exact hw4 q9.2.2⟩)⟩, by rw [hz8]; exact hP, hD⟩, hS.F hz8⟩) hS.2.2 dX0_move_112
              · refine lv_if_eq (tgt := 111) hx hb dX0_move_97 (by decide) (fun _ => ?_) (fun c9 => absurd (by decide) c9)
                refine lv_iconst (v := (-1)) hx hb dX0_move_111 (by decide) ?_
                exact W.iret (v := (-1)) hx hb hr (fun z8 hz8 hW8 => ⟨⟨(-1), (fw, fc, fn, fm), rfl, Or.inl ⟨rfl, rfl, rfl, rfl, rfl, Or.inr (Or.inr ⟨j, hj, rfl, c_22, fun q9 => by first | exact hw2 q9.1 | exact hw3 q9.2.1 | exact hw4 q9.2.2⟩)⟩, by rw [hz8]; exact hP, hD⟩, hS.F hz8⟩) hS.2.2 dX0_move_112
            · refine lv_if_eq (tgt := 111) hx hb dX0_move_86 (by decide) (fun _ => ?_) (fun c9 => absurd (by decide) c9)
              refine lv_iconst (v := (-1)) hx hb dX0_move_111 (by decide) ?_
              exact W.iret (v := (-1)) hx hb hr (fun z8 hz8 hW8 => ⟨⟨(-1), (fw, fc, fn, fm), rfl, Or.inl ⟨rfl, rfl, rfl, rfl, rfl, Or.inr (Or.inr ⟨j, hj, rfl, c_22, fun q9 => by first | exact hw2 q9.1 | exact hw3 q9.2.1 | exact hw4 q9.2.2⟩)⟩, by rw [hz8]; exact hP, hD⟩, hS.F hz8⟩) hS.2.2 dX0_move_112
        · have c_46 : ¬ ((0 : Int64) ≤ v) := fun q9 => c_46 ((lg_cmp_ge _ _).mpr q9)
          refine lv_lload_n hx hb dX0_move_49 rfl (lv_at hl 3 rfl) ?_
          refine lv_lneg hx hb dX0_move_50 ?_
          refine lv_goto (tgt := 55) hx hb dX0_move_51 (by decide) ?_
          refine dk_asl (y := dk_neg v) (by first | exact dk_neg_ge c_46 | exact dk_neg_lt c_46) ?_
          refine lv_ladd hx hb dX0_move_55 ?_
          refine lv_lstore (lv' := [(6, .long ((fw j) + (dk_neg v))), (4, .long ((fn j) + v)), (0, .ref h0), (1, .int (nI j)), (2, .long v)]) hx hb dX0_move_56 hl (by decide) rfl (fun ls hl => ?_)
          refine lv_aload_n hx hb dX0_move_58 rfl (lv_at hl 2 rfl) ?_
          refine va_get (D := (dC, dI)) (ci := 0) (v := .ref qc) (C := RX0) (T := TX0) (N := 9) hx hb hts hinX0 hown hK hP 0 rfl rfl 4 (by decide) (hts (.fieldLink RX0 23 "DayDesk" "came" "[J") (by decide +kernel)) (fun _ h9 => h9) rfl dX0_move_59 ?_
          refine lv_iload_n hx hb dX0_move_62 rfl (lv_at hl 3 rfl) ?_
          refine dk_lald hx hb hK hP 2 1 rfl rfl (j := j) (by omega) (by omega) dX0_move_63 ?_
          refine lv_lload_n hx hb dX0_move_64 rfl (lv_at hl 4 rfl) ?_
          refine lv_lconst (v := 0) hx hb dX0_move_65 (by decide) ?_
          refine W.lcmp hx hb dX0_move_66 ?_
          refine lv_if_le (tgt := 74) hx hb dX0_move_67 (by decide) (fun c_67 => ?_) (fun c_67 => ?_)
          · have c_67 : v ≤ (0 : Int64) := (lg_cmp_le _ _).mp c_67
            refine lv_lconst (v := 0) hx hb dX0_move_74 (by decide) ?_
            refine dk_asl (y := dk_ps v) (by first | exact dk_ps_le c_67 | exact dk_ps_gt c_67) ?_
            refine lv_ladd hx hb dX0_move_75 ?_
            refine lv_lstore (lv' := [(8, .long ((fc j) + (dk_ps v))), (6, .long ((fw j) + (dk_neg v))), (4, .long ((fn j) + v)), (0, .ref h0), (1, .int (nI j)), (2, .long v)]) hx hb dX0_move_76 hl (by decide) rfl (fun ls hl => ?_)
            refine lv_lload hx hb dX0_move_78 (lv_at hl 2 rfl) ?_
            refine lv_ldc2 (v := 9000000000000000000) hx hb hown (hts (.constantLong RX0 76 9000000000000000000) (by decide +kernel)) dX0_move_80 ?_
            have hKc := hK.sub (tys' := []) [] rfl
            refine va_calli (va_runS (As := [.long ((fn j) + v), .long 9000000000000000000]) (rest := []) ⟨hx, hb, hml, hown, hts⟩ (cX_isWithin l dC dI ((fn j) + v) 9000000000000000000) (va_cwS 2 hts gX0_move_X0_isWithin rfl rfl rfl (by decide +kernel) ⟨Nat.le_of_ble_eq_true rfl, Nat.le_of_ble_eq_true rfl⟩) (dk_rS dk_P0 hKc) rfl rfl hl.1 rfl (lv_room (Nat.le_of_ble_eq_true rfl)) dX0_move_83 ⟨Nat.zero_le _, Nat.zero_le _⟩) hS (fun q _ h => False.elim h) (fun q h => False.elim h) (fun r_83 u8 t8 H1 locs ht8 hvm8 hw hB hz1 hk1 hS => ?_)
            try dsimp only at hw
            have hP := dk_kept hP hk1
            generalize H1 = H at hP hS ⊢
            rcases hw with ⟨rfl, hw2⟩ | ⟨rfl, hw2⟩
            · refine lv_if_eq (tgt := 111) hx hb dX0_move_86 (by decide) (fun c9 => absurd c9 (by decide)) (fun _ => ?_)
              refine lv_lload hx hb dX0_move_89 (lv_at hl 1 rfl) ?_
              refine lv_ldc2 (v := 9000000000000000000) hx hb hown (hts (.constantLong RX0 76 9000000000000000000) (by decide +kernel)) dX0_move_91 ?_
              have hKc := hK.sub (tys' := []) [] rfl
              refine va_calli (va_runS (As := [.long ((fw j) + (dk_neg v)), .long 9000000000000000000]) (rest := []) ⟨hx, hb, hml, hown, hts⟩ (cX_isWithin l dC dI ((fw j) + (dk_neg v)) 9000000000000000000) (va_cwS 2 hts gX0_move_X0_isWithin rfl rfl rfl (by decide +kernel) ⟨Nat.le_of_ble_eq_true rfl, Nat.le_of_ble_eq_true rfl⟩) (dk_rS dk_P0 hKc) rfl rfl hl.1 rfl (lv_room (Nat.le_of_ble_eq_true rfl)) dX0_move_94 ⟨Nat.zero_le _, Nat.zero_le _⟩) hS (fun q _ h => False.elim h) (fun q h => False.elim h) (fun r_94 u8 t8 H1 locs ht8 hvm8 hw hB hz1 hk1 hS => ?_)
              try dsimp only at hw
              have hP := dk_kept hP hk1
              generalize H1 = H at hP hS ⊢
              rcases hw with ⟨rfl, hw3⟩ | ⟨rfl, hw3⟩
              · refine lv_if_eq (tgt := 111) hx hb dX0_move_97 (by decide) (fun c9 => absurd c9 (by decide)) (fun _ => ?_)
                refine lv_lload hx hb dX0_move_100 (lv_at hl 0 rfl) ?_
                refine lv_ldc2 (v := 9000000000000000000) hx hb hown (hts (.constantLong RX0 76 9000000000000000000) (by decide +kernel)) dX0_move_102 ?_
                have hKc := hK.sub (tys' := []) [] rfl
                refine va_calli (va_runS (As := [.long ((fc j) + (dk_ps v)), .long 9000000000000000000]) (rest := []) ⟨hx, hb, hml, hown, hts⟩ (cX_isWithin l dC dI ((fc j) + (dk_ps v)) 9000000000000000000) (va_cwS 2 hts gX0_move_X0_isWithin rfl rfl rfl (by decide +kernel) ⟨Nat.le_of_ble_eq_true rfl, Nat.le_of_ble_eq_true rfl⟩) (dk_rS dk_P0 hKc) rfl rfl hl.1 rfl (lv_room (Nat.le_of_ble_eq_true rfl)) dX0_move_105 ⟨Nat.zero_le _, Nat.zero_le _⟩) hS (fun q _ h => False.elim h) (fun q h => False.elim h) (fun r_105 u8 t8 H1 locs ht8 hvm8 hw hB hz1 hk1 hS => ?_)
                try dsimp only at hw
                have hP := dk_kept hP hk1
                generalize H1 = H at hP hS ⊢
                rcases hw with ⟨rfl, hw4⟩ | ⟨rfl, hw4⟩
                · refine lv_if_ne (tgt := 113) hx hb dX0_move_108 (by decide) (fun _ => ?_) (fun c9 => absurd c9 (by decide))
                  refine lv_aload_n hx hb dX0_move_113 rfl (lv_at hl 3 rfl) ?_
                  refine va_get (D := (dC, dI)) (ci := 0) (v := .ref qn) (C := RX0) (T := TX0) (N := 9) hx hb hts hinX0 hown hK hP 0 rfl rfl 5 (by decide) (hts (.fieldLink RX0 26 "DayDesk" "now" "[J") (by decide +kernel)) (fun _ h9 => h9) rfl dX0_move_114 ?_
                  refine lv_iload_n hx hb dX0_move_117 rfl (lv_at hl 4 rfl) ?_
                  refine lv_lload hx hb dX0_move_118 (lv_at hl 2 rfl) ?_
                  refine dk_last hx hb hK hP hD hS 3 2 rfl rfl (j := j) (by omega) (by omega) dX0_move_120 (fun H locs hP hD hS => ?_)
                  have hP : va_P (dC, dI) vwCl [(h0, .inr (0, [.int d, .int tk, .ref qo, .ref qw, .ref qc, .ref qn, .ref qm, .ref ql, .int ll])), (qw, .inl (k2, 200, .inr (.inl fw))), (qc, .inl (k3, 200, .inr (.inl fc))), (qn, .inl (k4, 200, .inr (.inl (vp_updL fn j ((fn j) + v))))), (qm, .inl (k5, 200, .inr (.inl fm)))] H := hP
                  have hD : va_D A [(h0, .inr (0, [.int d, .int tk, .ref qo, .ref qw, .ref qc, .ref qn, .ref qm, .ref ql, .int ll])), (qw, .inl (k2, 200, .inr (.inl fw))), (qc, .inl (k3, 200, .inr (.inl fc))), (qn, .inl (k4, 200, .inr (.inl (vp_updL fn j ((fn j) + v))))), (qm, .inl (k5, 200, .inr (.inl fm)))] := hD
                  refine lv_aload_n hx hb dX0_move_121 rfl (lv_at hl 3 rfl) ?_
                  refine va_get (D := (dC, dI)) (ci := 0) (v := .ref qw) (C := RX0) (T := TX0) (N := 9) hx hb hts hinX0 hown hK hP 0 rfl rfl 3 (by decide) (hts (.fieldLink RX0 20 "DayDesk" "went" "[J") (by decide +kernel)) (fun _ h9 => h9) rfl dX0_move_122 ?_
                  refine lv_iload_n hx hb dX0_move_125 rfl (lv_at hl 4 rfl) ?_
                  refine lv_lload hx hb dX0_move_126 (lv_at hl 1 rfl) ?_
                  refine dk_last hx hb hK hP hD hS 1 0 rfl rfl (j := j) (by omega) (by omega) dX0_move_128 (fun H locs hP hD hS => ?_)
                  have hP : va_P (dC, dI) vwCl [(h0, .inr (0, [.int d, .int tk, .ref qo, .ref qw, .ref qc, .ref qn, .ref qm, .ref ql, .int ll])), (qw, .inl (k2, 200, .inr (.inl (vp_updL fw j ((fw j) + (dk_neg v)))))), (qc, .inl (k3, 200, .inr (.inl fc))), (qn, .inl (k4, 200, .inr (.inl (vp_updL fn j ((fn j) + v))))), (qm, .inl (k5, 200, .inr (.inl fm)))] H := hP
                  have hD : va_D A [(h0, .inr (0, [.int d, .int tk, .ref qo, .ref qw, .ref qc, .ref qn, .ref qm, .ref ql, .int ll])), (qw, .inl (k2, 200, .inr (.inl (vp_updL fw j ((fw j) + (dk_neg v)))))), (qc, .inl (k3, 200, .inr (.inl fc))), (qn, .inl (k4, 200, .inr (.inl (vp_updL fn j ((fn j) + v))))), (qm, .inl (k5, 200, .inr (.inl fm)))] := hD
                  refine lv_aload_n hx hb dX0_move_129 rfl (lv_at hl 3 rfl) ?_
                  refine va_get (D := (dC, dI)) (ci := 0) (v := .ref qc) (C := RX0) (T := TX0) (N := 9) hx hb hts hinX0 hown hK hP 0 rfl rfl 4 (by decide) (hts (.fieldLink RX0 23 "DayDesk" "came" "[J") (by decide +kernel)) (fun _ h9 => h9) rfl dX0_move_130 ?_
                  refine lv_iload_n hx hb dX0_move_133 rfl (lv_at hl 4 rfl) ?_
                  refine lv_lload hx hb dX0_move_134 (lv_at hl 0 rfl) ?_
                  refine dk_last hx hb hK hP hD hS 2 1 rfl rfl (j := j) (by omega) (by omega) dX0_move_136 (fun H locs hP hD hS => ?_)
                  have hP : va_P (dC, dI) vwCl [(h0, .inr (0, [.int d, .int tk, .ref qo, .ref qw, .ref qc, .ref qn, .ref qm, .ref ql, .int ll])), (qw, .inl (k2, 200, .inr (.inl (vp_updL fw j ((fw j) + (dk_neg v)))))), (qc, .inl (k3, 200, .inr (.inl (vp_updL fc j ((fc j) + (dk_ps v)))))), (qn, .inl (k4, 200, .inr (.inl (vp_updL fn j ((fn j) + v))))), (qm, .inl (k5, 200, .inr (.inl fm)))] H := hP
                  have hD : va_D A [(h0, .inr (0, [.int d, .int tk, .ref qo, .ref qw, .ref qc, .ref qn, .ref qm, .ref ql, .int ll])), (qw, .inl (k2, 200, .inr (.inl (vp_updL fw j ((fw j) + (dk_neg v)))))), (qc, .inl (k3, 200, .inr (.inl (vp_updL fc j ((fc j) + (dk_ps v)))))), (qn, .inl (k4, 200, .inr (.inl (vp_updL fn j ((fn j) + v))))), (qm, .inl (k5, 200, .inr (.inl fm)))] := hD
                  refine lv_aload_n hx hb dX0_move_137 rfl (lv_at hl 3 rfl) ?_
                  refine va_get (D := (dC, dI)) (ci := 0) (v := .ref qm) (C := RX0) (T := TX0) (N := 9) hx hb hts hinX0 hown hK hP 0 rfl rfl 6 (by decide) (hts (.fieldLink RX0 29 "DayDesk" "moved" "[J") (by decide +kernel)) (fun _ h9 => h9) rfl dX0_move_138 ?_
                  refine lv_iload_n hx hb dX0_move_141 rfl (lv_at hl 4 rfl) ?_
                  refine lv_dup2_11 hx hb dX0_move_142 rfl rfl ?_
                  refine dk_lald hx hb hK hP 4 3 rfl rfl (j := j) (by omega) (by omega) dX0_move_143 ?_
                  refine lv_lconst (v := 1) hx hb dX0_move_144 (by decide) ?_
                  refine lv_ladd hx hb dX0_move_145 ?_
                  refine dk_last hx hb hK hP hD hS 4 3 rfl rfl (j := j) (by omega) (by omega) dX0_move_146 (fun H locs hP hD hS => ?_)
                  have hP : va_P (dC, dI) vwCl [(h0, .inr (0, [.int d, .int tk, .ref qo, .ref qw, .ref qc, .ref qn, .ref qm, .ref ql, .int ll])), (qw, .inl (k2, 200, .inr (.inl (vp_updL fw j ((fw j) + (dk_neg v)))))), (qc, .inl (k3, 200, .inr (.inl (vp_updL fc j ((fc j) + (dk_ps v)))))), (qn, .inl (k4, 200, .inr (.inl (vp_updL fn j ((fn j) + v))))), (qm, .inl (k5, 200, .inr (.inl (vp_updL fm j ((fm j) + 1)))))] H := hP
                  have hD : va_D A [(h0, .inr (0, [.int d, .int tk, .ref qo, .ref qw, .ref qc, .ref qn, .ref qm, .ref ql, .int ll])), (qw, .inl (k2, 200, .inr (.inl (vp_updL fw j ((fw j) + (dk_neg v)))))), (qc, .inl (k3, 200, .inr (.inl (vp_updL fc j ((fc j) + (dk_ps v)))))), (qn, .inl (k4, 200, .inr (.inl (vp_updL fn j ((fn j) + v))))), (qm, .inl (k5, 200, .inr (.inl (vp_updL fm j ((fm j) + 1)))))] := hD
                  refine lv_iconst (v := 1) hx hb dX0_move_147 (by decide) ?_
                  exact W.iret (v := 1) hx hb hr (fun z8 hz8 hW8 => ⟨⟨1, (vp_updL fw j (fw j + dk_neg v), vp_updL fc j (fc j + dk_ps v), vp_updL fn j (fn j + v), vp_updL fm j (fm j + 1)), rfl, Or.inr (Or.inr ⟨rfl, j, hj, rfl, hw1, c_22, hw2, hw3, hw4, rfl, rfl, rfl, rfl⟩), by rw [hz8]; exact hP, hD⟩, hS.F hz8⟩) hS.2.2 dX0_move_148
                · refine lv_if_ne (tgt := 113) hx hb dX0_move_108 (by decide) (fun c9 => absurd (by decide) c9) (fun _ => ?_)
                  refine lv_iconst (v := (-1)) hx hb dX0_move_111 (by decide) ?_
                  exact W.iret (v := (-1)) hx hb hr (fun z8 hz8 hW8 => ⟨⟨(-1), (fw, fc, fn, fm), rfl, Or.inl ⟨rfl, rfl, rfl, rfl, rfl, Or.inr (Or.inr ⟨j, hj, rfl, c_22, fun q9 => by first | exact hw2 q9.1 | exact hw3 q9.2.1 | exact hw4 q9.2.2⟩)⟩, by rw [hz8]; exact hP, hD⟩, hS.F hz8⟩) hS.2.2 dX0_move_112
              · refine lv_if_eq (tgt := 111) hx hb dX0_move_97 (by decide) (fun _ => ?_) (fun c9 => absurd (by decide) c9)
                refine lv_iconst (v := (-1)) hx hb dX0_move_111 (by decide) ?_
                exact W.iret (v := (-1)) hx hb hr (fun z8 hz8 hW8 => ⟨⟨(-1), (fw, fc, fn, fm), rfl, Or.inl ⟨rfl, rfl, rfl, rfl, rfl, Or.inr (Or.inr ⟨j, hj, rfl, c_22, fun q9 => by first | exact hw2 q9.1 | exact hw3 q9.2.1 | exact hw4 q9.2.2⟩)⟩, by rw [hz8]; exact hP, hD⟩, hS.F hz8⟩) hS.2.2 dX0_move_112
            · refine lv_if_eq (tgt := 111) hx hb dX0_move_86 (by decide) (fun _ => ?_) (fun c9 => absurd (by decide) c9)
              refine lv_iconst (v := (-1)) hx hb dX0_move_111 (by decide) ?_
              exact W.iret (v := (-1)) hx hb hr (fun z8 hz8 hW8 => ⟨⟨(-1), (fw, fc, fn, fm), rfl, Or.inl ⟨rfl, rfl, rfl, rfl, rfl, Or.inr (Or.inr ⟨j, hj, rfl, c_22, fun q9 => by first | exact hw2 q9.1 | exact hw3 q9.2.1 | exact hw4 q9.2.2⟩)⟩, by rw [hz8]; exact hP, hD⟩, hS.F hz8⟩) hS.2.2 dX0_move_112
          · have c_67 : ¬ (v ≤ (0 : Int64)) := fun q9 => c_67 ((lg_cmp_le _ _).mpr q9)
            exact absurd (dk_lnle' c_46) c_67
      · have c_22 : v = (0 : Int64) := (lg_cmp_eq _ _).mp c_22
        refine lv_iconst (v := 0) hx hb dX0_move_25 (by decide) ?_
        exact W.iret (v := 0) hx hb hr (fun z8 hz8 hW8 => ⟨⟨0, (fw, fc, fn, fm), rfl, Or.inr (Or.inl ⟨rfl, rfl, rfl, rfl, rfl, c_22, j, hj, rfl⟩), by rw [hz8]; exact hP, hD⟩, hS.F hz8⟩) hS.2.2 dX0_move_26
    · refine lv_if_ne (tgt := 19) hx hb dX0_move_14 (by decide) (fun c9 => absurd (by decide) c9) (fun _ => ?_)
      refine lv_iconst (v := (-1)) hx hb dX0_move_17 (by decide) ?_
      exact W.iret (v := (-1)) hx hb hr (fun z8 hz8 hW8 => ⟨⟨(-1), (fw, fc, fn, fm), rfl, Or.inl ⟨rfl, rfl, rfl, rfl, rfl, Or.inr (Or.inl hw1)⟩, by rw [hz8]; exact hP, hD⟩, hS.F hz8⟩) hS.2.2 dX0_move_18
  · refine lv_if_eq (tgt := 17) hx hb dX0_move_4 (by decide) (fun _ => ?_) (fun c9 => absurd (by decide) c9)
    refine lv_iconst (v := (-1)) hx hb dX0_move_17 (by decide) ?_
    exact W.iret (v := (-1)) hx hb hr (fun z8 hz8 hW8 => ⟨⟨(-1), (fw, fc, fn, fm), rfl, Or.inl ⟨rfl, rfl, rfl, rfl, rfl, Or.inl hno⟩, by rw [hz8]; exact hP, hD⟩, hS.F hz8⟩) hS.2.2 dX0_move_18
end
section
set_option maxHeartbeats 4000000 in
set_option maxRecDepth 100000 in
/-- at -/
theorem cX_at (l : Launch) (dC : Nat → ClassId) (dI : Nat → Nat → Nat) (h0 qo qw qc qn qm ql : Nat) (k6 : ClassId) (d tk : Int32) (n : Nat) (hn9 : n ≤ 104) (fl : Nat → Int32) (x : Int32) : Met l yX0_at wsX0_at ({ frames := 0, cells := 0, slots := 0, locals := 0 }) (dk_Pr [.ref h0, .int x] (dC, dI) vwCl [(k6, .char)] [(h0, .inr (0, [.int d, .int tk, .ref qo, .ref qw, .ref qc, .ref qn, .ref qm, .ref ql, .int (nI n)])), (ql, .inl (k6, 104, .inl fl))]) (va_Qi (fun (r : Int32) (_ : Unit) => dk_at fl n x r) (fun _ _ => True) dk_no) 0 0 dk_no := by
  refine Met.ofW (cc := cX0_at) (maxL := 2) (ret := (some .int)) (by decide) rfl ?_
  intro p e s m args below meth c s₁ B hml hv
  obtain ⟨rfl, hP, hK⟩ := hv
  have hx := B.exec
  have hb := B.bytes
  have hr := B.returns
  have hts := atoms_spec (ws := wsX0_at) B.pre
  have hown : s.vm.findClass RX0 = some m.cls := findClass_of_methodNamed B.named
  have hlocks := B.notSynchronized
  have hinX0 : ∀ w ∈ wsX00, w ∈ wsX0_at := by decide +kernel
  have hS : va_S dk_no s.heap s.heap [] := va_S.rf
  have hl := lv_entry ([.ref h0, .int x]) (n := 2) (Nat.le_of_ble_eq_true rfl)
  rw [lg_entry_eq]
  generalize (lg_sl ([.ref h0, .int x]) ++ List.replicate (2 - (lg_sl ([.ref h0, .int x])).length) Slot.unset).toArray = ls at hl ⊢
  have hl : lv_has ls 2 [(0, .ref h0), (1, .int x)] := hl
  rcases pk_ix x (n := n) (by omega) with hx0 | hx0 | ⟨j, hj, rfl⟩
  · refine lv_iload_n hx hb dX0_at_0 rfl (lv_at hl 1 rfl) ?_
    refine lv_if_lt (tgt := 21) hx hb dX0_at_1 (by decide) (fun _ => ?_) (fun c9 => absurd hx0 c9)
    refine lv_iconst (v := (-1)) hx hb dX0_at_21 (by decide) ?_
    exact W.iret (v := (-1)) hx hb hr (fun z8 hz8 hW8 => ⟨⟨(-1), (), rfl, Or.inr ⟨rfl, Or.inl hx0⟩, trivial⟩, hS.F hz8⟩) hS.2.2 dX0_at_22
  · refine lv_iload_n hx hb dX0_at_0 rfl (lv_at hl 1 rfl) ?_
    refine lv_if_lt (tgt := 21) hx hb dX0_at_1 (by decide) (fun c9 => ?_) (fun c9 => ?_)
    · refine lv_iconst (v := (-1)) hx hb dX0_at_21 (by decide) ?_
      exact W.iret (v := (-1)) hx hb hr (fun z8 hz8 hW8 => ⟨⟨(-1), (), rfl, Or.inr ⟨rfl, Or.inl c9⟩, trivial⟩, hS.F hz8⟩) hS.2.2 dX0_at_22
    · refine lv_iload_n hx hb dX0_at_4 rfl (lv_at hl 1 rfl) ?_
      refine lv_aload_n hx hb dX0_at_5 rfl (lv_at hl 0 rfl) ?_
      refine va_get (D := (dC, dI)) (ci := 0) (v := .int (nI n)) (C := RX0) (T := TX0) (N := 9) hx hb hts hinX0 hown hK hP 0 rfl rfl 8 (by decide) (hts (.fieldLink RX0 36 "DayDesk" "lineLength" "I") (by decide +kernel)) (fun _ h9 => h9) rfl dX0_at_6 ?_
      refine lv_icmp_ge (tgt := 21) hx hb dX0_at_9 (by decide) (fun c_9 => ?_) (fun c_9 => ?_)
      · refine lv_iconst (v := (-1)) hx hb dX0_at_21 (by decide) ?_
        exact W.iret (v := (-1)) hx hb hr (fun z8 hz8 hW8 => ⟨⟨(-1), (), rfl, Or.inr ⟨rfl, Or.inr hx0⟩, trivial⟩, hS.F hz8⟩) hS.2.2 dX0_at_22
      · exact absurd hx0 c_9
  · refine lv_iload_n hx hb dX0_at_0 rfl (lv_at hl 1 rfl) ?_
    refine dk_if_lt (x := j) (tgt := 21) hx hb dX0_at_1 (by decide) (by omega) ?_
    refine lv_iload_n hx hb dX0_at_4 rfl (lv_at hl 1 rfl) ?_
    refine lv_aload_n hx hb dX0_at_5 rfl (lv_at hl 0 rfl) ?_
    refine va_get (D := (dC, dI)) (ci := 0) (v := .int (nI n)) (C := RX0) (T := TX0) (N := 9) hx hb hts hinX0 hown hK hP 0 rfl rfl 8 (by decide) (hts (.fieldLink RX0 36 "DayDesk" "lineLength" "I") (by decide +kernel)) (fun _ h9 => h9) rfl dX0_at_6 ?_
    refine dk_icmp_ge (x := j) (y := n) (tgt := 21) hx hb dX0_at_9 (by decide) (by omega) (by omega) (fun c_9 => ?_) (fun c_9 => ?_)
    · exfalso; omega
    · refine lv_aload_n hx hb dX0_at_12 rfl (lv_at hl 0 rfl) ?_
      refine va_get (D := (dC, dI)) (ci := 0) (v := .ref ql) (C := RX0) (T := TX0) (N := 9) hx hb hts hinX0 hown hK hP 0 rfl rfl 7 (by decide) (hts (.fieldLink RX0 32 "DayDesk" "line" "[C") (by decide +kernel)) (fun _ h9 => h9) rfl dX0_at_13 ?_
      refine lv_iload_n hx hb dX0_at_16 rfl (lv_at hl 1 rfl) ?_
      refine dk_cald hx hb hK hP 1 0 rfl rfl (j := j) (by omega) (by omega) dX0_at_17 ?_
      refine lv_goto (tgt := 22) hx hb dX0_at_18 (by decide) ?_
      exact W.iret (v := fl j) hx hb hr (fun z8 hz8 hW8 => ⟨⟨(fl j), (), rfl, Or.inl ⟨j, hj, rfl, rfl⟩, trivial⟩, hS.F hz8⟩) hS.2.2 dX0_at_22
set_option maxHeartbeats 4000000 in
set_option maxRecDepth 100000 in
/-- row -/
theorem cX_row (l : Launch) (dC : Nat → ClassId) (dI : Nat → Nat → Nat) (h0 qo qw qc qn qm ql : Nat) (k1 k2 k3 k4 k5 : ClassId) (d ll tk : Int32) (fo fw fc fn fm : Nat → Int64) (x y : Int32) : Met l yX0_row wsX0_row ({ frames := 1, cells := 0, slots := 0, locals := 20 }) (dk_Pr [.ref h0, .int x, .int y] (dC, dI) vwCl [(k1, .long), (k2, .long), (k3, .long), (k4, .long), (k5, .long)] [(h0, .inr (0, [.int d, .int tk, .ref qo, .ref qw, .ref qc, .ref qn, .ref qm, .ref ql, .int ll])), (qo, .inl (k1, 200, .inr (.inl fo))), (qw, .inl (k2, 200, .inr (.inl fw))), (qc, .inl (k3, 200, .inr (.inl fc))), (qn, .inl (k4, 200, .inr (.inl fn))), (qm, .inl (k5, 200, .inr (.inl fm)))]) (va_Ql (fun (r : Int64) (_ : Unit) => dk_row fo fw fc fn fm x y r) (fun _ _ => True) dk_no) 0 0 dk_no := by
  refine Met.ofW (cc := cX0_row) (maxL := 3) (ret := (some .long)) (by decide) rfl ?_
  intro p e s m args below meth c s₁ B hml hv
  obtain ⟨rfl, hP, hK⟩ := hv
  have hx := B.exec
  have hb := B.bytes
  have hr := B.returns
  have hts := atoms_spec (ws := wsX0_row) B.pre
  have hown : s.vm.findClass RX0 = some m.cls := findClass_of_methodNamed B.named
  have hlocks := B.notSynchronized
  have hinX0 : ∀ w ∈ wsX00, w ∈ wsX0_row := by decide +kernel
  have hS : va_S dk_no s.heap s.heap [] := va_S.rf
  have hl := lv_entry ([.ref h0, .int x, .int y]) (n := 3) (Nat.le_of_ble_eq_true rfl)
  rw [lg_entry_eq]
  generalize (lg_sl ([.ref h0, .int x, .int y]) ++ List.replicate (3 - (lg_sl ([.ref h0, .int x, .int y])).length) Slot.unset).toArray = ls at hl ⊢
  have hl : lv_has ls 3 [(0, .ref h0), (1, .int x), (2, .int y)] := hl
  refine lv_iload_n hx hb dX0_row_0 rfl (lv_at hl 1 rfl) ?_
  have hKc := hK.sub (tys' := []) [] rfl
  refine va_calli (va_runS (As := [.int x]) (rest := []) ⟨hx, hb, hml, hown, hts⟩ (cX_isPosition l dC dI x) (va_cwS 1 hts gX0_row_X0_isPosition rfl rfl rfl (by decide +kernel) ⟨Nat.le_of_ble_eq_true rfl, Nat.le_of_ble_eq_true rfl⟩) (dk_rS dk_P0 hKc) rfl rfl hl.1 rfl (lv_room (Nat.le_of_ble_eq_true rfl)) dX0_row_1 ⟨Nat.zero_le _, Nat.zero_le _⟩) hS (fun q _ h => False.elim h) (fun q h => False.elim h) (fun r_1 u8 t8 H1 locs ht8 hvm8 hw hB hz1 hk1 hS => ?_)
  try dsimp only at hw
  have hP := dk_kept hP hk1
  generalize H1 = H at hP hS ⊢
  rcases hw with ⟨rfl, j, hj, rfl⟩ | ⟨rfl, hno⟩
  · refine lv_if_ne (tgt := 9) hx hb dX0_row_4 (by decide) (fun _ => ?_) (fun c9 => absurd c9 (by decide))
    refine lv_iload_n hx hb dX0_row_9 rfl (lv_at hl 2 rfl) ?_
    rcases dk_sw5 y with rfl | rfl | rfl | rfl | rfl | hsw
    · refine lv_tableIn (tgt := 44) (off := 34) hx hb dX0_row_10 (by decide) (by decide) (by decide) (by decide) ?_
      refine lv_aload_n hx hb dX0_row_44 rfl (lv_at hl 0 rfl) ?_
      refine va_get (D := (dC, dI)) (ci := 0) (v := .ref qo) (C := RX0) (T := TX0) (N := 9) hx hb hts hinX0 hown hK hP 0 rfl rfl 2 (by decide) (hts (.fieldLink RX0 16 "DayDesk" "opening" "[J") (by decide +kernel)) (fun _ h9 => h9) rfl dX0_row_45 ?_
      refine lv_iload_n hx hb dX0_row_48 rfl (lv_at hl 1 rfl) ?_
      refine dk_lald hx hb hK hP 1 0 rfl rfl (j := j) (by omega) (by omega) dX0_row_49 ?_
      exact W.lret (v := fo j) hx hb hr (fun z8 hz8 hW8 => ⟨⟨(fo j), (), rfl, Or.inr ⟨j, hj, rfl, Or.inl ⟨rfl, rfl⟩⟩, trivial⟩, hS.F hz8⟩) hS.2.2 dX0_row_50
    · refine lv_tableIn (tgt := 51) (off := 41) hx hb dX0_row_10 (by decide) (by decide) (by decide) (by decide) ?_
      refine lv_aload_n hx hb dX0_row_51 rfl (lv_at hl 0 rfl) ?_
      refine va_get (D := (dC, dI)) (ci := 0) (v := .ref qw) (C := RX0) (T := TX0) (N := 9) hx hb hts hinX0 hown hK hP 0 rfl rfl 3 (by decide) (hts (.fieldLink RX0 20 "DayDesk" "went" "[J") (by decide +kernel)) (fun _ h9 => h9) rfl dX0_row_52 ?_
      refine lv_iload_n hx hb dX0_row_55 rfl (lv_at hl 1 rfl) ?_
      refine dk_lald hx hb hK hP 2 1 rfl rfl (j := j) (by omega) (by omega) dX0_row_56 ?_
      exact W.lret (v := fw j) hx hb hr (fun z8 hz8 hW8 => ⟨⟨(fw j), (), rfl, Or.inr ⟨j, hj, rfl, Or.inr (Or.inl ⟨rfl, rfl⟩)⟩, trivial⟩, hS.F hz8⟩) hS.2.2 dX0_row_57
    · refine lv_tableIn (tgt := 58) (off := 48) hx hb dX0_row_10 (by decide) (by decide) (by decide) (by decide) ?_
      refine lv_aload_n hx hb dX0_row_58 rfl (lv_at hl 0 rfl) ?_
      refine va_get (D := (dC, dI)) (ci := 0) (v := .ref qc) (C := RX0) (T := TX0) (N := 9) hx hb hts hinX0 hown hK hP 0 rfl rfl 4 (by decide) (hts (.fieldLink RX0 23 "DayDesk" "came" "[J") (by decide +kernel)) (fun _ h9 => h9) rfl dX0_row_59 ?_
      refine lv_iload_n hx hb dX0_row_62 rfl (lv_at hl 1 rfl) ?_
      refine dk_lald hx hb hK hP 3 2 rfl rfl (j := j) (by omega) (by omega) dX0_row_63 ?_
      exact W.lret (v := fc j) hx hb hr (fun z8 hz8 hW8 => ⟨⟨(fc j), (), rfl, Or.inr ⟨j, hj, rfl, Or.inr (Or.inr (Or.inl ⟨rfl, rfl⟩))⟩, trivial⟩, hS.F hz8⟩) hS.2.2 dX0_row_64
    · refine lv_tableIn (tgt := 65) (off := 55) hx hb dX0_row_10 (by decide) (by decide) (by decide) (by decide) ?_
      refine lv_aload_n hx hb dX0_row_65 rfl (lv_at hl 0 rfl) ?_
      refine va_get (D := (dC, dI)) (ci := 0) (v := .ref qn) (C := RX0) (T := TX0) (N := 9) hx hb hts hinX0 hown hK hP 0 rfl rfl 5 (by decide) (hts (.fieldLink RX0 26 "DayDesk" "now" "[J") (by decide +kernel)) (fun _ h9 => h9) rfl dX0_row_66 ?_
      refine lv_iload_n hx hb dX0_row_69 rfl (lv_at hl 1 rfl) ?_
      refine dk_lald hx hb hK hP 4 3 rfl rfl (j := j) (by omega) (by omega) dX0_row_70 ?_
      exact W.lret (v := fn j) hx hb hr (fun z8 hz8 hW8 => ⟨⟨(fn j), (), rfl, Or.inr ⟨j, hj, rfl, Or.inr (Or.inr (Or.inr (Or.inl ⟨rfl, rfl⟩)))⟩, trivial⟩, hS.F hz8⟩) hS.2.2 dX0_row_71
    · refine lv_tableIn (tgt := 72) (off := 62) hx hb dX0_row_10 (by decide) (by decide) (by decide) (by decide) ?_
      refine lv_aload_n hx hb dX0_row_72 rfl (lv_at hl 0 rfl) ?_
      refine va_get (D := (dC, dI)) (ci := 0) (v := .ref qm) (C := RX0) (T := TX0) (N := 9) hx hb hts hinX0 hown hK hP 0 rfl rfl 6 (by decide) (hts (.fieldLink RX0 29 "DayDesk" "moved" "[J") (by decide +kernel)) (fun _ h9 => h9) rfl dX0_row_73 ?_
      refine lv_iload_n hx hb dX0_row_76 rfl (lv_at hl 1 rfl) ?_
      refine dk_lald hx hb hK hP 5 4 rfl rfl (j := j) (by omega) (by omega) dX0_row_77 ?_
      exact W.lret (v := fm j) hx hb hr (fun z8 hz8 hW8 => ⟨⟨(fm j), (), rfl, Or.inr ⟨j, hj, rfl, Or.inr (Or.inr (Or.inr (Or.inr (Or.inl ⟨rfl, rfl⟩))))⟩, trivial⟩, hS.F hz8⟩) hS.2.2 dX0_row_78
    · refine lv_tableOut (tgt := 79) hx hb dX0_row_10 hsw (by decide) ?_
      refine lv_lconst (v := 0) hx hb dX0_row_79 (by decide) ?_
      exact W.lret (v := 0) hx hb hr (fun z8 hz8 hW8 => ⟨⟨0, (), rfl, Or.inr ⟨j, hj, rfl, Or.inr (Or.inr (Or.inr (Or.inr (Or.inr (⟨hsw, rfl⟩)))))⟩, trivial⟩, hS.F hz8⟩) hS.2.2 dX0_row_80
  · refine lv_if_ne (tgt := 9) hx hb dX0_row_4 (by decide) (fun c9 => absurd (by decide) c9) (fun _ => ?_)
    refine lv_lconst (v := 0) hx hb dX0_row_7 (by decide) ?_
    exact W.lret (v := 0) hx hb hr (fun z8 hz8 hW8 => ⟨⟨0, (), rfl, Or.inl ⟨rfl, hno⟩, trivial⟩, hS.F hz8⟩) hS.2.2 dX0_row_8
set_option maxHeartbeats 4000000 in
set_option maxRecDepth 100000 in
/-- isTold -/
theorem cX_isTold (l : Launch) (dC : Nat → ClassId) (dI : Nat → Nat → Nat) (h0 qo qw qc qn qm ql : Nat) (k1 k2 k3 k4 k5 : ClassId) (d ll tk : Int32) (fo fw fc fn fm : Nat → Int64) (x : Int32) : Met l yX0_isTold wsX0_isTold ({ frames := 1, cells := 0, slots := 0, locals := 20 }) (dk_Pr [.ref h0, .int x] (dC, dI) vwCl [(k1, .long), (k2, .long), (k3, .long), (k4, .long), (k5, .long)] [(h0, .inr (0, [.int d, .int tk, .ref qo, .ref qw, .ref qc, .ref qn, .ref qm, .ref ql, .int ll])), (qo, .inl (k1, 200, .inr (.inl fo))), (qw, .inl (k2, 200, .inr (.inl fw))), (qc, .inl (k3, 200, .inr (.inl fc))), (qn, .inl (k4, 200, .inr (.inl fn))), (qm, .inl (k5, 200, .inr (.inl fm)))]) (va_Qi (fun (r : Int32) (_ : Unit) => (r = 1 ∧ dk_tld (fun j => ¬ fo j = 0 ∨ ¬ fm j = 0) x) ∨ (r = 0 ∧ ¬ dk_tld (fun j => ¬ fo j = 0 ∨ ¬ fm j = 0) x)) (fun _ _ => True) dk_no) 0 0 dk_no := by
  refine Met.ofW (cc := cX0_isTold) (maxL := 2) (ret := (some .boolean)) (by decide) rfl ?_
  intro p e s m args below meth c s₁ B hml hv
  obtain ⟨rfl, hP, hK⟩ := hv
  have hx := B.exec
  have hb := B.bytes
  have hr := B.returns
  have hts := atoms_spec (ws := wsX0_isTold) B.pre
  have hown : s.vm.findClass RX0 = some m.cls := findClass_of_methodNamed B.named
  have hlocks := B.notSynchronized
  have hinX0 : ∀ w ∈ wsX00, w ∈ wsX0_isTold := by decide +kernel
  have hS : va_S dk_no s.heap s.heap [] := va_S.rf
  have hl := lv_entry ([.ref h0, .int x]) (n := 2) (Nat.le_of_ble_eq_true rfl)
  rw [lg_entry_eq]
  generalize (lg_sl ([.ref h0, .int x]) ++ List.replicate (2 - (lg_sl ([.ref h0, .int x])).length) Slot.unset).toArray = ls at hl ⊢
  have hl : lv_has ls 2 [(0, .ref h0), (1, .int x)] := hl
  refine lv_iload_n hx hb dX0_isTold_0 rfl (lv_at hl 1 rfl) ?_
  have hKc := hK.sub (tys' := []) [] rfl
  refine va_calli (va_runS (As := [.int x]) (rest := []) ⟨hx, hb, hml, hown, hts⟩ (cX_isPosition l dC dI x) (va_cwS 1 hts gX0_isTold_X0_isPosition rfl rfl rfl (by decide +kernel) ⟨Nat.le_of_ble_eq_true rfl, Nat.le_of_ble_eq_true rfl⟩) (dk_rS dk_P0 hKc) rfl rfl hl.1 rfl (lv_room (Nat.le_of_ble_eq_true rfl)) dX0_isTold_1 ⟨Nat.zero_le _, Nat.zero_le _⟩) hS (fun q _ h => False.elim h) (fun q h => False.elim h) (fun r_1 u8 t8 H1 locs ht8 hvm8 hw hB hz1 hk1 hS => ?_)
  try dsimp only at hw
  have hP := dk_kept hP hk1
  generalize H1 = H at hP hS ⊢
  rcases hw with ⟨rfl, j, hj, rfl⟩ | ⟨rfl, hno⟩
  · refine lv_if_eq (tgt := 33) hx hb dX0_isTold_4 (by decide) (fun c9 => absurd c9 (by decide)) (fun _ => ?_)
    refine lv_aload_n hx hb dX0_isTold_7 rfl (lv_at hl 0 rfl) ?_
    refine va_get (D := (dC, dI)) (ci := 0) (v := .ref qo) (C := RX0) (T := TX0) (N := 9) hx hb hts hinX0 hown hK hP 0 rfl rfl 2 (by decide) (hts (.fieldLink RX0 16 "DayDesk" "opening" "[J") (by decide +kernel)) (fun _ h9 => h9) rfl dX0_isTold_8 ?_
    refine lv_iload_n hx hb dX0_isTold_11 rfl (lv_at hl 1 rfl) ?_
    refine dk_lald hx hb hK hP 1 0 rfl rfl (j := j) (by omega) (by omega) dX0_isTold_12 ?_
    refine lv_lconst (v := 0) hx hb dX0_isTold_13 (by decide) ?_
    refine W.lcmp hx hb dX0_isTold_14 ?_
    refine lv_if_ne (tgt := 29) hx hb dX0_isTold_15 (by decide) (fun c_15 => ?_) (fun c_15 => ?_)
    · have c_15 : ¬ ((fo j) = (0 : Int64)) := fun q9 => c_15 ((lg_cmp_eq _ _).mpr q9)
      refine lv_iconst (v := 1) hx hb dX0_isTold_29 (by decide) ?_
      refine lv_goto (tgt := 34) hx hb dX0_isTold_30 (by decide) ?_
      exact W.zret (v := 1) hx hb hr (by first | rfl | decide) (fun z8 hz8 hW8 => ⟨⟨1, (), rfl, Or.inl ⟨rfl, j, hj, rfl, Or.inl c_15⟩, trivial⟩, hS.F hz8⟩) hS.2.2 dX0_isTold_34
    · have c_15 : (fo j) = (0 : Int64) := (lg_cmp_eq _ _).mp c_15
      refine lv_aload_n hx hb dX0_isTold_18 rfl (lv_at hl 0 rfl) ?_
      refine va_get (D := (dC, dI)) (ci := 0) (v := .ref qm) (C := RX0) (T := TX0) (N := 9) hx hb hts hinX0 hown hK hP 0 rfl rfl 6 (by decide) (hts (.fieldLink RX0 29 "DayDesk" "moved" "[J") (by decide +kernel)) (fun _ h9 => h9) rfl dX0_isTold_19 ?_
      refine lv_iload_n hx hb dX0_isTold_22 rfl (lv_at hl 1 rfl) ?_
      refine dk_lald hx hb hK hP 5 4 rfl rfl (j := j) (by omega) (by omega) dX0_isTold_23 ?_
      refine lv_lconst (v := 0) hx hb dX0_isTold_24 (by decide) ?_
      refine W.lcmp hx hb dX0_isTold_25 ?_
      refine lv_if_eq (tgt := 33) hx hb dX0_isTold_26 (by decide) (fun c_26 => ?_) (fun c_26 => ?_)
      · have c_26 : (fm j) = (0 : Int64) := (lg_cmp_eq _ _).mp c_26
        refine lv_iconst (v := 0) hx hb dX0_isTold_33 (by decide) ?_
        exact W.zret (v := 0) hx hb hr (by first | rfl | decide) (fun z8 hz8 hW8 => ⟨⟨0, (), rfl, Or.inr ⟨rfl, dk_tld_no hj (fun q9 => q9.elim (fun z9 => z9 c_15) (fun z9 => z9 c_26))⟩, trivial⟩, hS.F hz8⟩) hS.2.2 dX0_isTold_34
      · have c_26 : ¬ ((fm j) = (0 : Int64)) := fun q9 => c_26 ((lg_cmp_eq _ _).mpr q9)
        refine lv_iconst (v := 1) hx hb dX0_isTold_29 (by decide) ?_
        refine lv_goto (tgt := 34) hx hb dX0_isTold_30 (by decide) ?_
        exact W.zret (v := 1) hx hb hr (by first | rfl | decide) (fun z8 hz8 hW8 => ⟨⟨1, (), rfl, Or.inl ⟨rfl, j, hj, rfl, Or.inr c_26⟩, trivial⟩, hS.F hz8⟩) hS.2.2 dX0_isTold_34
  · refine lv_if_eq (tgt := 33) hx hb dX0_isTold_4 (by decide) (fun _ => ?_) (fun c9 => absurd (by decide) c9)
    refine lv_iconst (v := 0) hx hb dX0_isTold_33 (by decide) ?_
    exact W.zret (v := 0) hx hb hr (by first | rfl | decide) (fun z8 hz8 hW8 => ⟨⟨0, (), rfl, Or.inr ⟨rfl, dk_tld_out hno⟩, trivial⟩, hS.F hz8⟩) hS.2.2 dX0_isTold_34
end
section
set_option maxHeartbeats 4000000 in
set_option maxRecDepth 100000 in
/-- addCharacter -/
theorem cX_addCharacter (l : Launch) (dC : Nat → ClassId) (dI : Nat → Nat → Nat) (sz : Nat) (h0 qo qw qc qn qm ql : Nat) (k6 : ClassId) (d tk : Int32) (n : Nat) (hn9 : n < 104) (fl : Nat → Int32) (ch : Nat) (hc9 : ch < 65536) : Met l yX0_addCharacter wsX0_addCharacter ({ frames := 0, cells := 0, slots := 0, locals := 0 }) (dk_Pw [.ref h0, .int (nI ch)] (dC, dI) vwCl [(k6, .char)] [(h0, .inr (0, [.int d, .int tk, .ref qo, .ref qw, .ref qc, .ref qn, .ref qm, .ref ql, .int (nI n)])), (ql, .inl (k6, 104, .inl fl))] sz) (va_Qv (fun (_ : Unit) => True) (fun (_ : Unit) z8 => dk_B (dC, dI) vwCl (va_A [(h0, .inr (0, [.int d, .int tk, .ref qo, .ref qw, .ref qc, .ref qn, .ref qm, .ref ql, .int (nI n)])), (ql, .inl (k6, 104, .inl fl))] sz) [(h0, .inr (0, [.int d, .int tk, .ref qo, .ref qw, .ref qc, .ref qn, .ref qm, .ref ql, .int (nI (n + 1))])), (ql, .inl (k6, 104, .inl (upd fl n (nI ch))))] z8) (va_A [(h0, .inr (0, [.int d, .int tk, .ref qo, .ref qw, .ref qc, .ref qn, .ref qm, .ref ql, .int (nI n)])), (ql, .inl (k6, 104, .inl fl))] sz)) 0 0 (va_A [(h0, .inr (0, [.int d, .int tk, .ref qo, .ref qw, .ref qc, .ref qn, .ref qm, .ref ql, .int (nI n)])), (ql, .inl (k6, 104, .inl fl))] sz) := by
  refine Met.ofW (cc := cX0_addCharacter) (maxL := 2) (ret := none) (by decide) rfl ?_
  intro p e s m args below meth c s₁ B hml hv
  obtain ⟨rfl, hsz, hP, hK, hD0⟩ := hv
  have hx := B.exec
  have hb := B.bytes
  have hr := B.returns
  have hts := atoms_spec (ws := wsX0_addCharacter) B.pre
  have hown : s.vm.findClass RX0 = some m.cls := findClass_of_methodNamed B.named
  have hlocks := B.notSynchronized
  have hinX0 : ∀ w ∈ wsX00, w ∈ wsX0_addCharacter := by decide +kernel
  subst hsz
  have hD := hD0.self (sz := s.heap.size)
  generalize hAe : va_A [(h0, .inr (0, [.int d, .int tk, .ref qo, .ref qw, .ref qc, .ref qn, .ref qm, .ref ql, .int (nI n)])), (ql, .inl (k6, 104, .inl fl))] s.heap.size = A at hD ⊢
  have hA : ∀ q : Nat, s.heap.size ≤ q → A q := fun q h => by rw [← hAe]; exact Or.inr h
  have hS : va_S A s.heap s.heap [] := va_S.rf
  have hl := lv_entry ([.ref h0, .int (nI ch)]) (n := 2) (Nat.le_of_ble_eq_true rfl)
  rw [lg_entry_eq]
  generalize (lg_sl ([.ref h0, .int (nI ch)]) ++ List.replicate (2 - (lg_sl ([.ref h0, .int (nI ch)])).length) Slot.unset).toArray = ls at hl ⊢
  have hl : lv_has ls 2 [(0, .ref h0), (1, .int (nI ch))] := hl
  refine lv_aload_n hx hb dX0_addCharacter_0 rfl (lv_at hl 0 rfl) ?_
  refine va_get (D := (dC, dI)) (ci := 0) (v := .int (nI n)) (C := RX0) (T := TX0) (N := 9) hx hb hts hinX0 hown hK hP 0 rfl rfl 8 (by decide) (hts (.fieldLink RX0 36 "DayDesk" "lineLength" "I") (by decide +kernel)) (fun _ h9 => h9) rfl dX0_addCharacter_1 ?_
  refine dk_if_lt (x := n) (tgt := 39) hx hb dX0_addCharacter_4 (by decide) (by omega) ?_
  refine lv_aload_n hx hb dX0_addCharacter_7 rfl (lv_at hl 0 rfl) ?_
  refine va_get (D := (dC, dI)) (ci := 0) (v := .int (nI n)) (C := RX0) (T := TX0) (N := 9) hx hb hts hinX0 hown hK hP 0 rfl rfl 8 (by decide) (hts (.fieldLink RX0 36 "DayDesk" "lineLength" "I") (by decide +kernel)) (fun _ h9 => h9) rfl dX0_addCharacter_8 ?_
  refine lv_aload_n hx hb dX0_addCharacter_11 rfl (lv_at hl 0 rfl) ?_
  refine va_get (D := (dC, dI)) (ci := 0) (v := .ref ql) (C := RX0) (T := TX0) (N := 9) hx hb hts hinX0 hown hK hP 0 rfl rfl 7 (by decide) (hts (.fieldLink RX0 32 "DayDesk" "line" "[C") (by decide +kernel)) (fun _ h9 => h9) rfl dX0_addCharacter_12 ?_
  refine va_alen hx hb hK hP 1 0 rfl rfl (v := nI 104) rfl dX0_addCharacter_15 ?_
  refine dk_icmp_ge (x := n) (y := 104) (tgt := 39) hx hb dX0_addCharacter_16 (by decide) (by omega) (by omega) (fun c_16 => ?_) (fun c_16 => ?_)
  · exfalso; omega
  · refine lv_aload_n hx hb dX0_addCharacter_19 rfl (lv_at hl 0 rfl) ?_
    refine va_get (D := (dC, dI)) (ci := 0) (v := .ref ql) (C := RX0) (T := TX0) (N := 9) hx hb hts hinX0 hown hK hP 0 rfl rfl 7 (by decide) (hts (.fieldLink RX0 32 "DayDesk" "line" "[C") (by decide +kernel)) (fun _ h9 => h9) rfl dX0_addCharacter_20 ?_
    refine lv_aload_n hx hb dX0_addCharacter_23 rfl (lv_at hl 0 rfl) ?_
    refine va_get (D := (dC, dI)) (ci := 0) (v := .int (nI n)) (C := RX0) (T := TX0) (N := 9) hx hb hts hinX0 hown hK hP 0 rfl rfl 8 (by decide) (hts (.fieldLink RX0 36 "DayDesk" "lineLength" "I") (by decide +kernel)) (fun _ h9 => h9) rfl dX0_addCharacter_24 ?_
    refine lv_iload_n hx hb dX0_addCharacter_27 rfl (lv_at hl 1 rfl) ?_
    refine dk_cast hx hb hK hP hD hS 1 0 rfl rfl (j := n) (x := ch) (by omega) (by omega) (by omega) dX0_addCharacter_28 (fun H locs hP hD hS => ?_)
    have hP : va_P (dC, dI) vwCl [(h0, .inr (0, [.int d, .int tk, .ref qo, .ref qw, .ref qc, .ref qn, .ref qm, .ref ql, .int (nI n)])), (ql, .inl (k6, 104, .inl (upd fl n (nI ch))))] H := hP
    have hD : va_D A [(h0, .inr (0, [.int d, .int tk, .ref qo, .ref qw, .ref qc, .ref qn, .ref qm, .ref ql, .int (nI n)])), (ql, .inl (k6, 104, .inl (upd fl n (nI ch))))] := hD
    refine lv_aload_n hx hb dX0_addCharacter_29 rfl (lv_at hl 0 rfl) ?_
    refine lv_dup hx hb dX0_addCharacter_30 rfl ?_
    refine va_get (D := (dC, dI)) (ci := 0) (v := .int (nI n)) (C := RX0) (T := TX0) (N := 9) hx hb hts hinX0 hown hK hP 0 rfl rfl 8 (by decide) (hts (.fieldLink RX0 36 "DayDesk" "lineLength" "I") (by decide +kernel)) (fun _ h9 => h9) rfl dX0_addCharacter_31 ?_
    refine lv_iconst (v := 1) hx hb dX0_addCharacter_34 (by decide) ?_
    refine lv_iadd hx hb dX0_addCharacter_35 ?_
    refine dk_asi (y := nI (n + 1)) (nI_add n 1) ?_
    refine va_put (D := (dC, dI)) (ci := 0) (v := .int (nI (n + 1))) (ty := .int) (C := RX0) (T := TX0) (N := 9) hx hb hts hinX0 tyX0 tyX0_ok nmX0 hown hK hP hD hS 0 rfl rfl 8 (by decide) (hts (.fieldLink RX0 36 "DayDesk" "lineLength" "I") (by decide +kernel)) (fun _ h9 => h9) rfl (by decide +kernel) rfl rfl (Nat.le_of_ble_eq_true rfl) dX0_addCharacter_36 (fun H locs hP hD hS => ?_)
    have hP : va_P (dC, dI) vwCl [(h0, .inr (0, [.int d, .int tk, .ref qo, .ref qw, .ref qc, .ref qn, .ref qm, .ref ql, .int (nI (n + 1))])), (ql, .inl (k6, 104, .inl (upd fl n (nI ch))))] H := hP
    have hD : va_D A [(h0, .inr (0, [.int d, .int tk, .ref qo, .ref qw, .ref qc, .ref qn, .ref qm, .ref ql, .int (nI (n + 1))])), (ql, .inl (k6, 104, .inl (upd fl n (nI ch))))] := hD
    exact W.vret hx hb hr (fun z8 hz8 hW8 => ⟨⟨(), rfl, trivial, by rw [hz8]; exact hP, hD⟩, hS.F hz8⟩) hS.2.2 dX0_addCharacter_39
set_option maxHeartbeats 4000000 in
set_option maxRecDepth 100000 in
/-- addNumber: a number in digits, behind what stands there -/
theorem cX_addNumber (l : Launch) (dC : Nat → ClassId) (dI : Nat → Nat → Nat) (sz : Nat) (h0 qo qw qc qn qm ql : Nat) (k6 : ClassId) (d tk : Int32) (n : Nat) (fl : Nat → Int32) (v : Int64) (hv9 : -9223372036854775808 < v.toInt) (hn9 : n + (dk_num v).length ≤ 104) : Met l yX0_addNumber wsX0_addNumber ({ frames := 1, cells := 0, slots := 0, locals := 21 }) (dk_Pw [.ref h0, .long v] (dC, dI) vwCl [(k6, .char)] [(h0, .inr (0, [.int d, .int tk, .ref qo, .ref qw, .ref qc, .ref qn, .ref qm, .ref ql, .int (nI n)])), (ql, .inl (k6, 104, .inl fl))] sz) (va_Qv (fun (_ : Unit) => True) (fun (_ : Unit) z8 => dk_B (dC, dI) vwCl (va_A [(h0, .inr (0, [.int d, .int tk, .ref qo, .ref qw, .ref qc, .ref qn, .ref qm, .ref ql, .int (nI n)])), (ql, .inl (k6, 104, .inl fl))] sz) [(h0, .inr (0, [.int d, .int tk, .ref qo, .ref qw, .ref qc, .ref qn, .ref qm, .ref ql, .int (nI (n + (dk_num v).length))])), (ql, .inl (k6, 104, .inl (dk_ap fl n (dk_num v))))] z8) (va_A [(h0, .inr (0, [.int d, .int tk, .ref qo, .ref qw, .ref qc, .ref qn, .ref qm, .ref ql, .int (nI n)])), (ql, .inl (k6, 104, .inl fl))] sz)) 0 0 (va_A [(h0, .inr (0, [.int d, .int tk, .ref qo, .ref qw, .ref qc, .ref qn, .ref qm, .ref ql, .int (nI n)])), (ql, .inl (k6, 104, .inl fl))] sz) := by
  refine Met.ofW (cc := cX0_addNumber) (maxL := 7) (ret := none) (by decide) rfl ?_
  intro p e s m args below meth c s₁ B hml hv
  obtain ⟨rfl, hsz, hP, hK, hD0⟩ := hv
  have hx := B.exec
  have hb := B.bytes
  have hr := B.returns
  have hts := atoms_spec (ws := wsX0_addNumber) B.pre
  have hown : s.vm.findClass RX0 = some m.cls := findClass_of_methodNamed B.named
  have hlocks := B.notSynchronized
  subst hsz
  have hD := hD0.self (sz := s.heap.size)
  generalize hAe : va_A [(h0, .inr (0, [.int d, .int tk, .ref qo, .ref qw, .ref qc, .ref qn, .ref qm, .ref ql, .int (nI n)])), (ql, .inl (k6, 104, .inl fl))] s.heap.size = A at hD ⊢
  have hA : ∀ q : Nat, s.heap.size ≤ q → A q := fun q h => by rw [← hAe]; exact Or.inr h
  have hS : va_S A s.heap s.heap [] := va_S.rf
  have hl := lv_entry ([.ref h0, .long v]) (n := 7) (Nat.le_of_ble_eq_true rfl)
  rw [lg_entry_eq]
  generalize (lg_sl ([.ref h0, .long v]) ++ List.replicate (7 - (lg_sl ([.ref h0, .long v])).length) Slot.unset).toArray = ls at hl ⊢
  have hl : lv_has ls 7 [(0, .ref h0), (1, .long v)] := hl
  obtain ⟨z, hz⟩ : ∃ z : Nat, z = v.toInt.natAbs := ⟨_, rfl⟩
  have hz63 : z < 2 ^ 63 := by have a9 := v.toInt_lt; have b9 := v.le_toInt; omega
  obtain ⟨FL, hFL⟩ : ∃ FL : Nat → Int32, FL = dk_ap fl n (dk_num v) := ⟨_, rfl⟩
  obtain ⟨NN, hNN⟩ : ∃ NN : Nat, NN = n + (dk_num v).length := ⟨_, rfl⟩
  have emit : ∀ (k i : Nat) (f : Nat → Int32), k ≤ 18 → i < 104 → ∀ (H : Heap) (locs : List Loc), va_P (dC, dI) vwCl [(h0, .inr (0, [.int d, .int tk, .ref qo, .ref qw, .ref qc, .ref qn, .ref qm, .ref ql, .int (nI i)])), (ql, .inl (k6, 104, .inl f))] H → va_D A [(h0, .inr (0, [.int d, .int tk, .ref qo, .ref qw, .ref qc, .ref qn, .ref qm, .ref ql, .int (nI i)])), (ql, .inl (k6, 104, .inl f))] → va_S A s.heap H locs → ∀ ls : Array Slot, lv_has ls 7 [(5, .long (lN (10 ^ k))), (3, .long (lN z)), (0, .ref h0), (1, .long v)] → (∀ (H1 : Heap) (locs1 : List Loc), va_P (dC, dI) vwCl [(h0, .inr (0, [.int d, .int tk, .ref qo, .ref qw, .ref qc, .ref qn, .ref qm, .ref ql, .int (nI (i + 1))])), (ql, .inl (k6, 104, .inl (upd f i (nI (48 + z / 10 ^ k % 10)))))] H1 → va_D A [(h0, .inr (0, [.int d, .int tk, .ref qo, .ref qw, .ref qc, .ref qn, .ref qm, .ref ql, .int (nI (i + 1))])), (ql, .inl (k6, 104, .inl (upd f i (nI (48 + z / 10 ^ k % 10)))))] → va_S A s.heap H1 locs1 → W p l e (headSpec wsX0_addNumber ({ frames := 1, cells := 0, slots := 0, locals := 21 })).room s m ([.ref h0, .long v] : List Value).toArray below meth c H1 locs1 0 0 (MQ below (va_Qv (fun (_ : Unit) => True) (fun (_ : Unit) z8 => dk_B (dC, dI) vwCl A [(h0, .inr (0, [.int d, .int tk, .ref qo, .ref qw, .ref qc, .ref qn, .ref qm, .ref ql, .int (nI (n + (dk_num v).length))])), (ql, .inl (k6, 104, .inl (dk_ap fl n (dk_num v))))] z8) A) ([.ref h0, .long v] : List Value).toArray s 0 0 A) (F0 m 69 ls [])) → W p l e (headSpec wsX0_addNumber ({ frames := 1, cells := 0, slots := 0, locals := 21 })).room s m ([.ref h0, .long v] : List Value).toArray below meth c H locs 0 0 (MQ below (va_Qv (fun (_ : Unit) => True) (fun (_ : Unit) z8 => dk_B (dC, dI) vwCl A [(h0, .inr (0, [.int d, .int tk, .ref qo, .ref qw, .ref qc, .ref qn, .ref qm, .ref ql, .int (nI (n + (dk_num v).length))])), (ql, .inl (k6, 104, .inl (dk_ap fl n (dk_num v))))] z8) A) ([.ref h0, .long v] : List Value).toArray s 0 0 A) (F0 m 51 ls []) := by
    intro k i f hk hi H locs hP hD hS ls hl kk
    have hp10 := dk_p10 hk
    refine lv_aload_n hx hb dX0_addNumber_51 rfl (lv_at hl 2 rfl) ?_
    refine lv_ldc2 (v := lN 48) hx hb hown (hts (.constantLong RX0 97 (lN 48)) (by decide +kernel)) dX0_addNumber_52 ?_
    refine lv_lload_n hx hb dX0_addNumber_55 rfl (lv_at hl 1 rfl) ?_
    refine lv_lload hx hb dX0_addNumber_56 (lv_at hl 0 rfl) ?_
    refine lv_ldiv hx hb dX0_addNumber_58 (dk_lne (by omega) (by omega)) ?_
    refine dk_asl (y := lN (z / 10 ^ k)) (pk_lDiv (by omega) (by omega) (by omega)) ?_
    refine lv_ldc2 (v := lN 10) hx hb hown (hts (.constantLong RX0 99 (lN 10)) (by decide +kernel)) dX0_addNumber_59 ?_
    refine lv_lrem hx hb dX0_addNumber_62 (by decide) ?_
    refine dk_asl (y := lN (z / 10 ^ k % 10)) (pk_lRem (dk_dlt (by omega)) (by omega) (by omega)) ?_
    refine lv_ladd hx hb dX0_addNumber_63 ?_
    refine dk_asl (y := lN (48 + z / 10 ^ k % 10)) (lN_add _ _) ?_
    refine lv_l2i (v := (lN (48 + z / 10 ^ k % 10)).toInt32) hx hb dX0_addNumber_64 rfl ?_
    refine dk_asi (y := nI (48 + z / 10 ^ k % 10)) (lN_i _) ?_
    refine lv_i2c (v := ((nI (48 + z / 10 ^ k % 10)).toUInt32 % 65536).toInt32) hx hb dX0_addNumber_65 rfl ?_
    refine dk_asi (y := nI (48 + z / 10 ^ k % 10)) (dk_chr (by omega)) ?_
    have hPc := hP
    have hDc := hD
    have hFc := va_free (wc := [(h0, .inr (0, [.int d, .int tk, .ref qo, .ref qw, .ref qc, .ref qn, .ref qm, .ref ql, .int (nI i)])), (ql, .inl (k6, 104, .inl f))]) hD hS hA [0, 1] rfl
    have hKc := hK
    refine va_callv (va_runV (As := [.int (nI (48 + z / 10 ^ k % 10))]) (rest := []) ⟨hx, hb, hml, hown, hts⟩ (cX_addCharacter l dC dI _ h0 qo qw qc qn qm ql k6 d tk i (by omega) f (48 + z / 10 ^ k % 10) (by omega)) (cwV 1 hts gX0_addNumber_X0_addCharacter rfl rfl rfl (by decide +kernel) ⟨Nat.le_of_ble_eq_true rfl, Nat.le_of_ble_eq_true rfl⟩) (dk_wV hPc hKc hDc (ci := 0) (q0 := 0) rfl rfl) rfl rfl hl.1 rfl (lv_room (Nat.le_of_ble_eq_true rfl)) dX0_addNumber_66 ⟨Nat.zero_le _, Nat.zero_le _⟩) hS (fun q _ h => hFc q h) hFc (fun u8 t8 H1 locs ht8 hvm8 hw hB hz1 hk1 hS => ?_)
    try dsimp only at hw
    obtain ⟨hP1, hD1⟩ := hB
    rw [ht8] at hP1
    obtain ⟨hP, hD⟩ := va_join (wr := []) (w1 := [(h0, .inr (0, [.int d, .int tk, .ref qo, .ref qw, .ref qc, .ref qn, .ref qm, .ref ql, .int (nI (i + 1))])), (ql, .inl (k6, 104, .inl (upd f i (nI (48 + z / 10 ^ k % 10)))))]) hP hD [0, 1] [] rfl rfl (by decide) (by decide) hk1 hFc hP1 hD1
    generalize H1 = H at hP hS ⊢
    have hP : va_P (dC, dI) vwCl [(h0, .inr (0, [.int d, .int tk, .ref qo, .ref qw, .ref qc, .ref qn, .ref qm, .ref ql, .int (nI (i + 1))])), (ql, .inl (k6, 104, .inl (upd f i (nI (48 + z / 10 ^ k % 10)))))] H := hP
    have hD : va_D A [(h0, .inr (0, [.int d, .int tk, .ref qo, .ref qw, .ref qc, .ref qn, .ref qm, .ref ql, .int (nI (i + 1))])), (ql, .inl (k6, 104, .inl (upd f i (nI (48 + z / 10 ^ k % 10)))))] := hD
    exact kk _ _ hP hD hS
  have loop : ∀ (k i : Nat) (f : Nat → Int32), k ≤ 18 → i + (dk_dg k z).length = NN → NN ≤ 104 → dk_ap f i (dk_dg k z) = FL → ∀ (H : Heap) (locs : List Loc), va_P (dC, dI) vwCl [(h0, .inr (0, [.int d, .int tk, .ref qo, .ref qw, .ref qc, .ref qn, .ref qm, .ref ql, .int (nI i)])), (ql, .inl (k6, 104, .inl f))] H → va_D A [(h0, .inr (0, [.int d, .int tk, .ref qo, .ref qw, .ref qc, .ref qn, .ref qm, .ref ql, .int (nI i)])), (ql, .inl (k6, 104, .inl f))] → va_S A s.heap H locs → ∀ ls : Array Slot, lv_has ls 7 [(5, .long (lN (10 ^ k))), (3, .long (lN z)), (0, .ref h0), (1, .long v)] → W p l e (headSpec wsX0_addNumber ({ frames := 1, cells := 0, slots := 0, locals := 21 })).room s m ([.ref h0, .long v] : List Value).toArray below meth c H locs 0 0 (MQ below (va_Qv (fun (_ : Unit) => True) (fun (_ : Unit) z8 => dk_B (dC, dI) vwCl A [(h0, .inr (0, [.int d, .int tk, .ref qo, .ref qw, .ref qc, .ref qn, .ref qm, .ref ql, .int (nI (n + (dk_num v).length))])), (ql, .inl (k6, 104, .inl (dk_ap fl n (dk_num v))))] z8) A) ([.ref h0, .long v] : List Value).toArray s 0 0 A) (F0 m 30 ls []) := by
    intro k
    induction k with
    | zero =>
      intro i f hk hlen hNN9 hap H locs hP hD hS ls hl
      have hp10 := dk_p10 hk
      refine lv_lload hx hb dX0_addNumber_30 (lv_at hl 0 rfl) ?_
      refine lv_lconst (v := 0) hx hb dX0_addNumber_32 (by decide) ?_
      refine W.lcmp hx hb dX0_addNumber_33 ?_
      refine lv_if_le (tgt := 80) hx hb dX0_addNumber_34 (by decide) (fun c_34 => ?_) (fun c_34 => ?_)
      · have c_34 : (lN (10 ^ 0)) ≤ (0 : Int64) := (lg_cmp_le _ _).mp c_34
        exact absurd c_34 (dk_lpos (by omega) (by omega))
      · have c_34 : ¬ ((lN (10 ^ 0)) ≤ (0 : Int64)) := fun q9 => c_34 ((lg_cmp_le _ _).mpr q9)
        refine lv_lload_n hx hb dX0_addNumber_37 rfl (lv_at hl 1 rfl) ?_
        refine lv_lload hx hb dX0_addNumber_38 (lv_at hl 0 rfl) ?_
        refine W.lcmp hx hb dX0_addNumber_40 ?_
        refine lv_if_ge (tgt := 51) hx hb dX0_addNumber_41 (by decide) (fun c_41 => ?_) (fun c_41 => ?_)
        · have c_41 : (lN (10 ^ 0)) ≤ (lN z) := (lg_cmp_ge _ _).mp c_41
          have hdig : dk_dg 0 z = [48 + z % 10] := rfl
          have hd2 : z / 10 ^ 0 % 10 = z % 10 := by rw [Nat.pow_zero, Nat.div_one]
          refine emit 0 i f (by omega) (by rw [hdig, List.length_singleton] at hlen; omega) H locs hP hD hS ls hl (fun H locs hP hD hS => ?_)
          rw [hd2] at hP hD
          refine lv_lload hx hb dX0_addNumber_69 (lv_at hl 0 rfl) ?_
          refine lv_ldc2 (v := lN 10) hx hb hown (hts (.constantLong RX0 99 (lN 10)) (by decide +kernel)) dX0_addNumber_71 ?_
          refine lv_ldiv hx hb dX0_addNumber_74 (by decide) ?_
          refine dk_asl (y := 0) (by decide) ?_
          refine lv_lstore (lv' := [(5, .long 0), (3, .long (lN z)), (0, .ref h0), (1, .long v)]) hx hb dX0_addNumber_75 hl (by decide) rfl (fun ls hl => ?_)
          refine lv_goto (tgt := 30) hx hb dX0_addNumber_77 (by decide) ?_
          refine lv_lload hx hb dX0_addNumber_30 (lv_at hl 0 rfl) ?_
          refine lv_lconst (v := 0) hx hb dX0_addNumber_32 (by decide) ?_
          refine W.lcmp hx hb dX0_addNumber_33 ?_
          refine lv_if_le (tgt := 80) hx hb dX0_addNumber_34 (by decide) (fun c_34 => ?_) (fun c_34 => ?_)
          · have c_34 : (0 : Int64) ≤ (0 : Int64) := (lg_cmp_le _ _).mp c_34
            have e1 : i + 1 = n + (dk_num v).length := by rw [hdig, List.length_singleton] at hlen; omega
            have e2 : upd f i (nI (48 + z % 10)) = dk_ap fl n (dk_num v) := by rw [← hFL, ← hap, hdig, dk_ap_cons, dk_ap_nil]
            rw [e1, e2] at hP hD
            exact W.vret hx hb hr (fun z8 hz8 hW8 => ⟨⟨(), rfl, trivial, by rw [hz8]; exact hP, hD⟩, hS.F hz8⟩) hS.2.2 dX0_addNumber_80
          · have c_34 : ¬ ((0 : Int64) ≤ (0 : Int64)) := fun q9 => c_34 ((lg_cmp_le _ _).mpr q9)
            exact absurd (by decide) c_34
        · have c_41 : ¬ ((lN (10 ^ 0)) ≤ (lN z)) := fun q9 => c_41 ((lg_cmp_ge _ _).mpr q9)
          refine lv_lload hx hb dX0_addNumber_44 (lv_at hl 0 rfl) ?_
          refine lv_lconst (v := lN 1) hx hb dX0_addNumber_46 (by decide) ?_
          refine W.lcmp hx hb dX0_addNumber_47 ?_
          refine lv_if_ne (tgt := 69) hx hb dX0_addNumber_48 (by decide) (fun c_48 => ?_) (fun c_48 => ?_)
          · have c_48 : ¬ ((lN (10 ^ 0)) = (lN 1)) := fun q9 => c_48 ((lg_cmp_eq _ _).mpr q9)
            exact absurd (by decide) c_48
          · have c_48 : (lN (10 ^ 0)) = (lN 1) := (lg_cmp_eq _ _).mp c_48
            have hdig : dk_dg 0 z = [48 + z % 10] := rfl
            have hd2 : z / 10 ^ 0 % 10 = z % 10 := by rw [Nat.pow_zero, Nat.div_one]
            refine emit 0 i f (by omega) (by rw [hdig, List.length_singleton] at hlen; omega) H locs hP hD hS ls hl (fun H locs hP hD hS => ?_)
            rw [hd2] at hP hD
            refine lv_lload hx hb dX0_addNumber_69 (lv_at hl 0 rfl) ?_
            refine lv_ldc2 (v := lN 10) hx hb hown (hts (.constantLong RX0 99 (lN 10)) (by decide +kernel)) dX0_addNumber_71 ?_
            refine lv_ldiv hx hb dX0_addNumber_74 (by decide) ?_
            refine dk_asl (y := 0) (by decide) ?_
            refine lv_lstore (lv' := [(5, .long 0), (3, .long (lN z)), (0, .ref h0), (1, .long v)]) hx hb dX0_addNumber_75 hl (by decide) rfl (fun ls hl => ?_)
            refine lv_goto (tgt := 30) hx hb dX0_addNumber_77 (by decide) ?_
            refine lv_lload hx hb dX0_addNumber_30 (lv_at hl 0 rfl) ?_
            refine lv_lconst (v := 0) hx hb dX0_addNumber_32 (by decide) ?_
            refine W.lcmp hx hb dX0_addNumber_33 ?_
            refine lv_if_le (tgt := 80) hx hb dX0_addNumber_34 (by decide) (fun c_34 => ?_) (fun c_34 => ?_)
            · have c_34 : (0 : Int64) ≤ (0 : Int64) := (lg_cmp_le _ _).mp c_34
              have e1 : i + 1 = n + (dk_num v).length := by rw [hdig, List.length_singleton] at hlen; omega
              have e2 : upd f i (nI (48 + z % 10)) = dk_ap fl n (dk_num v) := by rw [← hFL, ← hap, hdig, dk_ap_cons, dk_ap_nil]
              rw [e1, e2] at hP hD
              exact W.vret hx hb hr (fun z8 hz8 hW8 => ⟨⟨(), rfl, trivial, by rw [hz8]; exact hP, hD⟩, hS.F hz8⟩) hS.2.2 dX0_addNumber_80
            · have c_34 : ¬ ((0 : Int64) ≤ (0 : Int64)) := fun q9 => c_34 ((lg_cmp_le _ _).mpr q9)
              exact absurd (by decide) c_34
    | succ k ih =>
      intro i f hk hlen hNN9 hap H locs hP hD hS ls hl
      have hp10 := dk_p10 hk
      have hp11 := dk_p10 (k := k) (by omega)
      have hpq : 10 ^ (k + 1) = 10 ^ k * 10 := Nat.pow_succ ..
      refine lv_lload hx hb dX0_addNumber_30 (lv_at hl 0 rfl) ?_
      refine lv_lconst (v := 0) hx hb dX0_addNumber_32 (by decide) ?_
      refine W.lcmp hx hb dX0_addNumber_33 ?_
      refine lv_if_le (tgt := 80) hx hb dX0_addNumber_34 (by decide) (fun c_34 => ?_) (fun c_34 => ?_)
      · have c_34 : (lN (10 ^ (k + 1))) ≤ (0 : Int64) := (lg_cmp_le _ _).mp c_34
        exact absurd c_34 (dk_lpos (by omega) (by omega))
      · have c_34 : ¬ ((lN (10 ^ (k + 1))) ≤ (0 : Int64)) := fun q9 => c_34 ((lg_cmp_le _ _).mpr q9)
        refine lv_lload_n hx hb dX0_addNumber_37 rfl (lv_at hl 1 rfl) ?_
        refine lv_lload hx hb dX0_addNumber_38 (lv_at hl 0 rfl) ?_
        refine W.lcmp hx hb dX0_addNumber_40 ?_
        refine lv_if_ge (tgt := 51) hx hb dX0_addNumber_41 (by decide) (fun c_41 => ?_) (fun c_41 => ?_)
        · have c_41 : (lN (10 ^ (k + 1))) ≤ (lN z) := (lg_cmp_ge _ _).mp c_41
          have hge : 10 ^ (k + 1) ≤ z := (pk_lLE (by omega) (by omega)).mp c_41
          have hdig : dk_dg (k + 1) z = (48 + z / 10 ^ (k + 1) % 10) :: dk_dg k z := by show (if 10 ^ (k + 1) ≤ z then [48 + z / 10 ^ (k + 1) % 10] else []) ++ dk_dg k z = _; rw [if_pos hge]; rfl
          rw [hdig, List.length_cons] at hlen
          rw [hdig, dk_ap_cons] at hap
          refine emit (k + 1) i f (by omega) (by omega) H locs hP hD hS ls hl (fun H locs hP hD hS => ?_)
          refine lv_lload hx hb dX0_addNumber_69 (lv_at hl 0 rfl) ?_
          refine lv_ldc2 (v := lN 10) hx hb hown (hts (.constantLong RX0 99 (lN 10)) (by decide +kernel)) dX0_addNumber_71 ?_
          refine lv_ldiv hx hb dX0_addNumber_74 (by decide) ?_
          refine dk_asl (y := lN (10 ^ k)) (by rw [pk_lDiv (by omega) (by omega) (by omega), hpq, Nat.mul_div_cancel _ (by omega)]) ?_
          refine lv_lstore (lv' := [(5, .long (lN (10 ^ k))), (3, .long (lN z)), (0, .ref h0), (1, .long v)]) hx hb dX0_addNumber_75 hl (by decide) rfl (fun ls hl => ?_)
          refine lv_goto (tgt := 30) hx hb dX0_addNumber_77 (by decide) ?_
          exact ih (i + 1) (upd f i (nI (48 + z / 10 ^ (k + 1) % 10))) (by omega) (by omega) hNN9 hap _ _ hP hD hS ls (lv_sub hl [0, 1, 2, 3] rfl)
        · have c_41 : ¬ ((lN (10 ^ (k + 1))) ≤ (lN z)) := fun q9 => c_41 ((lg_cmp_ge _ _).mpr q9)
          refine lv_lload hx hb dX0_addNumber_44 (lv_at hl 0 rfl) ?_
          refine lv_lconst (v := lN 1) hx hb dX0_addNumber_46 (by decide) ?_
          refine W.lcmp hx hb dX0_addNumber_47 ?_
          refine lv_if_ne (tgt := 69) hx hb dX0_addNumber_48 (by decide) (fun c_48 => ?_) (fun c_48 => ?_)
          · have c_48 : ¬ ((lN (10 ^ (k + 1))) = (lN 1)) := fun q9 => c_48 ((lg_cmp_eq _ _).mpr q9)
            have hlt : ¬ 10 ^ (k + 1) ≤ z := fun q9 => c_41 ((pk_lLE (by omega) (by omega)).mpr q9)
            have hdig : dk_dg (k + 1) z = dk_dg k z := by show (if 10 ^ (k + 1) ≤ z then [48 + z / 10 ^ (k + 1) % 10] else []) ++ dk_dg k z = _; rw [if_neg hlt]; rfl
            rw [hdig] at hlen hap
            refine lv_lload hx hb dX0_addNumber_69 (lv_at hl 0 rfl) ?_
            refine lv_ldc2 (v := lN 10) hx hb hown (hts (.constantLong RX0 99 (lN 10)) (by decide +kernel)) dX0_addNumber_71 ?_
            refine lv_ldiv hx hb dX0_addNumber_74 (by decide) ?_
            refine dk_asl (y := lN (10 ^ k)) (by rw [pk_lDiv (by omega) (by omega) (by omega), hpq, Nat.mul_div_cancel _ (by omega)]) ?_
            refine lv_lstore (lv' := [(5, .long (lN (10 ^ k))), (3, .long (lN z)), (0, .ref h0), (1, .long v)]) hx hb dX0_addNumber_75 hl (by decide) rfl (fun ls hl => ?_)
            refine lv_goto (tgt := 30) hx hb dX0_addNumber_77 (by decide) ?_
            exact ih i f (by omega) hlen hNN9 hap _ _ hP hD hS ls (lv_sub hl [0, 1, 2, 3] rfl)
          · have c_48 : (lN (10 ^ (k + 1))) = (lN 1) := (lg_cmp_eq _ _).mp c_48
            exact absurd ((pk_lEQ (by omega) (by omega)).mp c_48) (by omega)
  refine lv_lload_n hx hb dX0_addNumber_0 rfl (lv_at hl 1 rfl) ?_
  refine lv_lconst (v := 0) hx hb dX0_addNumber_1 (by decide) ?_
  refine W.lcmp hx hb dX0_addNumber_2 ?_
  refine lv_if_ge (tgt := 12) hx hb dX0_addNumber_3 (by decide) (fun c_3 => ?_) (fun c_3 => ?_)
  · have c_3 : (0 : Int64) ≤ v := (lg_cmp_ge _ _).mp c_3
    refine lv_lload_n hx hb dX0_addNumber_12 rfl (lv_at hl 1 rfl) ?_
    refine lv_lconst (v := 0) hx hb dX0_addNumber_13 (by decide) ?_
    refine W.lcmp hx hb dX0_addNumber_14 ?_
    refine lv_if_ge (tgt := 23) hx hb dX0_addNumber_15 (by decide) (fun c_15 => ?_) (fun c_15 => ?_)
    · have c_15 : (0 : Int64) ≤ v := (lg_cmp_ge _ _).mp c_15
      refine lv_lload_n hx hb dX0_addNumber_23 rfl (lv_at hl 1 rfl) ?_
      have hv : v = lN z := by rw [hz]; exact dk_absP c_3
      refine dk_asl (y := lN z) hv ?_
      refine lv_lstore_n (lv' := [(3, .long (lN z)), (0, .ref h0), (1, .long v)]) hx hb dX0_addNumber_24 rfl hl (by decide) rfl (fun ls hl => ?_)
      refine lv_ldc2 (v := lN (10 ^ 18)) hx hb hown (hts (.constantLong RX0 95 (lN (10 ^ 18))) (by decide +kernel)) dX0_addNumber_25 ?_
      refine lv_lstore (lv' := [(5, .long (lN (10 ^ 18))), (3, .long (lN z)), (0, .ref h0), (1, .long v)]) hx hb dX0_addNumber_28 hl (by decide) rfl (fun ls hl => ?_)
      have hnum : dk_num v = dk_dg 18 z := by unfold dk_num; rw [if_neg (dk_lge0 c_3), ← hz]; rfl
      exact loop 18 n fl (by omega) (by rw [hNN, hnum]) (by omega) (by rw [hFL, hnum]) _ _ hP hD hS ls (lv_sub hl [0, 1, 2, 3] rfl)
    · have c_15 : ¬ ((0 : Int64) ≤ v) := fun q9 => c_15 ((lg_cmp_ge _ _).mpr q9)
      exact absurd c_3 c_15
  · have c_3 : ¬ ((0 : Int64) ≤ v) := fun q9 => c_3 ((lg_cmp_ge _ _).mpr q9)
    have hnum : dk_num v = 45 :: dk_dg 18 z := by unfold dk_num; rw [if_pos (dk_llt0 c_3), ← hz]; rfl
    have hl104 : n + ((dk_dg 18 z).length + 1) ≤ 104 := by rw [hnum, List.length_cons] at hn9; exact hn9
    refine lv_aload_n hx hb dX0_addNumber_6 rfl (lv_at hl 0 rfl) ?_
    refine lv_bipush (v := nI 45) hx hb dX0_addNumber_7 (by decide) ?_
    have hPc := hP
    have hDc := hD
    have hFc := va_free (wc := [(h0, .inr (0, [.int d, .int tk, .ref qo, .ref qw, .ref qc, .ref qn, .ref qm, .ref ql, .int (nI n)])), (ql, .inl (k6, 104, .inl fl))]) hD hS hA [0, 1] rfl
    have hKc := hK
    refine va_callv (va_runV (As := [.int (nI 45)]) (rest := []) ⟨hx, hb, hml, hown, hts⟩ (cX_addCharacter l dC dI _ h0 qo qw qc qn qm ql k6 d tk n (by omega) fl 45 (by omega)) (cwV 1 hts gX0_addNumber_X0_addCharacter rfl rfl rfl (by decide +kernel) ⟨Nat.le_of_ble_eq_true rfl, Nat.le_of_ble_eq_true rfl⟩) (dk_wV hPc hKc hDc (ci := 0) (q0 := 0) rfl rfl) rfl rfl hl.1 rfl (lv_room (Nat.le_of_ble_eq_true rfl)) dX0_addNumber_9 ⟨Nat.zero_le _, Nat.zero_le _⟩) hS (fun q _ h => hFc q h) hFc (fun u8 t8 H1 locs ht8 hvm8 hw hB hz1 hk1 hS => ?_)
    try dsimp only at hw
    obtain ⟨hP1, hD1⟩ := hB
    rw [ht8] at hP1
    obtain ⟨hP, hD⟩ := va_join (wr := []) (w1 := [(h0, .inr (0, [.int d, .int tk, .ref qo, .ref qw, .ref qc, .ref qn, .ref qm, .ref ql, .int (nI (n + 1))])), (ql, .inl (k6, 104, .inl (upd fl n (nI 45))))]) hP hD [0, 1] [] rfl rfl (by decide) (by decide) hk1 hFc hP1 hD1
    generalize H1 = H at hP hS ⊢
    have hP : va_P (dC, dI) vwCl [(h0, .inr (0, [.int d, .int tk, .ref qo, .ref qw, .ref qc, .ref qn, .ref qm, .ref ql, .int (nI (n + 1))])), (ql, .inl (k6, 104, .inl (upd fl n (nI 45))))] H := hP
    have hD : va_D A [(h0, .inr (0, [.int d, .int tk, .ref qo, .ref qw, .ref qc, .ref qn, .ref qm, .ref ql, .int (nI (n + 1))])), (ql, .inl (k6, 104, .inl (upd fl n (nI 45))))] := hD
    refine lv_lload_n hx hb dX0_addNumber_12 rfl (lv_at hl 1 rfl) ?_
    refine lv_lconst (v := 0) hx hb dX0_addNumber_13 (by decide) ?_
    refine W.lcmp hx hb dX0_addNumber_14 ?_
    refine lv_if_ge (tgt := 23) hx hb dX0_addNumber_15 (by decide) (fun c_15 => ?_) (fun c_15 => ?_)
    · have c_15 : (0 : Int64) ≤ v := (lg_cmp_ge _ _).mp c_15
      exact absurd c_15 c_3
    · have c_15 : ¬ ((0 : Int64) ≤ v) := fun q9 => c_15 ((lg_cmp_ge _ _).mpr q9)
      refine lv_lload_n hx hb dX0_addNumber_18 rfl (lv_at hl 1 rfl) ?_
      refine lv_lneg hx hb dX0_addNumber_19 ?_
      refine lv_goto (tgt := 24) hx hb dX0_addNumber_20 (by decide) ?_
      have hv : -v = lN z := by rw [hz]; exact dk_absN c_3 hv9
      refine dk_asl (y := lN z) hv ?_
      refine lv_lstore_n (lv' := [(3, .long (lN z)), (0, .ref h0), (1, .long v)]) hx hb dX0_addNumber_24 rfl hl (by decide) rfl (fun ls hl => ?_)
      refine lv_ldc2 (v := lN (10 ^ 18)) hx hb hown (hts (.constantLong RX0 95 (lN (10 ^ 18))) (by decide +kernel)) dX0_addNumber_25 ?_
      refine lv_lstore (lv' := [(5, .long (lN (10 ^ 18))), (3, .long (lN z)), (0, .ref h0), (1, .long v)]) hx hb dX0_addNumber_28 hl (by decide) rfl (fun ls hl => ?_)
      exact loop 18 (n + 1) (upd fl n (nI 45)) (by omega) (by rw [hNN, hnum, List.length_cons]; omega) (by omega) (by rw [hFL, hnum, dk_ap_cons]) _ _ hP hD hS ls (lv_sub hl [0, 1, 2, 3] rfl)
set_option maxHeartbeats 4000000 in
set_option maxRecDepth 100000 in
/-- write -/
theorem cX_write (l : Launch) (dC : Nat → ClassId) (dI : Nat → Nat → Nat) (sz : Nat) (h0 qo qw qc qn qm ql : Nat) (k1 k2 k3 k4 k5 k6 : ClassId) (d ll tk : Int32) (fo fw fc fn fm : Nat → Int64) (fl : Nat → Int32) (hbd : ∀ j : Nat, j < 200 → -9223372036854775808 < (fo j).toInt ∧ -9223372036854775808 < (fw j).toInt ∧ -9223372036854775808 < (fc j).toInt ∧ -9223372036854775808 < (fn j).toInt ∧ -9223372036854775808 < (fm j).toInt) (x : Int32) : Met l yX0_write wsX0_write ({ frames := 2, cells := 0, slots := 0, locals := 47 }) (dk_Pw [.ref h0, .int x] (dC, dI) vwCl [(k1, .long), (k2, .long), (k3, .long), (k4, .long), (k5, .long), (k6, .char)] [(h0, .inr (0, [.int d, .int tk, .ref qo, .ref qw, .ref qc, .ref qn, .ref qm, .ref ql, .int ll])), (qo, .inl (k1, 200, .inr (.inl fo))), (qw, .inl (k2, 200, .inr (.inl fw))), (qc, .inl (k3, 200, .inr (.inl fc))), (qn, .inl (k4, 200, .inr (.inl fn))), (qm, .inl (k5, 200, .inr (.inl fm))), (ql, .inl (k6, 104, .inl fl))] sz) (va_Qi (fun (r : Int32) (u : Int32 × (Nat → Int32)) => match u with | (ll2, gl) => (r = -1 ∧ (x < 0 ∨ nI 200 ≤ x) ∧ ll2 = ll ∧ gl = fl) ∨ ∃ j : Nat, j < 200 ∧ x = nI j ∧ r = nI (dk_txt (fo j) (fw j) (fc j) (fn j) (fm j)).length ∧ ll2 = nI (dk_txt (fo j) (fw j) (fc j) (fn j) (fm j)).length ∧ gl = dk_ap fl 0 (dk_txt (fo j) (fw j) (fc j) (fn j) (fm j))) (fun (u : Int32 × (Nat → Int32)) z8 => match u with | (ll2, gl) => dk_B (dC, dI) vwCl (va_A [(h0, .inr (0, [.int d, .int tk, .ref qo, .ref qw, .ref qc, .ref qn, .ref qm, .ref ql, .int ll])), (qo, .inl (k1, 200, .inr (.inl fo))), (qw, .inl (k2, 200, .inr (.inl fw))), (qc, .inl (k3, 200, .inr (.inl fc))), (qn, .inl (k4, 200, .inr (.inl fn))), (qm, .inl (k5, 200, .inr (.inl fm))), (ql, .inl (k6, 104, .inl fl))] sz) [(h0, .inr (0, [.int d, .int tk, .ref qo, .ref qw, .ref qc, .ref qn, .ref qm, .ref ql, .int ll2])), (qo, .inl (k1, 200, .inr (.inl fo))), (qw, .inl (k2, 200, .inr (.inl fw))), (qc, .inl (k3, 200, .inr (.inl fc))), (qn, .inl (k4, 200, .inr (.inl fn))), (qm, .inl (k5, 200, .inr (.inl fm))), (ql, .inl (k6, 104, .inl gl))] z8) (va_A [(h0, .inr (0, [.int d, .int tk, .ref qo, .ref qw, .ref qc, .ref qn, .ref qm, .ref ql, .int ll])), (qo, .inl (k1, 200, .inr (.inl fo))), (qw, .inl (k2, 200, .inr (.inl fw))), (qc, .inl (k3, 200, .inr (.inl fc))), (qn, .inl (k4, 200, .inr (.inl fn))), (qm, .inl (k5, 200, .inr (.inl fm))), (ql, .inl (k6, 104, .inl fl))] sz)) 0 0 (va_A [(h0, .inr (0, [.int d, .int tk, .ref qo, .ref qw, .ref qc, .ref qn, .ref qm, .ref ql, .int ll])), (qo, .inl (k1, 200, .inr (.inl fo))), (qw, .inl (k2, 200, .inr (.inl fw))), (qc, .inl (k3, 200, .inr (.inl fc))), (qn, .inl (k4, 200, .inr (.inl fn))), (qm, .inl (k5, 200, .inr (.inl fm))), (ql, .inl (k6, 104, .inl fl))] sz) := by
  refine Met.ofW (cc := cX0_write) (maxL := 2) (ret := (some .int)) (by decide) rfl ?_
  intro p e s m args below meth c s₁ B hml hv
  obtain ⟨rfl, hsz, hP, hK, hD0⟩ := hv
  have hx := B.exec
  have hb := B.bytes
  have hr := B.returns
  have hts := atoms_spec (ws := wsX0_write) B.pre
  have hown : s.vm.findClass RX0 = some m.cls := findClass_of_methodNamed B.named
  have hlocks := B.notSynchronized
  have hinX0 : ∀ w ∈ wsX00, w ∈ wsX0_write := by decide +kernel
  subst hsz
  have hD := hD0.self (sz := s.heap.size)
  generalize hAe : va_A [(h0, .inr (0, [.int d, .int tk, .ref qo, .ref qw, .ref qc, .ref qn, .ref qm, .ref ql, .int ll])), (qo, .inl (k1, 200, .inr (.inl fo))), (qw, .inl (k2, 200, .inr (.inl fw))), (qc, .inl (k3, 200, .inr (.inl fc))), (qn, .inl (k4, 200, .inr (.inl fn))), (qm, .inl (k5, 200, .inr (.inl fm))), (ql, .inl (k6, 104, .inl fl))] s.heap.size = A at hD ⊢
  have hA : ∀ q : Nat, s.heap.size ≤ q → A q := fun q h => by rw [← hAe]; exact Or.inr h
  have hS : va_S A s.heap s.heap [] := va_S.rf
  have hl := lv_entry ([.ref h0, .int x]) (n := 2) (Nat.le_of_ble_eq_true rfl)
  rw [lg_entry_eq]
  generalize (lg_sl ([.ref h0, .int x]) ++ List.replicate (2 - (lg_sl ([.ref h0, .int x])).length) Slot.unset).toArray = ls at hl ⊢
  have hl : lv_has ls 2 [(0, .ref h0), (1, .int x)] := hl
  refine lv_iload_n hx hb dX0_write_0 rfl (lv_at hl 1 rfl) ?_
  have hKc := hK.sub (tys' := []) [] rfl
  refine va_calli (va_runS (As := [.int x]) (rest := []) ⟨hx, hb, hml, hown, hts⟩ (cX_isPosition l dC dI x) (va_cwS 1 hts gX0_write_X0_isPosition rfl rfl rfl (by decide +kernel) ⟨Nat.le_of_ble_eq_true rfl, Nat.le_of_ble_eq_true rfl⟩) (dk_rS dk_P0 hKc) rfl rfl hl.1 rfl (lv_room (Nat.le_of_ble_eq_true rfl)) dX0_write_1 ⟨Nat.zero_le _, Nat.zero_le _⟩) hS (fun q _ h => False.elim h) (fun q h => False.elim h) (fun r_1 u8 t8 H1 locs ht8 hvm8 hw hB hz1 hk1 hS => ?_)
  try dsimp only at hw
  have hP := dk_kept hP hk1
  generalize H1 = H at hP hS ⊢
  rcases hw with ⟨rfl, j, hj, rfl⟩ | ⟨rfl, hno⟩
  · have hw1 := dk_num_len (fo j)
    have hw2 := dk_num_len (fw j)
    have hw3 := dk_num_len (fc j)
    have hw4 := dk_num_len (fn j)
    have hw5 := dk_num_len (fm j)
    obtain ⟨hb1, hb2, hb3, hb4, hb5⟩ := hbd j hj
    refine lv_if_ne (tgt := 9) hx hb dX0_write_4 (by decide) (fun _ => ?_) (fun c9 => absurd c9 (by decide))
    refine lv_aload_n hx hb dX0_write_9 rfl (lv_at hl 0 rfl) ?_
    refine lv_iconst (v := nI 0) hx hb dX0_write_10 (by decide) ?_
    refine va_put (D := (dC, dI)) (ci := 0) (v := .int (nI 0)) (ty := .int) (C := RX0) (T := TX0) (N := 9) hx hb hts hinX0 tyX0 tyX0_ok nmX0 hown hK hP hD hS 0 rfl rfl 8 (by decide) (hts (.fieldLink RX0 36 "DayDesk" "lineLength" "I") (by decide +kernel)) (fun _ h9 => h9) rfl (by decide +kernel) rfl rfl (Nat.le_of_ble_eq_true rfl) dX0_write_11 (fun H locs hP hD hS => ?_)
    have hP : va_P (dC, dI) vwCl [(h0, .inr (0, [.int d, .int tk, .ref qo, .ref qw, .ref qc, .ref qn, .ref qm, .ref ql, .int (nI 0)])), (qo, .inl (k1, 200, .inr (.inl fo))), (qw, .inl (k2, 200, .inr (.inl fw))), (qc, .inl (k3, 200, .inr (.inl fc))), (qn, .inl (k4, 200, .inr (.inl fn))), (qm, .inl (k5, 200, .inr (.inl fm))), (ql, .inl (k6, 104, .inl fl))] H := hP
    have hD : va_D A [(h0, .inr (0, [.int d, .int tk, .ref qo, .ref qw, .ref qc, .ref qn, .ref qm, .ref ql, .int (nI 0)])), (qo, .inl (k1, 200, .inr (.inl fo))), (qw, .inl (k2, 200, .inr (.inl fw))), (qc, .inl (k3, 200, .inr (.inl fc))), (qn, .inl (k4, 200, .inr (.inl fn))), (qm, .inl (k5, 200, .inr (.inl fm))), (ql, .inl (k6, 104, .inl fl))] := hD
    refine lv_aload_n hx hb dX0_write_14 rfl (lv_at hl 0 rfl) ?_
    refine lv_aload_n hx hb dX0_write_15 rfl (lv_at hl 0 rfl) ?_
    refine va_get (D := (dC, dI)) (ci := 0) (v := .ref qo) (C := RX0) (T := TX0) (N := 9) hx hb hts hinX0 hown hK hP 0 rfl rfl 2 (by decide) (hts (.fieldLink RX0 16 "DayDesk" "opening" "[J") (by decide +kernel)) (fun _ h9 => h9) rfl dX0_write_16 ?_
    refine lv_iload_n hx hb dX0_write_19 rfl (lv_at hl 1 rfl) ?_
    refine dk_lald hx hb hK hP 1 0 rfl rfl (j := j) (by omega) (by omega) dX0_write_20 ?_
    have hPc := hP.sub (ws' := [(h0, .inr (0, [.int d, .int tk, .ref qo, .ref qw, .ref qc, .ref qn, .ref qm, .ref ql, .int (nI 0)])), (ql, .inl (k6, 104, .inl fl))]) [0, 6] rfl
    have hDc := hD.sub (ws' := [(h0, .inr (0, [.int d, .int tk, .ref qo, .ref qw, .ref qc, .ref qn, .ref qm, .ref ql, .int (nI 0)])), (ql, .inl (k6, 104, .inl fl))]) [0, 6] (by decide) rfl
    have hFc := va_free (wc := [(h0, .inr (0, [.int d, .int tk, .ref qo, .ref qw, .ref qc, .ref qn, .ref qm, .ref ql, .int (nI 0)])), (ql, .inl (k6, 104, .inl fl))]) hD hS hA [0, 6] rfl
    have hKc := hK.sub (tys' := [(k6, .char)]) [5] rfl
    refine va_callv (va_runV (As := [.long (fo j)]) (rest := []) ⟨hx, hb, hml, hown, hts⟩ (cX_addNumber l dC dI _ h0 qo qw qc qn qm ql k6 d tk 0 fl (fo j) hb1 (by omega)) (cwV 1 hts gX0_write_X0_addNumber rfl rfl rfl (by decide +kernel) ⟨Nat.le_of_ble_eq_true rfl, Nat.le_of_ble_eq_true rfl⟩) (dk_wV hPc hKc hDc (ci := 0) (q0 := 0) rfl rfl) rfl rfl hl.1 rfl (lv_room (Nat.le_of_ble_eq_true rfl)) dX0_write_21 ⟨Nat.zero_le _, Nat.zero_le _⟩) hS (fun q _ h => hFc q h) hFc (fun u8 t8 H1 locs ht8 hvm8 hw hB hz1 hk1 hS => ?_)
    try dsimp only at hw
    obtain ⟨hP1, hD1⟩ := hB
    rw [ht8] at hP1
    obtain ⟨hP, hD⟩ := va_join (wr := [(qo, .inl (k1, 200, .inr (.inl fo))), (qw, .inl (k2, 200, .inr (.inl fw))), (qc, .inl (k3, 200, .inr (.inl fc))), (qn, .inl (k4, 200, .inr (.inl fn))), (qm, .inl (k5, 200, .inr (.inl fm)))]) (w1 := [(h0, .inr (0, [.int d, .int tk, .ref qo, .ref qw, .ref qc, .ref qn, .ref qm, .ref ql, .int (nI (0 + (dk_num (fo j)).length))])), (ql, .inl (k6, 104, .inl (dk_ap fl 0 (dk_num (fo j)))))]) hP hD [0, 6] [1, 2, 3, 4, 5] rfl rfl (by decide) (by decide) hk1 hFc hP1 hD1
    generalize H1 = H at hP hS ⊢
    have hP := hP.sub (ws' := [(h0, .inr (0, [.int d, .int tk, .ref qo, .ref qw, .ref qc, .ref qn, .ref qm, .ref ql, .int (nI (0 + (dk_num (fo j)).length))])), (qo, .inl (k1, 200, .inr (.inl fo))), (qw, .inl (k2, 200, .inr (.inl fw))), (qc, .inl (k3, 200, .inr (.inl fc))), (qn, .inl (k4, 200, .inr (.inl fn))), (qm, .inl (k5, 200, .inr (.inl fm))), (ql, .inl (k6, 104, .inl (dk_ap fl 0 (dk_num (fo j)))))]) [5, 0, 1, 2, 3, 4, 6] rfl
    have hD := hD.sub (ws' := [(h0, .inr (0, [.int d, .int tk, .ref qo, .ref qw, .ref qc, .ref qn, .ref qm, .ref ql, .int (nI (0 + (dk_num (fo j)).length))])), (qo, .inl (k1, 200, .inr (.inl fo))), (qw, .inl (k2, 200, .inr (.inl fw))), (qc, .inl (k3, 200, .inr (.inl fc))), (qn, .inl (k4, 200, .inr (.inl fn))), (qm, .inl (k5, 200, .inr (.inl fm))), (ql, .inl (k6, 104, .inl (dk_ap fl 0 (dk_num (fo j)))))]) [5, 0, 1, 2, 3, 4, 6] (by decide) rfl
    have hP : va_P (dC, dI) vwCl [(h0, .inr (0, [.int d, .int tk, .ref qo, .ref qw, .ref qc, .ref qn, .ref qm, .ref ql, .int (nI (0 + (dk_num (fo j)).length))])), (qo, .inl (k1, 200, .inr (.inl fo))), (qw, .inl (k2, 200, .inr (.inl fw))), (qc, .inl (k3, 200, .inr (.inl fc))), (qn, .inl (k4, 200, .inr (.inl fn))), (qm, .inl (k5, 200, .inr (.inl fm))), (ql, .inl (k6, 104, .inl (dk_ap fl 0 (dk_num (fo j)))))] H := hP
    have hD : va_D A [(h0, .inr (0, [.int d, .int tk, .ref qo, .ref qw, .ref qc, .ref qn, .ref qm, .ref ql, .int (nI (0 + (dk_num (fo j)).length))])), (qo, .inl (k1, 200, .inr (.inl fo))), (qw, .inl (k2, 200, .inr (.inl fw))), (qc, .inl (k3, 200, .inr (.inl fc))), (qn, .inl (k4, 200, .inr (.inl fn))), (qm, .inl (k5, 200, .inr (.inl fm))), (ql, .inl (k6, 104, .inl (dk_ap fl 0 (dk_num (fo j)))))] := hD
    refine lv_aload_n hx hb dX0_write_24 rfl (lv_at hl 0 rfl) ?_
    refine lv_bipush (v := nI 32) hx hb dX0_write_25 (by decide) ?_
    have hPc := hP.sub (ws' := [(h0, .inr (0, [.int d, .int tk, .ref qo, .ref qw, .ref qc, .ref qn, .ref qm, .ref ql, .int (nI (0 + (dk_num (fo j)).length))])), (ql, .inl (k6, 104, .inl (dk_ap fl 0 (dk_num (fo j)))))]) [0, 6] rfl
    have hDc := hD.sub (ws' := [(h0, .inr (0, [.int d, .int tk, .ref qo, .ref qw, .ref qc, .ref qn, .ref qm, .ref ql, .int (nI (0 + (dk_num (fo j)).length))])), (ql, .inl (k6, 104, .inl (dk_ap fl 0 (dk_num (fo j)))))]) [0, 6] (by decide) rfl
    have hFc := va_free (wc := [(h0, .inr (0, [.int d, .int tk, .ref qo, .ref qw, .ref qc, .ref qn, .ref qm, .ref ql, .int (nI (0 + (dk_num (fo j)).length))])), (ql, .inl (k6, 104, .inl (dk_ap fl 0 (dk_num (fo j)))))]) hD hS hA [0, 6] rfl
    have hKc := hK.sub (tys' := [(k6, .char)]) [5] rfl
    refine va_callv (va_runV (As := [.int (nI 32)]) (rest := []) ⟨hx, hb, hml, hown, hts⟩ (cX_addCharacter l dC dI _ h0 qo qw qc qn qm ql k6 d tk (0 + (dk_num (fo j)).length) (by omega) (dk_ap fl 0 (dk_num (fo j))) 32 (by omega)) (cwV 1 hts gX0_write_X0_addCharacter rfl rfl rfl (by decide +kernel) ⟨Nat.le_of_ble_eq_true rfl, Nat.le_of_ble_eq_true rfl⟩) (dk_wV hPc hKc hDc (ci := 0) (q0 := 0) rfl rfl) rfl rfl hl.1 rfl (lv_room (Nat.le_of_ble_eq_true rfl)) dX0_write_27 ⟨Nat.zero_le _, Nat.zero_le _⟩) hS (fun q _ h => hFc q h) hFc (fun u8 t8 H1 locs ht8 hvm8 hw hB hz1 hk1 hS => ?_)
    try dsimp only at hw
    obtain ⟨hP1, hD1⟩ := hB
    rw [ht8] at hP1
    obtain ⟨hP, hD⟩ := va_join (wr := [(qo, .inl (k1, 200, .inr (.inl fo))), (qw, .inl (k2, 200, .inr (.inl fw))), (qc, .inl (k3, 200, .inr (.inl fc))), (qn, .inl (k4, 200, .inr (.inl fn))), (qm, .inl (k5, 200, .inr (.inl fm)))]) (w1 := [(h0, .inr (0, [.int d, .int tk, .ref qo, .ref qw, .ref qc, .ref qn, .ref qm, .ref ql, .int (nI (0 + (dk_num (fo j)).length + 1))])), (ql, .inl (k6, 104, .inl (upd (dk_ap fl 0 (dk_num (fo j))) (0 + (dk_num (fo j)).length) (nI 32))))]) hP hD [0, 6] [1, 2, 3, 4, 5] rfl rfl (by decide) (by decide) hk1 hFc hP1 hD1
    generalize H1 = H at hP hS ⊢
    have hP := hP.sub (ws' := [(h0, .inr (0, [.int d, .int tk, .ref qo, .ref qw, .ref qc, .ref qn, .ref qm, .ref ql, .int (nI (0 + (dk_num (fo j)).length + 1))])), (qo, .inl (k1, 200, .inr (.inl fo))), (qw, .inl (k2, 200, .inr (.inl fw))), (qc, .inl (k3, 200, .inr (.inl fc))), (qn, .inl (k4, 200, .inr (.inl fn))), (qm, .inl (k5, 200, .inr (.inl fm))), (ql, .inl (k6, 104, .inl (upd (dk_ap fl 0 (dk_num (fo j))) (0 + (dk_num (fo j)).length) (nI 32))))]) [5, 0, 1, 2, 3, 4, 6] rfl
    have hD := hD.sub (ws' := [(h0, .inr (0, [.int d, .int tk, .ref qo, .ref qw, .ref qc, .ref qn, .ref qm, .ref ql, .int (nI (0 + (dk_num (fo j)).length + 1))])), (qo, .inl (k1, 200, .inr (.inl fo))), (qw, .inl (k2, 200, .inr (.inl fw))), (qc, .inl (k3, 200, .inr (.inl fc))), (qn, .inl (k4, 200, .inr (.inl fn))), (qm, .inl (k5, 200, .inr (.inl fm))), (ql, .inl (k6, 104, .inl (upd (dk_ap fl 0 (dk_num (fo j))) (0 + (dk_num (fo j)).length) (nI 32))))]) [5, 0, 1, 2, 3, 4, 6] (by decide) rfl
    have hP : va_P (dC, dI) vwCl [(h0, .inr (0, [.int d, .int tk, .ref qo, .ref qw, .ref qc, .ref qn, .ref qm, .ref ql, .int (nI (0 + (dk_num (fo j)).length + 1))])), (qo, .inl (k1, 200, .inr (.inl fo))), (qw, .inl (k2, 200, .inr (.inl fw))), (qc, .inl (k3, 200, .inr (.inl fc))), (qn, .inl (k4, 200, .inr (.inl fn))), (qm, .inl (k5, 200, .inr (.inl fm))), (ql, .inl (k6, 104, .inl (upd (dk_ap fl 0 (dk_num (fo j))) (0 + (dk_num (fo j)).length) (nI 32))))] H := hP
    have hD : va_D A [(h0, .inr (0, [.int d, .int tk, .ref qo, .ref qw, .ref qc, .ref qn, .ref qm, .ref ql, .int (nI (0 + (dk_num (fo j)).length + 1))])), (qo, .inl (k1, 200, .inr (.inl fo))), (qw, .inl (k2, 200, .inr (.inl fw))), (qc, .inl (k3, 200, .inr (.inl fc))), (qn, .inl (k4, 200, .inr (.inl fn))), (qm, .inl (k5, 200, .inr (.inl fm))), (ql, .inl (k6, 104, .inl (upd (dk_ap fl 0 (dk_num (fo j))) (0 + (dk_num (fo j)).length) (nI 32))))] := hD
    refine lv_aload_n hx hb dX0_write_30 rfl (lv_at hl 0 rfl) ?_
    refine lv_aload_n hx hb dX0_write_31 rfl (lv_at hl 0 rfl) ?_
    refine va_get (D := (dC, dI)) (ci := 0) (v := .ref qw) (C := RX0) (T := TX0) (N := 9) hx hb hts hinX0 hown hK hP 0 rfl rfl 3 (by decide) (hts (.fieldLink RX0 20 "DayDesk" "went" "[J") (by decide +kernel)) (fun _ h9 => h9) rfl dX0_write_32 ?_
    refine lv_iload_n hx hb dX0_write_35 rfl (lv_at hl 1 rfl) ?_
    refine dk_lald hx hb hK hP 2 1 rfl rfl (j := j) (by omega) (by omega) dX0_write_36 ?_
    have hPc := hP.sub (ws' := [(h0, .inr (0, [.int d, .int tk, .ref qo, .ref qw, .ref qc, .ref qn, .ref qm, .ref ql, .int (nI (0 + (dk_num (fo j)).length + 1))])), (ql, .inl (k6, 104, .inl (upd (dk_ap fl 0 (dk_num (fo j))) (0 + (dk_num (fo j)).length) (nI 32))))]) [0, 6] rfl
    have hDc := hD.sub (ws' := [(h0, .inr (0, [.int d, .int tk, .ref qo, .ref qw, .ref qc, .ref qn, .ref qm, .ref ql, .int (nI (0 + (dk_num (fo j)).length + 1))])), (ql, .inl (k6, 104, .inl (upd (dk_ap fl 0 (dk_num (fo j))) (0 + (dk_num (fo j)).length) (nI 32))))]) [0, 6] (by decide) rfl
    have hFc := va_free (wc := [(h0, .inr (0, [.int d, .int tk, .ref qo, .ref qw, .ref qc, .ref qn, .ref qm, .ref ql, .int (nI (0 + (dk_num (fo j)).length + 1))])), (ql, .inl (k6, 104, .inl (upd (dk_ap fl 0 (dk_num (fo j))) (0 + (dk_num (fo j)).length) (nI 32))))]) hD hS hA [0, 6] rfl
    have hKc := hK.sub (tys' := [(k6, .char)]) [5] rfl
    refine va_callv (va_runV (As := [.long (fw j)]) (rest := []) ⟨hx, hb, hml, hown, hts⟩ (cX_addNumber l dC dI _ h0 qo qw qc qn qm ql k6 d tk (0 + (dk_num (fo j)).length + 1) (upd (dk_ap fl 0 (dk_num (fo j))) (0 + (dk_num (fo j)).length) (nI 32)) (fw j) hb2 (by omega)) (cwV 1 hts gX0_write_X0_addNumber rfl rfl rfl (by decide +kernel) ⟨Nat.le_of_ble_eq_true rfl, Nat.le_of_ble_eq_true rfl⟩) (dk_wV hPc hKc hDc (ci := 0) (q0 := 0) rfl rfl) rfl rfl hl.1 rfl (lv_room (Nat.le_of_ble_eq_true rfl)) dX0_write_37 ⟨Nat.zero_le _, Nat.zero_le _⟩) hS (fun q _ h => hFc q h) hFc (fun u8 t8 H1 locs ht8 hvm8 hw hB hz1 hk1 hS => ?_)
    try dsimp only at hw
    obtain ⟨hP1, hD1⟩ := hB
    rw [ht8] at hP1
    obtain ⟨hP, hD⟩ := va_join (wr := [(qo, .inl (k1, 200, .inr (.inl fo))), (qw, .inl (k2, 200, .inr (.inl fw))), (qc, .inl (k3, 200, .inr (.inl fc))), (qn, .inl (k4, 200, .inr (.inl fn))), (qm, .inl (k5, 200, .inr (.inl fm)))]) (w1 := [(h0, .inr (0, [.int d, .int tk, .ref qo, .ref qw, .ref qc, .ref qn, .ref qm, .ref ql, .int (nI (0 + (dk_num (fo j)).length + 1 + (dk_num (fw j)).length))])), (ql, .inl (k6, 104, .inl (dk_ap (upd (dk_ap fl 0 (dk_num (fo j))) (0 + (dk_num (fo j)).length) (nI 32)) (0 + (dk_num (fo j)).length + 1) (dk_num (fw j)))))]) hP hD [0, 6] [1, 2, 3, 4, 5] rfl rfl (by decide) (by decide) hk1 hFc hP1 hD1
    generalize H1 = H at hP hS ⊢
    have hP := hP.sub (ws' := [(h0, .inr (0, [.int d, .int tk, .ref qo, .ref qw, .ref qc, .ref qn, .ref qm, .ref ql, .int (nI (0 + (dk_num (fo j)).length + 1 + (dk_num (fw j)).length))])), (qo, .inl (k1, 200, .inr (.inl fo))), (qw, .inl (k2, 200, .inr (.inl fw))), (qc, .inl (k3, 200, .inr (.inl fc))), (qn, .inl (k4, 200, .inr (.inl fn))), (qm, .inl (k5, 200, .inr (.inl fm))), (ql, .inl (k6, 104, .inl (dk_ap (upd (dk_ap fl 0 (dk_num (fo j))) (0 + (dk_num (fo j)).length) (nI 32)) (0 + (dk_num (fo j)).length + 1) (dk_num (fw j)))))]) [5, 0, 1, 2, 3, 4, 6] rfl
    have hD := hD.sub (ws' := [(h0, .inr (0, [.int d, .int tk, .ref qo, .ref qw, .ref qc, .ref qn, .ref qm, .ref ql, .int (nI (0 + (dk_num (fo j)).length + 1 + (dk_num (fw j)).length))])), (qo, .inl (k1, 200, .inr (.inl fo))), (qw, .inl (k2, 200, .inr (.inl fw))), (qc, .inl (k3, 200, .inr (.inl fc))), (qn, .inl (k4, 200, .inr (.inl fn))), (qm, .inl (k5, 200, .inr (.inl fm))), (ql, .inl (k6, 104, .inl (dk_ap (upd (dk_ap fl 0 (dk_num (fo j))) (0 + (dk_num (fo j)).length) (nI 32)) (0 + (dk_num (fo j)).length + 1) (dk_num (fw j)))))]) [5, 0, 1, 2, 3, 4, 6] (by decide) rfl
    have hP : va_P (dC, dI) vwCl [(h0, .inr (0, [.int d, .int tk, .ref qo, .ref qw, .ref qc, .ref qn, .ref qm, .ref ql, .int (nI (0 + (dk_num (fo j)).length + 1 + (dk_num (fw j)).length))])), (qo, .inl (k1, 200, .inr (.inl fo))), (qw, .inl (k2, 200, .inr (.inl fw))), (qc, .inl (k3, 200, .inr (.inl fc))), (qn, .inl (k4, 200, .inr (.inl fn))), (qm, .inl (k5, 200, .inr (.inl fm))), (ql, .inl (k6, 104, .inl (dk_ap (upd (dk_ap fl 0 (dk_num (fo j))) (0 + (dk_num (fo j)).length) (nI 32)) (0 + (dk_num (fo j)).length + 1) (dk_num (fw j)))))] H := hP
    have hD : va_D A [(h0, .inr (0, [.int d, .int tk, .ref qo, .ref qw, .ref qc, .ref qn, .ref qm, .ref ql, .int (nI (0 + (dk_num (fo j)).length + 1 + (dk_num (fw j)).length))])), (qo, .inl (k1, 200, .inr (.inl fo))), (qw, .inl (k2, 200, .inr (.inl fw))), (qc, .inl (k3, 200, .inr (.inl fc))), (qn, .inl (k4, 200, .inr (.inl fn))), (qm, .inl (k5, 200, .inr (.inl fm))), (ql, .inl (k6, 104, .inl (dk_ap (upd (dk_ap fl 0 (dk_num (fo j))) (0 + (dk_num (fo j)).length) (nI 32)) (0 + (dk_num (fo j)).length + 1) (dk_num (fw j)))))] := hD
    refine lv_aload_n hx hb dX0_write_40 rfl (lv_at hl 0 rfl) ?_
    refine lv_bipush (v := nI 32) hx hb dX0_write_41 (by decide) ?_
    have hPc := hP.sub (ws' := [(h0, .inr (0, [.int d, .int tk, .ref qo, .ref qw, .ref qc, .ref qn, .ref qm, .ref ql, .int (nI (0 + (dk_num (fo j)).length + 1 + (dk_num (fw j)).length))])), (ql, .inl (k6, 104, .inl (dk_ap (upd (dk_ap fl 0 (dk_num (fo j))) (0 + (dk_num (fo j)).length) (nI 32)) (0 + (dk_num (fo j)).length + 1) (dk_num (fw j)))))]) [0, 6] rfl
    have hDc := hD.sub (ws' := [(h0, .inr (0, [.int d, .int tk, .ref qo, .ref qw, .ref qc, .ref qn, .ref qm, .ref ql, .int (nI (0 + (dk_num (fo j)).length + 1 + (dk_num (fw j)).length))])), (ql, .inl (k6, 104, .inl (dk_ap (upd (dk_ap fl 0 (dk_num (fo j))) (0 + (dk_num (fo j)).length) (nI 32)) (0 + (dk_num (fo j)).length + 1) (dk_num (fw j)))))]) [0, 6] (by decide) rfl
    have hFc := va_free (wc := [(h0, .inr (0, [.int d, .int tk, .ref qo, .ref qw, .ref qc, .ref qn, .ref qm, .ref ql, .int (nI (0 + (dk_num (fo j)).length + 1 + (dk_num (fw j)).length))])), (ql, .inl (k6, 104, .inl (dk_ap (upd (dk_ap fl 0 (dk_num (fo j))) (0 + (dk_num (fo j)).length) (nI 32)) (0 + (dk_num (fo j)).length + 1) (dk_num (fw j)))))]) hD hS hA [0, 6] rfl
    have hKc := hK.sub (tys' := [(k6, .char)]) [5] rfl
    refine va_callv (va_runV (As := [.int (nI 32)]) (rest := []) ⟨hx, hb, hml, hown, hts⟩ (cX_addCharacter l dC dI _ h0 qo qw qc qn qm ql k6 d tk (0 + (dk_num (fo j)).length + 1 + (dk_num (fw j)).length) (by omega) (dk_ap (upd (dk_ap fl 0 (dk_num (fo j))) (0 + (dk_num (fo j)).length) (nI 32)) (0 + (dk_num (fo j)).length + 1) (dk_num (fw j))) 32 (by omega)) (cwV 1 hts gX0_write_X0_addCharacter rfl rfl rfl (by decide +kernel) ⟨Nat.le_of_ble_eq_true rfl, Nat.le_of_ble_eq_true rfl⟩) (dk_wV hPc hKc hDc (ci := 0) (q0 := 0) rfl rfl) rfl rfl hl.1 rfl (lv_room (Nat.le_of_ble_eq_true rfl)) dX0_write_43 ⟨Nat.zero_le _, Nat.zero_le _⟩) hS (fun q _ h => hFc q h) hFc (fun u8 t8 H1 locs ht8 hvm8 hw hB hz1 hk1 hS => ?_)
    try dsimp only at hw
    obtain ⟨hP1, hD1⟩ := hB
    rw [ht8] at hP1
    obtain ⟨hP, hD⟩ := va_join (wr := [(qo, .inl (k1, 200, .inr (.inl fo))), (qw, .inl (k2, 200, .inr (.inl fw))), (qc, .inl (k3, 200, .inr (.inl fc))), (qn, .inl (k4, 200, .inr (.inl fn))), (qm, .inl (k5, 200, .inr (.inl fm)))]) (w1 := [(h0, .inr (0, [.int d, .int tk, .ref qo, .ref qw, .ref qc, .ref qn, .ref qm, .ref ql, .int (nI (0 + (dk_num (fo j)).length + 1 + (dk_num (fw j)).length + 1))])), (ql, .inl (k6, 104, .inl (upd (dk_ap (upd (dk_ap fl 0 (dk_num (fo j))) (0 + (dk_num (fo j)).length) (nI 32)) (0 + (dk_num (fo j)).length + 1) (dk_num (fw j))) (0 + (dk_num (fo j)).length + 1 + (dk_num (fw j)).length) (nI 32))))]) hP hD [0, 6] [1, 2, 3, 4, 5] rfl rfl (by decide) (by decide) hk1 hFc hP1 hD1
    generalize H1 = H at hP hS ⊢
    have hP := hP.sub (ws' := [(h0, .inr (0, [.int d, .int tk, .ref qo, .ref qw, .ref qc, .ref qn, .ref qm, .ref ql, .int (nI (0 + (dk_num (fo j)).length + 1 + (dk_num (fw j)).length + 1))])), (qo, .inl (k1, 200, .inr (.inl fo))), (qw, .inl (k2, 200, .inr (.inl fw))), (qc, .inl (k3, 200, .inr (.inl fc))), (qn, .inl (k4, 200, .inr (.inl fn))), (qm, .inl (k5, 200, .inr (.inl fm))), (ql, .inl (k6, 104, .inl (upd (dk_ap (upd (dk_ap fl 0 (dk_num (fo j))) (0 + (dk_num (fo j)).length) (nI 32)) (0 + (dk_num (fo j)).length + 1) (dk_num (fw j))) (0 + (dk_num (fo j)).length + 1 + (dk_num (fw j)).length) (nI 32))))]) [5, 0, 1, 2, 3, 4, 6] rfl
    have hD := hD.sub (ws' := [(h0, .inr (0, [.int d, .int tk, .ref qo, .ref qw, .ref qc, .ref qn, .ref qm, .ref ql, .int (nI (0 + (dk_num (fo j)).length + 1 + (dk_num (fw j)).length + 1))])), (qo, .inl (k1, 200, .inr (.inl fo))), (qw, .inl (k2, 200, .inr (.inl fw))), (qc, .inl (k3, 200, .inr (.inl fc))), (qn, .inl (k4, 200, .inr (.inl fn))), (qm, .inl (k5, 200, .inr (.inl fm))), (ql, .inl (k6, 104, .inl (upd (dk_ap (upd (dk_ap fl 0 (dk_num (fo j))) (0 + (dk_num (fo j)).length) (nI 32)) (0 + (dk_num (fo j)).length + 1) (dk_num (fw j))) (0 + (dk_num (fo j)).length + 1 + (dk_num (fw j)).length) (nI 32))))]) [5, 0, 1, 2, 3, 4, 6] (by decide) rfl
    have hP : va_P (dC, dI) vwCl [(h0, .inr (0, [.int d, .int tk, .ref qo, .ref qw, .ref qc, .ref qn, .ref qm, .ref ql, .int (nI (0 + (dk_num (fo j)).length + 1 + (dk_num (fw j)).length + 1))])), (qo, .inl (k1, 200, .inr (.inl fo))), (qw, .inl (k2, 200, .inr (.inl fw))), (qc, .inl (k3, 200, .inr (.inl fc))), (qn, .inl (k4, 200, .inr (.inl fn))), (qm, .inl (k5, 200, .inr (.inl fm))), (ql, .inl (k6, 104, .inl (upd (dk_ap (upd (dk_ap fl 0 (dk_num (fo j))) (0 + (dk_num (fo j)).length) (nI 32)) (0 + (dk_num (fo j)).length + 1) (dk_num (fw j))) (0 + (dk_num (fo j)).length + 1 + (dk_num (fw j)).length) (nI 32))))] H := hP
    have hD : va_D A [(h0, .inr (0, [.int d, .int tk, .ref qo, .ref qw, .ref qc, .ref qn, .ref qm, .ref ql, .int (nI (0 + (dk_num (fo j)).length + 1 + (dk_num (fw j)).length + 1))])), (qo, .inl (k1, 200, .inr (.inl fo))), (qw, .inl (k2, 200, .inr (.inl fw))), (qc, .inl (k3, 200, .inr (.inl fc))), (qn, .inl (k4, 200, .inr (.inl fn))), (qm, .inl (k5, 200, .inr (.inl fm))), (ql, .inl (k6, 104, .inl (upd (dk_ap (upd (dk_ap fl 0 (dk_num (fo j))) (0 + (dk_num (fo j)).length) (nI 32)) (0 + (dk_num (fo j)).length + 1) (dk_num (fw j))) (0 + (dk_num (fo j)).length + 1 + (dk_num (fw j)).length) (nI 32))))] := hD
    refine lv_aload_n hx hb dX0_write_46 rfl (lv_at hl 0 rfl) ?_
    refine lv_aload_n hx hb dX0_write_47 rfl (lv_at hl 0 rfl) ?_
    refine va_get (D := (dC, dI)) (ci := 0) (v := .ref qc) (C := RX0) (T := TX0) (N := 9) hx hb hts hinX0 hown hK hP 0 rfl rfl 4 (by decide) (hts (.fieldLink RX0 23 "DayDesk" "came" "[J") (by decide +kernel)) (fun _ h9 => h9) rfl dX0_write_48 ?_
    refine lv_iload_n hx hb dX0_write_51 rfl (lv_at hl 1 rfl) ?_
    refine dk_lald hx hb hK hP 3 2 rfl rfl (j := j) (by omega) (by omega) dX0_write_52 ?_
    have hPc := hP.sub (ws' := [(h0, .inr (0, [.int d, .int tk, .ref qo, .ref qw, .ref qc, .ref qn, .ref qm, .ref ql, .int (nI (0 + (dk_num (fo j)).length + 1 + (dk_num (fw j)).length + 1))])), (ql, .inl (k6, 104, .inl (upd (dk_ap (upd (dk_ap fl 0 (dk_num (fo j))) (0 + (dk_num (fo j)).length) (nI 32)) (0 + (dk_num (fo j)).length + 1) (dk_num (fw j))) (0 + (dk_num (fo j)).length + 1 + (dk_num (fw j)).length) (nI 32))))]) [0, 6] rfl
    have hDc := hD.sub (ws' := [(h0, .inr (0, [.int d, .int tk, .ref qo, .ref qw, .ref qc, .ref qn, .ref qm, .ref ql, .int (nI (0 + (dk_num (fo j)).length + 1 + (dk_num (fw j)).length + 1))])), (ql, .inl (k6, 104, .inl (upd (dk_ap (upd (dk_ap fl 0 (dk_num (fo j))) (0 + (dk_num (fo j)).length) (nI 32)) (0 + (dk_num (fo j)).length + 1) (dk_num (fw j))) (0 + (dk_num (fo j)).length + 1 + (dk_num (fw j)).length) (nI 32))))]) [0, 6] (by decide) rfl
    have hFc := va_free (wc := [(h0, .inr (0, [.int d, .int tk, .ref qo, .ref qw, .ref qc, .ref qn, .ref qm, .ref ql, .int (nI (0 + (dk_num (fo j)).length + 1 + (dk_num (fw j)).length + 1))])), (ql, .inl (k6, 104, .inl (upd (dk_ap (upd (dk_ap fl 0 (dk_num (fo j))) (0 + (dk_num (fo j)).length) (nI 32)) (0 + (dk_num (fo j)).length + 1) (dk_num (fw j))) (0 + (dk_num (fo j)).length + 1 + (dk_num (fw j)).length) (nI 32))))]) hD hS hA [0, 6] rfl
    have hKc := hK.sub (tys' := [(k6, .char)]) [5] rfl
    refine va_callv (va_runV (As := [.long (fc j)]) (rest := []) ⟨hx, hb, hml, hown, hts⟩ (cX_addNumber l dC dI _ h0 qo qw qc qn qm ql k6 d tk (0 + (dk_num (fo j)).length + 1 + (dk_num (fw j)).length + 1) (upd (dk_ap (upd (dk_ap fl 0 (dk_num (fo j))) (0 + (dk_num (fo j)).length) (nI 32)) (0 + (dk_num (fo j)).length + 1) (dk_num (fw j))) (0 + (dk_num (fo j)).length + 1 + (dk_num (fw j)).length) (nI 32)) (fc j) hb3 (by omega)) (cwV 1 hts gX0_write_X0_addNumber rfl rfl rfl (by decide +kernel) ⟨Nat.le_of_ble_eq_true rfl, Nat.le_of_ble_eq_true rfl⟩) (dk_wV hPc hKc hDc (ci := 0) (q0 := 0) rfl rfl) rfl rfl hl.1 rfl (lv_room (Nat.le_of_ble_eq_true rfl)) dX0_write_53 ⟨Nat.zero_le _, Nat.zero_le _⟩) hS (fun q _ h => hFc q h) hFc (fun u8 t8 H1 locs ht8 hvm8 hw hB hz1 hk1 hS => ?_)
    try dsimp only at hw
    obtain ⟨hP1, hD1⟩ := hB
    rw [ht8] at hP1
    obtain ⟨hP, hD⟩ := va_join (wr := [(qo, .inl (k1, 200, .inr (.inl fo))), (qw, .inl (k2, 200, .inr (.inl fw))), (qc, .inl (k3, 200, .inr (.inl fc))), (qn, .inl (k4, 200, .inr (.inl fn))), (qm, .inl (k5, 200, .inr (.inl fm)))]) (w1 := [(h0, .inr (0, [.int d, .int tk, .ref qo, .ref qw, .ref qc, .ref qn, .ref qm, .ref ql, .int (nI (0 + (dk_num (fo j)).length + 1 + (dk_num (fw j)).length + 1 + (dk_num (fc j)).length))])), (ql, .inl (k6, 104, .inl (dk_ap (upd (dk_ap (upd (dk_ap fl 0 (dk_num (fo j))) (0 + (dk_num (fo j)).length) (nI 32)) (0 + (dk_num (fo j)).length + 1) (dk_num (fw j))) (0 + (dk_num (fo j)).length + 1 + (dk_num (fw j)).length) (nI 32)) (0 + (dk_num (fo j)).length + 1 + (dk_num (fw j)).length + 1) (dk_num (fc j)))))]) hP hD [0, 6] [1, 2, 3, 4, 5] rfl rfl (by decide) (by decide) hk1 hFc hP1 hD1
    generalize H1 = H at hP hS ⊢
    have hP := hP.sub (ws' := [(h0, .inr (0, [.int d, .int tk, .ref qo, .ref qw, .ref qc, .ref qn, .ref qm, .ref ql, .int (nI (0 + (dk_num (fo j)).length + 1 + (dk_num (fw j)).length + 1 + (dk_num (fc j)).length))])), (qo, .inl (k1, 200, .inr (.inl fo))), (qw, .inl (k2, 200, .inr (.inl fw))), (qc, .inl (k3, 200, .inr (.inl fc))), (qn, .inl (k4, 200, .inr (.inl fn))), (qm, .inl (k5, 200, .inr (.inl fm))), (ql, .inl (k6, 104, .inl (dk_ap (upd (dk_ap (upd (dk_ap fl 0 (dk_num (fo j))) (0 + (dk_num (fo j)).length) (nI 32)) (0 + (dk_num (fo j)).length + 1) (dk_num (fw j))) (0 + (dk_num (fo j)).length + 1 + (dk_num (fw j)).length) (nI 32)) (0 + (dk_num (fo j)).length + 1 + (dk_num (fw j)).length + 1) (dk_num (fc j)))))]) [5, 0, 1, 2, 3, 4, 6] rfl
    have hD := hD.sub (ws' := [(h0, .inr (0, [.int d, .int tk, .ref qo, .ref qw, .ref qc, .ref qn, .ref qm, .ref ql, .int (nI (0 + (dk_num (fo j)).length + 1 + (dk_num (fw j)).length + 1 + (dk_num (fc j)).length))])), (qo, .inl (k1, 200, .inr (.inl fo))), (qw, .inl (k2, 200, .inr (.inl fw))), (qc, .inl (k3, 200, .inr (.inl fc))), (qn, .inl (k4, 200, .inr (.inl fn))), (qm, .inl (k5, 200, .inr (.inl fm))), (ql, .inl (k6, 104, .inl (dk_ap (upd (dk_ap (upd (dk_ap fl 0 (dk_num (fo j))) (0 + (dk_num (fo j)).length) (nI 32)) (0 + (dk_num (fo j)).length + 1) (dk_num (fw j))) (0 + (dk_num (fo j)).length + 1 + (dk_num (fw j)).length) (nI 32)) (0 + (dk_num (fo j)).length + 1 + (dk_num (fw j)).length + 1) (dk_num (fc j)))))]) [5, 0, 1, 2, 3, 4, 6] (by decide) rfl
    have hP : va_P (dC, dI) vwCl [(h0, .inr (0, [.int d, .int tk, .ref qo, .ref qw, .ref qc, .ref qn, .ref qm, .ref ql, .int (nI (0 + (dk_num (fo j)).length + 1 + (dk_num (fw j)).length + 1 + (dk_num (fc j)).length))])), (qo, .inl (k1, 200, .inr (.inl fo))), (qw, .inl (k2, 200, .inr (.inl fw))), (qc, .inl (k3, 200, .inr (.inl fc))), (qn, .inl (k4, 200, .inr (.inl fn))), (qm, .inl (k5, 200, .inr (.inl fm))), (ql, .inl (k6, 104, .inl (dk_ap (upd (dk_ap (upd (dk_ap fl 0 (dk_num (fo j))) (0 + (dk_num (fo j)).length) (nI 32)) (0 + (dk_num (fo j)).length + 1) (dk_num (fw j))) (0 + (dk_num (fo j)).length + 1 + (dk_num (fw j)).length) (nI 32)) (0 + (dk_num (fo j)).length + 1 + (dk_num (fw j)).length + 1) (dk_num (fc j)))))] H := hP
    have hD : va_D A [(h0, .inr (0, [.int d, .int tk, .ref qo, .ref qw, .ref qc, .ref qn, .ref qm, .ref ql, .int (nI (0 + (dk_num (fo j)).length + 1 + (dk_num (fw j)).length + 1 + (dk_num (fc j)).length))])), (qo, .inl (k1, 200, .inr (.inl fo))), (qw, .inl (k2, 200, .inr (.inl fw))), (qc, .inl (k3, 200, .inr (.inl fc))), (qn, .inl (k4, 200, .inr (.inl fn))), (qm, .inl (k5, 200, .inr (.inl fm))), (ql, .inl (k6, 104, .inl (dk_ap (upd (dk_ap (upd (dk_ap fl 0 (dk_num (fo j))) (0 + (dk_num (fo j)).length) (nI 32)) (0 + (dk_num (fo j)).length + 1) (dk_num (fw j))) (0 + (dk_num (fo j)).length + 1 + (dk_num (fw j)).length) (nI 32)) (0 + (dk_num (fo j)).length + 1 + (dk_num (fw j)).length + 1) (dk_num (fc j)))))] := hD
    refine lv_aload_n hx hb dX0_write_56 rfl (lv_at hl 0 rfl) ?_
    refine lv_bipush (v := nI 32) hx hb dX0_write_57 (by decide) ?_
    have hPc := hP.sub (ws' := [(h0, .inr (0, [.int d, .int tk, .ref qo, .ref qw, .ref qc, .ref qn, .ref qm, .ref ql, .int (nI (0 + (dk_num (fo j)).length + 1 + (dk_num (fw j)).length + 1 + (dk_num (fc j)).length))])), (ql, .inl (k6, 104, .inl (dk_ap (upd (dk_ap (upd (dk_ap fl 0 (dk_num (fo j))) (0 + (dk_num (fo j)).length) (nI 32)) (0 + (dk_num (fo j)).length + 1) (dk_num (fw j))) (0 + (dk_num (fo j)).length + 1 + (dk_num (fw j)).length) (nI 32)) (0 + (dk_num (fo j)).length + 1 + (dk_num (fw j)).length + 1) (dk_num (fc j)))))]) [0, 6] rfl
    have hDc := hD.sub (ws' := [(h0, .inr (0, [.int d, .int tk, .ref qo, .ref qw, .ref qc, .ref qn, .ref qm, .ref ql, .int (nI (0 + (dk_num (fo j)).length + 1 + (dk_num (fw j)).length + 1 + (dk_num (fc j)).length))])), (ql, .inl (k6, 104, .inl (dk_ap (upd (dk_ap (upd (dk_ap fl 0 (dk_num (fo j))) (0 + (dk_num (fo j)).length) (nI 32)) (0 + (dk_num (fo j)).length + 1) (dk_num (fw j))) (0 + (dk_num (fo j)).length + 1 + (dk_num (fw j)).length) (nI 32)) (0 + (dk_num (fo j)).length + 1 + (dk_num (fw j)).length + 1) (dk_num (fc j)))))]) [0, 6] (by decide) rfl
    have hFc := va_free (wc := [(h0, .inr (0, [.int d, .int tk, .ref qo, .ref qw, .ref qc, .ref qn, .ref qm, .ref ql, .int (nI (0 + (dk_num (fo j)).length + 1 + (dk_num (fw j)).length + 1 + (dk_num (fc j)).length))])), (ql, .inl (k6, 104, .inl (dk_ap (upd (dk_ap (upd (dk_ap fl 0 (dk_num (fo j))) (0 + (dk_num (fo j)).length) (nI 32)) (0 + (dk_num (fo j)).length + 1) (dk_num (fw j))) (0 + (dk_num (fo j)).length + 1 + (dk_num (fw j)).length) (nI 32)) (0 + (dk_num (fo j)).length + 1 + (dk_num (fw j)).length + 1) (dk_num (fc j)))))]) hD hS hA [0, 6] rfl
    have hKc := hK.sub (tys' := [(k6, .char)]) [5] rfl
    refine va_callv (va_runV (As := [.int (nI 32)]) (rest := []) ⟨hx, hb, hml, hown, hts⟩ (cX_addCharacter l dC dI _ h0 qo qw qc qn qm ql k6 d tk (0 + (dk_num (fo j)).length + 1 + (dk_num (fw j)).length + 1 + (dk_num (fc j)).length) (by omega) (dk_ap (upd (dk_ap (upd (dk_ap fl 0 (dk_num (fo j))) (0 + (dk_num (fo j)).length) (nI 32)) (0 + (dk_num (fo j)).length + 1) (dk_num (fw j))) (0 + (dk_num (fo j)).length + 1 + (dk_num (fw j)).length) (nI 32)) (0 + (dk_num (fo j)).length + 1 + (dk_num (fw j)).length + 1) (dk_num (fc j))) 32 (by omega)) (cwV 1 hts gX0_write_X0_addCharacter rfl rfl rfl (by decide +kernel) ⟨Nat.le_of_ble_eq_true rfl, Nat.le_of_ble_eq_true rfl⟩) (dk_wV hPc hKc hDc (ci := 0) (q0 := 0) rfl rfl) rfl rfl hl.1 rfl (lv_room (Nat.le_of_ble_eq_true rfl)) dX0_write_59 ⟨Nat.zero_le _, Nat.zero_le _⟩) hS (fun q _ h => hFc q h) hFc (fun u8 t8 H1 locs ht8 hvm8 hw hB hz1 hk1 hS => ?_)
    try dsimp only at hw
    obtain ⟨hP1, hD1⟩ := hB
    rw [ht8] at hP1
    obtain ⟨hP, hD⟩ := va_join (wr := [(qo, .inl (k1, 200, .inr (.inl fo))), (qw, .inl (k2, 200, .inr (.inl fw))), (qc, .inl (k3, 200, .inr (.inl fc))), (qn, .inl (k4, 200, .inr (.inl fn))), (qm, .inl (k5, 200, .inr (.inl fm)))]) (w1 := [(h0, .inr (0, [.int d, .int tk, .ref qo, .ref qw, .ref qc, .ref qn, .ref qm, .ref ql, .int (nI (0 + (dk_num (fo j)).length + 1 + (dk_num (fw j)).length + 1 + (dk_num (fc j)).length + 1))])), (ql, .inl (k6, 104, .inl (upd (dk_ap (upd (dk_ap (upd (dk_ap fl 0 (dk_num (fo j))) (0 + (dk_num (fo j)).length) (nI 32)) (0 + (dk_num (fo j)).length + 1) (dk_num (fw j))) (0 + (dk_num (fo j)).length + 1 + (dk_num (fw j)).length) (nI 32)) (0 + (dk_num (fo j)).length + 1 + (dk_num (fw j)).length + 1) (dk_num (fc j))) (0 + (dk_num (fo j)).length + 1 + (dk_num (fw j)).length + 1 + (dk_num (fc j)).length) (nI 32))))]) hP hD [0, 6] [1, 2, 3, 4, 5] rfl rfl (by decide) (by decide) hk1 hFc hP1 hD1
    generalize H1 = H at hP hS ⊢
    have hP := hP.sub (ws' := [(h0, .inr (0, [.int d, .int tk, .ref qo, .ref qw, .ref qc, .ref qn, .ref qm, .ref ql, .int (nI (0 + (dk_num (fo j)).length + 1 + (dk_num (fw j)).length + 1 + (dk_num (fc j)).length + 1))])), (qo, .inl (k1, 200, .inr (.inl fo))), (qw, .inl (k2, 200, .inr (.inl fw))), (qc, .inl (k3, 200, .inr (.inl fc))), (qn, .inl (k4, 200, .inr (.inl fn))), (qm, .inl (k5, 200, .inr (.inl fm))), (ql, .inl (k6, 104, .inl (upd (dk_ap (upd (dk_ap (upd (dk_ap fl 0 (dk_num (fo j))) (0 + (dk_num (fo j)).length) (nI 32)) (0 + (dk_num (fo j)).length + 1) (dk_num (fw j))) (0 + (dk_num (fo j)).length + 1 + (dk_num (fw j)).length) (nI 32)) (0 + (dk_num (fo j)).length + 1 + (dk_num (fw j)).length + 1) (dk_num (fc j))) (0 + (dk_num (fo j)).length + 1 + (dk_num (fw j)).length + 1 + (dk_num (fc j)).length) (nI 32))))]) [5, 0, 1, 2, 3, 4, 6] rfl
    have hD := hD.sub (ws' := [(h0, .inr (0, [.int d, .int tk, .ref qo, .ref qw, .ref qc, .ref qn, .ref qm, .ref ql, .int (nI (0 + (dk_num (fo j)).length + 1 + (dk_num (fw j)).length + 1 + (dk_num (fc j)).length + 1))])), (qo, .inl (k1, 200, .inr (.inl fo))), (qw, .inl (k2, 200, .inr (.inl fw))), (qc, .inl (k3, 200, .inr (.inl fc))), (qn, .inl (k4, 200, .inr (.inl fn))), (qm, .inl (k5, 200, .inr (.inl fm))), (ql, .inl (k6, 104, .inl (upd (dk_ap (upd (dk_ap (upd (dk_ap fl 0 (dk_num (fo j))) (0 + (dk_num (fo j)).length) (nI 32)) (0 + (dk_num (fo j)).length + 1) (dk_num (fw j))) (0 + (dk_num (fo j)).length + 1 + (dk_num (fw j)).length) (nI 32)) (0 + (dk_num (fo j)).length + 1 + (dk_num (fw j)).length + 1) (dk_num (fc j))) (0 + (dk_num (fo j)).length + 1 + (dk_num (fw j)).length + 1 + (dk_num (fc j)).length) (nI 32))))]) [5, 0, 1, 2, 3, 4, 6] (by decide) rfl
    have hP : va_P (dC, dI) vwCl [(h0, .inr (0, [.int d, .int tk, .ref qo, .ref qw, .ref qc, .ref qn, .ref qm, .ref ql, .int (nI (0 + (dk_num (fo j)).length + 1 + (dk_num (fw j)).length + 1 + (dk_num (fc j)).length + 1))])), (qo, .inl (k1, 200, .inr (.inl fo))), (qw, .inl (k2, 200, .inr (.inl fw))), (qc, .inl (k3, 200, .inr (.inl fc))), (qn, .inl (k4, 200, .inr (.inl fn))), (qm, .inl (k5, 200, .inr (.inl fm))), (ql, .inl (k6, 104, .inl (upd (dk_ap (upd (dk_ap (upd (dk_ap fl 0 (dk_num (fo j))) (0 + (dk_num (fo j)).length) (nI 32)) (0 + (dk_num (fo j)).length + 1) (dk_num (fw j))) (0 + (dk_num (fo j)).length + 1 + (dk_num (fw j)).length) (nI 32)) (0 + (dk_num (fo j)).length + 1 + (dk_num (fw j)).length + 1) (dk_num (fc j))) (0 + (dk_num (fo j)).length + 1 + (dk_num (fw j)).length + 1 + (dk_num (fc j)).length) (nI 32))))] H := hP
    have hD : va_D A [(h0, .inr (0, [.int d, .int tk, .ref qo, .ref qw, .ref qc, .ref qn, .ref qm, .ref ql, .int (nI (0 + (dk_num (fo j)).length + 1 + (dk_num (fw j)).length + 1 + (dk_num (fc j)).length + 1))])), (qo, .inl (k1, 200, .inr (.inl fo))), (qw, .inl (k2, 200, .inr (.inl fw))), (qc, .inl (k3, 200, .inr (.inl fc))), (qn, .inl (k4, 200, .inr (.inl fn))), (qm, .inl (k5, 200, .inr (.inl fm))), (ql, .inl (k6, 104, .inl (upd (dk_ap (upd (dk_ap (upd (dk_ap fl 0 (dk_num (fo j))) (0 + (dk_num (fo j)).length) (nI 32)) (0 + (dk_num (fo j)).length + 1) (dk_num (fw j))) (0 + (dk_num (fo j)).length + 1 + (dk_num (fw j)).length) (nI 32)) (0 + (dk_num (fo j)).length + 1 + (dk_num (fw j)).length + 1) (dk_num (fc j))) (0 + (dk_num (fo j)).length + 1 + (dk_num (fw j)).length + 1 + (dk_num (fc j)).length) (nI 32))))] := hD
    refine lv_aload_n hx hb dX0_write_62 rfl (lv_at hl 0 rfl) ?_
    refine lv_aload_n hx hb dX0_write_63 rfl (lv_at hl 0 rfl) ?_
    refine va_get (D := (dC, dI)) (ci := 0) (v := .ref qn) (C := RX0) (T := TX0) (N := 9) hx hb hts hinX0 hown hK hP 0 rfl rfl 5 (by decide) (hts (.fieldLink RX0 26 "DayDesk" "now" "[J") (by decide +kernel)) (fun _ h9 => h9) rfl dX0_write_64 ?_
    refine lv_iload_n hx hb dX0_write_67 rfl (lv_at hl 1 rfl) ?_
    refine dk_lald hx hb hK hP 4 3 rfl rfl (j := j) (by omega) (by omega) dX0_write_68 ?_
    have hPc := hP.sub (ws' := [(h0, .inr (0, [.int d, .int tk, .ref qo, .ref qw, .ref qc, .ref qn, .ref qm, .ref ql, .int (nI (0 + (dk_num (fo j)).length + 1 + (dk_num (fw j)).length + 1 + (dk_num (fc j)).length + 1))])), (ql, .inl (k6, 104, .inl (upd (dk_ap (upd (dk_ap (upd (dk_ap fl 0 (dk_num (fo j))) (0 + (dk_num (fo j)).length) (nI 32)) (0 + (dk_num (fo j)).length + 1) (dk_num (fw j))) (0 + (dk_num (fo j)).length + 1 + (dk_num (fw j)).length) (nI 32)) (0 + (dk_num (fo j)).length + 1 + (dk_num (fw j)).length + 1) (dk_num (fc j))) (0 + (dk_num (fo j)).length + 1 + (dk_num (fw j)).length + 1 + (dk_num (fc j)).length) (nI 32))))]) [0, 6] rfl
    have hDc := hD.sub (ws' := [(h0, .inr (0, [.int d, .int tk, .ref qo, .ref qw, .ref qc, .ref qn, .ref qm, .ref ql, .int (nI (0 + (dk_num (fo j)).length + 1 + (dk_num (fw j)).length + 1 + (dk_num (fc j)).length + 1))])), (ql, .inl (k6, 104, .inl (upd (dk_ap (upd (dk_ap (upd (dk_ap fl 0 (dk_num (fo j))) (0 + (dk_num (fo j)).length) (nI 32)) (0 + (dk_num (fo j)).length + 1) (dk_num (fw j))) (0 + (dk_num (fo j)).length + 1 + (dk_num (fw j)).length) (nI 32)) (0 + (dk_num (fo j)).length + 1 + (dk_num (fw j)).length + 1) (dk_num (fc j))) (0 + (dk_num (fo j)).length + 1 + (dk_num (fw j)).length + 1 + (dk_num (fc j)).length) (nI 32))))]) [0, 6] (by decide) rfl
    have hFc := va_free (wc := [(h0, .inr (0, [.int d, .int tk, .ref qo, .ref qw, .ref qc, .ref qn, .ref qm, .ref ql, .int (nI (0 + (dk_num (fo j)).length + 1 + (dk_num (fw j)).length + 1 + (dk_num (fc j)).length + 1))])), (ql, .inl (k6, 104, .inl (upd (dk_ap (upd (dk_ap (upd (dk_ap fl 0 (dk_num (fo j))) (0 + (dk_num (fo j)).length) (nI 32)) (0 + (dk_num (fo j)).length + 1) (dk_num (fw j))) (0 + (dk_num (fo j)).length + 1 + (dk_num (fw j)).length) (nI 32)) (0 + (dk_num (fo j)).length + 1 + (dk_num (fw j)).length + 1) (dk_num (fc j))) (0 + (dk_num (fo j)).length + 1 + (dk_num (fw j)).length + 1 + (dk_num (fc j)).length) (nI 32))))]) hD hS hA [0, 6] rfl
    have hKc := hK.sub (tys' := [(k6, .char)]) [5] rfl
    refine va_callv (va_runV (As := [.long (fn j)]) (rest := []) ⟨hx, hb, hml, hown, hts⟩ (cX_addNumber l dC dI _ h0 qo qw qc qn qm ql k6 d tk (0 + (dk_num (fo j)).length + 1 + (dk_num (fw j)).length + 1 + (dk_num (fc j)).length + 1) (upd (dk_ap (upd (dk_ap (upd (dk_ap fl 0 (dk_num (fo j))) (0 + (dk_num (fo j)).length) (nI 32)) (0 + (dk_num (fo j)).length + 1) (dk_num (fw j))) (0 + (dk_num (fo j)).length + 1 + (dk_num (fw j)).length) (nI 32)) (0 + (dk_num (fo j)).length + 1 + (dk_num (fw j)).length + 1) (dk_num (fc j))) (0 + (dk_num (fo j)).length + 1 + (dk_num (fw j)).length + 1 + (dk_num (fc j)).length) (nI 32)) (fn j) hb4 (by omega)) (cwV 1 hts gX0_write_X0_addNumber rfl rfl rfl (by decide +kernel) ⟨Nat.le_of_ble_eq_true rfl, Nat.le_of_ble_eq_true rfl⟩) (dk_wV hPc hKc hDc (ci := 0) (q0 := 0) rfl rfl) rfl rfl hl.1 rfl (lv_room (Nat.le_of_ble_eq_true rfl)) dX0_write_69 ⟨Nat.zero_le _, Nat.zero_le _⟩) hS (fun q _ h => hFc q h) hFc (fun u8 t8 H1 locs ht8 hvm8 hw hB hz1 hk1 hS => ?_)
    try dsimp only at hw
    obtain ⟨hP1, hD1⟩ := hB
    rw [ht8] at hP1
    obtain ⟨hP, hD⟩ := va_join (wr := [(qo, .inl (k1, 200, .inr (.inl fo))), (qw, .inl (k2, 200, .inr (.inl fw))), (qc, .inl (k3, 200, .inr (.inl fc))), (qn, .inl (k4, 200, .inr (.inl fn))), (qm, .inl (k5, 200, .inr (.inl fm)))]) (w1 := [(h0, .inr (0, [.int d, .int tk, .ref qo, .ref qw, .ref qc, .ref qn, .ref qm, .ref ql, .int (nI (0 + (dk_num (fo j)).length + 1 + (dk_num (fw j)).length + 1 + (dk_num (fc j)).length + 1 + (dk_num (fn j)).length))])), (ql, .inl (k6, 104, .inl (dk_ap (upd (dk_ap (upd (dk_ap (upd (dk_ap fl 0 (dk_num (fo j))) (0 + (dk_num (fo j)).length) (nI 32)) (0 + (dk_num (fo j)).length + 1) (dk_num (fw j))) (0 + (dk_num (fo j)).length + 1 + (dk_num (fw j)).length) (nI 32)) (0 + (dk_num (fo j)).length + 1 + (dk_num (fw j)).length + 1) (dk_num (fc j))) (0 + (dk_num (fo j)).length + 1 + (dk_num (fw j)).length + 1 + (dk_num (fc j)).length) (nI 32)) (0 + (dk_num (fo j)).length + 1 + (dk_num (fw j)).length + 1 + (dk_num (fc j)).length + 1) (dk_num (fn j)))))]) hP hD [0, 6] [1, 2, 3, 4, 5] rfl rfl (by decide) (by decide) hk1 hFc hP1 hD1
    generalize H1 = H at hP hS ⊢
    have hP := hP.sub (ws' := [(h0, .inr (0, [.int d, .int tk, .ref qo, .ref qw, .ref qc, .ref qn, .ref qm, .ref ql, .int (nI (0 + (dk_num (fo j)).length + 1 + (dk_num (fw j)).length + 1 + (dk_num (fc j)).length + 1 + (dk_num (fn j)).length))])), (qo, .inl (k1, 200, .inr (.inl fo))), (qw, .inl (k2, 200, .inr (.inl fw))), (qc, .inl (k3, 200, .inr (.inl fc))), (qn, .inl (k4, 200, .inr (.inl fn))), (qm, .inl (k5, 200, .inr (.inl fm))), (ql, .inl (k6, 104, .inl (dk_ap (upd (dk_ap (upd (dk_ap (upd (dk_ap fl 0 (dk_num (fo j))) (0 + (dk_num (fo j)).length) (nI 32)) (0 + (dk_num (fo j)).length + 1) (dk_num (fw j))) (0 + (dk_num (fo j)).length + 1 + (dk_num (fw j)).length) (nI 32)) (0 + (dk_num (fo j)).length + 1 + (dk_num (fw j)).length + 1) (dk_num (fc j))) (0 + (dk_num (fo j)).length + 1 + (dk_num (fw j)).length + 1 + (dk_num (fc j)).length) (nI 32)) (0 + (dk_num (fo j)).length + 1 + (dk_num (fw j)).length + 1 + (dk_num (fc j)).length + 1) (dk_num (fn j)))))]) [5, 0, 1, 2, 3, 4, 6] rfl
    have hD := hD.sub (ws' := [(h0, .inr (0, [.int d, .int tk, .ref qo, .ref qw, .ref qc, .ref qn, .ref qm, .ref ql, .int (nI (0 + (dk_num (fo j)).length + 1 + (dk_num (fw j)).length + 1 + (dk_num (fc j)).length + 1 + (dk_num (fn j)).length))])), (qo, .inl (k1, 200, .inr (.inl fo))), (qw, .inl (k2, 200, .inr (.inl fw))), (qc, .inl (k3, 200, .inr (.inl fc))), (qn, .inl (k4, 200, .inr (.inl fn))), (qm, .inl (k5, 200, .inr (.inl fm))), (ql, .inl (k6, 104, .inl (dk_ap (upd (dk_ap (upd (dk_ap (upd (dk_ap fl 0 (dk_num (fo j))) (0 + (dk_num (fo j)).length) (nI 32)) (0 + (dk_num (fo j)).length + 1) (dk_num (fw j))) (0 + (dk_num (fo j)).length + 1 + (dk_num (fw j)).length) (nI 32)) (0 + (dk_num (fo j)).length + 1 + (dk_num (fw j)).length + 1) (dk_num (fc j))) (0 + (dk_num (fo j)).length + 1 + (dk_num (fw j)).length + 1 + (dk_num (fc j)).length) (nI 32)) (0 + (dk_num (fo j)).length + 1 + (dk_num (fw j)).length + 1 + (dk_num (fc j)).length + 1) (dk_num (fn j)))))]) [5, 0, 1, 2, 3, 4, 6] (by decide) rfl
    have hP : va_P (dC, dI) vwCl [(h0, .inr (0, [.int d, .int tk, .ref qo, .ref qw, .ref qc, .ref qn, .ref qm, .ref ql, .int (nI (0 + (dk_num (fo j)).length + 1 + (dk_num (fw j)).length + 1 + (dk_num (fc j)).length + 1 + (dk_num (fn j)).length))])), (qo, .inl (k1, 200, .inr (.inl fo))), (qw, .inl (k2, 200, .inr (.inl fw))), (qc, .inl (k3, 200, .inr (.inl fc))), (qn, .inl (k4, 200, .inr (.inl fn))), (qm, .inl (k5, 200, .inr (.inl fm))), (ql, .inl (k6, 104, .inl (dk_ap (upd (dk_ap (upd (dk_ap (upd (dk_ap fl 0 (dk_num (fo j))) (0 + (dk_num (fo j)).length) (nI 32)) (0 + (dk_num (fo j)).length + 1) (dk_num (fw j))) (0 + (dk_num (fo j)).length + 1 + (dk_num (fw j)).length) (nI 32)) (0 + (dk_num (fo j)).length + 1 + (dk_num (fw j)).length + 1) (dk_num (fc j))) (0 + (dk_num (fo j)).length + 1 + (dk_num (fw j)).length + 1 + (dk_num (fc j)).length) (nI 32)) (0 + (dk_num (fo j)).length + 1 + (dk_num (fw j)).length + 1 + (dk_num (fc j)).length + 1) (dk_num (fn j)))))] H := hP
    have hD : va_D A [(h0, .inr (0, [.int d, .int tk, .ref qo, .ref qw, .ref qc, .ref qn, .ref qm, .ref ql, .int (nI (0 + (dk_num (fo j)).length + 1 + (dk_num (fw j)).length + 1 + (dk_num (fc j)).length + 1 + (dk_num (fn j)).length))])), (qo, .inl (k1, 200, .inr (.inl fo))), (qw, .inl (k2, 200, .inr (.inl fw))), (qc, .inl (k3, 200, .inr (.inl fc))), (qn, .inl (k4, 200, .inr (.inl fn))), (qm, .inl (k5, 200, .inr (.inl fm))), (ql, .inl (k6, 104, .inl (dk_ap (upd (dk_ap (upd (dk_ap (upd (dk_ap fl 0 (dk_num (fo j))) (0 + (dk_num (fo j)).length) (nI 32)) (0 + (dk_num (fo j)).length + 1) (dk_num (fw j))) (0 + (dk_num (fo j)).length + 1 + (dk_num (fw j)).length) (nI 32)) (0 + (dk_num (fo j)).length + 1 + (dk_num (fw j)).length + 1) (dk_num (fc j))) (0 + (dk_num (fo j)).length + 1 + (dk_num (fw j)).length + 1 + (dk_num (fc j)).length) (nI 32)) (0 + (dk_num (fo j)).length + 1 + (dk_num (fw j)).length + 1 + (dk_num (fc j)).length + 1) (dk_num (fn j)))))] := hD
    refine lv_aload_n hx hb dX0_write_72 rfl (lv_at hl 0 rfl) ?_
    refine lv_bipush (v := nI 32) hx hb dX0_write_73 (by decide) ?_
    have hPc := hP.sub (ws' := [(h0, .inr (0, [.int d, .int tk, .ref qo, .ref qw, .ref qc, .ref qn, .ref qm, .ref ql, .int (nI (0 + (dk_num (fo j)).length + 1 + (dk_num (fw j)).length + 1 + (dk_num (fc j)).length + 1 + (dk_num (fn j)).length))])), (ql, .inl (k6, 104, .inl (dk_ap (upd (dk_ap (upd (dk_ap (upd (dk_ap fl 0 (dk_num (fo j))) (0 + (dk_num (fo j)).length) (nI 32)) (0 + (dk_num (fo j)).length + 1) (dk_num (fw j))) (0 + (dk_num (fo j)).length + 1 + (dk_num (fw j)).length) (nI 32)) (0 + (dk_num (fo j)).length + 1 + (dk_num (fw j)).length + 1) (dk_num (fc j))) (0 + (dk_num (fo j)).length + 1 + (dk_num (fw j)).length + 1 + (dk_num (fc j)).length) (nI 32)) (0 + (dk_num (fo j)).length + 1 + (dk_num (fw j)).length + 1 + (dk_num (fc j)).length + 1) (dk_num (fn j)))))]) [0, 6] rfl
    have hDc := hD.sub (ws' := [(h0, .inr (0, [.int d, .int tk, .ref qo, .ref qw, .ref qc, .ref qn, .ref qm, .ref ql, .int (nI (0 + (dk_num (fo j)).length + 1 + (dk_num (fw j)).length + 1 + (dk_num (fc j)).length + 1 + (dk_num (fn j)).length))])), (ql, .inl (k6, 104, .inl (dk_ap (upd (dk_ap (upd (dk_ap (upd (dk_ap fl 0 (dk_num (fo j))) (0 + (dk_num (fo j)).length) (nI 32)) (0 + (dk_num (fo j)).length + 1) (dk_num (fw j))) (0 + (dk_num (fo j)).length + 1 + (dk_num (fw j)).length) (nI 32)) (0 + (dk_num (fo j)).length + 1 + (dk_num (fw j)).length + 1) (dk_num (fc j))) (0 + (dk_num (fo j)).length + 1 + (dk_num (fw j)).length + 1 + (dk_num (fc j)).length) (nI 32)) (0 + (dk_num (fo j)).length + 1 + (dk_num (fw j)).length + 1 + (dk_num (fc j)).length + 1) (dk_num (fn j)))))]) [0, 6] (by decide) rfl
    have hFc := va_free (wc := [(h0, .inr (0, [.int d, .int tk, .ref qo, .ref qw, .ref qc, .ref qn, .ref qm, .ref ql, .int (nI (0 + (dk_num (fo j)).length + 1 + (dk_num (fw j)).length + 1 + (dk_num (fc j)).length + 1 + (dk_num (fn j)).length))])), (ql, .inl (k6, 104, .inl (dk_ap (upd (dk_ap (upd (dk_ap (upd (dk_ap fl 0 (dk_num (fo j))) (0 + (dk_num (fo j)).length) (nI 32)) (0 + (dk_num (fo j)).length + 1) (dk_num (fw j))) (0 + (dk_num (fo j)).length + 1 + (dk_num (fw j)).length) (nI 32)) (0 + (dk_num (fo j)).length + 1 + (dk_num (fw j)).length + 1) (dk_num (fc j))) (0 + (dk_num (fo j)).length + 1 + (dk_num (fw j)).length + 1 + (dk_num (fc j)).length) (nI 32)) (0 + (dk_num (fo j)).length + 1 + (dk_num (fw j)).length + 1 + (dk_num (fc j)).length + 1) (dk_num (fn j)))))]) hD hS hA [0, 6] rfl
    have hKc := hK.sub (tys' := [(k6, .char)]) [5] rfl
    refine va_callv (va_runV (As := [.int (nI 32)]) (rest := []) ⟨hx, hb, hml, hown, hts⟩ (cX_addCharacter l dC dI _ h0 qo qw qc qn qm ql k6 d tk (0 + (dk_num (fo j)).length + 1 + (dk_num (fw j)).length + 1 + (dk_num (fc j)).length + 1 + (dk_num (fn j)).length) (by omega) (dk_ap (upd (dk_ap (upd (dk_ap (upd (dk_ap fl 0 (dk_num (fo j))) (0 + (dk_num (fo j)).length) (nI 32)) (0 + (dk_num (fo j)).length + 1) (dk_num (fw j))) (0 + (dk_num (fo j)).length + 1 + (dk_num (fw j)).length) (nI 32)) (0 + (dk_num (fo j)).length + 1 + (dk_num (fw j)).length + 1) (dk_num (fc j))) (0 + (dk_num (fo j)).length + 1 + (dk_num (fw j)).length + 1 + (dk_num (fc j)).length) (nI 32)) (0 + (dk_num (fo j)).length + 1 + (dk_num (fw j)).length + 1 + (dk_num (fc j)).length + 1) (dk_num (fn j))) 32 (by omega)) (cwV 1 hts gX0_write_X0_addCharacter rfl rfl rfl (by decide +kernel) ⟨Nat.le_of_ble_eq_true rfl, Nat.le_of_ble_eq_true rfl⟩) (dk_wV hPc hKc hDc (ci := 0) (q0 := 0) rfl rfl) rfl rfl hl.1 rfl (lv_room (Nat.le_of_ble_eq_true rfl)) dX0_write_75 ⟨Nat.zero_le _, Nat.zero_le _⟩) hS (fun q _ h => hFc q h) hFc (fun u8 t8 H1 locs ht8 hvm8 hw hB hz1 hk1 hS => ?_)
    try dsimp only at hw
    obtain ⟨hP1, hD1⟩ := hB
    rw [ht8] at hP1
    obtain ⟨hP, hD⟩ := va_join (wr := [(qo, .inl (k1, 200, .inr (.inl fo))), (qw, .inl (k2, 200, .inr (.inl fw))), (qc, .inl (k3, 200, .inr (.inl fc))), (qn, .inl (k4, 200, .inr (.inl fn))), (qm, .inl (k5, 200, .inr (.inl fm)))]) (w1 := [(h0, .inr (0, [.int d, .int tk, .ref qo, .ref qw, .ref qc, .ref qn, .ref qm, .ref ql, .int (nI (0 + (dk_num (fo j)).length + 1 + (dk_num (fw j)).length + 1 + (dk_num (fc j)).length + 1 + (dk_num (fn j)).length + 1))])), (ql, .inl (k6, 104, .inl (upd (dk_ap (upd (dk_ap (upd (dk_ap (upd (dk_ap fl 0 (dk_num (fo j))) (0 + (dk_num (fo j)).length) (nI 32)) (0 + (dk_num (fo j)).length + 1) (dk_num (fw j))) (0 + (dk_num (fo j)).length + 1 + (dk_num (fw j)).length) (nI 32)) (0 + (dk_num (fo j)).length + 1 + (dk_num (fw j)).length + 1) (dk_num (fc j))) (0 + (dk_num (fo j)).length + 1 + (dk_num (fw j)).length + 1 + (dk_num (fc j)).length) (nI 32)) (0 + (dk_num (fo j)).length + 1 + (dk_num (fw j)).length + 1 + (dk_num (fc j)).length + 1) (dk_num (fn j))) (0 + (dk_num (fo j)).length + 1 + (dk_num (fw j)).length + 1 + (dk_num (fc j)).length + 1 + (dk_num (fn j)).length) (nI 32))))]) hP hD [0, 6] [1, 2, 3, 4, 5] rfl rfl (by decide) (by decide) hk1 hFc hP1 hD1
    generalize H1 = H at hP hS ⊢
    have hP := hP.sub (ws' := [(h0, .inr (0, [.int d, .int tk, .ref qo, .ref qw, .ref qc, .ref qn, .ref qm, .ref ql, .int (nI (0 + (dk_num (fo j)).length + 1 + (dk_num (fw j)).length + 1 + (dk_num (fc j)).length + 1 + (dk_num (fn j)).length + 1))])), (qo, .inl (k1, 200, .inr (.inl fo))), (qw, .inl (k2, 200, .inr (.inl fw))), (qc, .inl (k3, 200, .inr (.inl fc))), (qn, .inl (k4, 200, .inr (.inl fn))), (qm, .inl (k5, 200, .inr (.inl fm))), (ql, .inl (k6, 104, .inl (upd (dk_ap (upd (dk_ap (upd (dk_ap (upd (dk_ap fl 0 (dk_num (fo j))) (0 + (dk_num (fo j)).length) (nI 32)) (0 + (dk_num (fo j)).length + 1) (dk_num (fw j))) (0 + (dk_num (fo j)).length + 1 + (dk_num (fw j)).length) (nI 32)) (0 + (dk_num (fo j)).length + 1 + (dk_num (fw j)).length + 1) (dk_num (fc j))) (0 + (dk_num (fo j)).length + 1 + (dk_num (fw j)).length + 1 + (dk_num (fc j)).length) (nI 32)) (0 + (dk_num (fo j)).length + 1 + (dk_num (fw j)).length + 1 + (dk_num (fc j)).length + 1) (dk_num (fn j))) (0 + (dk_num (fo j)).length + 1 + (dk_num (fw j)).length + 1 + (dk_num (fc j)).length + 1 + (dk_num (fn j)).length) (nI 32))))]) [5, 0, 1, 2, 3, 4, 6] rfl
    have hD := hD.sub (ws' := [(h0, .inr (0, [.int d, .int tk, .ref qo, .ref qw, .ref qc, .ref qn, .ref qm, .ref ql, .int (nI (0 + (dk_num (fo j)).length + 1 + (dk_num (fw j)).length + 1 + (dk_num (fc j)).length + 1 + (dk_num (fn j)).length + 1))])), (qo, .inl (k1, 200, .inr (.inl fo))), (qw, .inl (k2, 200, .inr (.inl fw))), (qc, .inl (k3, 200, .inr (.inl fc))), (qn, .inl (k4, 200, .inr (.inl fn))), (qm, .inl (k5, 200, .inr (.inl fm))), (ql, .inl (k6, 104, .inl (upd (dk_ap (upd (dk_ap (upd (dk_ap (upd (dk_ap fl 0 (dk_num (fo j))) (0 + (dk_num (fo j)).length) (nI 32)) (0 + (dk_num (fo j)).length + 1) (dk_num (fw j))) (0 + (dk_num (fo j)).length + 1 + (dk_num (fw j)).length) (nI 32)) (0 + (dk_num (fo j)).length + 1 + (dk_num (fw j)).length + 1) (dk_num (fc j))) (0 + (dk_num (fo j)).length + 1 + (dk_num (fw j)).length + 1 + (dk_num (fc j)).length) (nI 32)) (0 + (dk_num (fo j)).length + 1 + (dk_num (fw j)).length + 1 + (dk_num (fc j)).length + 1) (dk_num (fn j))) (0 + (dk_num (fo j)).length + 1 + (dk_num (fw j)).length + 1 + (dk_num (fc j)).length + 1 + (dk_num (fn j)).length) (nI 32))))]) [5, 0, 1, 2, 3, 4, 6] (by decide) rfl
    have hP : va_P (dC, dI) vwCl [(h0, .inr (0, [.int d, .int tk, .ref qo, .ref qw, .ref qc, .ref qn, .ref qm, .ref ql, .int (nI (0 + (dk_num (fo j)).length + 1 + (dk_num (fw j)).length + 1 + (dk_num (fc j)).length + 1 + (dk_num (fn j)).length + 1))])), (qo, .inl (k1, 200, .inr (.inl fo))), (qw, .inl (k2, 200, .inr (.inl fw))), (qc, .inl (k3, 200, .inr (.inl fc))), (qn, .inl (k4, 200, .inr (.inl fn))), (qm, .inl (k5, 200, .inr (.inl fm))), (ql, .inl (k6, 104, .inl (upd (dk_ap (upd (dk_ap (upd (dk_ap (upd (dk_ap fl 0 (dk_num (fo j))) (0 + (dk_num (fo j)).length) (nI 32)) (0 + (dk_num (fo j)).length + 1) (dk_num (fw j))) (0 + (dk_num (fo j)).length + 1 + (dk_num (fw j)).length) (nI 32)) (0 + (dk_num (fo j)).length + 1 + (dk_num (fw j)).length + 1) (dk_num (fc j))) (0 + (dk_num (fo j)).length + 1 + (dk_num (fw j)).length + 1 + (dk_num (fc j)).length) (nI 32)) (0 + (dk_num (fo j)).length + 1 + (dk_num (fw j)).length + 1 + (dk_num (fc j)).length + 1) (dk_num (fn j))) (0 + (dk_num (fo j)).length + 1 + (dk_num (fw j)).length + 1 + (dk_num (fc j)).length + 1 + (dk_num (fn j)).length) (nI 32))))] H := hP
    have hD : va_D A [(h0, .inr (0, [.int d, .int tk, .ref qo, .ref qw, .ref qc, .ref qn, .ref qm, .ref ql, .int (nI (0 + (dk_num (fo j)).length + 1 + (dk_num (fw j)).length + 1 + (dk_num (fc j)).length + 1 + (dk_num (fn j)).length + 1))])), (qo, .inl (k1, 200, .inr (.inl fo))), (qw, .inl (k2, 200, .inr (.inl fw))), (qc, .inl (k3, 200, .inr (.inl fc))), (qn, .inl (k4, 200, .inr (.inl fn))), (qm, .inl (k5, 200, .inr (.inl fm))), (ql, .inl (k6, 104, .inl (upd (dk_ap (upd (dk_ap (upd (dk_ap (upd (dk_ap fl 0 (dk_num (fo j))) (0 + (dk_num (fo j)).length) (nI 32)) (0 + (dk_num (fo j)).length + 1) (dk_num (fw j))) (0 + (dk_num (fo j)).length + 1 + (dk_num (fw j)).length) (nI 32)) (0 + (dk_num (fo j)).length + 1 + (dk_num (fw j)).length + 1) (dk_num (fc j))) (0 + (dk_num (fo j)).length + 1 + (dk_num (fw j)).length + 1 + (dk_num (fc j)).length) (nI 32)) (0 + (dk_num (fo j)).length + 1 + (dk_num (fw j)).length + 1 + (dk_num (fc j)).length + 1) (dk_num (fn j))) (0 + (dk_num (fo j)).length + 1 + (dk_num (fw j)).length + 1 + (dk_num (fc j)).length + 1 + (dk_num (fn j)).length) (nI 32))))] := hD
    refine lv_aload_n hx hb dX0_write_78 rfl (lv_at hl 0 rfl) ?_
    refine lv_aload_n hx hb dX0_write_79 rfl (lv_at hl 0 rfl) ?_
    refine va_get (D := (dC, dI)) (ci := 0) (v := .ref qm) (C := RX0) (T := TX0) (N := 9) hx hb hts hinX0 hown hK hP 0 rfl rfl 6 (by decide) (hts (.fieldLink RX0 29 "DayDesk" "moved" "[J") (by decide +kernel)) (fun _ h9 => h9) rfl dX0_write_80 ?_
    refine lv_iload_n hx hb dX0_write_83 rfl (lv_at hl 1 rfl) ?_
    refine dk_lald hx hb hK hP 5 4 rfl rfl (j := j) (by omega) (by omega) dX0_write_84 ?_
    have hPc := hP.sub (ws' := [(h0, .inr (0, [.int d, .int tk, .ref qo, .ref qw, .ref qc, .ref qn, .ref qm, .ref ql, .int (nI (0 + (dk_num (fo j)).length + 1 + (dk_num (fw j)).length + 1 + (dk_num (fc j)).length + 1 + (dk_num (fn j)).length + 1))])), (ql, .inl (k6, 104, .inl (upd (dk_ap (upd (dk_ap (upd (dk_ap (upd (dk_ap fl 0 (dk_num (fo j))) (0 + (dk_num (fo j)).length) (nI 32)) (0 + (dk_num (fo j)).length + 1) (dk_num (fw j))) (0 + (dk_num (fo j)).length + 1 + (dk_num (fw j)).length) (nI 32)) (0 + (dk_num (fo j)).length + 1 + (dk_num (fw j)).length + 1) (dk_num (fc j))) (0 + (dk_num (fo j)).length + 1 + (dk_num (fw j)).length + 1 + (dk_num (fc j)).length) (nI 32)) (0 + (dk_num (fo j)).length + 1 + (dk_num (fw j)).length + 1 + (dk_num (fc j)).length + 1) (dk_num (fn j))) (0 + (dk_num (fo j)).length + 1 + (dk_num (fw j)).length + 1 + (dk_num (fc j)).length + 1 + (dk_num (fn j)).length) (nI 32))))]) [0, 6] rfl
    have hDc := hD.sub (ws' := [(h0, .inr (0, [.int d, .int tk, .ref qo, .ref qw, .ref qc, .ref qn, .ref qm, .ref ql, .int (nI (0 + (dk_num (fo j)).length + 1 + (dk_num (fw j)).length + 1 + (dk_num (fc j)).length + 1 + (dk_num (fn j)).length + 1))])), (ql, .inl (k6, 104, .inl (upd (dk_ap (upd (dk_ap (upd (dk_ap (upd (dk_ap fl 0 (dk_num (fo j))) (0 + (dk_num (fo j)).length) (nI 32)) (0 + (dk_num (fo j)).length + 1) (dk_num (fw j))) (0 + (dk_num (fo j)).length + 1 + (dk_num (fw j)).length) (nI 32)) (0 + (dk_num (fo j)).length + 1 + (dk_num (fw j)).length + 1) (dk_num (fc j))) (0 + (dk_num (fo j)).length + 1 + (dk_num (fw j)).length + 1 + (dk_num (fc j)).length) (nI 32)) (0 + (dk_num (fo j)).length + 1 + (dk_num (fw j)).length + 1 + (dk_num (fc j)).length + 1) (dk_num (fn j))) (0 + (dk_num (fo j)).length + 1 + (dk_num (fw j)).length + 1 + (dk_num (fc j)).length + 1 + (dk_num (fn j)).length) (nI 32))))]) [0, 6] (by decide) rfl
    have hFc := va_free (wc := [(h0, .inr (0, [.int d, .int tk, .ref qo, .ref qw, .ref qc, .ref qn, .ref qm, .ref ql, .int (nI (0 + (dk_num (fo j)).length + 1 + (dk_num (fw j)).length + 1 + (dk_num (fc j)).length + 1 + (dk_num (fn j)).length + 1))])), (ql, .inl (k6, 104, .inl (upd (dk_ap (upd (dk_ap (upd (dk_ap (upd (dk_ap fl 0 (dk_num (fo j))) (0 + (dk_num (fo j)).length) (nI 32)) (0 + (dk_num (fo j)).length + 1) (dk_num (fw j))) (0 + (dk_num (fo j)).length + 1 + (dk_num (fw j)).length) (nI 32)) (0 + (dk_num (fo j)).length + 1 + (dk_num (fw j)).length + 1) (dk_num (fc j))) (0 + (dk_num (fo j)).length + 1 + (dk_num (fw j)).length + 1 + (dk_num (fc j)).length) (nI 32)) (0 + (dk_num (fo j)).length + 1 + (dk_num (fw j)).length + 1 + (dk_num (fc j)).length + 1) (dk_num (fn j))) (0 + (dk_num (fo j)).length + 1 + (dk_num (fw j)).length + 1 + (dk_num (fc j)).length + 1 + (dk_num (fn j)).length) (nI 32))))]) hD hS hA [0, 6] rfl
    have hKc := hK.sub (tys' := [(k6, .char)]) [5] rfl
    refine va_callv (va_runV (As := [.long (fm j)]) (rest := []) ⟨hx, hb, hml, hown, hts⟩ (cX_addNumber l dC dI _ h0 qo qw qc qn qm ql k6 d tk (0 + (dk_num (fo j)).length + 1 + (dk_num (fw j)).length + 1 + (dk_num (fc j)).length + 1 + (dk_num (fn j)).length + 1) (upd (dk_ap (upd (dk_ap (upd (dk_ap (upd (dk_ap fl 0 (dk_num (fo j))) (0 + (dk_num (fo j)).length) (nI 32)) (0 + (dk_num (fo j)).length + 1) (dk_num (fw j))) (0 + (dk_num (fo j)).length + 1 + (dk_num (fw j)).length) (nI 32)) (0 + (dk_num (fo j)).length + 1 + (dk_num (fw j)).length + 1) (dk_num (fc j))) (0 + (dk_num (fo j)).length + 1 + (dk_num (fw j)).length + 1 + (dk_num (fc j)).length) (nI 32)) (0 + (dk_num (fo j)).length + 1 + (dk_num (fw j)).length + 1 + (dk_num (fc j)).length + 1) (dk_num (fn j))) (0 + (dk_num (fo j)).length + 1 + (dk_num (fw j)).length + 1 + (dk_num (fc j)).length + 1 + (dk_num (fn j)).length) (nI 32)) (fm j) hb5 (by omega)) (cwV 1 hts gX0_write_X0_addNumber rfl rfl rfl (by decide +kernel) ⟨Nat.le_of_ble_eq_true rfl, Nat.le_of_ble_eq_true rfl⟩) (dk_wV hPc hKc hDc (ci := 0) (q0 := 0) rfl rfl) rfl rfl hl.1 rfl (lv_room (Nat.le_of_ble_eq_true rfl)) dX0_write_85 ⟨Nat.zero_le _, Nat.zero_le _⟩) hS (fun q _ h => hFc q h) hFc (fun u8 t8 H1 locs ht8 hvm8 hw hB hz1 hk1 hS => ?_)
    try dsimp only at hw
    obtain ⟨hP1, hD1⟩ := hB
    rw [ht8] at hP1
    obtain ⟨hP, hD⟩ := va_join (wr := [(qo, .inl (k1, 200, .inr (.inl fo))), (qw, .inl (k2, 200, .inr (.inl fw))), (qc, .inl (k3, 200, .inr (.inl fc))), (qn, .inl (k4, 200, .inr (.inl fn))), (qm, .inl (k5, 200, .inr (.inl fm)))]) (w1 := [(h0, .inr (0, [.int d, .int tk, .ref qo, .ref qw, .ref qc, .ref qn, .ref qm, .ref ql, .int (nI (0 + (dk_num (fo j)).length + 1 + (dk_num (fw j)).length + 1 + (dk_num (fc j)).length + 1 + (dk_num (fn j)).length + 1 + (dk_num (fm j)).length))])), (ql, .inl (k6, 104, .inl (dk_ap (upd (dk_ap (upd (dk_ap (upd (dk_ap (upd (dk_ap fl 0 (dk_num (fo j))) (0 + (dk_num (fo j)).length) (nI 32)) (0 + (dk_num (fo j)).length + 1) (dk_num (fw j))) (0 + (dk_num (fo j)).length + 1 + (dk_num (fw j)).length) (nI 32)) (0 + (dk_num (fo j)).length + 1 + (dk_num (fw j)).length + 1) (dk_num (fc j))) (0 + (dk_num (fo j)).length + 1 + (dk_num (fw j)).length + 1 + (dk_num (fc j)).length) (nI 32)) (0 + (dk_num (fo j)).length + 1 + (dk_num (fw j)).length + 1 + (dk_num (fc j)).length + 1) (dk_num (fn j))) (0 + (dk_num (fo j)).length + 1 + (dk_num (fw j)).length + 1 + (dk_num (fc j)).length + 1 + (dk_num (fn j)).length) (nI 32)) (0 + (dk_num (fo j)).length + 1 + (dk_num (fw j)).length + 1 + (dk_num (fc j)).length + 1 + (dk_num (fn j)).length + 1) (dk_num (fm j)))))]) hP hD [0, 6] [1, 2, 3, 4, 5] rfl rfl (by decide) (by decide) hk1 hFc hP1 hD1
    generalize H1 = H at hP hS ⊢
    have hP := hP.sub (ws' := [(h0, .inr (0, [.int d, .int tk, .ref qo, .ref qw, .ref qc, .ref qn, .ref qm, .ref ql, .int (nI (0 + (dk_num (fo j)).length + 1 + (dk_num (fw j)).length + 1 + (dk_num (fc j)).length + 1 + (dk_num (fn j)).length + 1 + (dk_num (fm j)).length))])), (qo, .inl (k1, 200, .inr (.inl fo))), (qw, .inl (k2, 200, .inr (.inl fw))), (qc, .inl (k3, 200, .inr (.inl fc))), (qn, .inl (k4, 200, .inr (.inl fn))), (qm, .inl (k5, 200, .inr (.inl fm))), (ql, .inl (k6, 104, .inl (dk_ap (upd (dk_ap (upd (dk_ap (upd (dk_ap (upd (dk_ap fl 0 (dk_num (fo j))) (0 + (dk_num (fo j)).length) (nI 32)) (0 + (dk_num (fo j)).length + 1) (dk_num (fw j))) (0 + (dk_num (fo j)).length + 1 + (dk_num (fw j)).length) (nI 32)) (0 + (dk_num (fo j)).length + 1 + (dk_num (fw j)).length + 1) (dk_num (fc j))) (0 + (dk_num (fo j)).length + 1 + (dk_num (fw j)).length + 1 + (dk_num (fc j)).length) (nI 32)) (0 + (dk_num (fo j)).length + 1 + (dk_num (fw j)).length + 1 + (dk_num (fc j)).length + 1) (dk_num (fn j))) (0 + (dk_num (fo j)).length + 1 + (dk_num (fw j)).length + 1 + (dk_num (fc j)).length + 1 + (dk_num (fn j)).length) (nI 32)) (0 + (dk_num (fo j)).length + 1 + (dk_num (fw j)).length + 1 + (dk_num (fc j)).length + 1 + (dk_num (fn j)).length + 1) (dk_num (fm j)))))]) [5, 0, 1, 2, 3, 4, 6] rfl
    have hD := hD.sub (ws' := [(h0, .inr (0, [.int d, .int tk, .ref qo, .ref qw, .ref qc, .ref qn, .ref qm, .ref ql, .int (nI (0 + (dk_num (fo j)).length + 1 + (dk_num (fw j)).length + 1 + (dk_num (fc j)).length + 1 + (dk_num (fn j)).length + 1 + (dk_num (fm j)).length))])), (qo, .inl (k1, 200, .inr (.inl fo))), (qw, .inl (k2, 200, .inr (.inl fw))), (qc, .inl (k3, 200, .inr (.inl fc))), (qn, .inl (k4, 200, .inr (.inl fn))), (qm, .inl (k5, 200, .inr (.inl fm))), (ql, .inl (k6, 104, .inl (dk_ap (upd (dk_ap (upd (dk_ap (upd (dk_ap (upd (dk_ap fl 0 (dk_num (fo j))) (0 + (dk_num (fo j)).length) (nI 32)) (0 + (dk_num (fo j)).length + 1) (dk_num (fw j))) (0 + (dk_num (fo j)).length + 1 + (dk_num (fw j)).length) (nI 32)) (0 + (dk_num (fo j)).length + 1 + (dk_num (fw j)).length + 1) (dk_num (fc j))) (0 + (dk_num (fo j)).length + 1 + (dk_num (fw j)).length + 1 + (dk_num (fc j)).length) (nI 32)) (0 + (dk_num (fo j)).length + 1 + (dk_num (fw j)).length + 1 + (dk_num (fc j)).length + 1) (dk_num (fn j))) (0 + (dk_num (fo j)).length + 1 + (dk_num (fw j)).length + 1 + (dk_num (fc j)).length + 1 + (dk_num (fn j)).length) (nI 32)) (0 + (dk_num (fo j)).length + 1 + (dk_num (fw j)).length + 1 + (dk_num (fc j)).length + 1 + (dk_num (fn j)).length + 1) (dk_num (fm j)))))]) [5, 0, 1, 2, 3, 4, 6] (by decide) rfl
    have hP : va_P (dC, dI) vwCl [(h0, .inr (0, [.int d, .int tk, .ref qo, .ref qw, .ref qc, .ref qn, .ref qm, .ref ql, .int (nI (0 + (dk_num (fo j)).length + 1 + (dk_num (fw j)).length + 1 + (dk_num (fc j)).length + 1 + (dk_num (fn j)).length + 1 + (dk_num (fm j)).length))])), (qo, .inl (k1, 200, .inr (.inl fo))), (qw, .inl (k2, 200, .inr (.inl fw))), (qc, .inl (k3, 200, .inr (.inl fc))), (qn, .inl (k4, 200, .inr (.inl fn))), (qm, .inl (k5, 200, .inr (.inl fm))), (ql, .inl (k6, 104, .inl (dk_ap (upd (dk_ap (upd (dk_ap (upd (dk_ap (upd (dk_ap fl 0 (dk_num (fo j))) (0 + (dk_num (fo j)).length) (nI 32)) (0 + (dk_num (fo j)).length + 1) (dk_num (fw j))) (0 + (dk_num (fo j)).length + 1 + (dk_num (fw j)).length) (nI 32)) (0 + (dk_num (fo j)).length + 1 + (dk_num (fw j)).length + 1) (dk_num (fc j))) (0 + (dk_num (fo j)).length + 1 + (dk_num (fw j)).length + 1 + (dk_num (fc j)).length) (nI 32)) (0 + (dk_num (fo j)).length + 1 + (dk_num (fw j)).length + 1 + (dk_num (fc j)).length + 1) (dk_num (fn j))) (0 + (dk_num (fo j)).length + 1 + (dk_num (fw j)).length + 1 + (dk_num (fc j)).length + 1 + (dk_num (fn j)).length) (nI 32)) (0 + (dk_num (fo j)).length + 1 + (dk_num (fw j)).length + 1 + (dk_num (fc j)).length + 1 + (dk_num (fn j)).length + 1) (dk_num (fm j)))))] H := hP
    have hD : va_D A [(h0, .inr (0, [.int d, .int tk, .ref qo, .ref qw, .ref qc, .ref qn, .ref qm, .ref ql, .int (nI (0 + (dk_num (fo j)).length + 1 + (dk_num (fw j)).length + 1 + (dk_num (fc j)).length + 1 + (dk_num (fn j)).length + 1 + (dk_num (fm j)).length))])), (qo, .inl (k1, 200, .inr (.inl fo))), (qw, .inl (k2, 200, .inr (.inl fw))), (qc, .inl (k3, 200, .inr (.inl fc))), (qn, .inl (k4, 200, .inr (.inl fn))), (qm, .inl (k5, 200, .inr (.inl fm))), (ql, .inl (k6, 104, .inl (dk_ap (upd (dk_ap (upd (dk_ap (upd (dk_ap (upd (dk_ap fl 0 (dk_num (fo j))) (0 + (dk_num (fo j)).length) (nI 32)) (0 + (dk_num (fo j)).length + 1) (dk_num (fw j))) (0 + (dk_num (fo j)).length + 1 + (dk_num (fw j)).length) (nI 32)) (0 + (dk_num (fo j)).length + 1 + (dk_num (fw j)).length + 1) (dk_num (fc j))) (0 + (dk_num (fo j)).length + 1 + (dk_num (fw j)).length + 1 + (dk_num (fc j)).length) (nI 32)) (0 + (dk_num (fo j)).length + 1 + (dk_num (fw j)).length + 1 + (dk_num (fc j)).length + 1) (dk_num (fn j))) (0 + (dk_num (fo j)).length + 1 + (dk_num (fw j)).length + 1 + (dk_num (fc j)).length + 1 + (dk_num (fn j)).length) (nI 32)) (0 + (dk_num (fo j)).length + 1 + (dk_num (fw j)).length + 1 + (dk_num (fc j)).length + 1 + (dk_num (fn j)).length + 1) (dk_num (fm j)))))] := hD
    have e1 : (0 + (dk_num (fo j)).length + 1 + (dk_num (fw j)).length + 1 + (dk_num (fc j)).length + 1 + (dk_num (fn j)).length + 1 + (dk_num (fm j)).length) = (dk_txt (fo j) (fw j) (fc j) (fn j) (fm j)).length := by unfold dk_txt; simp only [List.length_append, List.length_singleton]; omega
    have e2 : dk_ap (upd (dk_ap (upd (dk_ap (upd (dk_ap (upd (dk_ap fl 0 (dk_num (fo j))) (0 + (dk_num (fo j)).length) (nI 32)) (0 + (dk_num (fo j)).length + 1) (dk_num (fw j))) (0 + (dk_num (fo j)).length + 1 + (dk_num (fw j)).length) (nI 32)) (0 + (dk_num (fo j)).length + 1 + (dk_num (fw j)).length + 1) (dk_num (fc j))) (0 + (dk_num (fo j)).length + 1 + (dk_num (fw j)).length + 1 + (dk_num (fc j)).length) (nI 32)) (0 + (dk_num (fo j)).length + 1 + (dk_num (fw j)).length + 1 + (dk_num (fc j)).length + 1) (dk_num (fn j))) (0 + (dk_num (fo j)).length + 1 + (dk_num (fw j)).length + 1 + (dk_num (fc j)).length + 1 + (dk_num (fn j)).length) (nI 32)) (0 + (dk_num (fo j)).length + 1 + (dk_num (fw j)).length + 1 + (dk_num (fc j)).length + 1 + (dk_num (fn j)).length + 1) (dk_num (fm j)) = dk_ap fl 0 (dk_txt (fo j) (fw j) (fc j) (fn j) (fm j)) := by unfold dk_txt; simp only [dk_ap_app, dk_ap_cons, dk_ap_nil, List.length_singleton]
    rw [e1, e2] at hP hD
    have hP : va_P (dC, dI) vwCl [(h0, .inr (0, [.int d, .int tk, .ref qo, .ref qw, .ref qc, .ref qn, .ref qm, .ref ql, .int (nI (dk_txt (fo j) (fw j) (fc j) (fn j) (fm j)).length)])), (qo, .inl (k1, 200, .inr (.inl fo))), (qw, .inl (k2, 200, .inr (.inl fw))), (qc, .inl (k3, 200, .inr (.inl fc))), (qn, .inl (k4, 200, .inr (.inl fn))), (qm, .inl (k5, 200, .inr (.inl fm))), (ql, .inl (k6, 104, .inl (dk_ap fl 0 (dk_txt (fo j) (fw j) (fc j) (fn j) (fm j)))))] H := hP
    have hD : va_D A [(h0, .inr (0, [.int d, .int tk, .ref qo, .ref qw, .ref qc, .ref qn, .ref qm, .ref ql, .int (nI (dk_txt (fo j) (fw j) (fc j) (fn j) (fm j)).length)])), (qo, .inl (k1, 200, .inr (.inl fo))), (qw, .inl (k2, 200, .inr (.inl fw))), (qc, .inl (k3, 200, .inr (.inl fc))), (qn, .inl (k4, 200, .inr (.inl fn))), (qm, .inl (k5, 200, .inr (.inl fm))), (ql, .inl (k6, 104, .inl (dk_ap fl 0 (dk_txt (fo j) (fw j) (fc j) (fn j) (fm j)))))] := hD
    refine lv_aload_n hx hb dX0_write_88 rfl (lv_at hl 0 rfl) ?_
    refine va_get (D := (dC, dI)) (ci := 0) (v := .int (nI (dk_txt (fo j) (fw j) (fc j) (fn j) (fm j)).length)) (C := RX0) (T := TX0) (N := 9) hx hb hts hinX0 hown hK hP 0 rfl rfl 8 (by decide) (hts (.fieldLink RX0 36 "DayDesk" "lineLength" "I") (by decide +kernel)) (fun _ h9 => h9) rfl dX0_write_89 ?_
    exact W.iret (v := nI (dk_txt (fo j) (fw j) (fc j) (fn j) (fm j)).length) hx hb hr (fun z8 hz8 hW8 => ⟨⟨(nI (dk_txt (fo j) (fw j) (fc j) (fn j) (fm j)).length), (nI (dk_txt (fo j) (fw j) (fc j) (fn j) (fm j)).length, dk_ap fl 0 (dk_txt (fo j) (fw j) (fc j) (fn j) (fm j))), rfl, Or.inr ⟨j, hj, rfl, rfl, rfl, rfl⟩, by rw [hz8]; exact hP, hD⟩, hS.F hz8⟩) hS.2.2 dX0_write_92
  · refine lv_if_ne (tgt := 9) hx hb dX0_write_4 (by decide) (fun c9 => absurd (by decide) c9) (fun _ => ?_)
    refine lv_iconst (v := (-1)) hx hb dX0_write_7 (by decide) ?_
    exact W.iret (v := (-1)) hx hb hr (fun z8 hz8 hW8 => ⟨⟨(-1), (ll, fl), rfl, Or.inl ⟨rfl, hno, rfl, rfl⟩, by rw [hz8]; exact hP, hD⟩, hS.F hz8⟩) hS.2.2 dX0_write_8
end
section
theorem dk_arL (n : Nat) (cA : ClassId) : vp_cell cA (n, .inr (.inl (fun _ => 0))) = arrV cA n (fun _ => defaultValue .long) := rfl
theorem dk_arC (n : Nat) (cA : ClassId) : vp_cell cA (n, .inl (fun _ => 0)) = arrV cA n (fun _ => defaultValue .char) := rfl
theorem dk_arI (n : Nat) (cA : ClassId) : vp_cell cA (n, .inl (fun _ => 0)) = arrV cA n (fun _ => defaultValue .int) := rfl
set_option maxHeartbeats 4000000 in
set_option maxRecDepth 100000 in
/-- the constructor: all is 0 -/
theorem cX_init (l : Launch) (dC : Nat → ClassId) (dI : Nat → Nat → Nat) (sz : Nat) (h0 : Nat) : Met l yX0_init wsX0_init ({ frames := 1, cells := 6, slots := 1104, locals := 12 }) (dk_Pw [.ref h0] (dC, dI) vwCl [] [(h0, .inr (0, [.int 0, .int 0, .null, .null, .null, .null, .null, .null, .int 0]))] sz) (va_Qv (fun _ => True) (fun (u : Nat × Nat × Nat × Nat × Nat × Nat × ClassId × ClassId × ClassId × ClassId × ClassId × ClassId) z8 => match u with | (qo, qw, qc, qn, qm, ql, k1, k2, k3, k4, k5, k6) => va_P (dC, dI) vwCl [(h0, .inr (0, [.int 0, .int 0, .ref qo, .ref qw, .ref qc, .ref qn, .ref qm, .ref ql, .int 0])), (qo, .inl (k1, 200, .inr (.inl (fun _ => 0)))), (qw, .inl (k2, 200, .inr (.inl (fun _ => 0)))), (qc, .inl (k3, 200, .inr (.inl (fun _ => 0)))), (qn, .inl (k4, 200, .inr (.inl (fun _ => 0)))), (qm, .inl (k5, 200, .inr (.inl (fun _ => 0)))), (ql, .inl (k6, 104, .inl (fun _ => 0)))] z8.heap ∧ va_K (dC, dI) vwCl [(k1, .long), (k2, .long), (k3, .long), (k4, .long), (k5, .long), (k6, .char)] z8 ∧ va_D (va_A [(h0, .inr (0, [.int 0, .int 0, .null, .null, .null, .null, .null, .null, .int 0]))] sz) [(h0, .inr (0, [.int 0, .int 0, .ref qo, .ref qw, .ref qc, .ref qn, .ref qm, .ref ql, .int 0])), (qo, .inl (k1, 200, .inr (.inl (fun _ => 0)))), (qw, .inl (k2, 200, .inr (.inl (fun _ => 0)))), (qc, .inl (k3, 200, .inr (.inl (fun _ => 0)))), (qn, .inl (k4, 200, .inr (.inl (fun _ => 0)))), (qm, .inl (k5, 200, .inr (.inl (fun _ => 0)))), (ql, .inl (k6, 104, .inl (fun _ => 0)))]) (va_A [(h0, .inr (0, [.int 0, .int 0, .null, .null, .null, .null, .null, .null, .int 0]))] sz)) 6 1104 (va_A [(h0, .inr (0, [.int 0, .int 0, .null, .null, .null, .null, .null, .null, .int 0]))] sz) := by
  refine Met.ofW (cc := cX0_init) (maxL := 1) (ret := none) (by decide) rfl ?_
  intro p e s m args below meth c s₁ B hml hv
  obtain ⟨rfl, hsz, hP, hK, hD0⟩ := hv
  have hx := B.exec
  have hb := B.bytes
  have hr := B.returns
  have hts := atoms_spec (ws := wsX0_init) B.pre
  have hown : s.vm.findClass RX0 = some m.cls := findClass_of_methodNamed B.named
  have hlocks := B.notSynchronized
  have hin9 : meth.name = "<init>" := (name_of_methodNamed B.named B.method).1
  have hinX0 : ∀ w ∈ wsX00, w ∈ wsX0_init := by decide +kernel
  subst hsz
  have hD := hD0.self (sz := s.heap.size)
  generalize hAe : va_A [(h0, .inr (0, [.int 0, .int 0, .null, .null, .null, .null, .null, .null, .int 0]))] s.heap.size = A at hD ⊢
  have hA : ∀ q : Nat, s.heap.size ≤ q → A q := fun q h => by rw [← hAe]; exact Or.inr h
  have hS : va_S A s.heap s.heap [] := va_S.rf
  have hl := lv_entry ([.ref h0]) (n := 1) (Nat.le_of_ble_eq_true rfl)
  rw [lg_entry_eq]
  generalize (lg_sl ([.ref h0]) ++ List.replicate (1 - (lg_sl ([.ref h0])).length) Slot.unset).toArray = ls at hl ⊢
  have hl : lv_has ls 1 [(0, .ref h0)] := hl
  refine lv_aload_n hx hb dX0_init_0 rfl (lv_at hl 0 rfl) ?_
  refine W.objInit hx hb hown (hts (.methodLink RX0 1 objectInit) (by decide +kernel)) (hts (.instanceMethod objectInit) (by decide +kernel)) (hts (.code objectInit ⟨#[0xb1]⟩ 1 none) (by decide +kernel)) rfl (by rw [hml]; exact hl.1) rfl dX0_init_1 (Nat.le_of_ble_eq_true rfl) (Nat.le_of_ble_eq_true rfl) ?_
  refine W.eq (g2 := F0 m 4 ls []) rfl ?_
  refine lv_aload_n hx hb dX0_init_4 rfl (lv_at hl 0 rfl) ?_
  refine lv_iconst (v := 0) hx hb dX0_init_5 (by decide) ?_
  refine va_put (D := (dC, dI)) (ci := 0) (v := .int 0) (ty := .int) (C := RX0) (T := TX0) (N := 9) hx hb hts hinX0 tyX0 tyX0_ok nmX0 hown hK hP hD hS 0 rfl rfl 0 (by decide) (hts (.fieldLink RX0 7 "DayDesk" "day" "I") (by decide +kernel)) (fun _ h9 => h9) rfl (by decide +kernel) rfl rfl (Nat.le_of_ble_eq_true rfl) dX0_init_6 (fun H locs hP hD hS => ?_)
  have hP : va_P (dC, dI) vwCl [(h0, .inr (0, [.int 0, .int 0, .null, .null, .null, .null, .null, .null, .int 0]))] H := hP
  have hD : va_D A [(h0, .inr (0, [.int 0, .int 0, .null, .null, .null, .null, .null, .null, .int 0]))] := hD
  refine lv_aload_n hx hb dX0_init_9 rfl (lv_at hl 0 rfl) ?_
  refine lv_iconst (v := 0) hx hb dX0_init_10 (by decide) ?_
  refine va_put (D := (dC, dI)) (ci := 0) (v := .int 0) (ty := .int) (C := RX0) (T := TX0) (N := 9) hx hb hts hinX0 tyX0 tyX0_ok nmX0 hown hK hP hD hS 0 rfl rfl 1 (by decide) (hts (.fieldLink RX0 13 "DayDesk" "tick" "I") (by decide +kernel)) (fun _ h9 => h9) rfl (by decide +kernel) rfl rfl (Nat.le_of_ble_eq_true rfl) dX0_init_11 (fun H locs hP hD hS => ?_)
  have hP : va_P (dC, dI) vwCl [(h0, .inr (0, [.int 0, .int 0, .null, .null, .null, .null, .null, .null, .int 0]))] H := hP
  have hD : va_D A [(h0, .inr (0, [.int 0, .int 0, .null, .null, .null, .null, .null, .null, .int 0]))] := hD
  refine lv_aload_n hx hb dX0_init_14 rfl (lv_at hl 0 rfl) ?_
  refine lv_sipush (v := nI 200) hx hb dX0_init_15 (by decide) ?_
  refine va_newa (atype := .long) (a0 := (200, .inr (.inl (fun _ => 0)))) (N' := 200) (ty := .long) hx hb (hts (.arrayClass .long) (by decide +kernel)) rfl hK hP hD hS hA (fun cA => dk_arL 200 cA) (by decide) (nI_clamp (by omega)) (by decide) (show 1 ≤ 6 from by decide) (show 200 ≤ 1104 from by decide) dX0_init_18 (fun qo k1 H hK hP hD hS => ?_)
  have hP : va_P (dC, dI) vwCl [(h0, .inr (0, [.int 0, .int 0, .null, .null, .null, .null, .null, .null, .int 0])), (qo, .inl (k1, 200, .inr (.inl (fun _ => 0))))] H := hP
  have hD : va_D A [(h0, .inr (0, [.int 0, .int 0, .null, .null, .null, .null, .null, .null, .int 0])), (qo, .inl (k1, 200, .inr (.inl (fun _ => 0))))] := hD
  have hK : va_K (dC, dI) vwCl [(k1, .long)] s := hK
  refine W.widen (k := 1) (n := 200) (by decide) (by decide) ?_
  refine va_putF (D := (dC, dI)) (ci := 0) (v := .ref qo) (ty := (.array .long)) (C := RX0) (T := TX0) (N := 9) hx hb hts hinX0 tyX0 tyX0_ok nmX0 hown hK hP hD hS 0 rfl rfl 2 (by decide) (hts (.fieldLink RX0 16 "DayDesk" "opening" "[J") (by decide +kernel)) (fun _ h9 => h9) rfl hin9 rfl (by decide +kernel) rfl rfl (Nat.le_of_ble_eq_true rfl) dX0_init_20 (fun H locs hP hD hS => ?_)
  have hP : va_P (dC, dI) vwCl [(h0, .inr (0, [.int 0, .int 0, .ref qo, .null, .null, .null, .null, .null, .int 0])), (qo, .inl (k1, 200, .inr (.inl (fun _ => 0))))] H := hP
  have hD : va_D A [(h0, .inr (0, [.int 0, .int 0, .ref qo, .null, .null, .null, .null, .null, .int 0])), (qo, .inl (k1, 200, .inr (.inl (fun _ => 0))))] := hD
  refine lv_aload_n hx hb dX0_init_23 rfl (lv_at hl 0 rfl) ?_
  refine lv_sipush (v := nI 200) hx hb dX0_init_24 (by decide) ?_
  refine va_newa (atype := .long) (a0 := (200, .inr (.inl (fun _ => 0)))) (N' := 200) (ty := .long) hx hb (hts (.arrayClass .long) (by decide +kernel)) rfl hK hP hD hS hA (fun cA => dk_arL 200 cA) (by decide) (nI_clamp (by omega)) (by decide) (show 2 ≤ 6 from by decide) (show 400 ≤ 1104 from by decide) dX0_init_27 (fun qw k2 H hK hP hD hS => ?_)
  have hP : va_P (dC, dI) vwCl [(h0, .inr (0, [.int 0, .int 0, .ref qo, .null, .null, .null, .null, .null, .int 0])), (qo, .inl (k1, 200, .inr (.inl (fun _ => 0)))), (qw, .inl (k2, 200, .inr (.inl (fun _ => 0))))] H := hP
  have hD : va_D A [(h0, .inr (0, [.int 0, .int 0, .ref qo, .null, .null, .null, .null, .null, .int 0])), (qo, .inl (k1, 200, .inr (.inl (fun _ => 0)))), (qw, .inl (k2, 200, .inr (.inl (fun _ => 0))))] := hD
  have hK : va_K (dC, dI) vwCl [(k1, .long), (k2, .long)] s := hK
  refine W.widen (k := 2) (n := 400) (by decide) (by decide) ?_
  refine va_putF (D := (dC, dI)) (ci := 0) (v := .ref qw) (ty := (.array .long)) (C := RX0) (T := TX0) (N := 9) hx hb hts hinX0 tyX0 tyX0_ok nmX0 hown hK hP hD hS 0 rfl rfl 3 (by decide) (hts (.fieldLink RX0 20 "DayDesk" "went" "[J") (by decide +kernel)) (fun _ h9 => h9) rfl hin9 rfl (by decide +kernel) rfl rfl (Nat.le_of_ble_eq_true rfl) dX0_init_29 (fun H locs hP hD hS => ?_)
  have hP : va_P (dC, dI) vwCl [(h0, .inr (0, [.int 0, .int 0, .ref qo, .ref qw, .null, .null, .null, .null, .int 0])), (qo, .inl (k1, 200, .inr (.inl (fun _ => 0)))), (qw, .inl (k2, 200, .inr (.inl (fun _ => 0))))] H := hP
  have hD : va_D A [(h0, .inr (0, [.int 0, .int 0, .ref qo, .ref qw, .null, .null, .null, .null, .int 0])), (qo, .inl (k1, 200, .inr (.inl (fun _ => 0)))), (qw, .inl (k2, 200, .inr (.inl (fun _ => 0))))] := hD
  refine lv_aload_n hx hb dX0_init_32 rfl (lv_at hl 0 rfl) ?_
  refine lv_sipush (v := nI 200) hx hb dX0_init_33 (by decide) ?_
  refine va_newa (atype := .long) (a0 := (200, .inr (.inl (fun _ => 0)))) (N' := 200) (ty := .long) hx hb (hts (.arrayClass .long) (by decide +kernel)) rfl hK hP hD hS hA (fun cA => dk_arL 200 cA) (by decide) (nI_clamp (by omega)) (by decide) (show 3 ≤ 6 from by decide) (show 600 ≤ 1104 from by decide) dX0_init_36 (fun qc k3 H hK hP hD hS => ?_)
  have hP : va_P (dC, dI) vwCl [(h0, .inr (0, [.int 0, .int 0, .ref qo, .ref qw, .null, .null, .null, .null, .int 0])), (qo, .inl (k1, 200, .inr (.inl (fun _ => 0)))), (qw, .inl (k2, 200, .inr (.inl (fun _ => 0)))), (qc, .inl (k3, 200, .inr (.inl (fun _ => 0))))] H := hP
  have hD : va_D A [(h0, .inr (0, [.int 0, .int 0, .ref qo, .ref qw, .null, .null, .null, .null, .int 0])), (qo, .inl (k1, 200, .inr (.inl (fun _ => 0)))), (qw, .inl (k2, 200, .inr (.inl (fun _ => 0)))), (qc, .inl (k3, 200, .inr (.inl (fun _ => 0))))] := hD
  have hK : va_K (dC, dI) vwCl [(k1, .long), (k2, .long), (k3, .long)] s := hK
  refine W.widen (k := 3) (n := 600) (by decide) (by decide) ?_
  refine va_putF (D := (dC, dI)) (ci := 0) (v := .ref qc) (ty := (.array .long)) (C := RX0) (T := TX0) (N := 9) hx hb hts hinX0 tyX0 tyX0_ok nmX0 hown hK hP hD hS 0 rfl rfl 4 (by decide) (hts (.fieldLink RX0 23 "DayDesk" "came" "[J") (by decide +kernel)) (fun _ h9 => h9) rfl hin9 rfl (by decide +kernel) rfl rfl (Nat.le_of_ble_eq_true rfl) dX0_init_38 (fun H locs hP hD hS => ?_)
  have hP : va_P (dC, dI) vwCl [(h0, .inr (0, [.int 0, .int 0, .ref qo, .ref qw, .ref qc, .null, .null, .null, .int 0])), (qo, .inl (k1, 200, .inr (.inl (fun _ => 0)))), (qw, .inl (k2, 200, .inr (.inl (fun _ => 0)))), (qc, .inl (k3, 200, .inr (.inl (fun _ => 0))))] H := hP
  have hD : va_D A [(h0, .inr (0, [.int 0, .int 0, .ref qo, .ref qw, .ref qc, .null, .null, .null, .int 0])), (qo, .inl (k1, 200, .inr (.inl (fun _ => 0)))), (qw, .inl (k2, 200, .inr (.inl (fun _ => 0)))), (qc, .inl (k3, 200, .inr (.inl (fun _ => 0))))] := hD
  refine lv_aload_n hx hb dX0_init_41 rfl (lv_at hl 0 rfl) ?_
  refine lv_sipush (v := nI 200) hx hb dX0_init_42 (by decide) ?_
  refine va_newa (atype := .long) (a0 := (200, .inr (.inl (fun _ => 0)))) (N' := 200) (ty := .long) hx hb (hts (.arrayClass .long) (by decide +kernel)) rfl hK hP hD hS hA (fun cA => dk_arL 200 cA) (by decide) (nI_clamp (by omega)) (by decide) (show 4 ≤ 6 from by decide) (show 800 ≤ 1104 from by decide) dX0_init_45 (fun qn k4 H hK hP hD hS => ?_)
  have hP : va_P (dC, dI) vwCl [(h0, .inr (0, [.int 0, .int 0, .ref qo, .ref qw, .ref qc, .null, .null, .null, .int 0])), (qo, .inl (k1, 200, .inr (.inl (fun _ => 0)))), (qw, .inl (k2, 200, .inr (.inl (fun _ => 0)))), (qc, .inl (k3, 200, .inr (.inl (fun _ => 0)))), (qn, .inl (k4, 200, .inr (.inl (fun _ => 0))))] H := hP
  have hD : va_D A [(h0, .inr (0, [.int 0, .int 0, .ref qo, .ref qw, .ref qc, .null, .null, .null, .int 0])), (qo, .inl (k1, 200, .inr (.inl (fun _ => 0)))), (qw, .inl (k2, 200, .inr (.inl (fun _ => 0)))), (qc, .inl (k3, 200, .inr (.inl (fun _ => 0)))), (qn, .inl (k4, 200, .inr (.inl (fun _ => 0))))] := hD
  have hK : va_K (dC, dI) vwCl [(k1, .long), (k2, .long), (k3, .long), (k4, .long)] s := hK
  refine W.widen (k := 4) (n := 800) (by decide) (by decide) ?_
  refine va_putF (D := (dC, dI)) (ci := 0) (v := .ref qn) (ty := (.array .long)) (C := RX0) (T := TX0) (N := 9) hx hb hts hinX0 tyX0 tyX0_ok nmX0 hown hK hP hD hS 0 rfl rfl 5 (by decide) (hts (.fieldLink RX0 26 "DayDesk" "now" "[J") (by decide +kernel)) (fun _ h9 => h9) rfl hin9 rfl (by decide +kernel) rfl rfl (Nat.le_of_ble_eq_true rfl) dX0_init_47 (fun H locs hP hD hS => ?_)
  have hP : va_P (dC, dI) vwCl [(h0, .inr (0, [.int 0, .int 0, .ref qo, .ref qw, .ref qc, .ref qn, .null, .null, .int 0])), (qo, .inl (k1, 200, .inr (.inl (fun _ => 0)))), (qw, .inl (k2, 200, .inr (.inl (fun _ => 0)))), (qc, .inl (k3, 200, .inr (.inl (fun _ => 0)))), (qn, .inl (k4, 200, .inr (.inl (fun _ => 0))))] H := hP
  have hD : va_D A [(h0, .inr (0, [.int 0, .int 0, .ref qo, .ref qw, .ref qc, .ref qn, .null, .null, .int 0])), (qo, .inl (k1, 200, .inr (.inl (fun _ => 0)))), (qw, .inl (k2, 200, .inr (.inl (fun _ => 0)))), (qc, .inl (k3, 200, .inr (.inl (fun _ => 0)))), (qn, .inl (k4, 200, .inr (.inl (fun _ => 0))))] := hD
  refine lv_aload_n hx hb dX0_init_50 rfl (lv_at hl 0 rfl) ?_
  refine lv_sipush (v := nI 200) hx hb dX0_init_51 (by decide) ?_
  refine va_newa (atype := .long) (a0 := (200, .inr (.inl (fun _ => 0)))) (N' := 200) (ty := .long) hx hb (hts (.arrayClass .long) (by decide +kernel)) rfl hK hP hD hS hA (fun cA => dk_arL 200 cA) (by decide) (nI_clamp (by omega)) (by decide) (show 5 ≤ 6 from by decide) (show 1000 ≤ 1104 from by decide) dX0_init_54 (fun qm k5 H hK hP hD hS => ?_)
  have hP : va_P (dC, dI) vwCl [(h0, .inr (0, [.int 0, .int 0, .ref qo, .ref qw, .ref qc, .ref qn, .null, .null, .int 0])), (qo, .inl (k1, 200, .inr (.inl (fun _ => 0)))), (qw, .inl (k2, 200, .inr (.inl (fun _ => 0)))), (qc, .inl (k3, 200, .inr (.inl (fun _ => 0)))), (qn, .inl (k4, 200, .inr (.inl (fun _ => 0)))), (qm, .inl (k5, 200, .inr (.inl (fun _ => 0))))] H := hP
  have hD : va_D A [(h0, .inr (0, [.int 0, .int 0, .ref qo, .ref qw, .ref qc, .ref qn, .null, .null, .int 0])), (qo, .inl (k1, 200, .inr (.inl (fun _ => 0)))), (qw, .inl (k2, 200, .inr (.inl (fun _ => 0)))), (qc, .inl (k3, 200, .inr (.inl (fun _ => 0)))), (qn, .inl (k4, 200, .inr (.inl (fun _ => 0)))), (qm, .inl (k5, 200, .inr (.inl (fun _ => 0))))] := hD
  have hK : va_K (dC, dI) vwCl [(k1, .long), (k2, .long), (k3, .long), (k4, .long), (k5, .long)] s := hK
  refine W.widen (k := 5) (n := 1000) (by decide) (by decide) ?_
  refine va_putF (D := (dC, dI)) (ci := 0) (v := .ref qm) (ty := (.array .long)) (C := RX0) (T := TX0) (N := 9) hx hb hts hinX0 tyX0 tyX0_ok nmX0 hown hK hP hD hS 0 rfl rfl 6 (by decide) (hts (.fieldLink RX0 29 "DayDesk" "moved" "[J") (by decide +kernel)) (fun _ h9 => h9) rfl hin9 rfl (by decide +kernel) rfl rfl (Nat.le_of_ble_eq_true rfl) dX0_init_56 (fun H locs hP hD hS => ?_)
  have hP : va_P (dC, dI) vwCl [(h0, .inr (0, [.int 0, .int 0, .ref qo, .ref qw, .ref qc, .ref qn, .ref qm, .null, .int 0])), (qo, .inl (k1, 200, .inr (.inl (fun _ => 0)))), (qw, .inl (k2, 200, .inr (.inl (fun _ => 0)))), (qc, .inl (k3, 200, .inr (.inl (fun _ => 0)))), (qn, .inl (k4, 200, .inr (.inl (fun _ => 0)))), (qm, .inl (k5, 200, .inr (.inl (fun _ => 0))))] H := hP
  have hD : va_D A [(h0, .inr (0, [.int 0, .int 0, .ref qo, .ref qw, .ref qc, .ref qn, .ref qm, .null, .int 0])), (qo, .inl (k1, 200, .inr (.inl (fun _ => 0)))), (qw, .inl (k2, 200, .inr (.inl (fun _ => 0)))), (qc, .inl (k3, 200, .inr (.inl (fun _ => 0)))), (qn, .inl (k4, 200, .inr (.inl (fun _ => 0)))), (qm, .inl (k5, 200, .inr (.inl (fun _ => 0))))] := hD
  refine lv_aload_n hx hb dX0_init_59 rfl (lv_at hl 0 rfl) ?_
  refine lv_bipush (v := nI 104) hx hb dX0_init_60 (by decide) ?_
  refine va_newa (atype := .char) (a0 := (104, .inl (fun _ => 0))) (N' := 104) (ty := .char) hx hb (hts (.arrayClass .char) (by decide +kernel)) rfl hK hP hD hS hA (fun cA => dk_arC 104 cA) (by decide) (nI_clamp (by omega)) (by decide) (show 6 ≤ 6 from by decide) (show 1104 ≤ 1104 from by decide) dX0_init_62 (fun ql k6 H hK hP hD hS => ?_)
  have hP : va_P (dC, dI) vwCl [(h0, .inr (0, [.int 0, .int 0, .ref qo, .ref qw, .ref qc, .ref qn, .ref qm, .null, .int 0])), (qo, .inl (k1, 200, .inr (.inl (fun _ => 0)))), (qw, .inl (k2, 200, .inr (.inl (fun _ => 0)))), (qc, .inl (k3, 200, .inr (.inl (fun _ => 0)))), (qn, .inl (k4, 200, .inr (.inl (fun _ => 0)))), (qm, .inl (k5, 200, .inr (.inl (fun _ => 0)))), (ql, .inl (k6, 104, .inl (fun _ => 0)))] H := hP
  have hD : va_D A [(h0, .inr (0, [.int 0, .int 0, .ref qo, .ref qw, .ref qc, .ref qn, .ref qm, .null, .int 0])), (qo, .inl (k1, 200, .inr (.inl (fun _ => 0)))), (qw, .inl (k2, 200, .inr (.inl (fun _ => 0)))), (qc, .inl (k3, 200, .inr (.inl (fun _ => 0)))), (qn, .inl (k4, 200, .inr (.inl (fun _ => 0)))), (qm, .inl (k5, 200, .inr (.inl (fun _ => 0)))), (ql, .inl (k6, 104, .inl (fun _ => 0)))] := hD
  have hK : va_K (dC, dI) vwCl [(k1, .long), (k2, .long), (k3, .long), (k4, .long), (k5, .long), (k6, .char)] s := hK
  refine W.widen (k := 6) (n := 1104) (by decide) (by decide) ?_
  refine va_putF (D := (dC, dI)) (ci := 0) (v := .ref ql) (ty := (.array .char)) (C := RX0) (T := TX0) (N := 9) hx hb hts hinX0 tyX0 tyX0_ok nmX0 hown hK hP hD hS 0 rfl rfl 7 (by decide) (hts (.fieldLink RX0 32 "DayDesk" "line" "[C") (by decide +kernel)) (fun _ h9 => h9) rfl hin9 rfl (by decide +kernel) rfl rfl (Nat.le_of_ble_eq_true rfl) dX0_init_64 (fun H locs hP hD hS => ?_)
  have hP : va_P (dC, dI) vwCl [(h0, .inr (0, [.int 0, .int 0, .ref qo, .ref qw, .ref qc, .ref qn, .ref qm, .ref ql, .int 0])), (qo, .inl (k1, 200, .inr (.inl (fun _ => 0)))), (qw, .inl (k2, 200, .inr (.inl (fun _ => 0)))), (qc, .inl (k3, 200, .inr (.inl (fun _ => 0)))), (qn, .inl (k4, 200, .inr (.inl (fun _ => 0)))), (qm, .inl (k5, 200, .inr (.inl (fun _ => 0)))), (ql, .inl (k6, 104, .inl (fun _ => 0)))] H := hP
  have hD : va_D A [(h0, .inr (0, [.int 0, .int 0, .ref qo, .ref qw, .ref qc, .ref qn, .ref qm, .ref ql, .int 0])), (qo, .inl (k1, 200, .inr (.inl (fun _ => 0)))), (qw, .inl (k2, 200, .inr (.inl (fun _ => 0)))), (qc, .inl (k3, 200, .inr (.inl (fun _ => 0)))), (qn, .inl (k4, 200, .inr (.inl (fun _ => 0)))), (qm, .inl (k5, 200, .inr (.inl (fun _ => 0)))), (ql, .inl (k6, 104, .inl (fun _ => 0)))] := hD
  refine lv_aload_n hx hb dX0_init_67 rfl (lv_at hl 0 rfl) ?_
  refine lv_iconst (v := 0) hx hb dX0_init_68 (by decide) ?_
  refine va_put (D := (dC, dI)) (ci := 0) (v := .int 0) (ty := .int) (C := RX0) (T := TX0) (N := 9) hx hb hts hinX0 tyX0 tyX0_ok nmX0 hown hK hP hD hS 0 rfl rfl 8 (by decide) (hts (.fieldLink RX0 36 "DayDesk" "lineLength" "I") (by decide +kernel)) (fun _ h9 => h9) rfl (by decide +kernel) rfl rfl (Nat.le_of_ble_eq_true rfl) dX0_init_69 (fun H locs hP hD hS => ?_)
  have hP : va_P (dC, dI) vwCl [(h0, .inr (0, [.int 0, .int 0, .ref qo, .ref qw, .ref qc, .ref qn, .ref qm, .ref ql, .int 0])), (qo, .inl (k1, 200, .inr (.inl (fun _ => 0)))), (qw, .inl (k2, 200, .inr (.inl (fun _ => 0)))), (qc, .inl (k3, 200, .inr (.inl (fun _ => 0)))), (qn, .inl (k4, 200, .inr (.inl (fun _ => 0)))), (qm, .inl (k5, 200, .inr (.inl (fun _ => 0)))), (ql, .inl (k6, 104, .inl (fun _ => 0)))] H := hP
  have hD : va_D A [(h0, .inr (0, [.int 0, .int 0, .ref qo, .ref qw, .ref qc, .ref qn, .ref qm, .ref ql, .int 0])), (qo, .inl (k1, 200, .inr (.inl (fun _ => 0)))), (qw, .inl (k2, 200, .inr (.inl (fun _ => 0)))), (qc, .inl (k3, 200, .inr (.inl (fun _ => 0)))), (qn, .inl (k4, 200, .inr (.inl (fun _ => 0)))), (qm, .inl (k5, 200, .inr (.inl (fun _ => 0)))), (ql, .inl (k6, 104, .inl (fun _ => 0)))] := hD
  exact W.vret hx hb hr (fun z8 hz8 hW8 => ⟨⟨(qo, qw, qc, qn, qm, ql, k1, k2, k3, k4, k5, k6), rfl, trivial, by rw [hz8]; exact hP, va_K.moved hW8.alike hK, hD⟩, hS.F hz8⟩) hS.2.2 dX0_init_72
end
section
set_option maxHeartbeats 4000000 in
set_option maxRecDepth 100000 in
/-- tick -/
theorem cY_tick (l : Launch) (dC : Nat → ClassId) (dI : Nat → Nat → Nat) (g0 a1 a2 a3 a4 : Nat) (T : Nat) (hT9 : T < 100000000) (kk w : Int32) : Met l yX1_tick wsX1_tick ({ frames := 0, cells := 0, slots := 0, locals := 0 }) (dk_Pr [.ref g0] (dC, dI) vwCl [] [(g0, .inr (1, [.long (lN T), .ref a1, .int kk, .ref a2, .ref a3, .int w, .ref a4]))]) (va_Qi (fun (r : Int32) (_ : Unit) => r = nI (T % 1000)) (fun _ _ => True) dk_no) 0 0 dk_no := by
  refine Met.ofW (cc := cX1_tick) (maxL := 1) (ret := (some .int)) (by decide) rfl ?_
  intro p e s m args below meth c s₁ B hml hv
  obtain ⟨rfl, hP, hK⟩ := hv
  have hx := B.exec
  have hb := B.bytes
  have hr := B.returns
  have hts := atoms_spec (ws := wsX1_tick) B.pre
  have hown : s.vm.findClass RX1 = some m.cls := findClass_of_methodNamed B.named
  have hlocks := B.notSynchronized
  have hinX1 : ∀ w ∈ wsX10, w ∈ wsX1_tick := by decide +kernel
  have hS : va_S dk_no s.heap s.heap [] := va_S.rf
  have hl := lv_entry ([.ref g0]) (n := 1) (Nat.le_of_ble_eq_true rfl)
  rw [lg_entry_eq]
  generalize (lg_sl ([.ref g0]) ++ List.replicate (1 - (lg_sl ([.ref g0])).length) Slot.unset).toArray = ls at hl ⊢
  have hl : lv_has ls 1 [(0, .ref g0)] := hl
  refine lv_aload_n hx hb dX1_tick_0 rfl (lv_at hl 0 rfl) ?_
  refine va_get (D := (dC, dI)) (ci := 1) (v := .long (lN T)) (C := RX1) (T := TX1) (N := 7) hx hb hts hinX1 hown hK hP 0 rfl rfl 0 (by decide) (hts (.fieldLink RX1 23 "DayDeskModel" "ticks" "J") (by decide +kernel)) (fun _ h9 => h9) rfl dX1_tick_1 ?_
  refine lv_ldc2 (v := lN 1000) hx hb hown (hts (.constantLong RX1 27 (lN 1000)) (by decide +kernel)) dX1_tick_4 ?_
  refine lv_lrem hx hb dX1_tick_7 (by decide) ?_
  refine dk_asl (y := lN (T % 1000)) (pk_lRem (by omega) (by omega) (by omega)) ?_
  refine lv_l2i (v := (lN (T % 1000)).toInt32) hx hb dX1_tick_8 rfl ?_
  refine dk_asi (y := nI (T % 1000)) (lN_i _) ?_
  exact W.iret (v := nI (T % 1000)) hx hb hr (fun z8 hz8 hW8 => ⟨⟨(nI (T % 1000)), (), rfl, rfl, trivial⟩, hS.F hz8⟩) hS.2.2 dX1_tick_9
set_option maxHeartbeats 4000000 in
set_option maxRecDepth 100000 in
/-- isResolved -/
theorem cY_isResolved (l : Launch) (dC : Nat → ClassId) (dI : Nat → Nat → Nat) (t : Nat) (ht9 : t < 1000) : Met l yX1_isResolved wsX1_isResolved ({ frames := 0, cells := 0, slots := 0, locals := 0 }) (dk_Pr [.int (nI t)] (dC, dI) vwCl [] []) (va_Qi (fun (r : Int32) (_ : Unit) => (r = 1 ∧ dk_iR t) ∨ (r = 0 ∧ ¬ dk_iR t)) (fun _ _ => True) dk_no) 0 0 dk_no := by
  refine Met.ofW (cc := cX1_isResolved) (maxL := 1) (ret := (some .boolean)) (by decide) rfl ?_
  intro p e s m args below meth c s₁ B hml hv
  obtain ⟨rfl, hP, hK⟩ := hv
  have hx := B.exec
  have hb := B.bytes
  have hr := B.returns
  have hts := atoms_spec (ws := wsX1_isResolved) B.pre
  have hown : s.vm.findClass RX1 = some m.cls := findClass_of_methodNamed B.named
  have hlocks := B.notSynchronized
  have hS : va_S dk_no s.heap s.heap [] := va_S.rf
  have hl := lv_entry ([.int (nI t)]) (n := 1) (Nat.le_of_ble_eq_true rfl)
  rw [lg_entry_eq]
  generalize (lg_sl ([.int (nI t)]) ++ List.replicate (1 - (lg_sl ([.int (nI t)])).length) Slot.unset).toArray = ls at hl ⊢
  have hl : lv_has ls 1 [(0, .int (nI t))] := hl
  refine lv_iload_n hx hb dX1_isResolved_0 rfl (lv_at hl 0 rfl) ?_
  refine lv_sipush (v := nI 150) hx hb dX1_isResolved_1 (by decide) ?_
  refine dk_icmp_lt (x := t) (y := 150) (tgt := 25) hx hb dX1_isResolved_4 (by decide) (by omega) (by omega) (fun c_4 => ?_) (fun c_4 => ?_)
  · refine lv_iconst (v := 0) hx hb dX1_isResolved_25 (by decide) ?_
    exact W.zret (v := 0) hx hb hr (by first | rfl | decide) (fun z8 hz8 hW8 => ⟨⟨0, (), rfl, Or.inr ⟨rfl, by unfold dk_iR; omega⟩, trivial⟩, hS.F hz8⟩) hS.2.2 dX1_isResolved_26
  · refine lv_iload_n hx hb dX1_isResolved_7 rfl (lv_at hl 0 rfl) ?_
    refine lv_sipush (v := nI 900) hx hb dX1_isResolved_8 (by decide) ?_
    refine dk_icmp_gt (x := t) (y := 900) (tgt := 25) hx hb dX1_isResolved_11 (by decide) (by omega) (by omega) (fun c_11 => ?_) (fun c_11 => ?_)
    · refine lv_iconst (v := 0) hx hb dX1_isResolved_25 (by decide) ?_
      exact W.zret (v := 0) hx hb hr (by first | rfl | decide) (fun z8 hz8 hW8 => ⟨⟨0, (), rfl, Or.inr ⟨rfl, by unfold dk_iR; omega⟩, trivial⟩, hS.F hz8⟩) hS.2.2 dX1_isResolved_26
    · refine lv_iload_n hx hb dX1_isResolved_14 rfl (lv_at hl 0 rfl) ?_
      refine lv_bipush (v := nI 50) hx hb dX1_isResolved_15 (by decide) ?_
      refine lv_irem hx hb dX1_isResolved_17 (by decide) ?_
      refine dk_asi (y := nI (t % 50)) (pk_rem (a := t) (d := 50) (by omega) (by omega) (by omega)) ?_
      refine dk_if_ne (x := t % 50) (tgt := 25) hx hb dX1_isResolved_18 (by decide) (by omega) (fun c_18 => ?_) (fun c_18 => ?_)
      · refine lv_iconst (v := 0) hx hb dX1_isResolved_25 (by decide) ?_
        exact W.zret (v := 0) hx hb hr (by first | rfl | decide) (fun z8 hz8 hW8 => ⟨⟨0, (), rfl, Or.inr ⟨rfl, by unfold dk_iR; omega⟩, trivial⟩, hS.F hz8⟩) hS.2.2 dX1_isResolved_26
      · refine lv_iconst (v := 1) hx hb dX1_isResolved_21 (by decide) ?_
        refine lv_goto (tgt := 26) hx hb dX1_isResolved_22 (by decide) ?_
        exact W.zret (v := 1) hx hb hr (by first | rfl | decide) (fun z8 hz8 hW8 => ⟨⟨1, (), rfl, Or.inl ⟨rfl, by unfold dk_iR; omega⟩, trivial⟩, hS.F hz8⟩) hS.2.2 dX1_isResolved_26
set_option maxHeartbeats 4000000 in
set_option maxRecDepth 100000 in
/-- phaseOf -/
theorem cY_phaseOf (l : Launch) (dC : Nat → ClassId) (dI : Nat → Nat → Nat) (t : Nat) (ht9 : t < 1000) : Met l yX1_phaseOf wsX1_phaseOf ({ frames := 0, cells := 0, slots := 0, locals := 0 }) (dk_Pr [.int (nI t)] (dC, dI) vwCl [] []) (va_Qi (fun (r : Int32) (_ : Unit) => r = nI (dk_ph t)) (fun _ _ => True) dk_no) 0 0 dk_no := by
  refine Met.ofW (cc := cX1_phaseOf) (maxL := 1) (ret := (some .int)) (by decide) rfl ?_
  intro p e s m args below meth c s₁ B hml hv
  obtain ⟨rfl, hP, hK⟩ := hv
  have hx := B.exec
  have hb := B.bytes
  have hr := B.returns
  have hts := atoms_spec (ws := wsX1_phaseOf) B.pre
  have hown : s.vm.findClass RX1 = some m.cls := findClass_of_methodNamed B.named
  have hlocks := B.notSynchronized
  have hS : va_S dk_no s.heap s.heap [] := va_S.rf
  have hl := lv_entry ([.int (nI t)]) (n := 1) (Nat.le_of_ble_eq_true rfl)
  rw [lg_entry_eq]
  generalize (lg_sl ([.int (nI t)]) ++ List.replicate (1 - (lg_sl ([.int (nI t)])).length) Slot.unset).toArray = ls at hl ⊢
  have hl : lv_has ls 1 [(0, .int (nI t))] := hl
  refine lv_iload_n hx hb dX1_phaseOf_0 rfl (lv_at hl 0 rfl) ?_
  refine lv_bipush (v := nI 100) hx hb dX1_phaseOf_1 (by decide) ?_
  refine dk_icmp_ge (x := t) (y := 100) (tgt := 10) hx hb dX1_phaseOf_3 (by decide) (by omega) (by omega) (fun c_3 => ?_) (fun c_3 => ?_)
  · refine lv_iload_n hx hb dX1_phaseOf_10 rfl (lv_at hl 0 rfl) ?_
    refine lv_sipush (v := nI 700) hx hb dX1_phaseOf_11 (by decide) ?_
    refine dk_icmp_ge (x := t) (y := 700) (tgt := 21) hx hb dX1_phaseOf_14 (by decide) (by omega) (by omega) (fun c_14 => ?_) (fun c_14 => ?_)
    · refine lv_iload_n hx hb dX1_phaseOf_21 rfl (lv_at hl 0 rfl) ?_
      refine lv_sipush (v := nI 800) hx hb dX1_phaseOf_22 (by decide) ?_
      refine dk_icmp_ge (x := t) (y := 800) (tgt := 32) hx hb dX1_phaseOf_25 (by decide) (by omega) (by omega) (fun c_25 => ?_) (fun c_25 => ?_)
      · refine lv_iload_n hx hb dX1_phaseOf_32 rfl (lv_at hl 0 rfl) ?_
        refine lv_sipush (v := nI 900) hx hb dX1_phaseOf_33 (by decide) ?_
        refine dk_icmp_ge (x := t) (y := 900) (tgt := 43) hx hb dX1_phaseOf_36 (by decide) (by omega) (by omega) (fun c_36 => ?_) (fun c_36 => ?_)
        · refine lv_iconst (v := 4) hx hb dX1_phaseOf_43 (by decide) ?_
          exact W.iret (v := 4) hx hb hr (fun z8 hz8 hW8 => ⟨⟨4, (), rfl, by rw [show dk_ph t = 4 from by unfold dk_ph; (repeat' split) <;> omega]; rfl, trivial⟩, hS.F hz8⟩) hS.2.2 dX1_phaseOf_44
        · refine lv_iconst (v := 3) hx hb dX1_phaseOf_39 (by decide) ?_
          refine lv_goto (tgt := 44) hx hb dX1_phaseOf_40 (by decide) ?_
          exact W.iret (v := 3) hx hb hr (fun z8 hz8 hW8 => ⟨⟨3, (), rfl, by rw [show dk_ph t = 3 from by unfold dk_ph; (repeat' split) <;> omega]; rfl, trivial⟩, hS.F hz8⟩) hS.2.2 dX1_phaseOf_44
      · refine lv_iconst (v := 2) hx hb dX1_phaseOf_28 (by decide) ?_
        refine lv_goto (tgt := 44) hx hb dX1_phaseOf_29 (by decide) ?_
        exact W.iret (v := 2) hx hb hr (fun z8 hz8 hW8 => ⟨⟨2, (), rfl, by rw [show dk_ph t = 2 from by unfold dk_ph; (repeat' split) <;> omega]; rfl, trivial⟩, hS.F hz8⟩) hS.2.2 dX1_phaseOf_44
    · refine lv_iconst (v := 1) hx hb dX1_phaseOf_17 (by decide) ?_
      refine lv_goto (tgt := 44) hx hb dX1_phaseOf_18 (by decide) ?_
      exact W.iret (v := 1) hx hb hr (fun z8 hz8 hW8 => ⟨⟨1, (), rfl, by rw [show dk_ph t = 1 from by unfold dk_ph; (repeat' split) <;> omega]; rfl, trivial⟩, hS.F hz8⟩) hS.2.2 dX1_phaseOf_44
  · refine lv_iconst (v := 0) hx hb dX1_phaseOf_6 (by decide) ?_
    refine lv_goto (tgt := 44) hx hb dX1_phaseOf_7 (by decide) ?_
    exact W.iret (v := 0) hx hb hr (fun z8 hz8 hW8 => ⟨⟨0, (), rfl, by rw [show dk_ph t = 0 from by unfold dk_ph; (repeat' split) <;> omega]; rfl, trivial⟩, hS.F hz8⟩) hS.2.2 dX1_phaseOf_44
set_option maxHeartbeats 4000000 in
set_option maxRecDepth 100000 in
/-- isPosition -/
theorem cY_isPosition (l : Launch) (dC : Nat → ClassId) (dI : Nat → Nat → Nat) (x : Int32) : Met l yX1_isPosition wsX1_isPosition ({ frames := 0, cells := 0, slots := 0, locals := 0 }) (dk_Pr [.int x] (dC, dI) vwCl [] []) (va_Qi (fun (r : Int32) (_ : Unit) => (r = 1 ∧ ∃ j : Nat, j < 200 ∧ x = nI j) ∨ (r = 0 ∧ (x < 0 ∨ nI 200 ≤ x))) (fun _ _ => True) dk_no) 0 0 dk_no := by
  refine Met.ofW (cc := cX1_isPosition) (maxL := 1) (ret := (some .boolean)) (by decide) rfl ?_
  intro p e s m args below meth c s₁ B hml hv
  obtain ⟨rfl, hP, hK⟩ := hv
  have hx := B.exec
  have hb := B.bytes
  have hr := B.returns
  have hts := atoms_spec (ws := wsX1_isPosition) B.pre
  have hown : s.vm.findClass RX1 = some m.cls := findClass_of_methodNamed B.named
  have hlocks := B.notSynchronized
  have hS : va_S dk_no s.heap s.heap [] := va_S.rf
  have hl := lv_entry ([.int x]) (n := 1) (Nat.le_of_ble_eq_true rfl)
  rw [lg_entry_eq]
  generalize (lg_sl ([.int x]) ++ List.replicate (1 - (lg_sl ([.int x])).length) Slot.unset).toArray = ls at hl ⊢
  have hl : lv_has ls 1 [(0, .int x)] := hl
  refine lv_iload_n hx hb dX1_isPosition_0 rfl (lv_at hl 0 rfl) ?_
  refine lv_if_lt (tgt := 15) hx hb dX1_isPosition_1 (by decide) (fun c_1 => ?_) (fun c_1 => ?_)
  · refine lv_iconst (v := 0) hx hb dX1_isPosition_15 (by decide) ?_
    exact W.zret (v := 0) hx hb hr (by first | rfl | decide) (fun z8 hz8 hW8 => ⟨⟨0, (), rfl, Or.inr ⟨rfl, Or.inl c_1⟩, trivial⟩, hS.F hz8⟩) hS.2.2 dX1_isPosition_16
  · refine lv_iload_n hx hb dX1_isPosition_4 rfl (lv_at hl 0 rfl) ?_
    refine lv_sipush (v := nI 200) hx hb dX1_isPosition_5 (by decide) ?_
    refine lv_icmp_ge (tgt := 15) hx hb dX1_isPosition_8 (by decide) (fun c_8 => ?_) (fun c_8 => ?_)
    · refine lv_iconst (v := 0) hx hb dX1_isPosition_15 (by decide) ?_
      exact W.zret (v := 0) hx hb hr (by first | rfl | decide) (fun z8 hz8 hW8 => ⟨⟨0, (), rfl, Or.inr ⟨rfl, Or.inr c_8⟩, trivial⟩, hS.F hz8⟩) hS.2.2 dX1_isPosition_16
    · refine lv_iconst (v := 1) hx hb dX1_isPosition_11 (by decide) ?_
      refine lv_goto (tgt := 16) hx hb dX1_isPosition_12 (by decide) ?_
      exact W.zret (v := 1) hx hb hr (by first | rfl | decide) (fun z8 hz8 hW8 => ⟨⟨1, (), rfl, Or.inl ⟨rfl, dk_pos c_1 c_8⟩, trivial⟩, hS.F hz8⟩) hS.2.2 dX1_isPosition_16
set_option maxHeartbeats 4000000 in
set_option maxRecDepth 100000 in
/-- isWithin -/
theorem cY_isWithin (l : Launch) (dC : Nat → ClassId) (dI : Nat → Nat → Nat) (v : Int64) : Met l yX1_isWithin wsX1_isWithin ({ frames := 0, cells := 0, slots := 0, locals := 0 }) (dk_Pr [.long v] (dC, dI) vwCl [] []) (va_Qi (fun (r : Int32) (_ : Unit) => (r = 1 ∧ dk_in v 9000000000000000000) ∨ (r = 0 ∧ ¬ dk_in v 9000000000000000000)) (fun _ _ => True) dk_no) 0 0 dk_no := by
  refine Met.ofW (cc := cX1_isWithin) (maxL := 2) (ret := (some .boolean)) (by decide) rfl ?_
  intro p e s m args below meth c s₁ B hml hv
  obtain ⟨rfl, hP, hK⟩ := hv
  have hx := B.exec
  have hb := B.bytes
  have hr := B.returns
  have hts := atoms_spec (ws := wsX1_isWithin) B.pre
  have hown : s.vm.findClass RX1 = some m.cls := findClass_of_methodNamed B.named
  have hlocks := B.notSynchronized
  have hS : va_S dk_no s.heap s.heap [] := va_S.rf
  have hl := lv_entry ([.long v]) (n := 2) (Nat.le_of_ble_eq_true rfl)
  rw [lg_entry_eq]
  generalize (lg_sl ([.long v]) ++ List.replicate (2 - (lg_sl ([.long v])).length) Slot.unset).toArray = ls at hl ⊢
  have hl : lv_has ls 2 [(0, .long v)] := hl
  refine lv_lload_n hx hb dX1_isWithin_0 rfl (lv_at hl 0 rfl) ?_
  refine lv_ldc2 (v := (-9000000000000000000)) hx hb hown (hts (.constantLong RX1 56 (-9000000000000000000)) (by decide +kernel)) dX1_isWithin_1 ?_
  refine W.lcmp hx hb dX1_isWithin_4 ?_
  refine lv_if_lt (tgt := 20) hx hb dX1_isWithin_5 (by decide) (fun c_5 => ?_) (fun c_5 => ?_)
  · have c_5 : v < ((-9000000000000000000) : Int64) := (lg_cmp_lt _ _).mp c_5
    refine lv_iconst (v := 0) hx hb dX1_isWithin_20 (by decide) ?_
    exact W.zret (v := 0) hx hb hr (by first | rfl | decide) (fun z8 hz8 hW8 => ⟨⟨0, (), rfl, Or.inr ⟨rfl, fun q9 => dk_lnle c_5 q9.1⟩, trivial⟩, hS.F hz8⟩) hS.2.2 dX1_isWithin_21
  · have c_5 : ¬ (v < ((-9000000000000000000) : Int64)) := fun q9 => c_5 ((lg_cmp_lt _ _).mpr q9)
    refine lv_lload_n hx hb dX1_isWithin_8 rfl (lv_at hl 0 rfl) ?_
    refine lv_ldc2 (v := 9000000000000000000) hx hb hown (hts (.constantLong RX1 58 9000000000000000000) (by decide +kernel)) dX1_isWithin_9 ?_
    refine W.lcmp hx hb dX1_isWithin_12 ?_
    refine lv_if_gt (tgt := 20) hx hb dX1_isWithin_13 (by decide) (fun c_13 => ?_) (fun c_13 => ?_)
    · have c_13 : (9000000000000000000 : Int64) < v := (lg_cmp_gt _ _).mp c_13
      refine lv_iconst (v := 0) hx hb dX1_isWithin_20 (by decide) ?_
      exact W.zret (v := 0) hx hb hr (by first | rfl | decide) (fun z8 hz8 hW8 => ⟨⟨0, (), rfl, Or.inr ⟨rfl, fun q9 => dk_lnle c_13 q9.2⟩, trivial⟩, hS.F hz8⟩) hS.2.2 dX1_isWithin_21
    · have c_13 : ¬ ((9000000000000000000 : Int64) < v) := fun q9 => c_13 ((lg_cmp_gt _ _).mpr q9)
      refine lv_iconst (v := 1) hx hb dX1_isWithin_16 (by decide) ?_
      refine lv_goto (tgt := 21) hx hb dX1_isWithin_17 (by decide) ?_
      exact W.zret (v := 1) hx hb hr (by first | rfl | decide) (fun z8 hz8 hW8 => ⟨⟨1, (), rfl, Or.inl ⟨rfl, dk_lnl c_5, dk_lnl c_13⟩, trivial⟩, hS.F hz8⟩) hS.2.2 dX1_isWithin_21
set_option maxHeartbeats 4000000 in
set_option maxRecDepth 100000 in
/-- at -/
theorem cY_at (l : Launch) (dC : Nat → ClassId) (dI : Nat → Nat → Nat) (g0 a1 a2 a3 a4 : Nat) (i4 : ClassId) (TT : Int64) (kk : Int32) (n : Nat) (hn9 : n ≤ 104) (tx : Nat → Int32) (x : Int32) : Met l yX1_at wsX1_at ({ frames := 0, cells := 0, slots := 0, locals := 0 }) (dk_Pr [.ref g0, .int x] (dC, dI) vwCl [(i4, .int)] [(g0, .inr (1, [.long TT, .ref a1, .int kk, .ref a2, .ref a3, .int (nI n), .ref a4])), (a4, .inl (i4, 120, .inl tx))]) (va_Qi (fun (r : Int32) (_ : Unit) => dk_at tx n x r) (fun _ _ => True) dk_no) 0 0 dk_no := by
  refine Met.ofW (cc := cX1_at) (maxL := 2) (ret := (some .int)) (by decide) rfl ?_
  intro p e s m args below meth c s₁ B hml hv
  obtain ⟨rfl, hP, hK⟩ := hv
  have hx := B.exec
  have hb := B.bytes
  have hr := B.returns
  have hts := atoms_spec (ws := wsX1_at) B.pre
  have hown : s.vm.findClass RX1 = some m.cls := findClass_of_methodNamed B.named
  have hlocks := B.notSynchronized
  have hinX1 : ∀ w ∈ wsX10, w ∈ wsX1_at := by decide +kernel
  have hS : va_S dk_no s.heap s.heap [] := va_S.rf
  have hl := lv_entry ([.ref g0, .int x]) (n := 2) (Nat.le_of_ble_eq_true rfl)
  rw [lg_entry_eq]
  generalize (lg_sl ([.ref g0, .int x]) ++ List.replicate (2 - (lg_sl ([.ref g0, .int x])).length) Slot.unset).toArray = ls at hl ⊢
  have hl : lv_has ls 2 [(0, .ref g0), (1, .int x)] := hl
  rcases pk_ix x (n := n) (by omega) with hx0 | hx0 | ⟨j, hj, rfl⟩
  · refine lv_iload_n hx hb dX1_at_0 rfl (lv_at hl 1 rfl) ?_
    refine lv_if_lt (tgt := 21) hx hb dX1_at_1 (by decide) (fun _ => ?_) (fun c9 => absurd hx0 c9)
    refine lv_iconst (v := (-1)) hx hb dX1_at_21 (by decide) ?_
    exact W.iret (v := (-1)) hx hb hr (fun z8 hz8 hW8 => ⟨⟨(-1), (), rfl, Or.inr ⟨rfl, Or.inl hx0⟩, trivial⟩, hS.F hz8⟩) hS.2.2 dX1_at_22
  · refine lv_iload_n hx hb dX1_at_0 rfl (lv_at hl 1 rfl) ?_
    refine lv_if_lt (tgt := 21) hx hb dX1_at_1 (by decide) (fun c9 => ?_) (fun c9 => ?_)
    · refine lv_iconst (v := (-1)) hx hb dX1_at_21 (by decide) ?_
      exact W.iret (v := (-1)) hx hb hr (fun z8 hz8 hW8 => ⟨⟨(-1), (), rfl, Or.inr ⟨rfl, Or.inl c9⟩, trivial⟩, hS.F hz8⟩) hS.2.2 dX1_at_22
    · refine lv_iload_n hx hb dX1_at_4 rfl (lv_at hl 1 rfl) ?_
      refine lv_aload_n hx hb dX1_at_5 rfl (lv_at hl 0 rfl) ?_
      refine va_get (D := (dC, dI)) (ci := 1) (v := .int (nI n)) (C := RX1) (T := TX1) (N := 7) hx hb hts hinX1 hown hK hP 0 rfl rfl 5 (by decide) (hts (.fieldLink RX1 71 "DayDeskModel" "written" "I") (by decide +kernel)) (fun _ h9 => h9) rfl dX1_at_6 ?_
      refine lv_icmp_ge (tgt := 21) hx hb dX1_at_9 (by decide) (fun c_9 => ?_) (fun c_9 => ?_)
      · refine lv_iconst (v := (-1)) hx hb dX1_at_21 (by decide) ?_
        exact W.iret (v := (-1)) hx hb hr (fun z8 hz8 hW8 => ⟨⟨(-1), (), rfl, Or.inr ⟨rfl, Or.inr hx0⟩, trivial⟩, hS.F hz8⟩) hS.2.2 dX1_at_22
      · exact absurd hx0 c_9
  · refine lv_iload_n hx hb dX1_at_0 rfl (lv_at hl 1 rfl) ?_
    refine dk_if_lt (x := j) (tgt := 21) hx hb dX1_at_1 (by decide) (by omega) ?_
    refine lv_iload_n hx hb dX1_at_4 rfl (lv_at hl 1 rfl) ?_
    refine lv_aload_n hx hb dX1_at_5 rfl (lv_at hl 0 rfl) ?_
    refine va_get (D := (dC, dI)) (ci := 1) (v := .int (nI n)) (C := RX1) (T := TX1) (N := 7) hx hb hts hinX1 hown hK hP 0 rfl rfl 5 (by decide) (hts (.fieldLink RX1 71 "DayDeskModel" "written" "I") (by decide +kernel)) (fun _ h9 => h9) rfl dX1_at_6 ?_
    refine dk_icmp_ge (x := j) (y := n) (tgt := 21) hx hb dX1_at_9 (by decide) (by omega) (by omega) (fun c_9 => ?_) (fun c_9 => ?_)
    · exfalso; omega
    · refine lv_aload_n hx hb dX1_at_12 rfl (lv_at hl 0 rfl) ?_
      refine va_get (D := (dC, dI)) (ci := 1) (v := .ref a4) (C := RX1) (T := TX1) (N := 7) hx hb hts hinX1 hown hK hP 0 rfl rfl 6 (by decide) (hts (.fieldLink RX1 20 "DayDeskModel" "text" "[I") (by decide +kernel)) (fun _ h9 => h9) rfl dX1_at_13 ?_
      refine lv_iload_n hx hb dX1_at_16 rfl (lv_at hl 1 rfl) ?_
      refine dk_iald hx hb hK hP 1 0 rfl rfl (j := j) (by omega) (by omega) dX1_at_17 ?_
      refine lv_goto (tgt := 22) hx hb dX1_at_18 (by decide) ?_
      exact W.iret (v := tx j) hx hb hr (fun z8 hz8 hW8 => ⟨⟨(tx j), (), rfl, Or.inl ⟨j, hj, rfl, rfl⟩, trivial⟩, hS.F hz8⟩) hS.2.2 dX1_at_22
end
section
set_option maxHeartbeats 4000000 in
set_option maxRecDepth 100000 in
/-- row -/
theorem cY_row (l : Launch) (dC : Nat → ClassId) (dI : Nat → Nat → Nat) (g0 a1 a2 a3 a4 : Nat) (i1 i2 i3 : ClassId) (TT : Int64) (k : Nat) (hk9 : k ≤ 520) (w : Int32) (O : Nat → Int64) (mo : Nat → Int32) (mb : Nat → Int64) (x y : Int32) : Met l yX1_row wsX1_row ({ frames := 1, cells := 0, slots := 0, locals := 20 }) (dk_Pr [.ref g0, .int x, .int y] (dC, dI) vwCl [(i1, .long), (i2, .int), (i3, .long)] [(g0, .inr (1, [.long TT, .ref a1, .int (nI k), .ref a2, .ref a3, .int w, .ref a4])), (a1, .inl (i1, 200, .inr (.inl O))), (a2, .inl (i2, 520, .inl mo)), (a3, .inl (i3, 520, .inr (.inl mb)))]) (va_Ql (fun (r : Int64) (_ : Unit) => dk_row O (fun j => dk_yw mo mb (nI j) k) (fun j => dk_yc mo mb (nI j) k) (fun j => dk_y3 O mo mb k j) (fun j => lN (dk_yn mo (nI j) k)) x y r) (fun _ _ => True) dk_no) 0 0 dk_no := by
  refine Met.ofW (cc := cX1_row) (maxL := 10) (ret := (some .long)) (by decide) rfl ?_
  intro p e s m args below meth c s₁ B hml hv
  obtain ⟨rfl, hP, hK⟩ := hv
  have hx := B.exec
  have hb := B.bytes
  have hr := B.returns
  have hts := atoms_spec (ws := wsX1_row) B.pre
  have hown : s.vm.findClass RX1 = some m.cls := findClass_of_methodNamed B.named
  have hlocks := B.notSynchronized
  have hinX1 : ∀ w ∈ wsX10, w ∈ wsX1_row := by decide +kernel
  have hS : va_S dk_no s.heap s.heap [] := va_S.rf
  have hl := lv_entry ([.ref g0, .int x, .int y]) (n := 10) (Nat.le_of_ble_eq_true rfl)
  rw [lg_entry_eq]
  generalize (lg_sl ([.ref g0, .int x, .int y]) ++ List.replicate (10 - (lg_sl ([.ref g0, .int x, .int y])).length) Slot.unset).toArray = ls at hl ⊢
  have hl : lv_has ls 10 [(0, .ref g0), (1, .int x), (2, .int y)] := hl
  refine lv_iload_n hx hb dX1_row_0 rfl (lv_at hl 1 rfl) ?_
  have hKc := hK.sub (tys' := []) [] rfl
  refine va_calli (va_runS (As := [.int x]) (rest := []) ⟨hx, hb, hml, hown, hts⟩ (cY_isPosition l dC dI x) (va_cwS 1 hts gX1_row_X1_isPosition rfl rfl rfl (by decide +kernel) ⟨Nat.le_of_ble_eq_true rfl, Nat.le_of_ble_eq_true rfl⟩) (dk_rS dk_P0 hKc) rfl rfl hl.1 rfl (lv_room (Nat.le_of_ble_eq_true rfl)) dX1_row_1 ⟨Nat.zero_le _, Nat.zero_le _⟩) hS (fun q _ h => False.elim h) (fun q h => False.elim h) (fun r_1 u8 t8 H1 locs ht8 hvm8 hw hB hz1 hk1 hS => ?_)
  try dsimp only at hw
  have hP := dk_kept hP hk1
  generalize H1 = H at hP hS ⊢
  rcases hw with ⟨rfl, j, hj, rfl⟩ | ⟨rfl, hno⟩
  · refine lv_if_eq (tgt := 16) hx hb dX1_row_4 (by decide) (fun c9 => absurd c9 (by decide)) (fun _ => ?_)
    have loop : (∀ ls : Array Slot, lv_has ls 10 [(9, .int (nI k)), (7, .long (lN (dk_yn mo (nI j) k))), (5, .long (dk_yc mo mb (nI j) k)), (3, .long (dk_yw mo mb (nI j) k)), (0, .ref g0), (1, .int (nI j)), (2, .int y)] → W p l e (headSpec wsX1_row ({ frames := 1, cells := 0, slots := 0, locals := 20 })).room s m ([.ref g0, .int (nI j), .int y] : List Value).toArray below meth c H locs 0 0 (MQ below (va_Ql (fun (r : Int64) (_ : Unit) => dk_row O (fun j => dk_yw mo mb (nI j) k) (fun j => dk_yc mo mb (nI j) k) (fun j => dk_y3 O mo mb k j) (fun j => lN (dk_yn mo (nI j) k)) (nI j) y r) (fun _ _ => True) dk_no) ([.ref g0, .int (nI j), .int y] : List Value).toArray s 0 0 dk_no) (F0 m 116 ls [])) → ∀ (f i : Nat), i ≤ k → k + 1 ≤ i + f → ∀ ls : Array Slot, lv_has ls 10 [(9, .int (nI i)), (7, .long (lN (dk_yn mo (nI j) i))), (5, .long (dk_yc mo mb (nI j) i)), (3, .long (dk_yw mo mb (nI j) i)), (0, .ref g0), (1, .int (nI j)), (2, .int y)] → W p l e (headSpec wsX1_row ({ frames := 1, cells := 0, slots := 0, locals := 20 })).room s m ([.ref g0, .int (nI j), .int y] : List Value).toArray below meth c H locs 0 0 (MQ below (va_Ql (fun (r : Int64) (_ : Unit) => dk_row O (fun j => dk_yw mo mb (nI j) k) (fun j => dk_yc mo mb (nI j) k) (fun j => dk_y3 O mo mb k j) (fun j => lN (dk_yn mo (nI j) k)) (nI j) y r) (fun _ _ => True) dk_no) ([.ref g0, .int (nI j), .int y] : List Value).toArray s 0 0 dk_no) (F0 m 29 ls []) := by
      intro kk f
      induction f with
      | zero => intro i h1 h2; exact absurd h2 (by omega)
      | succ f ih =>
        intro i hi hf ls hl
        refine lv_iload hx hb dX1_row_29 (lv_at hl 0 rfl) ?_
        refine lv_aload_n hx hb dX1_row_31 rfl (lv_at hl 4 rfl) ?_
        refine va_get (D := (dC, dI)) (ci := 1) (v := .int (nI k)) (C := RX1) (T := TX1) (N := 7) hx hb hts hinX1 hown hK hP 0 rfl rfl 2 (by decide) (hts (.fieldLink RX1 33 "DayDeskModel" "moves" "I") (by decide +kernel)) (fun _ h9 => h9) rfl dX1_row_32 ?_
        refine dk_icmp_ge (x := i) (y := k) (tgt := 116) hx hb dX1_row_35 (by decide) (by omega) (by omega) (fun c_35 => ?_) (fun c_35 => ?_)
        · have e9 : i = k := by omega
          rw [e9] at hl
          exact kk ls hl
        · refine lv_aload_n hx hb dX1_row_38 rfl (lv_at hl 4 rfl) ?_
          refine va_get (D := (dC, dI)) (ci := 1) (v := .ref a2) (C := RX1) (T := TX1) (N := 7) hx hb hts hinX1 hown hK hP 0 rfl rfl 3 (by decide) (hts (.fieldLink RX1 13 "DayDeskModel" "moveOf" "[I") (by decide +kernel)) (fun _ h9 => h9) rfl dX1_row_39 ?_
          refine lv_iload hx hb dX1_row_42 (lv_at hl 0 rfl) ?_
          refine dk_iald hx hb hK hP 2 1 rfl rfl (j := i) (by omega) (by omega) dX1_row_44 ?_
          refine lv_iload_n hx hb dX1_row_45 rfl (lv_at hl 5 rfl) ?_
          refine lv_icmp_ne (tgt := 110) hx hb dX1_row_46 (by decide) (fun c_46 => ?_) (fun c_46 => ?_)
          · refine lv_iinc (v := nI (i + 1)) (lv' := [(9, .int (nI (i + 1))), (7, .long (lN (dk_yn mo (nI j) i))), (5, .long (dk_yc mo mb (nI j) i)), (3, .long (dk_yw mo mb (nI j) i)), (0, .ref g0), (1, .int (nI j)), (2, .int y)]) hx hb dX1_row_110 hl (k := 0) rfl (by rw [show Int32.ofInt 1 = nI 1 from by decide]; exact nI_add i 1) (by decide) rfl (fun ls hl => ?_)
            refine lv_goto (tgt := 29) hx hb dX1_row_113 (by decide) ?_
            rw [← dk_yw_ne (mb := mb) c_46, ← dk_yc_ne (mb := mb) c_46, ← dk_yn_ne c_46] at hl
            exact ih (i + 1) (by omega) (by omega) ls (lv_sub hl [0, 1, 2, 3, 4, 5, 6] rfl)
          · refine lv_aload_n hx hb dX1_row_49 rfl (lv_at hl 4 rfl) ?_
            refine va_get (D := (dC, dI)) (ci := 1) (v := .ref a3) (C := RX1) (T := TX1) (N := 7) hx hb hts hinX1 hown hK hP 0 rfl rfl 4 (by decide) (hts (.fieldLink RX1 17 "DayDeskModel" "moveBy" "[J") (by decide +kernel)) (fun _ h9 => h9) rfl dX1_row_50 ?_
            refine lv_iload hx hb dX1_row_53 (lv_at hl 0 rfl) ?_
            refine dk_lald hx hb hK hP 3 2 rfl rfl (j := i) (by omega) (by omega) dX1_row_55 ?_
            refine lv_lconst (v := 0) hx hb dX1_row_56 (by decide) ?_
            refine W.lcmp hx hb dX1_row_57 ?_
            refine lv_if_ge (tgt := 73) hx hb dX1_row_58 (by decide) (fun c_58 => ?_) (fun c_58 => ?_)
            · have c_58 : (0 : Int64) ≤ (mb i) := (lg_cmp_ge _ _).mp c_58
              refine lv_lload_n hx hb dX1_row_73 rfl (lv_at hl 3 rfl) ?_
              refine dk_asl (y := dk_yw mo mb (nI j) (i + 1)) (by first | exact dk_yw_n c_46 c_58 | exact dk_yw_p c_46 c_58) ?_
              refine lv_lstore_n (lv' := [(3, .long (dk_yw mo mb (nI j) (i + 1))), (9, .int (nI i)), (7, .long (lN (dk_yn mo (nI j) i))), (5, .long (dk_yc mo mb (nI j) i)), (0, .ref g0), (1, .int (nI j)), (2, .int y)]) hx hb dX1_row_74 rfl hl (by decide) rfl (fun ls hl => ?_)
              refine lv_aload_n hx hb dX1_row_75 rfl (lv_at hl 4 rfl) ?_
              refine va_get (D := (dC, dI)) (ci := 1) (v := .ref a3) (C := RX1) (T := TX1) (N := 7) hx hb hts hinX1 hown hK hP 0 rfl rfl 4 (by decide) (hts (.fieldLink RX1 17 "DayDeskModel" "moveBy" "[J") (by decide +kernel)) (fun _ h9 => h9) rfl dX1_row_76 ?_
              refine lv_iload hx hb dX1_row_79 (lv_at hl 1 rfl) ?_
              refine dk_lald hx hb hK hP 3 2 rfl rfl (j := i) (by omega) (by omega) dX1_row_81 ?_
              refine lv_lconst (v := 0) hx hb dX1_row_82 (by decide) ?_
              refine W.lcmp hx hb dX1_row_83 ?_
              refine lv_if_le (tgt := 100) hx hb dX1_row_84 (by decide) (fun c_84 => ?_) (fun c_84 => ?_)
              · have c_84 : (mb i) ≤ (0 : Int64) := (lg_cmp_le _ _).mp c_84
                refine lv_lload hx hb dX1_row_100 (lv_at hl 3 rfl) ?_
                refine dk_asl (y := dk_yc mo mb (nI j) (i + 1)) (by first | exact dk_yc_p c_46 c_84 | exact dk_yc_n c_46 c_84) ?_
                refine lv_lstore (lv' := [(5, .long (dk_yc mo mb (nI j) (i + 1))), (3, .long (dk_yw mo mb (nI j) (i + 1))), (9, .int (nI i)), (7, .long (lN (dk_yn mo (nI j) i))), (0, .ref g0), (1, .int (nI j)), (2, .int y)]) hx hb dX1_row_102 hl (by decide) rfl (fun ls hl => ?_)
                refine lv_lload hx hb dX1_row_104 (lv_at hl 3 rfl) ?_
                refine lv_lconst (v := 1) hx hb dX1_row_106 (by decide) ?_
                refine lv_ladd hx hb dX1_row_107 ?_
                refine dk_asl (y := lN (dk_yn mo (nI j) (i + 1))) (by rw [lN_1, dk_yn_s c_46]) ?_
                refine lv_lstore (lv' := [(7, .long (lN (dk_yn mo (nI j) (i + 1)))), (5, .long (dk_yc mo mb (nI j) (i + 1))), (3, .long (dk_yw mo mb (nI j) (i + 1))), (9, .int (nI i)), (0, .ref g0), (1, .int (nI j)), (2, .int y)]) hx hb dX1_row_108 hl (by decide) rfl (fun ls hl => ?_)
                refine lv_iinc (v := nI (i + 1)) (lv' := [(9, .int (nI (i + 1))), (7, .long (lN (dk_yn mo (nI j) (i + 1)))), (5, .long (dk_yc mo mb (nI j) (i + 1))), (3, .long (dk_yw mo mb (nI j) (i + 1))), (0, .ref g0), (1, .int (nI j)), (2, .int y)]) hx hb dX1_row_110 hl (k := 3) rfl (by rw [show Int32.ofInt 1 = nI 1 from by decide]; exact nI_add i 1) (by decide) rfl (fun ls hl => ?_)
                refine lv_goto (tgt := 29) hx hb dX1_row_113 (by decide) ?_
                exact ih (i + 1) (by omega) (by omega) ls (lv_sub hl [0, 1, 2, 3, 4, 5, 6] rfl)
              · have c_84 : ¬ ((mb i) ≤ (0 : Int64)) := fun q9 => c_84 ((lg_cmp_le _ _).mpr q9)
                refine lv_lload hx hb dX1_row_87 (lv_at hl 3 rfl) ?_
                refine lv_aload_n hx hb dX1_row_89 rfl (lv_at hl 4 rfl) ?_
                refine va_get (D := (dC, dI)) (ci := 1) (v := .ref a3) (C := RX1) (T := TX1) (N := 7) hx hb hts hinX1 hown hK hP 0 rfl rfl 4 (by decide) (hts (.fieldLink RX1 17 "DayDeskModel" "moveBy" "[J") (by decide +kernel)) (fun _ h9 => h9) rfl dX1_row_90 ?_
                refine lv_iload hx hb dX1_row_93 (lv_at hl 1 rfl) ?_
                refine dk_lald hx hb hK hP 3 2 rfl rfl (j := i) (by omega) (by omega) dX1_row_95 ?_
                refine lv_ladd hx hb dX1_row_96 ?_
                refine lv_goto (tgt := 102) hx hb dX1_row_97 (by decide) ?_
                refine dk_asl (y := dk_yc mo mb (nI j) (i + 1)) (by first | exact dk_yc_p c_46 c_84 | exact dk_yc_n c_46 c_84) ?_
                refine lv_lstore (lv' := [(5, .long (dk_yc mo mb (nI j) (i + 1))), (3, .long (dk_yw mo mb (nI j) (i + 1))), (9, .int (nI i)), (7, .long (lN (dk_yn mo (nI j) i))), (0, .ref g0), (1, .int (nI j)), (2, .int y)]) hx hb dX1_row_102 hl (by decide) rfl (fun ls hl => ?_)
                refine lv_lload hx hb dX1_row_104 (lv_at hl 3 rfl) ?_
                refine lv_lconst (v := 1) hx hb dX1_row_106 (by decide) ?_
                refine lv_ladd hx hb dX1_row_107 ?_
                refine dk_asl (y := lN (dk_yn mo (nI j) (i + 1))) (by rw [lN_1, dk_yn_s c_46]) ?_
                refine lv_lstore (lv' := [(7, .long (lN (dk_yn mo (nI j) (i + 1)))), (5, .long (dk_yc mo mb (nI j) (i + 1))), (3, .long (dk_yw mo mb (nI j) (i + 1))), (9, .int (nI i)), (0, .ref g0), (1, .int (nI j)), (2, .int y)]) hx hb dX1_row_108 hl (by decide) rfl (fun ls hl => ?_)
                refine lv_iinc (v := nI (i + 1)) (lv' := [(9, .int (nI (i + 1))), (7, .long (lN (dk_yn mo (nI j) (i + 1)))), (5, .long (dk_yc mo mb (nI j) (i + 1))), (3, .long (dk_yw mo mb (nI j) (i + 1))), (0, .ref g0), (1, .int (nI j)), (2, .int y)]) hx hb dX1_row_110 hl (k := 3) rfl (by rw [show Int32.ofInt 1 = nI 1 from by decide]; exact nI_add i 1) (by decide) rfl (fun ls hl => ?_)
                refine lv_goto (tgt := 29) hx hb dX1_row_113 (by decide) ?_
                exact ih (i + 1) (by omega) (by omega) ls (lv_sub hl [0, 1, 2, 3, 4, 5, 6] rfl)
            · have c_58 : ¬ ((0 : Int64) ≤ (mb i)) := fun q9 => c_58 ((lg_cmp_ge _ _).mpr q9)
              refine lv_lload_n hx hb dX1_row_61 rfl (lv_at hl 3 rfl) ?_
              refine lv_aload_n hx hb dX1_row_62 rfl (lv_at hl 4 rfl) ?_
              refine va_get (D := (dC, dI)) (ci := 1) (v := .ref a3) (C := RX1) (T := TX1) (N := 7) hx hb hts hinX1 hown hK hP 0 rfl rfl 4 (by decide) (hts (.fieldLink RX1 17 "DayDeskModel" "moveBy" "[J") (by decide +kernel)) (fun _ h9 => h9) rfl dX1_row_63 ?_
              refine lv_iload hx hb dX1_row_66 (lv_at hl 0 rfl) ?_
              refine dk_lald hx hb hK hP 3 2 rfl rfl (j := i) (by omega) (by omega) dX1_row_68 ?_
              refine lv_lsub hx hb dX1_row_69 ?_
              refine lv_goto (tgt := 74) hx hb dX1_row_70 (by decide) ?_
              refine dk_asl (y := dk_yw mo mb (nI j) (i + 1)) (by first | exact dk_yw_n c_46 c_58 | exact dk_yw_p c_46 c_58) ?_
              refine lv_lstore_n (lv' := [(3, .long (dk_yw mo mb (nI j) (i + 1))), (9, .int (nI i)), (7, .long (lN (dk_yn mo (nI j) i))), (5, .long (dk_yc mo mb (nI j) i)), (0, .ref g0), (1, .int (nI j)), (2, .int y)]) hx hb dX1_row_74 rfl hl (by decide) rfl (fun ls hl => ?_)
              refine lv_aload_n hx hb dX1_row_75 rfl (lv_at hl 4 rfl) ?_
              refine va_get (D := (dC, dI)) (ci := 1) (v := .ref a3) (C := RX1) (T := TX1) (N := 7) hx hb hts hinX1 hown hK hP 0 rfl rfl 4 (by decide) (hts (.fieldLink RX1 17 "DayDeskModel" "moveBy" "[J") (by decide +kernel)) (fun _ h9 => h9) rfl dX1_row_76 ?_
              refine lv_iload hx hb dX1_row_79 (lv_at hl 1 rfl) ?_
              refine dk_lald hx hb hK hP 3 2 rfl rfl (j := i) (by omega) (by omega) dX1_row_81 ?_
              refine lv_lconst (v := 0) hx hb dX1_row_82 (by decide) ?_
              refine W.lcmp hx hb dX1_row_83 ?_
              refine lv_if_le (tgt := 100) hx hb dX1_row_84 (by decide) (fun c_84 => ?_) (fun c_84 => ?_)
              · have c_84 : (mb i) ≤ (0 : Int64) := (lg_cmp_le _ _).mp c_84
                refine lv_lload hx hb dX1_row_100 (lv_at hl 3 rfl) ?_
                refine dk_asl (y := dk_yc mo mb (nI j) (i + 1)) (by first | exact dk_yc_p c_46 c_84 | exact dk_yc_n c_46 c_84) ?_
                refine lv_lstore (lv' := [(5, .long (dk_yc mo mb (nI j) (i + 1))), (3, .long (dk_yw mo mb (nI j) (i + 1))), (9, .int (nI i)), (7, .long (lN (dk_yn mo (nI j) i))), (0, .ref g0), (1, .int (nI j)), (2, .int y)]) hx hb dX1_row_102 hl (by decide) rfl (fun ls hl => ?_)
                refine lv_lload hx hb dX1_row_104 (lv_at hl 3 rfl) ?_
                refine lv_lconst (v := 1) hx hb dX1_row_106 (by decide) ?_
                refine lv_ladd hx hb dX1_row_107 ?_
                refine dk_asl (y := lN (dk_yn mo (nI j) (i + 1))) (by rw [lN_1, dk_yn_s c_46]) ?_
                refine lv_lstore (lv' := [(7, .long (lN (dk_yn mo (nI j) (i + 1)))), (5, .long (dk_yc mo mb (nI j) (i + 1))), (3, .long (dk_yw mo mb (nI j) (i + 1))), (9, .int (nI i)), (0, .ref g0), (1, .int (nI j)), (2, .int y)]) hx hb dX1_row_108 hl (by decide) rfl (fun ls hl => ?_)
                refine lv_iinc (v := nI (i + 1)) (lv' := [(9, .int (nI (i + 1))), (7, .long (lN (dk_yn mo (nI j) (i + 1)))), (5, .long (dk_yc mo mb (nI j) (i + 1))), (3, .long (dk_yw mo mb (nI j) (i + 1))), (0, .ref g0), (1, .int (nI j)), (2, .int y)]) hx hb dX1_row_110 hl (k := 3) rfl (by rw [show Int32.ofInt 1 = nI 1 from by decide]; exact nI_add i 1) (by decide) rfl (fun ls hl => ?_)
                refine lv_goto (tgt := 29) hx hb dX1_row_113 (by decide) ?_
                exact ih (i + 1) (by omega) (by omega) ls (lv_sub hl [0, 1, 2, 3, 4, 5, 6] rfl)
              · have c_84 : ¬ ((mb i) ≤ (0 : Int64)) := fun q9 => c_84 ((lg_cmp_le _ _).mpr q9)
                refine lv_lload hx hb dX1_row_87 (lv_at hl 3 rfl) ?_
                refine lv_aload_n hx hb dX1_row_89 rfl (lv_at hl 4 rfl) ?_
                refine va_get (D := (dC, dI)) (ci := 1) (v := .ref a3) (C := RX1) (T := TX1) (N := 7) hx hb hts hinX1 hown hK hP 0 rfl rfl 4 (by decide) (hts (.fieldLink RX1 17 "DayDeskModel" "moveBy" "[J") (by decide +kernel)) (fun _ h9 => h9) rfl dX1_row_90 ?_
                refine lv_iload hx hb dX1_row_93 (lv_at hl 1 rfl) ?_
                refine dk_lald hx hb hK hP 3 2 rfl rfl (j := i) (by omega) (by omega) dX1_row_95 ?_
                refine lv_ladd hx hb dX1_row_96 ?_
                refine lv_goto (tgt := 102) hx hb dX1_row_97 (by decide) ?_
                refine dk_asl (y := dk_yc mo mb (nI j) (i + 1)) (by first | exact dk_yc_p c_46 c_84 | exact dk_yc_n c_46 c_84) ?_
                refine lv_lstore (lv' := [(5, .long (dk_yc mo mb (nI j) (i + 1))), (3, .long (dk_yw mo mb (nI j) (i + 1))), (9, .int (nI i)), (7, .long (lN (dk_yn mo (nI j) i))), (0, .ref g0), (1, .int (nI j)), (2, .int y)]) hx hb dX1_row_102 hl (by decide) rfl (fun ls hl => ?_)
                refine lv_lload hx hb dX1_row_104 (lv_at hl 3 rfl) ?_
                refine lv_lconst (v := 1) hx hb dX1_row_106 (by decide) ?_
                refine lv_ladd hx hb dX1_row_107 ?_
                refine dk_asl (y := lN (dk_yn mo (nI j) (i + 1))) (by rw [lN_1, dk_yn_s c_46]) ?_
                refine lv_lstore (lv' := [(7, .long (lN (dk_yn mo (nI j) (i + 1)))), (5, .long (dk_yc mo mb (nI j) (i + 1))), (3, .long (dk_yw mo mb (nI j) (i + 1))), (9, .int (nI i)), (0, .ref g0), (1, .int (nI j)), (2, .int y)]) hx hb dX1_row_108 hl (by decide) rfl (fun ls hl => ?_)
                refine lv_iinc (v := nI (i + 1)) (lv' := [(9, .int (nI (i + 1))), (7, .long (lN (dk_yn mo (nI j) (i + 1)))), (5, .long (dk_yc mo mb (nI j) (i + 1))), (3, .long (dk_yw mo mb (nI j) (i + 1))), (0, .ref g0), (1, .int (nI j)), (2, .int y)]) hx hb dX1_row_110 hl (k := 3) rfl (by rw [show Int32.ofInt 1 = nI 1 from by decide]; exact nI_add i 1) (by decide) rfl (fun ls hl => ?_)
                refine lv_goto (tgt := 29) hx hb dX1_row_113 (by decide) ?_
                exact ih (i + 1) (by omega) (by omega) ls (lv_sub hl [0, 1, 2, 3, 4, 5, 6] rfl)
    rcases dk_sw5 y with rfl | rfl | rfl | rfl | rfl | hsw
    · refine lv_iload_n hx hb dX1_row_7 rfl (lv_at hl 2 rfl) ?_
      refine lv_if_lt (tgt := 16) hx hb dX1_row_8 (by decide) (fun c9 => absurd c9 (by decide)) (fun _ => ?_)
      refine lv_iload_n hx hb dX1_row_11 rfl (lv_at hl 2 rfl) ?_
      refine lv_iconst (v := 4) hx hb dX1_row_12 (by decide) ?_
      refine lv_icmp_le (tgt := 18) hx hb dX1_row_13 (by decide) (fun _ => ?_) (fun c9 => absurd (by decide) c9)
      refine lv_lconst (v := 0) hx hb dX1_row_18 (by decide) ?_
      refine lv_lstore_n (lv' := [(3, .long 0), (0, .ref g0), (1, .int (nI j)), (2, .int 0)]) hx hb dX1_row_19 rfl hl (by decide) rfl (fun ls hl => ?_)
      refine lv_lconst (v := 0) hx hb dX1_row_20 (by decide) ?_
      refine lv_lstore (lv' := [(5, .long 0), (3, .long 0), (0, .ref g0), (1, .int (nI j)), (2, .int 0)]) hx hb dX1_row_21 hl (by decide) rfl (fun ls hl => ?_)
      refine lv_lconst (v := lN 0) hx hb dX1_row_23 (by decide) ?_
      refine lv_lstore (lv' := [(7, .long (lN 0)), (5, .long 0), (3, .long 0), (0, .ref g0), (1, .int (nI j)), (2, .int 0)]) hx hb dX1_row_24 hl (by decide) rfl (fun ls hl => ?_)
      refine lv_iconst (v := nI 0) hx hb dX1_row_26 (by decide) ?_
      refine lv_istore (lv' := [(9, .int (nI 0)), (7, .long (lN 0)), (5, .long 0), (3, .long 0), (0, .ref g0), (1, .int (nI j)), (2, .int 0)]) hx hb dX1_row_27 hl (by decide) rfl (fun ls hl => ?_)
      refine loop (fun ls hl => ?_) (k + 1) 0 (by omega) (by omega) ls (lv_sub hl [0, 1, 2, 3, 4, 5, 6] rfl)
      refine lv_iload_n hx hb dX1_row_116 rfl (lv_at hl 6 rfl) ?_
      refine lv_if_ne (tgt := 129) hx hb dX1_row_117 (by decide) (fun c9 => absurd (by decide) c9) (fun _ => ?_)
      refine lv_aload_n hx hb dX1_row_120 rfl (lv_at hl 4 rfl) ?_
      refine va_get (D := (dC, dI)) (ci := 1) (v := .ref a1) (C := RX1) (T := TX1) (N := 7) hx hb hts hinX1 hown hK hP 0 rfl rfl 1 (by decide) (hts (.fieldLink RX1 7 "DayDeskModel" "opening" "[J") (by decide +kernel)) (fun _ h9 => h9) rfl dX1_row_121 ?_
      refine lv_iload_n hx hb dX1_row_124 rfl (lv_at hl 5 rfl) ?_
      refine dk_lald hx hb hK hP 1 0 rfl rfl (j := j) (by omega) (by omega) dX1_row_125 ?_
      refine lv_goto (tgt := 169) hx hb dX1_row_126 (by decide) ?_
      exact W.lret (v := O j) hx hb hr (fun z8 hz8 hW8 => ⟨⟨(O j), (), rfl, Or.inr ⟨j, hj, rfl, Or.inl ⟨rfl, rfl⟩⟩, trivial⟩, hS.F hz8⟩) hS.2.2 dX1_row_169
    · refine lv_iload_n hx hb dX1_row_7 rfl (lv_at hl 2 rfl) ?_
      refine lv_if_lt (tgt := 16) hx hb dX1_row_8 (by decide) (fun c9 => absurd c9 (by decide)) (fun _ => ?_)
      refine lv_iload_n hx hb dX1_row_11 rfl (lv_at hl 2 rfl) ?_
      refine lv_iconst (v := 4) hx hb dX1_row_12 (by decide) ?_
      refine lv_icmp_le (tgt := 18) hx hb dX1_row_13 (by decide) (fun _ => ?_) (fun c9 => absurd (by decide) c9)
      refine lv_lconst (v := 0) hx hb dX1_row_18 (by decide) ?_
      refine lv_lstore_n (lv' := [(3, .long 0), (0, .ref g0), (1, .int (nI j)), (2, .int 1)]) hx hb dX1_row_19 rfl hl (by decide) rfl (fun ls hl => ?_)
      refine lv_lconst (v := 0) hx hb dX1_row_20 (by decide) ?_
      refine lv_lstore (lv' := [(5, .long 0), (3, .long 0), (0, .ref g0), (1, .int (nI j)), (2, .int 1)]) hx hb dX1_row_21 hl (by decide) rfl (fun ls hl => ?_)
      refine lv_lconst (v := lN 0) hx hb dX1_row_23 (by decide) ?_
      refine lv_lstore (lv' := [(7, .long (lN 0)), (5, .long 0), (3, .long 0), (0, .ref g0), (1, .int (nI j)), (2, .int 1)]) hx hb dX1_row_24 hl (by decide) rfl (fun ls hl => ?_)
      refine lv_iconst (v := nI 0) hx hb dX1_row_26 (by decide) ?_
      refine lv_istore (lv' := [(9, .int (nI 0)), (7, .long (lN 0)), (5, .long 0), (3, .long 0), (0, .ref g0), (1, .int (nI j)), (2, .int 1)]) hx hb dX1_row_27 hl (by decide) rfl (fun ls hl => ?_)
      refine loop (fun ls hl => ?_) (k + 1) 0 (by omega) (by omega) ls (lv_sub hl [0, 1, 2, 3, 4, 5, 6] rfl)
      refine lv_iload_n hx hb dX1_row_116 rfl (lv_at hl 6 rfl) ?_
      refine lv_if_ne (tgt := 129) hx hb dX1_row_117 (by decide) (fun _ => ?_) (fun c9 => absurd c9 (by decide))
      refine lv_iload_n hx hb dX1_row_129 rfl (lv_at hl 6 rfl) ?_
      refine lv_iconst (v := 1) hx hb dX1_row_130 (by decide) ?_
      refine lv_icmp_ne (tgt := 138) hx hb dX1_row_131 (by decide) (fun c9 => absurd (by decide) c9) (fun _ => ?_)
      refine lv_lload_n hx hb dX1_row_134 rfl (lv_at hl 3 rfl) ?_
      refine lv_goto (tgt := 169) hx hb dX1_row_135 (by decide) ?_
      exact W.lret (v := dk_yw mo mb (nI j) k) hx hb hr (fun z8 hz8 hW8 => ⟨⟨(dk_yw mo mb (nI j) k), (), rfl, Or.inr ⟨j, hj, rfl, Or.inr (Or.inl ⟨rfl, rfl⟩)⟩, trivial⟩, hS.F hz8⟩) hS.2.2 dX1_row_169
    · refine lv_iload_n hx hb dX1_row_7 rfl (lv_at hl 2 rfl) ?_
      refine lv_if_lt (tgt := 16) hx hb dX1_row_8 (by decide) (fun c9 => absurd c9 (by decide)) (fun _ => ?_)
      refine lv_iload_n hx hb dX1_row_11 rfl (lv_at hl 2 rfl) ?_
      refine lv_iconst (v := 4) hx hb dX1_row_12 (by decide) ?_
      refine lv_icmp_le (tgt := 18) hx hb dX1_row_13 (by decide) (fun _ => ?_) (fun c9 => absurd (by decide) c9)
      refine lv_lconst (v := 0) hx hb dX1_row_18 (by decide) ?_
      refine lv_lstore_n (lv' := [(3, .long 0), (0, .ref g0), (1, .int (nI j)), (2, .int 2)]) hx hb dX1_row_19 rfl hl (by decide) rfl (fun ls hl => ?_)
      refine lv_lconst (v := 0) hx hb dX1_row_20 (by decide) ?_
      refine lv_lstore (lv' := [(5, .long 0), (3, .long 0), (0, .ref g0), (1, .int (nI j)), (2, .int 2)]) hx hb dX1_row_21 hl (by decide) rfl (fun ls hl => ?_)
      refine lv_lconst (v := lN 0) hx hb dX1_row_23 (by decide) ?_
      refine lv_lstore (lv' := [(7, .long (lN 0)), (5, .long 0), (3, .long 0), (0, .ref g0), (1, .int (nI j)), (2, .int 2)]) hx hb dX1_row_24 hl (by decide) rfl (fun ls hl => ?_)
      refine lv_iconst (v := nI 0) hx hb dX1_row_26 (by decide) ?_
      refine lv_istore (lv' := [(9, .int (nI 0)), (7, .long (lN 0)), (5, .long 0), (3, .long 0), (0, .ref g0), (1, .int (nI j)), (2, .int 2)]) hx hb dX1_row_27 hl (by decide) rfl (fun ls hl => ?_)
      refine loop (fun ls hl => ?_) (k + 1) 0 (by omega) (by omega) ls (lv_sub hl [0, 1, 2, 3, 4, 5, 6] rfl)
      refine lv_iload_n hx hb dX1_row_116 rfl (lv_at hl 6 rfl) ?_
      refine lv_if_ne (tgt := 129) hx hb dX1_row_117 (by decide) (fun _ => ?_) (fun c9 => absurd c9 (by decide))
      refine lv_iload_n hx hb dX1_row_129 rfl (lv_at hl 6 rfl) ?_
      refine lv_iconst (v := 1) hx hb dX1_row_130 (by decide) ?_
      refine lv_icmp_ne (tgt := 138) hx hb dX1_row_131 (by decide) (fun _ => ?_) (fun c9 => absurd c9 (by decide))
      refine lv_iload_n hx hb dX1_row_138 rfl (lv_at hl 6 rfl) ?_
      refine lv_iconst (v := 2) hx hb dX1_row_139 (by decide) ?_
      refine lv_icmp_ne (tgt := 148) hx hb dX1_row_140 (by decide) (fun c9 => absurd (by decide) c9) (fun _ => ?_)
      refine lv_lload hx hb dX1_row_143 (lv_at hl 2 rfl) ?_
      refine lv_goto (tgt := 169) hx hb dX1_row_145 (by decide) ?_
      exact W.lret (v := dk_yc mo mb (nI j) k) hx hb hr (fun z8 hz8 hW8 => ⟨⟨(dk_yc mo mb (nI j) k), (), rfl, Or.inr ⟨j, hj, rfl, Or.inr (Or.inr (Or.inl ⟨rfl, rfl⟩))⟩, trivial⟩, hS.F hz8⟩) hS.2.2 dX1_row_169
    · refine lv_iload_n hx hb dX1_row_7 rfl (lv_at hl 2 rfl) ?_
      refine lv_if_lt (tgt := 16) hx hb dX1_row_8 (by decide) (fun c9 => absurd c9 (by decide)) (fun _ => ?_)
      refine lv_iload_n hx hb dX1_row_11 rfl (lv_at hl 2 rfl) ?_
      refine lv_iconst (v := 4) hx hb dX1_row_12 (by decide) ?_
      refine lv_icmp_le (tgt := 18) hx hb dX1_row_13 (by decide) (fun _ => ?_) (fun c9 => absurd (by decide) c9)
      refine lv_lconst (v := 0) hx hb dX1_row_18 (by decide) ?_
      refine lv_lstore_n (lv' := [(3, .long 0), (0, .ref g0), (1, .int (nI j)), (2, .int 3)]) hx hb dX1_row_19 rfl hl (by decide) rfl (fun ls hl => ?_)
      refine lv_lconst (v := 0) hx hb dX1_row_20 (by decide) ?_
      refine lv_lstore (lv' := [(5, .long 0), (3, .long 0), (0, .ref g0), (1, .int (nI j)), (2, .int 3)]) hx hb dX1_row_21 hl (by decide) rfl (fun ls hl => ?_)
      refine lv_lconst (v := lN 0) hx hb dX1_row_23 (by decide) ?_
      refine lv_lstore (lv' := [(7, .long (lN 0)), (5, .long 0), (3, .long 0), (0, .ref g0), (1, .int (nI j)), (2, .int 3)]) hx hb dX1_row_24 hl (by decide) rfl (fun ls hl => ?_)
      refine lv_iconst (v := nI 0) hx hb dX1_row_26 (by decide) ?_
      refine lv_istore (lv' := [(9, .int (nI 0)), (7, .long (lN 0)), (5, .long 0), (3, .long 0), (0, .ref g0), (1, .int (nI j)), (2, .int 3)]) hx hb dX1_row_27 hl (by decide) rfl (fun ls hl => ?_)
      refine loop (fun ls hl => ?_) (k + 1) 0 (by omega) (by omega) ls (lv_sub hl [0, 1, 2, 3, 4, 5, 6] rfl)
      refine lv_iload_n hx hb dX1_row_116 rfl (lv_at hl 6 rfl) ?_
      refine lv_if_ne (tgt := 129) hx hb dX1_row_117 (by decide) (fun _ => ?_) (fun c9 => absurd c9 (by decide))
      refine lv_iload_n hx hb dX1_row_129 rfl (lv_at hl 6 rfl) ?_
      refine lv_iconst (v := 1) hx hb dX1_row_130 (by decide) ?_
      refine lv_icmp_ne (tgt := 138) hx hb dX1_row_131 (by decide) (fun _ => ?_) (fun c9 => absurd c9 (by decide))
      refine lv_iload_n hx hb dX1_row_138 rfl (lv_at hl 6 rfl) ?_
      refine lv_iconst (v := 2) hx hb dX1_row_139 (by decide) ?_
      refine lv_icmp_ne (tgt := 148) hx hb dX1_row_140 (by decide) (fun _ => ?_) (fun c9 => absurd c9 (by decide))
      refine lv_iload_n hx hb dX1_row_148 rfl (lv_at hl 6 rfl) ?_
      refine lv_iconst (v := 3) hx hb dX1_row_149 (by decide) ?_
      refine lv_icmp_ne (tgt := 167) hx hb dX1_row_150 (by decide) (fun c9 => absurd (by decide) c9) (fun _ => ?_)
      refine lv_aload_n hx hb dX1_row_153 rfl (lv_at hl 4 rfl) ?_
      refine va_get (D := (dC, dI)) (ci := 1) (v := .ref a1) (C := RX1) (T := TX1) (N := 7) hx hb hts hinX1 hown hK hP 0 rfl rfl 1 (by decide) (hts (.fieldLink RX1 7 "DayDeskModel" "opening" "[J") (by decide +kernel)) (fun _ h9 => h9) rfl dX1_row_154 ?_
      refine lv_iload_n hx hb dX1_row_157 rfl (lv_at hl 5 rfl) ?_
      refine dk_lald hx hb hK hP 1 0 rfl rfl (j := j) (by omega) (by omega) dX1_row_158 ?_
      refine lv_lload_n hx hb dX1_row_159 rfl (lv_at hl 3 rfl) ?_
      refine lv_lsub hx hb dX1_row_160 ?_
      refine lv_lload hx hb dX1_row_161 (lv_at hl 2 rfl) ?_
      refine lv_ladd hx hb dX1_row_163 ?_
      refine lv_goto (tgt := 169) hx hb dX1_row_164 (by decide) ?_
      exact W.lret (v := ((O j) - (dk_yw mo mb (nI j) k)) + (dk_yc mo mb (nI j) k)) hx hb hr (fun z8 hz8 hW8 => ⟨⟨(((O j) - (dk_yw mo mb (nI j) k)) + (dk_yc mo mb (nI j) k)), (), rfl, Or.inr ⟨j, hj, rfl, Or.inr (Or.inr (Or.inr (Or.inl ⟨rfl, rfl⟩)))⟩, trivial⟩, hS.F hz8⟩) hS.2.2 dX1_row_169
    · refine lv_iload_n hx hb dX1_row_7 rfl (lv_at hl 2 rfl) ?_
      refine lv_if_lt (tgt := 16) hx hb dX1_row_8 (by decide) (fun c9 => absurd c9 (by decide)) (fun _ => ?_)
      refine lv_iload_n hx hb dX1_row_11 rfl (lv_at hl 2 rfl) ?_
      refine lv_iconst (v := 4) hx hb dX1_row_12 (by decide) ?_
      refine lv_icmp_le (tgt := 18) hx hb dX1_row_13 (by decide) (fun _ => ?_) (fun c9 => absurd (by decide) c9)
      refine lv_lconst (v := 0) hx hb dX1_row_18 (by decide) ?_
      refine lv_lstore_n (lv' := [(3, .long 0), (0, .ref g0), (1, .int (nI j)), (2, .int 4)]) hx hb dX1_row_19 rfl hl (by decide) rfl (fun ls hl => ?_)
      refine lv_lconst (v := 0) hx hb dX1_row_20 (by decide) ?_
      refine lv_lstore (lv' := [(5, .long 0), (3, .long 0), (0, .ref g0), (1, .int (nI j)), (2, .int 4)]) hx hb dX1_row_21 hl (by decide) rfl (fun ls hl => ?_)
      refine lv_lconst (v := lN 0) hx hb dX1_row_23 (by decide) ?_
      refine lv_lstore (lv' := [(7, .long (lN 0)), (5, .long 0), (3, .long 0), (0, .ref g0), (1, .int (nI j)), (2, .int 4)]) hx hb dX1_row_24 hl (by decide) rfl (fun ls hl => ?_)
      refine lv_iconst (v := nI 0) hx hb dX1_row_26 (by decide) ?_
      refine lv_istore (lv' := [(9, .int (nI 0)), (7, .long (lN 0)), (5, .long 0), (3, .long 0), (0, .ref g0), (1, .int (nI j)), (2, .int 4)]) hx hb dX1_row_27 hl (by decide) rfl (fun ls hl => ?_)
      refine loop (fun ls hl => ?_) (k + 1) 0 (by omega) (by omega) ls (lv_sub hl [0, 1, 2, 3, 4, 5, 6] rfl)
      refine lv_iload_n hx hb dX1_row_116 rfl (lv_at hl 6 rfl) ?_
      refine lv_if_ne (tgt := 129) hx hb dX1_row_117 (by decide) (fun _ => ?_) (fun c9 => absurd c9 (by decide))
      refine lv_iload_n hx hb dX1_row_129 rfl (lv_at hl 6 rfl) ?_
      refine lv_iconst (v := 1) hx hb dX1_row_130 (by decide) ?_
      refine lv_icmp_ne (tgt := 138) hx hb dX1_row_131 (by decide) (fun _ => ?_) (fun c9 => absurd c9 (by decide))
      refine lv_iload_n hx hb dX1_row_138 rfl (lv_at hl 6 rfl) ?_
      refine lv_iconst (v := 2) hx hb dX1_row_139 (by decide) ?_
      refine lv_icmp_ne (tgt := 148) hx hb dX1_row_140 (by decide) (fun _ => ?_) (fun c9 => absurd c9 (by decide))
      refine lv_iload_n hx hb dX1_row_148 rfl (lv_at hl 6 rfl) ?_
      refine lv_iconst (v := 3) hx hb dX1_row_149 (by decide) ?_
      refine lv_icmp_ne (tgt := 167) hx hb dX1_row_150 (by decide) (fun _ => ?_) (fun c9 => absurd c9 (by decide))
      refine lv_lload hx hb dX1_row_167 (lv_at hl 1 rfl) ?_
      exact W.lret (v := lN (dk_yn mo (nI j) k)) hx hb hr (fun z8 hz8 hW8 => ⟨⟨(lN (dk_yn mo (nI j) k)), (), rfl, Or.inr ⟨j, hj, rfl, Or.inr (Or.inr (Or.inr (Or.inr (Or.inl ⟨rfl, rfl⟩))))⟩, trivial⟩, hS.F hz8⟩) hS.2.2 dX1_row_169
    · have hyr : (y < 0) ∨ (¬ y ≤ 4) := by
        have e0 : (0 : Int32).toInt = 0 := by decide
        have e4 : (4 : Int32).toInt = 4 := by decide
        rw [Int32.lt_iff_toInt_lt, Int32.le_iff_toInt_le]; omega
      refine lv_iload_n hx hb dX1_row_7 rfl (lv_at hl 2 rfl) ?_
      refine lv_if_lt (tgt := 16) hx hb dX1_row_8 (by decide) (fun c_8 => ?_) (fun c_8 => ?_)
      · refine lv_lconst (v := 0) hx hb dX1_row_16 (by decide) ?_
        exact W.lret (v := 0) hx hb hr (fun z8 hz8 hW8 => ⟨⟨0, (), rfl, Or.inr ⟨j, hj, rfl, Or.inr (Or.inr (Or.inr (Or.inr (Or.inr (⟨hsw, rfl⟩)))))⟩, trivial⟩, hS.F hz8⟩) hS.2.2 dX1_row_17
      · refine lv_iload_n hx hb dX1_row_11 rfl (lv_at hl 2 rfl) ?_
        refine lv_iconst (v := 4) hx hb dX1_row_12 (by decide) ?_
        refine lv_icmp_le (tgt := 18) hx hb dX1_row_13 (by decide) (fun c_13 => ?_) (fun c_13 => ?_)
        · exact absurd (hyr.resolve_left c_8) (fun q9 => q9 c_13)
        · refine lv_lconst (v := 0) hx hb dX1_row_16 (by decide) ?_
          exact W.lret (v := 0) hx hb hr (fun z8 hz8 hW8 => ⟨⟨0, (), rfl, Or.inr ⟨j, hj, rfl, Or.inr (Or.inr (Or.inr (Or.inr (Or.inr (⟨hsw, rfl⟩)))))⟩, trivial⟩, hS.F hz8⟩) hS.2.2 dX1_row_17
  · refine lv_if_eq (tgt := 16) hx hb dX1_row_4 (by decide) (fun _ => ?_) (fun c9 => absurd (by decide) c9)
    refine lv_lconst (v := 0) hx hb dX1_row_16 (by decide) ?_
    exact W.lret (v := 0) hx hb hr (fun z8 hz8 hW8 => ⟨⟨0, (), rfl, Or.inl ⟨rfl, hno⟩, trivial⟩, hS.F hz8⟩) hS.2.2 dX1_row_17
end
section
set_option maxHeartbeats 4000000 in
set_option maxRecDepth 100000 in
/-- begin -/
theorem cY_begin (l : Launch) (dC : Nat → ClassId) (dI : Nat → Nat → Nat) (sz : Nat) (g0 a1 a2 a3 a4 : Nat) (i1 i2 i3 : ClassId) (TT : Int64) (k : Nat) (hk9 : k ≤ 520) (w : Int32) (O : Nat → Int64) (mo : Nat → Int32) (mb : Nat → Int64) : Met l yX1_begin wsX1_begin ({ frames := 2, cells := 0, slots := 0, locals := 49 }) (dk_Pw [.ref g0] (dC, dI) vwCl [(i1, .long), (i2, .int), (i3, .long)] [(g0, .inr (1, [.long TT, .ref a1, .int (nI k), .ref a2, .ref a3, .int w, .ref a4])), (a1, .inl (i1, 200, .inr (.inl O))), (a2, .inl (i2, 520, .inl mo)), (a3, .inl (i3, 520, .inr (.inl mb)))] sz) (va_Qv (fun (u : (Nat → Int64)) => match u with | O2 => ∀ j : Nat, j < 200 → O2 j = dk_y3 O mo mb k j) (fun (u : (Nat → Int64)) z8 => match u with | O2 => dk_B (dC, dI) vwCl (va_A [(g0, .inr (1, [.long TT, .ref a1, .int (nI k), .ref a2, .ref a3, .int w, .ref a4])), (a1, .inl (i1, 200, .inr (.inl O))), (a2, .inl (i2, 520, .inl mo)), (a3, .inl (i3, 520, .inr (.inl mb)))] sz) [(g0, .inr (1, [.long TT, .ref a1, .int (nI 0), .ref a2, .ref a3, .int w, .ref a4])), (a1, .inl (i1, 200, .inr (.inl O2))), (a2, .inl (i2, 520, .inl mo)), (a3, .inl (i3, 520, .inr (.inl mb)))] z8) (va_A [(g0, .inr (1, [.long TT, .ref a1, .int (nI k), .ref a2, .ref a3, .int w, .ref a4])), (a1, .inl (i1, 200, .inr (.inl O))), (a2, .inl (i2, 520, .inl mo)), (a3, .inl (i3, 520, .inr (.inl mb)))] sz)) 0 0 (va_A [(g0, .inr (1, [.long TT, .ref a1, .int (nI k), .ref a2, .ref a3, .int w, .ref a4])), (a1, .inl (i1, 200, .inr (.inl O))), (a2, .inl (i2, 520, .inl mo)), (a3, .inl (i3, 520, .inr (.inl mb)))] sz) := by
  refine Met.ofW (cc := cX1_begin) (maxL := 2) (ret := none) (by decide) rfl ?_
  intro p e s m args below meth c s₁ B hml hv
  obtain ⟨rfl, hsz, hP, hK, hD0⟩ := hv
  have hx := B.exec
  have hb := B.bytes
  have hr := B.returns
  have hts := atoms_spec (ws := wsX1_begin) B.pre
  have hown : s.vm.findClass RX1 = some m.cls := findClass_of_methodNamed B.named
  have hlocks := B.notSynchronized
  have hinX1 : ∀ w ∈ wsX10, w ∈ wsX1_begin := by decide +kernel
  subst hsz
  have hD := hD0.self (sz := s.heap.size)
  generalize hAe : va_A [(g0, .inr (1, [.long TT, .ref a1, .int (nI k), .ref a2, .ref a3, .int w, .ref a4])), (a1, .inl (i1, 200, .inr (.inl O))), (a2, .inl (i2, 520, .inl mo)), (a3, .inl (i3, 520, .inr (.inl mb)))] s.heap.size = A at hD ⊢
  have hA : ∀ q : Nat, s.heap.size ≤ q → A q := fun q h => by rw [← hAe]; exact Or.inr h
  have hS : va_S A s.heap s.heap [] := va_S.rf
  have hl := lv_entry ([.ref g0]) (n := 2) (Nat.le_of_ble_eq_true rfl)
  rw [lg_entry_eq]
  generalize (lg_sl ([.ref g0]) ++ List.replicate (2 - (lg_sl ([.ref g0])).length) Slot.unset).toArray = ls at hl ⊢
  have hl : lv_has ls 2 [(0, .ref g0)] := hl
  refine lv_iconst (v := nI 0) hx hb dX1_begin_0 (by decide) ?_
  refine lv_istore_n (lv' := [(1, .int (nI 0)), (0, .ref g0)]) hx hb dX1_begin_1 rfl hl (by decide) rfl (fun ls hl => ?_)
  have loop : ∀ (f i : Nat) (O2 : Nat → Int64), i ≤ 200 → 201 ≤ i + f → (∀ j : Nat, j < i → O2 j = dk_y3 O mo mb k j) → (∀ j : Nat, i ≤ j → O2 j = O j) → ∀ (H : Heap) (locs : List Loc), va_P (dC, dI) vwCl [(g0, .inr (1, [.long TT, .ref a1, .int (nI k), .ref a2, .ref a3, .int w, .ref a4])), (a1, .inl (i1, 200, .inr (.inl O2))), (a2, .inl (i2, 520, .inl mo)), (a3, .inl (i3, 520, .inr (.inl mb)))] H → va_D A [(g0, .inr (1, [.long TT, .ref a1, .int (nI k), .ref a2, .ref a3, .int w, .ref a4])), (a1, .inl (i1, 200, .inr (.inl O2))), (a2, .inl (i2, 520, .inl mo)), (a3, .inl (i3, 520, .inr (.inl mb)))] → va_S A s.heap H locs → ∀ ls : Array Slot, lv_has ls 2 [(1, .int (nI i)), (0, .ref g0)] → W p l e (headSpec wsX1_begin ({ frames := 2, cells := 0, slots := 0, locals := 49 })).room s m ([.ref g0] : List Value).toArray below meth c H locs 0 0 (MQ below (va_Qv (fun (u : (Nat → Int64)) => match u with | O2 => ∀ j : Nat, j < 200 → O2 j = dk_y3 O mo mb k j) (fun (u : (Nat → Int64)) z8 => match u with | O2 => dk_B (dC, dI) vwCl A [(g0, .inr (1, [.long TT, .ref a1, .int (nI 0), .ref a2, .ref a3, .int w, .ref a4])), (a1, .inl (i1, 200, .inr (.inl O2))), (a2, .inl (i2, 520, .inl mo)), (a3, .inl (i3, 520, .inr (.inl mb)))] z8) A) ([.ref g0] : List Value).toArray s 0 0 A) (F0 m 2 ls []) := by
    intro f
    induction f with
    | zero => intro i O2 h1 h2; exact absurd h2 (by omega)
    | succ f ih =>
      intro i O2 hi hf hlo hhi H locs hP hD hS ls hl
      refine lv_iload_n hx hb dX1_begin_2 rfl (lv_at hl 0 rfl) ?_
      refine lv_sipush (v := nI 200) hx hb dX1_begin_3 (by decide) ?_
      refine dk_icmp_ge (x := i) (y := 200) (tgt := 27) hx hb dX1_begin_6 (by decide) (by omega) (by omega) (fun c_6 => ?_) (fun c_6 => ?_)
      · refine lv_aload_n hx hb dX1_begin_27 rfl (lv_at hl 1 rfl) ?_
        refine lv_iconst (v := nI 0) hx hb dX1_begin_28 (by decide) ?_
        refine va_put (D := (dC, dI)) (ci := 1) (v := .int (nI 0)) (ty := .int) (C := RX1) (T := TX1) (N := 7) hx hb hts hinX1 tyX1 tyX1_ok nmX1 hown hK hP hD hS 0 rfl rfl 2 (by decide) (hts (.fieldLink RX1 33 "DayDeskModel" "moves" "I") (by decide +kernel)) (fun _ h9 => h9) rfl (by decide +kernel) rfl rfl (Nat.le_of_ble_eq_true rfl) dX1_begin_29 (fun H locs hP hD hS => ?_)
        have hP : va_P (dC, dI) vwCl [(g0, .inr (1, [.long TT, .ref a1, .int (nI 0), .ref a2, .ref a3, .int w, .ref a4])), (a1, .inl (i1, 200, .inr (.inl O2))), (a2, .inl (i2, 520, .inl mo)), (a3, .inl (i3, 520, .inr (.inl mb)))] H := hP
        have hD : va_D A [(g0, .inr (1, [.long TT, .ref a1, .int (nI 0), .ref a2, .ref a3, .int w, .ref a4])), (a1, .inl (i1, 200, .inr (.inl O2))), (a2, .inl (i2, 520, .inl mo)), (a3, .inl (i3, 520, .inr (.inl mb)))] := hD
        exact W.vret hx hb hr (fun z8 hz8 hW8 => ⟨⟨O2, rfl, fun j hj => hlo j (by omega), by rw [hz8]; exact hP, hD⟩, hS.F hz8⟩) hS.2.2 dX1_begin_32
      · refine lv_aload_n hx hb dX1_begin_9 rfl (lv_at hl 1 rfl) ?_
        refine va_get (D := (dC, dI)) (ci := 1) (v := .ref a1) (C := RX1) (T := TX1) (N := 7) hx hb hts hinX1 hown hK hP 0 rfl rfl 1 (by decide) (hts (.fieldLink RX1 7 "DayDeskModel" "opening" "[J") (by decide +kernel)) (fun _ h9 => h9) rfl dX1_begin_10 ?_
        refine lv_iload_n hx hb dX1_begin_13 rfl (lv_at hl 0 rfl) ?_
        refine lv_aload_n hx hb dX1_begin_14 rfl (lv_at hl 1 rfl) ?_
        refine lv_iload_n hx hb dX1_begin_15 rfl (lv_at hl 0 rfl) ?_
        refine lv_iconst (v := 3) hx hb dX1_begin_16 (by decide) ?_
        have hPc := hP
        have hKc := hK
        refine va_calll (va_runV (As := [.int (nI i), .int 3]) (rest := [.int (nI i), .ref a1]) ⟨hx, hb, hml, hown, hts⟩ (cY_row l dC dI g0 a1 a2 a3 a4 i1 i2 i3 TT k hk9 w O2 mo mb (nI i) 3) (cwV 2 hts gX1_begin_X1_row rfl rfl rfl (by decide +kernel) ⟨Nat.le_of_ble_eq_true rfl, Nat.le_of_ble_eq_true rfl⟩) (dk_rV hPc hKc (ci := 1) (q0 := 0) rfl rfl) rfl rfl hl.1 rfl (lv_room (Nat.le_of_ble_eq_true rfl)) dX1_begin_17 ⟨Nat.zero_le _, Nat.zero_le _⟩) hS (fun q _ h => False.elim h) (fun q h => False.elim h) (fun r_17 u8 t8 H1 locs ht8 hvm8 hw hB hz1 hk1 hS => ?_)
        try dsimp only at hw
        have hP := dk_kept hP hk1
        generalize H1 = H at hP hS ⊢
        have hw := dk_row_in (by omega) hw
        have hw : _ = dk_y3 O2 mo mb k i := hw
        subst hw
        refine dk_last hx hb hK hP hD hS 1 0 rfl rfl (j := i) (by omega) (by omega) dX1_begin_20 (fun H locs hP hD hS => ?_)
        have hP : va_P (dC, dI) vwCl [(g0, .inr (1, [.long TT, .ref a1, .int (nI k), .ref a2, .ref a3, .int w, .ref a4])), (a1, .inl (i1, 200, .inr (.inl (vp_updL O2 i (dk_y3 O2 mo mb k i))))), (a2, .inl (i2, 520, .inl mo)), (a3, .inl (i3, 520, .inr (.inl mb)))] H := hP
        have hD : va_D A [(g0, .inr (1, [.long TT, .ref a1, .int (nI k), .ref a2, .ref a3, .int w, .ref a4])), (a1, .inl (i1, 200, .inr (.inl (vp_updL O2 i (dk_y3 O2 mo mb k i))))), (a2, .inl (i2, 520, .inl mo)), (a3, .inl (i3, 520, .inr (.inl mb)))] := hD
        refine lv_iinc (v := nI (i + 1)) (lv' := [(1, .int (nI (i + 1))), (0, .ref g0)]) hx hb dX1_begin_21 hl (k := 0) rfl (by rw [show Int32.ofInt 1 = nI 1 from by decide]; exact nI_add i 1) (by decide) rfl (fun ls hl => ?_)
        refine lv_goto (tgt := 2) hx hb dX1_begin_24 (by decide) ?_
        refine ih (i + 1) _ (by omega) (by omega) (fun j hj => ?_) (fun j hj => by rw [pk_uLn (by omega)]; exact hhi j (by omega)) _ _ hP hD hS ls (lv_sub hl [0, 1] rfl)
        by_cases hji : j = i
        · subst hji; rw [pk_uLs]; show O2 j - _ + _ = O j - _ + _; rw [hhi j (Nat.le_refl j)]
        · rw [pk_uLn hji]; exact hlo j (by omega)
  exact loop 201 0 O (by omega) (by omega) (fun j hj => absurd hj (Nat.not_lt_zero _)) (fun j hj => rfl) _ _ hP hD hS ls (lv_sub hl [0, 1] rfl)
set_option maxHeartbeats 4000000 in
set_option maxRecDepth 100000 in
/-- pass -/
theorem cY_pass (l : Launch) (dC : Nat → ClassId) (dI : Nat → Nat → Nat) (sz : Nat) (g0 a1 a2 a3 a4 : Nat) (i1 i2 i3 : ClassId) (T : Nat) (hT9 : T + 1 < 100000000) (k : Nat) (hk9 : k ≤ 520) (w : Int32) (O : Nat → Int64) (mo : Nat → Int32) (mb : Nat → Int64) : Met l yX1_pass wsX1_pass ({ frames := 3, cells := 0, slots := 0, locals := 70 }) (dk_Pw [.ref g0] (dC, dI) vwCl [(i1, .long), (i2, .int), (i3, .long)] [(g0, .inr (1, [.long (lN T), .ref a1, .int (nI k), .ref a2, .ref a3, .int w, .ref a4])), (a1, .inl (i1, 200, .inr (.inl O))), (a2, .inl (i2, 520, .inl mo)), (a3, .inl (i3, 520, .inr (.inl mb)))] sz) (va_Qi (fun (r : Int32) (u : (Nat → Int64) × Nat) => match u with | (O2, k2) => r = nI (dk_pA ((T + 1) % 1000)) ∧ dk_YS ((T + 1) / 1000 - T / 1000) O mo mb k O2 k2) (fun (u : (Nat → Int64) × Nat) z8 => match u with | (O2, k2) => dk_B (dC, dI) vwCl (va_A [(g0, .inr (1, [.long (lN T), .ref a1, .int (nI k), .ref a2, .ref a3, .int w, .ref a4])), (a1, .inl (i1, 200, .inr (.inl O))), (a2, .inl (i2, 520, .inl mo)), (a3, .inl (i3, 520, .inr (.inl mb)))] sz) [(g0, .inr (1, [.long (lN (T + 1)), .ref a1, .int (nI k2), .ref a2, .ref a3, .int w, .ref a4])), (a1, .inl (i1, 200, .inr (.inl O2))), (a2, .inl (i2, 520, .inl mo)), (a3, .inl (i3, 520, .inr (.inl mb)))] z8) (va_A [(g0, .inr (1, [.long (lN T), .ref a1, .int (nI k), .ref a2, .ref a3, .int w, .ref a4])), (a1, .inl (i1, 200, .inr (.inl O))), (a2, .inl (i2, 520, .inl mo)), (a3, .inl (i3, 520, .inr (.inl mb)))] sz)) 0 0 (va_A [(g0, .inr (1, [.long (lN T), .ref a1, .int (nI k), .ref a2, .ref a3, .int w, .ref a4])), (a1, .inl (i1, 200, .inr (.inl O))), (a2, .inl (i2, 520, .inl mo)), (a3, .inl (i3, 520, .inr (.inl mb)))] sz) := by
  refine Met.ofW (cc := cX1_pass) (maxL := 2) (ret := (some .int)) (by decide) rfl ?_
  intro p e s m args below meth c s₁ B hml hv
  obtain ⟨rfl, hsz, hP, hK, hD0⟩ := hv
  have hx := B.exec
  have hb := B.bytes
  have hr := B.returns
  have hts := atoms_spec (ws := wsX1_pass) B.pre
  have hown : s.vm.findClass RX1 = some m.cls := findClass_of_methodNamed B.named
  have hlocks := B.notSynchronized
  have hinX1 : ∀ w ∈ wsX10, w ∈ wsX1_pass := by decide +kernel
  subst hsz
  have hD := hD0.self (sz := s.heap.size)
  generalize hAe : va_A [(g0, .inr (1, [.long (lN T), .ref a1, .int (nI k), .ref a2, .ref a3, .int w, .ref a4])), (a1, .inl (i1, 200, .inr (.inl O))), (a2, .inl (i2, 520, .inl mo)), (a3, .inl (i3, 520, .inr (.inl mb)))] s.heap.size = A at hD ⊢
  have hA : ∀ q : Nat, s.heap.size ≤ q → A q := fun q h => by rw [← hAe]; exact Or.inr h
  have hS : va_S A s.heap s.heap [] := va_S.rf
  have hl := lv_entry ([.ref g0]) (n := 2) (Nat.le_of_ble_eq_true rfl)
  rw [lg_entry_eq]
  generalize (lg_sl ([.ref g0]) ++ List.replicate (2 - (lg_sl ([.ref g0])).length) Slot.unset).toArray = ls at hl ⊢
  have hl : lv_has ls 2 [(0, .ref g0)] := hl
  refine lv_aload_n hx hb dX1_pass_0 rfl (lv_at hl 0 rfl) ?_
  refine lv_dup hx hb dX1_pass_1 rfl ?_
  refine va_get (D := (dC, dI)) (ci := 1) (v := .long (lN T)) (C := RX1) (T := TX1) (N := 7) hx hb hts hinX1 hown hK hP 0 rfl rfl 0 (by decide) (hts (.fieldLink RX1 23 "DayDeskModel" "ticks" "J") (by decide +kernel)) (fun _ h9 => h9) rfl dX1_pass_2 ?_
  refine lv_lconst (v := 1) hx hb dX1_pass_5 (by decide) ?_
  refine lv_ladd hx hb dX1_pass_6 ?_
  refine dk_asl (y := lN (T + 1)) (lN_1 T) ?_
  refine va_put (D := (dC, dI)) (ci := 1) (v := .long (lN (T + 1))) (ty := .long) (C := RX1) (T := TX1) (N := 7) hx hb hts hinX1 tyX1 tyX1_ok nmX1 hown hK hP hD hS 0 rfl rfl 0 (by decide) (hts (.fieldLink RX1 23 "DayDeskModel" "ticks" "J") (by decide +kernel)) (fun _ h9 => h9) rfl (by decide +kernel) rfl rfl (Nat.le_of_ble_eq_true rfl) dX1_pass_7 (fun H locs hP hD hS => ?_)
  have hP : va_P (dC, dI) vwCl [(g0, .inr (1, [.long (lN (T + 1)), .ref a1, .int (nI k), .ref a2, .ref a3, .int w, .ref a4])), (a1, .inl (i1, 200, .inr (.inl O))), (a2, .inl (i2, 520, .inl mo)), (a3, .inl (i3, 520, .inr (.inl mb)))] H := hP
  have hD : va_D A [(g0, .inr (1, [.long (lN (T + 1)), .ref a1, .int (nI k), .ref a2, .ref a3, .int w, .ref a4])), (a1, .inl (i1, 200, .inr (.inl O))), (a2, .inl (i2, 520, .inl mo)), (a3, .inl (i3, 520, .inr (.inl mb)))] := hD
  refine lv_aload_n hx hb dX1_pass_10 rfl (lv_at hl 0 rfl) ?_
  have hPc := hP.sub (ws' := [(g0, .inr (1, [.long (lN (T + 1)), .ref a1, .int (nI k), .ref a2, .ref a3, .int w, .ref a4]))]) [0] rfl
  have hKc := hK.sub (tys' := []) [] rfl
  refine va_calli (va_runV (As := []) (rest := []) ⟨hx, hb, hml, hown, hts⟩ (cY_tick l dC dI g0 a1 a2 a3 a4 (T + 1) (by omega) (nI k) w) (cwV 0 hts gX1_pass_X1_tick rfl rfl rfl (by decide +kernel) ⟨Nat.le_of_ble_eq_true rfl, Nat.le_of_ble_eq_true rfl⟩) (dk_rV hPc hKc (ci := 1) (q0 := 0) rfl rfl) rfl rfl hl.1 rfl (lv_room (Nat.le_of_ble_eq_true rfl)) dX1_pass_11 ⟨Nat.zero_le _, Nat.zero_le _⟩) hS (fun q _ h => False.elim h) (fun q h => False.elim h) (fun r_11 u8 t8 H1 locs ht8 hvm8 hw hB hz1 hk1 hS => ?_)
  try dsimp only at hw
  have hP := dk_kept hP hk1
  generalize H1 = H at hP hS ⊢
  subst hw
  refine lv_istore_n (lv' := [(1, .int (nI ((T + 1) % 1000))), (0, .ref g0)]) hx hb dX1_pass_14 rfl hl (by decide) rfl (fun ls hl => ?_)
  refine lv_iload_n hx hb dX1_pass_15 rfl (lv_at hl 0 rfl) ?_
  refine dk_if_ne (x := (T + 1) % 1000) (tgt := 23) hx hb dX1_pass_16 (by decide) (by omega) (fun c_16 => ?_) (fun c_16 => ?_)
  · refine lv_iload_n hx hb dX1_pass_23 rfl (lv_at hl 0 rfl) ?_
    have hKc := hK.sub (tys' := []) [] rfl
    refine va_calli (va_runS (As := [.int (nI ((T + 1) % 1000))]) (rest := []) ⟨hx, hb, hml, hown, hts⟩ (cY_isResolved l dC dI ((T + 1) % 1000) (by omega)) (va_cwS 1 hts gX1_pass_X1_isResolved rfl rfl rfl (by decide +kernel) ⟨Nat.le_of_ble_eq_true rfl, Nat.le_of_ble_eq_true rfl⟩) (dk_rS dk_P0 hKc) rfl rfl hl.1 rfl (lv_room (Nat.le_of_ble_eq_true rfl)) dX1_pass_24 ⟨Nat.zero_le _, Nat.zero_le _⟩) hS (fun q _ h => False.elim h) (fun q h => False.elim h) (fun r_24 u8 t8 H1 locs ht8 hvm8 hw hB hz1 hk1 hS => ?_)
    try dsimp only at hw
    have hP := dk_kept hP hk1
    generalize H1 = H at hP hS ⊢
    unfold dk_iR at hw
    rcases hw with ⟨rfl, hR⟩ | ⟨rfl, hR⟩
    · refine lv_if_eq (tgt := 34) hx hb dX1_pass_27 (by decide) (fun c9 => absurd c9 (by decide)) (fun _ => ?_)
      refine lv_iconst (v := 1) hx hb dX1_pass_30 (by decide) ?_
      refine lv_goto (tgt := 35) hx hb dX1_pass_31 (by decide) ?_
      refine lv_iload_n hx hb dX1_pass_35 rfl (lv_at hl 0 rfl) ?_
      refine lv_sipush (v := nI 900) hx hb dX1_pass_36 (by decide) ?_
      refine dk_icmp_ne (x := (T + 1) % 1000) (y := 900) (tgt := 46) hx hb dX1_pass_39 (by decide) (by omega) (by omega) (fun c_39 => ?_) (fun c_39 => ?_)
      · refine lv_iconst (v := 0) hx hb dX1_pass_46 (by decide) ?_
        refine lv_iadd hx hb dX1_pass_47 ?_
        refine dk_asi (y := nI (1 + 0)) (nI_add 1 0) ?_
        refine lv_iload_n hx hb dX1_pass_48 rfl (lv_at hl 0 rfl) ?_
        refine dk_if_ne (x := (T + 1) % 1000) (tgt := 56) hx hb dX1_pass_49 (by decide) (by omega) (fun c_49 => ?_) (fun c_49 => ?_)
        · refine lv_iconst (v := 0) hx hb dX1_pass_56 (by decide) ?_
          refine lv_iadd hx hb dX1_pass_57 ?_
          refine dk_asi (y := nI ((1 + 0) + 0)) (nI_add (1 + 0) 0) ?_
          exact W.iret (v := nI ((1 + 0) + 0)) hx hb hr (fun z8 hz8 hW8 => ⟨⟨(nI ((1 + 0) + 0)), (O, k), rfl, ⟨congrArg nI (by unfold dk_pA; (repeat' split) <;> omega), Or.inl ⟨by omega, rfl, rfl⟩⟩, by rw [hz8]; exact hP, hD⟩, hS.F hz8⟩) hS.2.2 dX1_pass_58
        · refine lv_iconst (v := 4) hx hb dX1_pass_52 (by decide) ?_
          refine lv_goto (tgt := 57) hx hb dX1_pass_53 (by decide) ?_
          refine lv_iadd hx hb dX1_pass_57 ?_
          refine dk_asi (y := nI ((1 + 0) + 4)) (nI_add (1 + 0) 4) ?_
          exact W.iret (v := nI ((1 + 0) + 4)) hx hb hr (fun z8 hz8 hW8 => ⟨⟨(nI ((1 + 0) + 4)), (O, k), rfl, ⟨congrArg nI (by unfold dk_pA; (repeat' split) <;> omega), Or.inl ⟨by omega, rfl, rfl⟩⟩, by rw [hz8]; exact hP, hD⟩, hS.F hz8⟩) hS.2.2 dX1_pass_58
      · refine lv_iconst (v := 2) hx hb dX1_pass_42 (by decide) ?_
        refine lv_goto (tgt := 47) hx hb dX1_pass_43 (by decide) ?_
        refine lv_iadd hx hb dX1_pass_47 ?_
        refine dk_asi (y := nI (1 + 2)) (nI_add 1 2) ?_
        refine lv_iload_n hx hb dX1_pass_48 rfl (lv_at hl 0 rfl) ?_
        refine dk_if_ne (x := (T + 1) % 1000) (tgt := 56) hx hb dX1_pass_49 (by decide) (by omega) (fun c_49 => ?_) (fun c_49 => ?_)
        · refine lv_iconst (v := 0) hx hb dX1_pass_56 (by decide) ?_
          refine lv_iadd hx hb dX1_pass_57 ?_
          refine dk_asi (y := nI ((1 + 2) + 0)) (nI_add (1 + 2) 0) ?_
          exact W.iret (v := nI ((1 + 2) + 0)) hx hb hr (fun z8 hz8 hW8 => ⟨⟨(nI ((1 + 2) + 0)), (O, k), rfl, ⟨congrArg nI (by unfold dk_pA; (repeat' split) <;> omega), Or.inl ⟨by omega, rfl, rfl⟩⟩, by rw [hz8]; exact hP, hD⟩, hS.F hz8⟩) hS.2.2 dX1_pass_58
        · refine lv_iconst (v := 4) hx hb dX1_pass_52 (by decide) ?_
          refine lv_goto (tgt := 57) hx hb dX1_pass_53 (by decide) ?_
          refine lv_iadd hx hb dX1_pass_57 ?_
          refine dk_asi (y := nI ((1 + 2) + 4)) (nI_add (1 + 2) 4) ?_
          exact W.iret (v := nI ((1 + 2) + 4)) hx hb hr (fun z8 hz8 hW8 => ⟨⟨(nI ((1 + 2) + 4)), (O, k), rfl, ⟨congrArg nI (by unfold dk_pA; (repeat' split) <;> omega), Or.inl ⟨by omega, rfl, rfl⟩⟩, by rw [hz8]; exact hP, hD⟩, hS.F hz8⟩) hS.2.2 dX1_pass_58
    · refine lv_if_eq (tgt := 34) hx hb dX1_pass_27 (by decide) (fun _ => ?_) (fun c9 => absurd (by decide) c9)
      refine lv_iconst (v := 0) hx hb dX1_pass_34 (by decide) ?_
      refine lv_iload_n hx hb dX1_pass_35 rfl (lv_at hl 0 rfl) ?_
      refine lv_sipush (v := nI 900) hx hb dX1_pass_36 (by decide) ?_
      refine dk_icmp_ne (x := (T + 1) % 1000) (y := 900) (tgt := 46) hx hb dX1_pass_39 (by decide) (by omega) (by omega) (fun c_39 => ?_) (fun c_39 => ?_)
      · refine lv_iconst (v := 0) hx hb dX1_pass_46 (by decide) ?_
        refine lv_iadd hx hb dX1_pass_47 ?_
        refine dk_asi (y := nI (0 + 0)) (nI_add 0 0) ?_
        refine lv_iload_n hx hb dX1_pass_48 rfl (lv_at hl 0 rfl) ?_
        refine dk_if_ne (x := (T + 1) % 1000) (tgt := 56) hx hb dX1_pass_49 (by decide) (by omega) (fun c_49 => ?_) (fun c_49 => ?_)
        · refine lv_iconst (v := 0) hx hb dX1_pass_56 (by decide) ?_
          refine lv_iadd hx hb dX1_pass_57 ?_
          refine dk_asi (y := nI ((0 + 0) + 0)) (nI_add (0 + 0) 0) ?_
          exact W.iret (v := nI ((0 + 0) + 0)) hx hb hr (fun z8 hz8 hW8 => ⟨⟨(nI ((0 + 0) + 0)), (O, k), rfl, ⟨congrArg nI (by unfold dk_pA; (repeat' split) <;> omega), Or.inl ⟨by omega, rfl, rfl⟩⟩, by rw [hz8]; exact hP, hD⟩, hS.F hz8⟩) hS.2.2 dX1_pass_58
        · refine lv_iconst (v := 4) hx hb dX1_pass_52 (by decide) ?_
          refine lv_goto (tgt := 57) hx hb dX1_pass_53 (by decide) ?_
          refine lv_iadd hx hb dX1_pass_57 ?_
          refine dk_asi (y := nI ((0 + 0) + 4)) (nI_add (0 + 0) 4) ?_
          exact W.iret (v := nI ((0 + 0) + 4)) hx hb hr (fun z8 hz8 hW8 => ⟨⟨(nI ((0 + 0) + 4)), (O, k), rfl, ⟨congrArg nI (by unfold dk_pA; (repeat' split) <;> omega), Or.inl ⟨by omega, rfl, rfl⟩⟩, by rw [hz8]; exact hP, hD⟩, hS.F hz8⟩) hS.2.2 dX1_pass_58
      · refine lv_iconst (v := 2) hx hb dX1_pass_42 (by decide) ?_
        refine lv_goto (tgt := 47) hx hb dX1_pass_43 (by decide) ?_
        refine lv_iadd hx hb dX1_pass_47 ?_
        refine dk_asi (y := nI (0 + 2)) (nI_add 0 2) ?_
        refine lv_iload_n hx hb dX1_pass_48 rfl (lv_at hl 0 rfl) ?_
        refine dk_if_ne (x := (T + 1) % 1000) (tgt := 56) hx hb dX1_pass_49 (by decide) (by omega) (fun c_49 => ?_) (fun c_49 => ?_)
        · refine lv_iconst (v := 0) hx hb dX1_pass_56 (by decide) ?_
          refine lv_iadd hx hb dX1_pass_57 ?_
          refine dk_asi (y := nI ((0 + 2) + 0)) (nI_add (0 + 2) 0) ?_
          exact W.iret (v := nI ((0 + 2) + 0)) hx hb hr (fun z8 hz8 hW8 => ⟨⟨(nI ((0 + 2) + 0)), (O, k), rfl, ⟨congrArg nI (by unfold dk_pA; (repeat' split) <;> omega), Or.inl ⟨by omega, rfl, rfl⟩⟩, by rw [hz8]; exact hP, hD⟩, hS.F hz8⟩) hS.2.2 dX1_pass_58
        · refine lv_iconst (v := 4) hx hb dX1_pass_52 (by decide) ?_
          refine lv_goto (tgt := 57) hx hb dX1_pass_53 (by decide) ?_
          refine lv_iadd hx hb dX1_pass_57 ?_
          refine dk_asi (y := nI ((0 + 2) + 4)) (nI_add (0 + 2) 4) ?_
          exact W.iret (v := nI ((0 + 2) + 4)) hx hb hr (fun z8 hz8 hW8 => ⟨⟨(nI ((0 + 2) + 4)), (O, k), rfl, ⟨congrArg nI (by unfold dk_pA; (repeat' split) <;> omega), Or.inl ⟨by omega, rfl, rfl⟩⟩, by rw [hz8]; exact hP, hD⟩, hS.F hz8⟩) hS.2.2 dX1_pass_58
  · refine lv_aload_n hx hb dX1_pass_19 rfl (lv_at hl 1 rfl) ?_
    have hPc := hP
    have hDc := hD
    have hFc := va_free (wc := [(g0, .inr (1, [.long (lN (T + 1)), .ref a1, .int (nI k), .ref a2, .ref a3, .int w, .ref a4])), (a1, .inl (i1, 200, .inr (.inl O))), (a2, .inl (i2, 520, .inl mo)), (a3, .inl (i3, 520, .inr (.inl mb)))]) hD hS hA [0, 1, 2, 3] rfl
    have hKc := hK
    refine va_callv (va_runV (As := []) (rest := []) ⟨hx, hb, hml, hown, hts⟩ (cY_begin l dC dI _ g0 a1 a2 a3 a4 i1 i2 i3 (lN (T + 1)) k hk9 w O mo mb) (cwV 0 hts gX1_pass_X1_begin rfl rfl rfl (by decide +kernel) ⟨Nat.le_of_ble_eq_true rfl, Nat.le_of_ble_eq_true rfl⟩) (dk_wV hPc hKc hDc (ci := 1) (q0 := 0) rfl rfl) rfl rfl hl.1 rfl (lv_room (Nat.le_of_ble_eq_true rfl)) dX1_pass_20 ⟨Nat.zero_le _, Nat.zero_le _⟩) hS (fun q _ h => hFc q h) hFc (fun u8 t8 H1 locs ht8 hvm8 hw hB hz1 hk1 hS => ?_)
    try dsimp only at hw
    obtain ⟨O2, rfl⟩ : ∃ z, z = u8 := ⟨_, rfl⟩
    try dsimp only at hw hB
    obtain ⟨hP1, hD1⟩ := hB
    rw [ht8] at hP1
    obtain ⟨hP, hD⟩ := va_join (wr := []) (w1 := [(g0, .inr (1, [.long (lN (T + 1)), .ref a1, .int (nI 0), .ref a2, .ref a3, .int w, .ref a4])), (a1, .inl (i1, 200, .inr (.inl O2))), (a2, .inl (i2, 520, .inl mo)), (a3, .inl (i3, 520, .inr (.inl mb)))]) hP hD [0, 1, 2, 3] [] rfl rfl (by decide) (by decide) hk1 hFc hP1 hD1
    generalize H1 = H at hP hS ⊢
    have hP : va_P (dC, dI) vwCl [(g0, .inr (1, [.long (lN (T + 1)), .ref a1, .int (nI 0), .ref a2, .ref a3, .int w, .ref a4])), (a1, .inl (i1, 200, .inr (.inl O2))), (a2, .inl (i2, 520, .inl mo)), (a3, .inl (i3, 520, .inr (.inl mb)))] H := hP
    have hD : va_D A [(g0, .inr (1, [.long (lN (T + 1)), .ref a1, .int (nI 0), .ref a2, .ref a3, .int w, .ref a4])), (a1, .inl (i1, 200, .inr (.inl O2))), (a2, .inl (i2, 520, .inl mo)), (a3, .inl (i3, 520, .inr (.inl mb)))] := hD
    have hbeg := hw
    refine lv_iload_n hx hb dX1_pass_23 rfl (lv_at hl 0 rfl) ?_
    have hKc := hK.sub (tys' := []) [] rfl
    refine va_calli (va_runS (As := [.int (nI ((T + 1) % 1000))]) (rest := []) ⟨hx, hb, hml, hown, hts⟩ (cY_isResolved l dC dI ((T + 1) % 1000) (by omega)) (va_cwS 1 hts gX1_pass_X1_isResolved rfl rfl rfl (by decide +kernel) ⟨Nat.le_of_ble_eq_true rfl, Nat.le_of_ble_eq_true rfl⟩) (dk_rS dk_P0 hKc) rfl rfl hl.1 rfl (lv_room (Nat.le_of_ble_eq_true rfl)) dX1_pass_24 ⟨Nat.zero_le _, Nat.zero_le _⟩) hS (fun q _ h => False.elim h) (fun q h => False.elim h) (fun r_24 u8 t8 H1 locs ht8 hvm8 hw hB hz1 hk1 hS => ?_)
    try dsimp only at hw
    have hP := dk_kept hP hk1
    generalize H1 = H at hP hS ⊢
    unfold dk_iR at hw
    rcases hw with ⟨rfl, hR⟩ | ⟨rfl, hR⟩
    · refine lv_if_eq (tgt := 34) hx hb dX1_pass_27 (by decide) (fun c9 => absurd c9 (by decide)) (fun _ => ?_)
      refine lv_iconst (v := 1) hx hb dX1_pass_30 (by decide) ?_
      refine lv_goto (tgt := 35) hx hb dX1_pass_31 (by decide) ?_
      refine lv_iload_n hx hb dX1_pass_35 rfl (lv_at hl 0 rfl) ?_
      refine lv_sipush (v := nI 900) hx hb dX1_pass_36 (by decide) ?_
      refine dk_icmp_ne (x := (T + 1) % 1000) (y := 900) (tgt := 46) hx hb dX1_pass_39 (by decide) (by omega) (by omega) (fun c_39 => ?_) (fun c_39 => ?_)
      · refine lv_iconst (v := 0) hx hb dX1_pass_46 (by decide) ?_
        refine lv_iadd hx hb dX1_pass_47 ?_
        refine dk_asi (y := nI (1 + 0)) (nI_add 1 0) ?_
        refine lv_iload_n hx hb dX1_pass_48 rfl (lv_at hl 0 rfl) ?_
        refine dk_if_ne (x := (T + 1) % 1000) (tgt := 56) hx hb dX1_pass_49 (by decide) (by omega) (fun c_49 => ?_) (fun c_49 => ?_)
        · refine lv_iconst (v := 0) hx hb dX1_pass_56 (by decide) ?_
          refine lv_iadd hx hb dX1_pass_57 ?_
          refine dk_asi (y := nI ((1 + 0) + 0)) (nI_add (1 + 0) 0) ?_
          exact W.iret (v := nI ((1 + 0) + 0)) hx hb hr (fun z8 hz8 hW8 => ⟨⟨(nI ((1 + 0) + 0)), (O2, 0), rfl, ⟨congrArg nI (by unfold dk_pA; (repeat' split) <;> omega), Or.inr ⟨by omega, rfl, hbeg⟩⟩, by rw [hz8]; exact hP, hD⟩, hS.F hz8⟩) hS.2.2 dX1_pass_58
        · refine lv_iconst (v := 4) hx hb dX1_pass_52 (by decide) ?_
          refine lv_goto (tgt := 57) hx hb dX1_pass_53 (by decide) ?_
          refine lv_iadd hx hb dX1_pass_57 ?_
          refine dk_asi (y := nI ((1 + 0) + 4)) (nI_add (1 + 0) 4) ?_
          exact W.iret (v := nI ((1 + 0) + 4)) hx hb hr (fun z8 hz8 hW8 => ⟨⟨(nI ((1 + 0) + 4)), (O2, 0), rfl, ⟨congrArg nI (by unfold dk_pA; (repeat' split) <;> omega), Or.inr ⟨by omega, rfl, hbeg⟩⟩, by rw [hz8]; exact hP, hD⟩, hS.F hz8⟩) hS.2.2 dX1_pass_58
      · refine lv_iconst (v := 2) hx hb dX1_pass_42 (by decide) ?_
        refine lv_goto (tgt := 47) hx hb dX1_pass_43 (by decide) ?_
        refine lv_iadd hx hb dX1_pass_47 ?_
        refine dk_asi (y := nI (1 + 2)) (nI_add 1 2) ?_
        refine lv_iload_n hx hb dX1_pass_48 rfl (lv_at hl 0 rfl) ?_
        refine dk_if_ne (x := (T + 1) % 1000) (tgt := 56) hx hb dX1_pass_49 (by decide) (by omega) (fun c_49 => ?_) (fun c_49 => ?_)
        · refine lv_iconst (v := 0) hx hb dX1_pass_56 (by decide) ?_
          refine lv_iadd hx hb dX1_pass_57 ?_
          refine dk_asi (y := nI ((1 + 2) + 0)) (nI_add (1 + 2) 0) ?_
          exact W.iret (v := nI ((1 + 2) + 0)) hx hb hr (fun z8 hz8 hW8 => ⟨⟨(nI ((1 + 2) + 0)), (O2, 0), rfl, ⟨congrArg nI (by unfold dk_pA; (repeat' split) <;> omega), Or.inr ⟨by omega, rfl, hbeg⟩⟩, by rw [hz8]; exact hP, hD⟩, hS.F hz8⟩) hS.2.2 dX1_pass_58
        · refine lv_iconst (v := 4) hx hb dX1_pass_52 (by decide) ?_
          refine lv_goto (tgt := 57) hx hb dX1_pass_53 (by decide) ?_
          refine lv_iadd hx hb dX1_pass_57 ?_
          refine dk_asi (y := nI ((1 + 2) + 4)) (nI_add (1 + 2) 4) ?_
          exact W.iret (v := nI ((1 + 2) + 4)) hx hb hr (fun z8 hz8 hW8 => ⟨⟨(nI ((1 + 2) + 4)), (O2, 0), rfl, ⟨congrArg nI (by unfold dk_pA; (repeat' split) <;> omega), Or.inr ⟨by omega, rfl, hbeg⟩⟩, by rw [hz8]; exact hP, hD⟩, hS.F hz8⟩) hS.2.2 dX1_pass_58
    · refine lv_if_eq (tgt := 34) hx hb dX1_pass_27 (by decide) (fun _ => ?_) (fun c9 => absurd (by decide) c9)
      refine lv_iconst (v := 0) hx hb dX1_pass_34 (by decide) ?_
      refine lv_iload_n hx hb dX1_pass_35 rfl (lv_at hl 0 rfl) ?_
      refine lv_sipush (v := nI 900) hx hb dX1_pass_36 (by decide) ?_
      refine dk_icmp_ne (x := (T + 1) % 1000) (y := 900) (tgt := 46) hx hb dX1_pass_39 (by decide) (by omega) (by omega) (fun c_39 => ?_) (fun c_39 => ?_)
      · refine lv_iconst (v := 0) hx hb dX1_pass_46 (by decide) ?_
        refine lv_iadd hx hb dX1_pass_47 ?_
        refine dk_asi (y := nI (0 + 0)) (nI_add 0 0) ?_
        refine lv_iload_n hx hb dX1_pass_48 rfl (lv_at hl 0 rfl) ?_
        refine dk_if_ne (x := (T + 1) % 1000) (tgt := 56) hx hb dX1_pass_49 (by decide) (by omega) (fun c_49 => ?_) (fun c_49 => ?_)
        · refine lv_iconst (v := 0) hx hb dX1_pass_56 (by decide) ?_
          refine lv_iadd hx hb dX1_pass_57 ?_
          refine dk_asi (y := nI ((0 + 0) + 0)) (nI_add (0 + 0) 0) ?_
          exact W.iret (v := nI ((0 + 0) + 0)) hx hb hr (fun z8 hz8 hW8 => ⟨⟨(nI ((0 + 0) + 0)), (O2, 0), rfl, ⟨congrArg nI (by unfold dk_pA; (repeat' split) <;> omega), Or.inr ⟨by omega, rfl, hbeg⟩⟩, by rw [hz8]; exact hP, hD⟩, hS.F hz8⟩) hS.2.2 dX1_pass_58
        · refine lv_iconst (v := 4) hx hb dX1_pass_52 (by decide) ?_
          refine lv_goto (tgt := 57) hx hb dX1_pass_53 (by decide) ?_
          refine lv_iadd hx hb dX1_pass_57 ?_
          refine dk_asi (y := nI ((0 + 0) + 4)) (nI_add (0 + 0) 4) ?_
          exact W.iret (v := nI ((0 + 0) + 4)) hx hb hr (fun z8 hz8 hW8 => ⟨⟨(nI ((0 + 0) + 4)), (O2, 0), rfl, ⟨congrArg nI (by unfold dk_pA; (repeat' split) <;> omega), Or.inr ⟨by omega, rfl, hbeg⟩⟩, by rw [hz8]; exact hP, hD⟩, hS.F hz8⟩) hS.2.2 dX1_pass_58
      · refine lv_iconst (v := 2) hx hb dX1_pass_42 (by decide) ?_
        refine lv_goto (tgt := 47) hx hb dX1_pass_43 (by decide) ?_
        refine lv_iadd hx hb dX1_pass_47 ?_
        refine dk_asi (y := nI (0 + 2)) (nI_add 0 2) ?_
        refine lv_iload_n hx hb dX1_pass_48 rfl (lv_at hl 0 rfl) ?_
        refine dk_if_ne (x := (T + 1) % 1000) (tgt := 56) hx hb dX1_pass_49 (by decide) (by omega) (fun c_49 => ?_) (fun c_49 => ?_)
        · refine lv_iconst (v := 0) hx hb dX1_pass_56 (by decide) ?_
          refine lv_iadd hx hb dX1_pass_57 ?_
          refine dk_asi (y := nI ((0 + 2) + 0)) (nI_add (0 + 2) 0) ?_
          exact W.iret (v := nI ((0 + 2) + 0)) hx hb hr (fun z8 hz8 hW8 => ⟨⟨(nI ((0 + 2) + 0)), (O2, 0), rfl, ⟨congrArg nI (by unfold dk_pA; (repeat' split) <;> omega), Or.inr ⟨by omega, rfl, hbeg⟩⟩, by rw [hz8]; exact hP, hD⟩, hS.F hz8⟩) hS.2.2 dX1_pass_58
        · refine lv_iconst (v := 4) hx hb dX1_pass_52 (by decide) ?_
          refine lv_goto (tgt := 57) hx hb dX1_pass_53 (by decide) ?_
          refine lv_iadd hx hb dX1_pass_57 ?_
          refine dk_asi (y := nI ((0 + 2) + 4)) (nI_add (0 + 2) 4) ?_
          exact W.iret (v := nI ((0 + 2) + 4)) hx hb hr (fun z8 hz8 hW8 => ⟨⟨(nI ((0 + 2) + 4)), (O2, 0), rfl, ⟨congrArg nI (by unfold dk_pA; (repeat' split) <;> omega), Or.inr ⟨by omega, rfl, hbeg⟩⟩, by rw [hz8]; exact hP, hD⟩, hS.F hz8⟩) hS.2.2 dX1_pass_58
set_option maxHeartbeats 4000000 in
set_option maxRecDepth 100000 in
/-- skip -/
theorem cY_skip (l : Launch) (dC : Nat → ClassId) (dI : Nat → Nat → Nat) (sz : Nat) (g0 a1 a2 a3 a4 : Nat) (i1 i2 i3 : ClassId) (T : Nat) (hT9 : T + 100000 < 100000000) (k : Nat) (hk9 : k ≤ 520) (w : Int32) (O : Nat → Int64) (mo : Nat → Int32) (mb : Nat → Int64) (x : Int32) : Met l yX1_skip wsX1_skip ({ frames := 4, cells := 0, slots := 0, locals := 91 }) (dk_Pw [.ref g0, .int x] (dC, dI) vwCl [(i1, .long), (i2, .int), (i3, .long)] [(g0, .inr (1, [.long (lN T), .ref a1, .int (nI k), .ref a2, .ref a3, .int w, .ref a4])), (a1, .inl (i1, 200, .inr (.inl O))), (a2, .inl (i2, 520, .inl mo)), (a3, .inl (i3, 520, .inr (.inl mb)))] sz) (va_Qi (fun (r : Int32) (u : (Nat → Int64) × Nat × Nat) => match u with | (O2, k2, T2) => (r = -1 ∧ (x < 1 ∨ nI 100000 < x) ∧ O2 = O ∧ k2 = k ∧ T2 = T) ∨ (∃ n : Nat, 1 ≤ n ∧ n ≤ 100000 ∧ x = nI n ∧ T2 = T + n ∧ dk_YS ((T + n) / 1000 - T / 1000) O mo mb k O2 k2 ∧ r = nI (dk_R (T + n) - dk_R T))) (fun (u : (Nat → Int64) × Nat × Nat) z8 => match u with | (O2, k2, T2) => dk_B (dC, dI) vwCl (va_A [(g0, .inr (1, [.long (lN T), .ref a1, .int (nI k), .ref a2, .ref a3, .int w, .ref a4])), (a1, .inl (i1, 200, .inr (.inl O))), (a2, .inl (i2, 520, .inl mo)), (a3, .inl (i3, 520, .inr (.inl mb)))] sz) [(g0, .inr (1, [.long (lN T2), .ref a1, .int (nI k2), .ref a2, .ref a3, .int w, .ref a4])), (a1, .inl (i1, 200, .inr (.inl O2))), (a2, .inl (i2, 520, .inl mo)), (a3, .inl (i3, 520, .inr (.inl mb)))] z8) (va_A [(g0, .inr (1, [.long (lN T), .ref a1, .int (nI k), .ref a2, .ref a3, .int w, .ref a4])), (a1, .inl (i1, 200, .inr (.inl O))), (a2, .inl (i2, 520, .inl mo)), (a3, .inl (i3, 520, .inr (.inl mb)))] sz)) 0 0 (va_A [(g0, .inr (1, [.long (lN T), .ref a1, .int (nI k), .ref a2, .ref a3, .int w, .ref a4])), (a1, .inl (i1, 200, .inr (.inl O))), (a2, .inl (i2, 520, .inl mo)), (a3, .inl (i3, 520, .inr (.inl mb)))] sz) := by
  refine Met.ofW (cc := cX1_skip) (maxL := 4) (ret := (some .int)) (by decide) rfl ?_
  intro p e s m args below meth c s₁ B hml hv
  obtain ⟨rfl, hsz, hP, hK, hD0⟩ := hv
  have hx := B.exec
  have hb := B.bytes
  have hr := B.returns
  have hts := atoms_spec (ws := wsX1_skip) B.pre
  have hown : s.vm.findClass RX1 = some m.cls := findClass_of_methodNamed B.named
  have hlocks := B.notSynchronized
  subst hsz
  have hD := hD0.self (sz := s.heap.size)
  generalize hAe : va_A [(g0, .inr (1, [.long (lN T), .ref a1, .int (nI k), .ref a2, .ref a3, .int w, .ref a4])), (a1, .inl (i1, 200, .inr (.inl O))), (a2, .inl (i2, 520, .inl mo)), (a3, .inl (i3, 520, .inr (.inl mb)))] s.heap.size = A at hD ⊢
  have hA : ∀ q : Nat, s.heap.size ≤ q → A q := fun q h => by rw [← hAe]; exact Or.inr h
  have hS : va_S A s.heap s.heap [] := va_S.rf
  have hl := lv_entry ([.ref g0, .int x]) (n := 4) (Nat.le_of_ble_eq_true rfl)
  rw [lg_entry_eq]
  generalize (lg_sl ([.ref g0, .int x]) ++ List.replicate (4 - (lg_sl ([.ref g0, .int x])).length) Slot.unset).toArray = ls at hl ⊢
  have hl : lv_has ls 4 [(0, .ref g0), (1, .int x)] := hl
  refine lv_iload_n hx hb dX1_skip_0 rfl (lv_at hl 1 rfl) ?_
  refine lv_iconst (v := 1) hx hb dX1_skip_1 (by decide) ?_
  refine lv_icmp_lt (tgt := 11) hx hb dX1_skip_2 (by decide) (fun c_2 => ?_) (fun c_2 => ?_)
  · refine lv_iconst (v := (-1)) hx hb dX1_skip_11 (by decide) ?_
    exact W.iret (v := (-1)) hx hb hr (fun z8 hz8 hW8 => ⟨⟨(-1), (O, k, T), rfl, Or.inl ⟨rfl, Or.inl c_2, rfl, rfl, rfl⟩, by rw [hz8]; exact hP, hD⟩, hS.F hz8⟩) hS.2.2 dX1_skip_12
  · refine lv_iload_n hx hb dX1_skip_5 rfl (lv_at hl 1 rfl) ?_
    refine lv_ldc (v := nI 100000) hx hb hown (hts (.constant RX1 48 (nI 100000)) (by decide +kernel)) dX1_skip_6 ?_
    refine lv_icmp_le (tgt := 13) hx hb dX1_skip_8 (by decide) (fun c_8 => ?_) (fun c_8 => ?_)
    · refine lv_iconst (v := nI 0) hx hb dX1_skip_13 (by decide) ?_
      refine lv_istore_n (lv' := [(2, .int (nI 0)), (0, .ref g0), (1, .int x)]) hx hb dX1_skip_14 rfl hl (by decide) rfl (fun ls hl => ?_)
      refine lv_iconst (v := nI 0) hx hb dX1_skip_15 (by decide) ?_
      refine lv_istore_n (lv' := [(3, .int (nI 0)), (2, .int (nI 0)), (0, .ref g0), (1, .int x)]) hx hb dX1_skip_16 rfl hl (by decide) rfl (fun ls hl => ?_)
      obtain ⟨n, hn1, hn2, rfl⟩ := dk_ticks c_2 c_8
      have loop : ∀ (f i : Nat) (O2 : Nat → Int64) (k2 : Nat), i ≤ n → n + 1 ≤ i + f → k2 ≤ 520 → dk_YS ((T + i) / 1000 - T / 1000) O mo mb k O2 k2 → ∀ (H : Heap) (locs : List Loc), va_P (dC, dI) vwCl [(g0, .inr (1, [.long (lN (T + i)), .ref a1, .int (nI k2), .ref a2, .ref a3, .int w, .ref a4])), (a1, .inl (i1, 200, .inr (.inl O2))), (a2, .inl (i2, 520, .inl mo)), (a3, .inl (i3, 520, .inr (.inl mb)))] H → va_D A [(g0, .inr (1, [.long (lN (T + i)), .ref a1, .int (nI k2), .ref a2, .ref a3, .int w, .ref a4])), (a1, .inl (i1, 200, .inr (.inl O2))), (a2, .inl (i2, 520, .inl mo)), (a3, .inl (i3, 520, .inr (.inl mb)))] → va_S A s.heap H locs → ∀ ls : Array Slot, lv_has ls 4 [(3, .int (nI i)), (2, .int (nI (dk_R (T + i) - dk_R T))), (0, .ref g0), (1, .int (nI n))] → W p l e (headSpec wsX1_skip ({ frames := 4, cells := 0, slots := 0, locals := 91 })).room s m ([.ref g0, .int (nI n)] : List Value).toArray below meth c H locs 0 0 (MQ below (va_Qi (fun (r : Int32) (u : (Nat → Int64) × Nat × Nat) => match u with | (O2, k2, T2) => (r = -1 ∧ (nI n < 1 ∨ nI 100000 < nI n) ∧ O2 = O ∧ k2 = k ∧ T2 = T) ∨ (∃ n1 : Nat, 1 ≤ n1 ∧ n1 ≤ 100000 ∧ nI n = nI n1 ∧ T2 = T + n1 ∧ dk_YS ((T + n1) / 1000 - T / 1000) O mo mb k O2 k2 ∧ r = nI (dk_R (T + n1) - dk_R T))) (fun (u : (Nat → Int64) × Nat × Nat) z8 => match u with | (O2, k2, T2) => dk_B (dC, dI) vwCl A [(g0, .inr (1, [.long (lN T2), .ref a1, .int (nI k2), .ref a2, .ref a3, .int w, .ref a4])), (a1, .inl (i1, 200, .inr (.inl O2))), (a2, .inl (i2, 520, .inl mo)), (a3, .inl (i3, 520, .inr (.inl mb)))] z8) A) ([.ref g0, .int (nI n)] : List Value).toArray s 0 0 A) (F0 m 17 ls []) := by
        intro f
        induction f with
        | zero => intro i O2 k2 h1 h2; exact absurd h2 (by omega)
        | succ f ih =>
          intro i O2 k2 hi hf hk2 hys H locs hP hD hS ls hl
          have hRl := dk_R_le T i
          have hRs := dk_R_s (T + i)
          have hpA := dk_pA_lt ((T + i + 1) % 1000)
          have hRb := dk_R_lt (T := T + i) (by omega)
          refine lv_iload_n hx hb dX1_skip_17 rfl (lv_at hl 0 rfl) ?_
          refine lv_iload_n hx hb dX1_skip_18 rfl (lv_at hl 3 rfl) ?_
          refine dk_icmp_ge (x := i) (y := n) (tgt := 37) hx hb dX1_skip_19 (by decide) (by omega) (by omega) (fun c_19 => ?_) (fun c_19 => ?_)
          · have e9 : i = n := by omega
            subst e9
            refine lv_iload_n hx hb dX1_skip_37 rfl (lv_at hl 1 rfl) ?_
            exact W.iret (v := nI (dk_R (T + i) - dk_R T)) hx hb hr (fun z8 hz8 hW8 => ⟨⟨(nI (dk_R (T + i) - dk_R T)), (O2, k2, T + i), rfl, Or.inr ⟨i, hn1, hn2, rfl, rfl, hys, rfl⟩, by rw [hz8]; exact hP, hD⟩, hS.F hz8⟩) hS.2.2 dX1_skip_38
          · refine lv_iload_n hx hb dX1_skip_22 rfl (lv_at hl 1 rfl) ?_
            refine lv_aload_n hx hb dX1_skip_23 rfl (lv_at hl 2 rfl) ?_
            have hPc := hP
            have hDc := hD
            have hFc := va_free (wc := [(g0, .inr (1, [.long (lN (T + i)), .ref a1, .int (nI k2), .ref a2, .ref a3, .int w, .ref a4])), (a1, .inl (i1, 200, .inr (.inl O2))), (a2, .inl (i2, 520, .inl mo)), (a3, .inl (i3, 520, .inr (.inl mb)))]) hD hS hA [0, 1, 2, 3] rfl
            have hKc := hK
            refine va_calli (va_runV (As := []) (rest := [.int (nI (dk_R (T + i) - dk_R T))]) ⟨hx, hb, hml, hown, hts⟩ (cY_pass l dC dI _ g0 a1 a2 a3 a4 i1 i2 i3 (T + i) (by omega) k2 hk2 w O2 mo mb) (cwV 0 hts gX1_skip_X1_pass rfl rfl rfl (by decide +kernel) ⟨Nat.le_of_ble_eq_true rfl, Nat.le_of_ble_eq_true rfl⟩) (dk_wV hPc hKc hDc (ci := 1) (q0 := 0) rfl rfl) rfl rfl hl.1 rfl (lv_room (Nat.le_of_ble_eq_true rfl)) dX1_skip_24 ⟨Nat.zero_le _, Nat.zero_le _⟩) hS (fun q _ h => hFc q h) hFc (fun r_24 u8 t8 H1 locs ht8 hvm8 hw hB hz1 hk1 hS => ?_)
            try dsimp only at hw
            obtain ⟨O3, k3⟩ := u8
            try dsimp only at hw hB
            obtain ⟨hP1, hD1⟩ := hB
            rw [ht8] at hP1
            obtain ⟨hP, hD⟩ := va_join (wr := []) (w1 := [(g0, .inr (1, [.long (lN (T + i + 1)), .ref a1, .int (nI k3), .ref a2, .ref a3, .int w, .ref a4])), (a1, .inl (i1, 200, .inr (.inl O3))), (a2, .inl (i2, 520, .inl mo)), (a3, .inl (i3, 520, .inr (.inl mb)))]) hP hD [0, 1, 2, 3] [] rfl rfl (by decide) (by decide) hk1 hFc hP1 hD1
            generalize H1 = H at hP hS ⊢
            have hP : va_P (dC, dI) vwCl [(g0, .inr (1, [.long (lN (T + i + 1)), .ref a1, .int (nI k3), .ref a2, .ref a3, .int w, .ref a4])), (a1, .inl (i1, 200, .inr (.inl O3))), (a2, .inl (i2, 520, .inl mo)), (a3, .inl (i3, 520, .inr (.inl mb)))] H := hP
            have hD : va_D A [(g0, .inr (1, [.long (lN (T + i + 1)), .ref a1, .int (nI k3), .ref a2, .ref a3, .int w, .ref a4])), (a1, .inl (i1, 200, .inr (.inl O3))), (a2, .inl (i2, 520, .inl mo)), (a3, .inl (i3, 520, .inr (.inl mb)))] := hD
            obtain ⟨rfl, hy2⟩ := hw
            refine lv_iconst (v := 1) hx hb dX1_skip_27 (by decide) ?_
            refine lv_iand hx hb dX1_skip_28 ?_
            refine dk_asi (y := nI (dk_pA ((T + i + 1) % 1000) % 2)) (pk_andN (m := 1) (by omega) 1 (by decide)) ?_
            refine lv_iadd hx hb dX1_skip_29 ?_
            refine dk_asi (y := nI ((dk_R (T + i) - dk_R T) + (dk_pA ((T + i + 1) % 1000) % 2))) (nI_add (dk_R (T + i) - dk_R T) (dk_pA ((T + i + 1) % 1000) % 2)) ?_
            refine lv_istore_n (lv' := [(2, .int (nI ((dk_R (T + i) - dk_R T) + (dk_pA ((T + i + 1) % 1000) % 2)))), (3, .int (nI i)), (0, .ref g0), (1, .int (nI n))]) hx hb dX1_skip_30 rfl hl (by decide) rfl (fun ls hl => ?_)
            refine lv_iinc (v := nI (i + 1)) (lv' := [(3, .int (nI (i + 1))), (2, .int (nI ((dk_R (T + i) - dk_R T) + (dk_pA ((T + i + 1) % 1000) % 2)))), (0, .ref g0), (1, .int (nI n))]) hx hb dX1_skip_31 hl (k := 1) rfl (by rw [show Int32.ofInt 1 = nI 1 from by decide]; exact nI_add i 1) (by decide) rfl (fun ls hl => ?_)
            refine lv_goto (tgt := 17) hx hb dX1_skip_34 (by decide) ?_
            have e9 : dk_R (T + i) - dk_R T + dk_pA ((T + i + 1) % 1000) % 2 = dk_R (T + (i + 1)) - dk_R T := by rw [← Nat.add_assoc]; omega
            rw [e9] at hl
            have hy3 := dk_YS_s hys hy2
            rw [show (T + i) / 1000 - T / 1000 + ((T + i + 1) / 1000 - (T + i) / 1000) = (T + (i + 1)) / 1000 - T / 1000 from by omega] at hy3
            exact ih (i + 1) O3 k3 (by omega) (by omega) (by rcases hy2 with h | h <;> omega) hy3 _ _ hP hD hS ls (lv_sub hl [0, 1, 2, 3] rfl)
      exact loop (n + 1) 0 O k (by omega) (by omega) hk9 (Or.inl ⟨by rw [Nat.add_zero]; omega, rfl, rfl⟩) _ _ hP hD hS ls (by rw [Nat.add_zero, Nat.sub_self]; exact lv_sub hl [0, 1, 2, 3] rfl)
    · refine lv_iconst (v := (-1)) hx hb dX1_skip_11 (by decide) ?_
      exact W.iret (v := (-1)) hx hb hr (fun z8 hz8 hW8 => ⟨⟨(-1), (O, k, T), rfl, Or.inl ⟨rfl, Or.inr (dk_inle c_8), rfl, rfl, rfl⟩, by rw [hz8]; exact hP, hD⟩, hS.F hz8⟩) hS.2.2 dX1_skip_12
end
section
-- more words for the reference
def dk_wk (x : Int32) : Prop := (¬ x < 3 ∧ x ≤ 6) ∨ x = 13
theorem dk_wk_iff (x : Int32) : dk_wk x ↔ dk_cE x := by
  unfold dk_wk dk_cE
  have e3 : (3 : Int32).toInt = 3 := by decide
  have e4 : (4 : Int32).toInt = 4 := by decide
  have e5 : (5 : Int32).toInt = 5 := by decide
  have e6 : (6 : Int32).toInt = 6 := by decide
  have e13 : (13 : Int32).toInt = 13 := by decide
  simp only [← Int32.toInt_inj, Int32.lt_iff_toInt_lt, Int32.le_iff_toInt_le]
  omega
def dk_g1 (x : Int32) : Prop := ¬ x < 0 ∧ x ≤ 14
def dk_g2 (t : Nat) (x : Int32) : Prop := dk_g1 x ∧ ¬ (dk_ph t = 0 ∧ dk_wk x) ∧ ¬ (dk_ph t = 4 ∧ (dk_wk x ∨ x = 7 ∨ x = 8))
theorem dk_may_iff (t : Nat) (x pr mo : Int32) : dk_may t x pr mo ↔ (dk_g2 t x ∧ ¬ (x = 5 ∧ (dk_ph t = 2 ∧ 4 < pr ∨ dk_ph t = 3 ∧ mo = 0))) := by
  have p0 : dk_ph t = 0 ↔ t < 100 := by unfold dk_ph; (repeat' split) <;> omega
  have p2 : dk_ph t = 2 ↔ (700 ≤ t ∧ t < 800) := by unfold dk_ph; (repeat' split) <;> omega
  have p3 : dk_ph t = 3 ↔ (800 ≤ t ∧ t < 900) := by unfold dk_ph; (repeat' split) <;> omega
  have p4 : dk_ph t = 4 ↔ 900 ≤ t := by unfold dk_ph; (repeat' split) <;> omega
  unfold dk_may dk_g2 dk_g1 dk_cS
  rw [p0, p2, p3, p4, dk_wk_iff]
  constructor
  · rintro ⟨h1, h2, h3, h4, h5, h6⟩
    refine ⟨⟨⟨h1, h2⟩, fun q => h3 q.1 q.2, fun q => h6 q.1 q.2⟩, ?_⟩
    rintro ⟨q1, ⟨⟨a, b⟩, c⟩ | ⟨⟨a, b⟩, c⟩⟩
    · exact (h4 a b).elim (fun z => z q1) (fun z => (Int32.not_le.mpr c) z)
    · exact (h5 a b).elim (fun z => z q1) (fun z => z c)
  · rintro ⟨⟨⟨h1, h2⟩, h3, h6⟩, h⟩
    refine ⟨h1, h2, fun a q => h3 ⟨a, q⟩, fun a b => ?_, fun a b => ?_, fun a q => h6 ⟨a, q⟩⟩
    · by_cases q : x = 5
      · exact Or.inr (dk_inl (fun z => h ⟨q, Or.inl ⟨⟨a, b⟩, z⟩⟩))
      · exact Or.inl q
    · by_cases q : x = 5
      · exact Or.inr (fun z => h ⟨q, Or.inr ⟨⟨a, b⟩, z⟩⟩)
      · exact Or.inl q
theorem dk_nR_b {t : Nat} (h : t < 1000) : dk_nR t ≤ 1150 := by
  unfold dk_nR dk_rU; (repeat' split) <;> omega
theorem dk_nP_b (t : Nat) : dk_nP t ≤ 1000 := by
  unfold dk_nP; (repeat' split) <;> omega
/-- what the reference's move answers and does -/
def dk_ok (O : Nat → Int64) (mo : Nat → Int32) (mb : Nat → Int64) (k j : Nat) (v : Int64) : Prop := dk_in v 10000000000000000 ∧ dk_in (dk_y3 O mo mb k j + v) 9000000000000000000 ∧ dk_in (if v < 0 then dk_yw mo mb (nI j) k - v else dk_yc mo mb (nI j) k + v) 9000000000000000000
def dk_ymv (O : Nat → Int64) (mo : Nat → Int32) (mb : Nat → Int64) (k : Nat) (x : Int32) (v : Int64) (r : Int32) (k2 : Nat) (mo2 : Nat → Int32) (mb2 : Nat → Int64) : Prop :=
  (r = -1 ∧ k2 = k ∧ mo2 = mo ∧ mb2 = mb ∧ ((x < 0 ∨ nI 200 ≤ x) ∨ ∃ j : Nat, j < 200 ∧ x = nI j ∧ ¬ dk_ok O mo mb k j v)) ∨
  (r = 0 ∧ k2 = k ∧ mo2 = mo ∧ mb2 = mb ∧ v = 0 ∧ ∃ j : Nat, j < 200 ∧ x = nI j ∧ dk_ok O mo mb k j v) ∨
  (r = 1 ∧ ∃ j : Nat, j < 200 ∧ x = nI j ∧ ¬ v = 0 ∧ dk_ok O mo mb k j v ∧ k2 = k + 1 ∧ mo2 = upd mo k (nI j) ∧ mb2 = vp_updL mb k v)
/-- the digits of z from the place of 10 ^ (D - 1) down -/
def dk_dd : Nat → Nat → List Nat
  | 0, _ => []
  | k + 1, z => (48 + z / 10 ^ k % 10) :: dk_dd k z
theorem dk_dd_len (D z : Nat) : (dk_dd D z).length = D := by
  induction D with
  | zero => rfl
  | succ k ih => show (dk_dd k z).length + 1 = k + 1; rw [ih]
theorem dk_dg_dd (k z : Nat) (h : k = 0 ∨ 10 ^ k ≤ z) : dk_dg k z = dk_dd (k + 1) z := by
  induction k with
  | zero => show [48 + z % 10] = [48 + z / 10 ^ 0 % 10]; rw [Nat.pow_zero, Nat.div_one]
  | succ k ih =>
    have a : 10 ^ (k + 1) = 10 ^ k * 10 := Nat.pow_succ ..
    have hz : 10 ^ (k + 1) ≤ z := by rcases h with h | h <;> omega
    show (if 10 ^ (k + 1) ≤ z then [48 + z / 10 ^ (k + 1) % 10] else []) ++ dk_dg k z = (48 + z / 10 ^ (k + 1) % 10) :: dk_dd (k + 1) z
    rw [if_pos hz, ih (Or.inr (by omega))]; rfl
theorem dk_dg_drop (m j z : Nat) (h : z < 10 ^ (m + 1)) : dk_dg (m + j) z = dk_dg m z := by
  induction j with
  | zero => rfl
  | succ j ih =>
    have a : 10 ^ (m + 1) ≤ 10 ^ (m + j + 1) := Nat.pow_le_pow_right (by decide) (by omega)
    show (if 10 ^ (m + j + 1) ≤ z then [48 + z / 10 ^ (m + j + 1) % 10] else []) ++ dk_dg (m + j) z = _
    rw [if_neg (by omega), ih]; rfl
theorem dk_dg_D {D z : Nat} (h1 : 1 ≤ D) (h19 : D ≤ 19) (h : D = 1 ∨ 10 ^ (D - 1) ≤ z) (hz : z < 10 ^ D) : dk_dg 18 z = dk_dd D z := by
  obtain ⟨k, rfl⟩ : ∃ k, D = k + 1 := ⟨D - 1, by omega⟩
  have a := dk_dg_drop k (18 - k) z hz
  rw [show k + (18 - k) = 18 from by omega] at a
  rw [a]
  exact dk_dg_dd k z (h.elim (fun q => Or.inl (by omega)) (fun q => Or.inr q))
theorem dk_t10 : (lN 10).toInt = 10 := by decide
theorem dk_dv (w : Int64) : (w / lN 10).toInt.natAbs = w.toInt.natAbs / 10 := by
  rw [Int64.toInt_div_of_ne_right _ _ (by decide), dk_t10, Int.natAbs_tdiv]; rfl
theorem dk_rm (w : Int64) : (w - w / lN 10 * lN 10).toInt.natAbs = w.toInt.natAbs % 10 := by
  have q1 : (w / lN 10).toInt = w.toInt.tdiv 10 := by rw [Int64.toInt_div_of_ne_right _ _ (by decide), dk_t10]
  have q2 := dk_dv w
  have a := w.toInt_lt
  have b := w.le_toInt
  have c : (w.toInt.tmod 10).natAbs = w.toInt.natAbs % 10 := by rw [Int.natAbs_tmod]; rfl
  have d : w.toInt.tmod 10 = w.toInt - 10 * w.toInt.tdiv 10 := Int.tmod_def _ _
  rw [q1] at q2
  have e1 : (w / lN 10 * lN 10).toInt = w.toInt.tdiv 10 * 10 := by
    rw [Int64.toInt_mul, q1, dk_t10]
    exact Int.bmod_eq_of_le (by omega) (by omega)
  have e2 : (w - w / lN 10 * lN 10).toInt = w.toInt.tmod 10 := by
    rw [Int64.toInt_sub, e1, d]
    rw [d] at c
    have f : w.toInt - w.toInt.tdiv 10 * 10 = w.toInt - 10 * w.toInt.tdiv 10 := by omega
    rw [f]
    exact Int.bmod_eq_of_le (by omega) (by omega)
  rw [e2, c]
theorem dk_z0 {w : Int64} : w = 0 ↔ w.toInt.natAbs = 0 := by
  rw [← Int64.toInt_inj, dk_l0]; omega
theorem dk_abs0 {w : Int64} {z : Nat} (hz : w.toInt.natAbs = z) (h : z < 10) (hp : 0 ≤ w) : w = lN z := by
  rw [dk_absP hp, hz]
theorem dk_abs1 {w : Int64} {z : Nat} (hz : w.toInt.natAbs = z) (h : z < 10) (hp : ¬ 0 ≤ w) : -w = lN z := by
  rw [dk_absN hp (by omega), hz]
theorem dk_sm1 {D : Nat} (h : 1 ≤ D) : nI D - 1 = nI D + (-1) := by
  obtain ⟨k, rfl⟩ : ∃ k, D = k + 1 := ⟨D - 1, by omega⟩
  rw [nI_pred, pk_m1]
theorem dk_divs (z k : Nat) : z / 10 ^ k / 10 = z / 10 ^ (k + 1) := by
  rw [Nat.div_div_eq_div_mul, Nat.pow_succ]
theorem dk_div0 {z D : Nat} : z / 10 ^ D = 0 ↔ z < 10 ^ D := by
  rw [Nat.div_eq_zero_iff]
  have a : 0 < 10 ^ D := Nat.pow_pos (by decide)
  omega
theorem dk_z19 (v : Int64) : v.toInt.natAbs < 10 ^ 19 := by
  have a := v.toInt_lt
  have b := v.le_toInt
  omega
theorem dk_no4 {x : Int32} (h : x ≤ 4) (h3 : 3 ≤ x) (hsw : x.toInt < 0 ∨ 4 < x.toInt) : False := by
  have e4 : (4 : Int32).toInt = 4 := by decide
  have e3 : (3 : Int32).toInt = 3 := by decide
  rw [Int32.le_iff_toInt_le] at h h3
  omega
theorem dk_18 {z D : Nat} (h : 10 ^ D ≤ z) (hz : z < 10 ^ 19) (h19 : D ≤ 19) : D ≤ 18 := by
  rcases Nat.lt_or_ge D 19 with q | q
  · omega
  · have e : D = 19 := by omega
    rw [e] at h
    omega
end
section
set_option maxHeartbeats 4000000 in
set_option maxRecDepth 100000 in
/-- may -/
theorem cY_may (l : Launch) (dC : Nat → ClassId) (dI : Nat → Nat → Nat) (g0 a1 a2 a3 a4 : Nat) (T : Nat) (hT9 : T < 100000000) (kk w : Int32) (x pr mo : Int32) : Met l yX1_may wsX1_may ({ frames := 1, cells := 0, slots := 0, locals := 20 }) (dk_Pr [.ref g0, .int x, .int pr, .int mo] (dC, dI) vwCl [] [(g0, .inr (1, [.long (lN T), .ref a1, .int kk, .ref a2, .ref a3, .int w, .ref a4]))]) (va_Qi (fun (r : Int32) (_ : Unit) => (r = 1 ∧ dk_may (T % 1000) x pr mo) ∨ (r = 0 ∧ ¬ dk_may (T % 1000) x pr mo)) (fun _ _ => True) dk_no) 0 0 dk_no := by
  refine Met.ofW (cc := cX1_may) (maxL := 7) (ret := (some .boolean)) (by decide) rfl ?_
  intro p e s m args below meth c s₁ B hml hv
  obtain ⟨rfl, hP, hK⟩ := hv
  have hx := B.exec
  have hb := B.bytes
  have hr := B.returns
  have hts := atoms_spec (ws := wsX1_may) B.pre
  have hown : s.vm.findClass RX1 = some m.cls := findClass_of_methodNamed B.named
  have hlocks := B.notSynchronized
  have hS : va_S dk_no s.heap s.heap [] := va_S.rf
  have hl := lv_entry ([.ref g0, .int x, .int pr, .int mo]) (n := 7) (Nat.le_of_ble_eq_true rfl)
  rw [lg_entry_eq]
  generalize (lg_sl ([.ref g0, .int x, .int pr, .int mo]) ++ List.replicate (7 - (lg_sl ([.ref g0, .int x, .int pr, .int mo])).length) Slot.unset).toArray = ls at hl ⊢
  have hl : lv_has ls 7 [(0, .ref g0), (1, .int x), (2, .int pr), (3, .int mo)] := hl
  refine lv_aload_n hx hb dX1_may_0 rfl (lv_at hl 0 rfl) ?_
  have hPc := hP
  have hKc := hK
  refine va_calli (va_runV (As := []) (rest := []) ⟨hx, hb, hml, hown, hts⟩ (cY_tick l dC dI g0 a1 a2 a3 a4 T hT9 kk w) (cwV 0 hts gX1_may_X1_tick rfl rfl rfl (by decide +kernel) ⟨Nat.le_of_ble_eq_true rfl, Nat.le_of_ble_eq_true rfl⟩) (dk_rV hPc hKc (ci := 1) (q0 := 0) rfl rfl) rfl rfl hl.1 rfl (lv_room (Nat.le_of_ble_eq_true rfl)) dX1_may_1 ⟨Nat.zero_le _, Nat.zero_le _⟩) hS (fun q _ h => False.elim h) (fun q h => False.elim h) (fun r_1 u8 t8 H1 locs ht8 hvm8 hw hB hz1 hk1 hS => ?_)
  try dsimp only at hw
  have hP := dk_kept hP hk1
  generalize H1 = H at hP hS ⊢
  subst hw
  have hKc := hK
  refine va_calli (va_runS (As := [.int (nI (T % 1000))]) (rest := []) ⟨hx, hb, hml, hown, hts⟩ (cY_phaseOf l dC dI (T % 1000) (by omega)) (va_cwS 1 hts gX1_may_X1_phaseOf rfl rfl rfl (by decide +kernel) ⟨Nat.le_of_ble_eq_true rfl, Nat.le_of_ble_eq_true rfl⟩) (dk_rS dk_P0 hKc) rfl rfl hl.1 rfl (lv_room (Nat.le_of_ble_eq_true rfl)) dX1_may_4 ⟨Nat.zero_le _, Nat.zero_le _⟩) hS (fun q _ h => False.elim h) (fun q h => False.elim h) (fun r_4 u8 t8 H1 locs ht8 hvm8 hw hB hz1 hk1 hS => ?_)
  try dsimp only at hw
  have hP := dk_kept hP hk1
  generalize H1 = H at hP hS ⊢
  subst hw
  refine lv_istore (lv' := [(4, .int (nI (dk_ph (T % 1000)))), (0, .ref g0), (1, .int x), (2, .int pr), (3, .int mo)]) hx hb dX1_may_7 hl (by decide) rfl (fun ls hl => ?_)
  have hph := dk_ph_lt (T % 1000)
  have j93 : ∀ gd : Int32, (gd = 1 ∧ dk_g2 (T % 1000) x) ∨ (gd = 0 ∧ ¬ dk_g2 (T % 1000) x) → ∀ ls : Array Slot, lv_has ls 7 [(4, .int (nI (dk_ph (T % 1000)))), (0, .ref g0), (1, .int x), (2, .int pr), (3, .int mo)] → W p l e (headSpec wsX1_may ({ frames := 1, cells := 0, slots := 0, locals := 20 })).room s m ([.ref g0, .int x, .int pr, .int mo] : List Value).toArray below meth c H locs 0 0 (MQ below (va_Qi (fun (r : Int32) (_ : Unit) => (r = 1 ∧ dk_may (T % 1000) x pr mo) ∨ (r = 0 ∧ ¬ dk_may (T % 1000) x pr mo)) (fun _ _ => True) dk_no) ([.ref g0, .int x, .int pr, .int mo] : List Value).toArray s 0 0 dk_no) (F0 m 93 ls [.int gd]) := by
    intro gd hgd ls hl
    rcases hgd with ⟨rfl, hg⟩ | ⟨rfl, hg⟩
    · refine lv_istore (lv' := [(6, .int 1), (4, .int (nI (dk_ph (T % 1000)))), (0, .ref g0), (1, .int x), (2, .int pr), (3, .int mo)]) hx hb dX1_may_93 hl (by decide) rfl (fun ls hl => ?_)
      refine lv_iload hx hb dX1_may_95 (lv_at hl 0 rfl) ?_
      refine lv_if_eq (tgt := 130) hx hb dX1_may_97 (by decide) (fun c9 => absurd c9 (by decide)) (fun _ => ?_)
      refine lv_iload_n hx hb dX1_may_100 rfl (lv_at hl 3 rfl) ?_
      refine lv_iconst (v := 5) hx hb dX1_may_101 (by decide) ?_
      refine lv_icmp_ne (tgt := 126) hx hb dX1_may_102 (by decide) (fun c_102 => ?_) (fun c_102 => ?_)
      · refine lv_iconst (v := 1) hx hb dX1_may_126 (by decide) ?_
        refine lv_goto (tgt := 131) hx hb dX1_may_127 (by decide) ?_
        exact W.zret (v := 1) hx hb hr (by first | rfl | decide) (fun z8 hz8 hW8 => ⟨⟨1, (), rfl, Or.inl ⟨rfl, (dk_may_iff _ _ _ _).mpr ⟨hg, by rintro ⟨q1, ⟨q2, q3⟩ | ⟨q2, q3⟩⟩ <;> first | contradiction | omega⟩⟩, trivial⟩, hS.F hz8⟩) hS.2.2 dX1_may_131
      · refine lv_iload hx hb dX1_may_105 (lv_at hl 1 rfl) ?_
        refine lv_iconst (v := 2) hx hb dX1_may_107 (by decide) ?_
        refine dk_icmp_ne (x := dk_ph (T % 1000)) (y := 2) (tgt := 116) hx hb dX1_may_108 (by decide) (by omega) (by omega) (fun c_108 => ?_) (fun c_108 => ?_)
        · refine lv_iload hx hb dX1_may_116 (lv_at hl 1 rfl) ?_
          refine lv_iconst (v := 3) hx hb dX1_may_118 (by decide) ?_
          refine dk_icmp_ne (x := dk_ph (T % 1000)) (y := 3) (tgt := 126) hx hb dX1_may_119 (by decide) (by omega) (by omega) (fun c_119 => ?_) (fun c_119 => ?_)
          · refine lv_iconst (v := 1) hx hb dX1_may_126 (by decide) ?_
            refine lv_goto (tgt := 131) hx hb dX1_may_127 (by decide) ?_
            exact W.zret (v := 1) hx hb hr (by first | rfl | decide) (fun z8 hz8 hW8 => ⟨⟨1, (), rfl, Or.inl ⟨rfl, (dk_may_iff _ _ _ _).mpr ⟨hg, by rintro ⟨q1, ⟨q2, q3⟩ | ⟨q2, q3⟩⟩ <;> first | contradiction | omega⟩⟩, trivial⟩, hS.F hz8⟩) hS.2.2 dX1_may_131
          · refine lv_iload_n hx hb dX1_may_122 rfl (lv_at hl 5 rfl) ?_
            refine lv_if_eq (tgt := 130) hx hb dX1_may_123 (by decide) (fun c_123 => ?_) (fun c_123 => ?_)
            · refine lv_iconst (v := 0) hx hb dX1_may_130 (by decide) ?_
              exact W.zret (v := 0) hx hb hr (by first | rfl | decide) (fun z8 hz8 hW8 => ⟨⟨0, (), rfl, Or.inr ⟨rfl, fun q9 => ((dk_may_iff _ _ _ _).mp q9).2 ⟨c_102, Or.inr ⟨c_119, c_123⟩⟩⟩, trivial⟩, hS.F hz8⟩) hS.2.2 dX1_may_131
            · refine lv_iconst (v := 1) hx hb dX1_may_126 (by decide) ?_
              refine lv_goto (tgt := 131) hx hb dX1_may_127 (by decide) ?_
              exact W.zret (v := 1) hx hb hr (by first | rfl | decide) (fun z8 hz8 hW8 => ⟨⟨1, (), rfl, Or.inl ⟨rfl, (dk_may_iff _ _ _ _).mpr ⟨hg, by rintro ⟨q1, ⟨q2, q3⟩ | ⟨q2, q3⟩⟩ <;> first | contradiction | omega⟩⟩, trivial⟩, hS.F hz8⟩) hS.2.2 dX1_may_131
        · refine lv_iload_n hx hb dX1_may_111 rfl (lv_at hl 4 rfl) ?_
          refine lv_iconst (v := 4) hx hb dX1_may_112 (by decide) ?_
          refine lv_icmp_gt (tgt := 130) hx hb dX1_may_113 (by decide) (fun c_113 => ?_) (fun c_113 => ?_)
          · refine lv_iconst (v := 0) hx hb dX1_may_130 (by decide) ?_
            exact W.zret (v := 0) hx hb hr (by first | rfl | decide) (fun z8 hz8 hW8 => ⟨⟨0, (), rfl, Or.inr ⟨rfl, fun q9 => ((dk_may_iff _ _ _ _).mp q9).2 ⟨c_102, Or.inl ⟨c_108, c_113⟩⟩⟩, trivial⟩, hS.F hz8⟩) hS.2.2 dX1_may_131
          · refine lv_iload hx hb dX1_may_116 (lv_at hl 1 rfl) ?_
            refine lv_iconst (v := 3) hx hb dX1_may_118 (by decide) ?_
            refine dk_icmp_ne (x := dk_ph (T % 1000)) (y := 3) (tgt := 126) hx hb dX1_may_119 (by decide) (by omega) (by omega) (fun c_119 => ?_) (fun c_119 => ?_)
            · refine lv_iconst (v := 1) hx hb dX1_may_126 (by decide) ?_
              refine lv_goto (tgt := 131) hx hb dX1_may_127 (by decide) ?_
              exact W.zret (v := 1) hx hb hr (by first | rfl | decide) (fun z8 hz8 hW8 => ⟨⟨1, (), rfl, Or.inl ⟨rfl, (dk_may_iff _ _ _ _).mpr ⟨hg, by rintro ⟨q1, ⟨q2, q3⟩ | ⟨q2, q3⟩⟩ <;> first | contradiction | omega⟩⟩, trivial⟩, hS.F hz8⟩) hS.2.2 dX1_may_131
            · refine lv_iload_n hx hb dX1_may_122 rfl (lv_at hl 5 rfl) ?_
              refine lv_if_eq (tgt := 130) hx hb dX1_may_123 (by decide) (fun c_123 => ?_) (fun c_123 => ?_)
              · refine lv_iconst (v := 0) hx hb dX1_may_130 (by decide) ?_
                exact W.zret (v := 0) hx hb hr (by first | rfl | decide) (fun z8 hz8 hW8 => ⟨⟨0, (), rfl, Or.inr ⟨rfl, fun q9 => ((dk_may_iff _ _ _ _).mp q9).2 ⟨c_102, Or.inr ⟨c_119, c_123⟩⟩⟩, trivial⟩, hS.F hz8⟩) hS.2.2 dX1_may_131
              · refine lv_iconst (v := 1) hx hb dX1_may_126 (by decide) ?_
                refine lv_goto (tgt := 131) hx hb dX1_may_127 (by decide) ?_
                exact W.zret (v := 1) hx hb hr (by first | rfl | decide) (fun z8 hz8 hW8 => ⟨⟨1, (), rfl, Or.inl ⟨rfl, (dk_may_iff _ _ _ _).mpr ⟨hg, by rintro ⟨q1, ⟨q2, q3⟩ | ⟨q2, q3⟩⟩ <;> first | contradiction | omega⟩⟩, trivial⟩, hS.F hz8⟩) hS.2.2 dX1_may_131
    · refine lv_istore (lv' := [(6, .int 0), (4, .int (nI (dk_ph (T % 1000)))), (0, .ref g0), (1, .int x), (2, .int pr), (3, .int mo)]) hx hb dX1_may_93 hl (by decide) rfl (fun ls hl => ?_)
      refine lv_iload hx hb dX1_may_95 (lv_at hl 0 rfl) ?_
      refine lv_if_eq (tgt := 130) hx hb dX1_may_97 (by decide) (fun _ => ?_) (fun c9 => absurd (by decide) c9)
      refine lv_iconst (v := 0) hx hb dX1_may_130 (by decide) ?_
      exact W.zret (v := 0) hx hb hr (by first | rfl | decide) (fun z8 hz8 hW8 => ⟨⟨0, (), rfl, Or.inr ⟨rfl, fun q9 => hg ((dk_may_iff _ _ _ _).mp q9).1⟩, trivial⟩, hS.F hz8⟩) hS.2.2 dX1_may_131
  have j48 : ∀ wk : Int32, (wk = 1 ∧ dk_wk x) ∨ (wk = 0 ∧ ¬ dk_wk x) → ∀ gd : Int32, (gd = 1 ∧ dk_g1 x) ∨ (gd = 0 ∧ ¬ dk_g1 x) → ∀ ls : Array Slot, lv_has ls 7 [(5, .int wk), (4, .int (nI (dk_ph (T % 1000)))), (0, .ref g0), (1, .int x), (2, .int pr), (3, .int mo)] → W p l e (headSpec wsX1_may ({ frames := 1, cells := 0, slots := 0, locals := 20 })).room s m ([.ref g0, .int x, .int pr, .int mo] : List Value).toArray below meth c H locs 0 0 (MQ below (va_Qi (fun (r : Int32) (_ : Unit) => (r = 1 ∧ dk_may (T % 1000) x pr mo) ∨ (r = 0 ∧ ¬ dk_may (T % 1000) x pr mo)) (fun _ _ => True) dk_no) ([.ref g0, .int x, .int pr, .int mo] : List Value).toArray s 0 0 dk_no) (F0 m 48 ls [.int gd]) := by
    intro wk hwk gd hgd ls hl
    rcases hwk with ⟨rfl, hk⟩ | ⟨rfl, hk⟩
    · rcases hgd with ⟨rfl, hg⟩ | ⟨rfl, hg⟩
      · refine lv_istore (lv' := [(6, .int 1), (5, .int 1), (4, .int (nI (dk_ph (T % 1000)))), (0, .ref g0), (1, .int x), (2, .int pr), (3, .int mo)]) hx hb dX1_may_48 hl (by decide) rfl (fun ls hl => ?_)
        refine lv_iload hx hb dX1_may_50 (lv_at hl 0 rfl) ?_
        refine lv_if_eq (tgt := 92) hx hb dX1_may_52 (by decide) (fun c9 => absurd c9 (by decide)) (fun _ => ?_)
        refine lv_iload hx hb dX1_may_55 (lv_at hl 2 rfl) ?_
        refine dk_if_ne (x := dk_ph (T % 1000)) (tgt := 65) hx hb dX1_may_57 (by decide) (by omega) (fun c_57 => ?_) (fun c_57 => ?_)
        · refine lv_iload hx hb dX1_may_65 (lv_at hl 2 rfl) ?_
          refine lv_iconst (v := 4) hx hb dX1_may_67 (by decide) ?_
          refine dk_icmp_ne (x := dk_ph (T % 1000)) (y := 4) (tgt := 88) hx hb dX1_may_68 (by decide) (by omega) (by omega) (fun c_68 => ?_) (fun c_68 => ?_)
          · refine lv_iconst (v := 1) hx hb dX1_may_88 (by decide) ?_
            refine lv_goto (tgt := 93) hx hb dX1_may_89 (by decide) ?_
            exact j93 1 (Or.inl ⟨rfl, hg, by rintro ⟨q1, q2⟩; first | contradiction | omega, by rintro ⟨q1, q2 | q2 | q2⟩ <;> first | contradiction | omega⟩) ls (lv_sub hl [2, 3, 4, 5, 6] rfl)
          · refine lv_iload hx hb dX1_may_71 (lv_at hl 1 rfl) ?_
            refine lv_if_ne (tgt := 92) hx hb dX1_may_73 (by decide) (fun _ => ?_) (fun c9 => absurd c9 (by decide))
            refine lv_iconst (v := 0) hx hb dX1_may_92 (by decide) ?_
            exact j93 0 (Or.inr ⟨rfl, by rintro ⟨q1, q2, q3⟩; first | exact hg q1 | exact q2 ⟨by omega, hk⟩ | exact q3 ⟨by omega, Or.inl hk⟩ | exact q3 ⟨by omega, Or.inr (Or.inl c_79)⟩ | exact q3 ⟨by omega, Or.inr (Or.inr c_85)⟩⟩) ls (lv_sub hl [2, 3, 4, 5, 6] rfl)
        · refine lv_iload hx hb dX1_may_60 (lv_at hl 1 rfl) ?_
          refine lv_if_ne (tgt := 92) hx hb dX1_may_62 (by decide) (fun _ => ?_) (fun c9 => absurd c9 (by decide))
          refine lv_iconst (v := 0) hx hb dX1_may_92 (by decide) ?_
          exact j93 0 (Or.inr ⟨rfl, by rintro ⟨q1, q2, q3⟩; first | exact hg q1 | exact q2 ⟨by omega, hk⟩ | exact q3 ⟨by omega, Or.inl hk⟩ | exact q3 ⟨by omega, Or.inr (Or.inl c_79)⟩ | exact q3 ⟨by omega, Or.inr (Or.inr c_85)⟩⟩) ls (lv_sub hl [2, 3, 4, 5, 6] rfl)
      · refine lv_istore (lv' := [(6, .int 0), (5, .int 1), (4, .int (nI (dk_ph (T % 1000)))), (0, .ref g0), (1, .int x), (2, .int pr), (3, .int mo)]) hx hb dX1_may_48 hl (by decide) rfl (fun ls hl => ?_)
        refine lv_iload hx hb dX1_may_50 (lv_at hl 0 rfl) ?_
        refine lv_if_eq (tgt := 92) hx hb dX1_may_52 (by decide) (fun _ => ?_) (fun c9 => absurd (by decide) c9)
        refine lv_iconst (v := 0) hx hb dX1_may_92 (by decide) ?_
        exact j93 0 (Or.inr ⟨rfl, by rintro ⟨q1, q2, q3⟩; first | exact hg q1 | exact q2 ⟨by omega, hk⟩ | exact q3 ⟨by omega, Or.inl hk⟩ | exact q3 ⟨by omega, Or.inr (Or.inl c_79)⟩ | exact q3 ⟨by omega, Or.inr (Or.inr c_85)⟩⟩) ls (lv_sub hl [2, 3, 4, 5, 6] rfl)
    · rcases hgd with ⟨rfl, hg⟩ | ⟨rfl, hg⟩
      · refine lv_istore (lv' := [(6, .int 1), (5, .int 0), (4, .int (nI (dk_ph (T % 1000)))), (0, .ref g0), (1, .int x), (2, .int pr), (3, .int mo)]) hx hb dX1_may_48 hl (by decide) rfl (fun ls hl => ?_)
        refine lv_iload hx hb dX1_may_50 (lv_at hl 0 rfl) ?_
        refine lv_if_eq (tgt := 92) hx hb dX1_may_52 (by decide) (fun c9 => absurd c9 (by decide)) (fun _ => ?_)
        refine lv_iload hx hb dX1_may_55 (lv_at hl 2 rfl) ?_
        refine dk_if_ne (x := dk_ph (T % 1000)) (tgt := 65) hx hb dX1_may_57 (by decide) (by omega) (fun c_57 => ?_) (fun c_57 => ?_)
        · refine lv_iload hx hb dX1_may_65 (lv_at hl 2 rfl) ?_
          refine lv_iconst (v := 4) hx hb dX1_may_67 (by decide) ?_
          refine dk_icmp_ne (x := dk_ph (T % 1000)) (y := 4) (tgt := 88) hx hb dX1_may_68 (by decide) (by omega) (by omega) (fun c_68 => ?_) (fun c_68 => ?_)
          · refine lv_iconst (v := 1) hx hb dX1_may_88 (by decide) ?_
            refine lv_goto (tgt := 93) hx hb dX1_may_89 (by decide) ?_
            exact j93 1 (Or.inl ⟨rfl, hg, by rintro ⟨q1, q2⟩; first | contradiction | omega, by rintro ⟨q1, q2 | q2 | q2⟩ <;> first | contradiction | omega⟩) ls (lv_sub hl [2, 3, 4, 5, 6] rfl)
          · refine lv_iload hx hb dX1_may_71 (lv_at hl 1 rfl) ?_
            refine lv_if_ne (tgt := 92) hx hb dX1_may_73 (by decide) (fun c9 => absurd (by decide) c9) (fun _ => ?_)
            refine lv_iload_n hx hb dX1_may_76 rfl (lv_at hl 4 rfl) ?_
            refine lv_bipush (v := 7) hx hb dX1_may_77 (by decide) ?_
            refine lv_icmp_eq (tgt := 92) hx hb dX1_may_79 (by decide) (fun c_79 => ?_) (fun c_79 => ?_)
            · refine lv_iconst (v := 0) hx hb dX1_may_92 (by decide) ?_
              exact j93 0 (Or.inr ⟨rfl, by rintro ⟨q1, q2, q3⟩; first | exact hg q1 | exact q2 ⟨by omega, hk⟩ | exact q3 ⟨by omega, Or.inl hk⟩ | exact q3 ⟨by omega, Or.inr (Or.inl c_79)⟩ | exact q3 ⟨by omega, Or.inr (Or.inr c_85)⟩⟩) ls (lv_sub hl [2, 3, 4, 5, 6] rfl)
            · refine lv_iload_n hx hb dX1_may_82 rfl (lv_at hl 4 rfl) ?_
              refine lv_bipush (v := 8) hx hb dX1_may_83 (by decide) ?_
              refine lv_icmp_eq (tgt := 92) hx hb dX1_may_85 (by decide) (fun c_85 => ?_) (fun c_85 => ?_)
              · refine lv_iconst (v := 0) hx hb dX1_may_92 (by decide) ?_
                exact j93 0 (Or.inr ⟨rfl, by rintro ⟨q1, q2, q3⟩; first | exact hg q1 | exact q2 ⟨by omega, hk⟩ | exact q3 ⟨by omega, Or.inl hk⟩ | exact q3 ⟨by omega, Or.inr (Or.inl c_79)⟩ | exact q3 ⟨by omega, Or.inr (Or.inr c_85)⟩⟩) ls (lv_sub hl [2, 3, 4, 5, 6] rfl)
              · refine lv_iconst (v := 1) hx hb dX1_may_88 (by decide) ?_
                refine lv_goto (tgt := 93) hx hb dX1_may_89 (by decide) ?_
                exact j93 1 (Or.inl ⟨rfl, hg, by rintro ⟨q1, q2⟩; first | contradiction | omega, by rintro ⟨q1, q2 | q2 | q2⟩ <;> first | contradiction | omega⟩) ls (lv_sub hl [2, 3, 4, 5, 6] rfl)
        · refine lv_iload hx hb dX1_may_60 (lv_at hl 1 rfl) ?_
          refine lv_if_ne (tgt := 92) hx hb dX1_may_62 (by decide) (fun c9 => absurd (by decide) c9) (fun _ => ?_)
          refine lv_iload hx hb dX1_may_65 (lv_at hl 2 rfl) ?_
          refine lv_iconst (v := 4) hx hb dX1_may_67 (by decide) ?_
          refine dk_icmp_ne (x := dk_ph (T % 1000)) (y := 4) (tgt := 88) hx hb dX1_may_68 (by decide) (by omega) (by omega) (fun c_68 => ?_) (fun c_68 => ?_)
          · refine lv_iconst (v := 1) hx hb dX1_may_88 (by decide) ?_
            refine lv_goto (tgt := 93) hx hb dX1_may_89 (by decide) ?_
            exact j93 1 (Or.inl ⟨rfl, hg, by rintro ⟨q1, q2⟩; first | contradiction | omega, by rintro ⟨q1, q2 | q2 | q2⟩ <;> first | contradiction | omega⟩) ls (lv_sub hl [2, 3, 4, 5, 6] rfl)
          · refine lv_iload hx hb dX1_may_71 (lv_at hl 1 rfl) ?_
            refine lv_if_ne (tgt := 92) hx hb dX1_may_73 (by decide) (fun c9 => absurd (by decide) c9) (fun _ => ?_)
            refine lv_iload_n hx hb dX1_may_76 rfl (lv_at hl 4 rfl) ?_
            refine lv_bipush (v := 7) hx hb dX1_may_77 (by decide) ?_
            refine lv_icmp_eq (tgt := 92) hx hb dX1_may_79 (by decide) (fun c_79 => ?_) (fun c_79 => ?_)
            · refine lv_iconst (v := 0) hx hb dX1_may_92 (by decide) ?_
              exact j93 0 (Or.inr ⟨rfl, by rintro ⟨q1, q2, q3⟩; first | exact hg q1 | exact q2 ⟨by omega, hk⟩ | exact q3 ⟨by omega, Or.inl hk⟩ | exact q3 ⟨by omega, Or.inr (Or.inl c_79)⟩ | exact q3 ⟨by omega, Or.inr (Or.inr c_85)⟩⟩) ls (lv_sub hl [2, 3, 4, 5, 6] rfl)
            · refine lv_iload_n hx hb dX1_may_82 rfl (lv_at hl 4 rfl) ?_
              refine lv_bipush (v := 8) hx hb dX1_may_83 (by decide) ?_
              refine lv_icmp_eq (tgt := 92) hx hb dX1_may_85 (by decide) (fun c_85 => ?_) (fun c_85 => ?_)
              · refine lv_iconst (v := 0) hx hb dX1_may_92 (by decide) ?_
                exact j93 0 (Or.inr ⟨rfl, by rintro ⟨q1, q2, q3⟩; first | exact hg q1 | exact q2 ⟨by omega, hk⟩ | exact q3 ⟨by omega, Or.inl hk⟩ | exact q3 ⟨by omega, Or.inr (Or.inl c_79)⟩ | exact q3 ⟨by omega, Or.inr (Or.inr c_85)⟩⟩) ls (lv_sub hl [2, 3, 4, 5, 6] rfl)
              · refine lv_iconst (v := 1) hx hb dX1_may_88 (by decide) ?_
                refine lv_goto (tgt := 93) hx hb dX1_may_89 (by decide) ?_
                exact j93 1 (Or.inl ⟨rfl, hg, by rintro ⟨q1, q2⟩; first | contradiction | omega, by rintro ⟨q1, q2 | q2 | q2⟩ <;> first | contradiction | omega⟩) ls (lv_sub hl [2, 3, 4, 5, 6] rfl)
      · refine lv_istore (lv' := [(6, .int 0), (5, .int 0), (4, .int (nI (dk_ph (T % 1000)))), (0, .ref g0), (1, .int x), (2, .int pr), (3, .int mo)]) hx hb dX1_may_48 hl (by decide) rfl (fun ls hl => ?_)
        refine lv_iload hx hb dX1_may_50 (lv_at hl 0 rfl) ?_
        refine lv_if_eq (tgt := 92) hx hb dX1_may_52 (by decide) (fun _ => ?_) (fun c9 => absurd (by decide) c9)
        refine lv_iconst (v := 0) hx hb dX1_may_92 (by decide) ?_
        exact j93 0 (Or.inr ⟨rfl, by rintro ⟨q1, q2, q3⟩; first | exact hg q1 | exact q2 ⟨by omega, hk⟩ | exact q3 ⟨by omega, Or.inl hk⟩ | exact q3 ⟨by omega, Or.inr (Or.inl c_79)⟩ | exact q3 ⟨by omega, Or.inr (Or.inr c_85)⟩⟩) ls (lv_sub hl [2, 3, 4, 5, 6] rfl)
  have j31 : ∀ wk : Int32, (wk = 1 ∧ dk_wk x) ∨ (wk = 0 ∧ ¬ dk_wk x) → ∀ ls : Array Slot, lv_has ls 7 [(4, .int (nI (dk_ph (T % 1000)))), (0, .ref g0), (1, .int x), (2, .int pr), (3, .int mo)] → W p l e (headSpec wsX1_may ({ frames := 1, cells := 0, slots := 0, locals := 20 })).room s m ([.ref g0, .int x, .int pr, .int mo] : List Value).toArray below meth c H locs 0 0 (MQ below (va_Qi (fun (r : Int32) (_ : Unit) => (r = 1 ∧ dk_may (T % 1000) x pr mo) ∨ (r = 0 ∧ ¬ dk_may (T % 1000) x pr mo)) (fun _ _ => True) dk_no) ([.ref g0, .int x, .int pr, .int mo] : List Value).toArray s 0 0 dk_no) (F0 m 31 ls [.int wk]) := by
    intro wk hwk ls hl
    refine lv_istore (lv' := [(5, .int wk), (4, .int (nI (dk_ph (T % 1000)))), (0, .ref g0), (1, .int x), (2, .int pr), (3, .int mo)]) hx hb dX1_may_31 hl (by decide) rfl (fun ls hl => ?_)
    refine lv_iload_n hx hb dX1_may_33 rfl (lv_at hl 3 rfl) ?_
    refine lv_if_lt (tgt := 47) hx hb dX1_may_34 (by decide) (fun c_34 => ?_) (fun c_34 => ?_)
    · refine lv_iconst (v := 0) hx hb dX1_may_47 (by decide) ?_
      exact j48 wk hwk 0 (Or.inr ⟨rfl, fun q9 => q9.1 c_34⟩) ls (lv_sub hl [0, 1, 2, 3, 4, 5] rfl)
    · refine lv_iload_n hx hb dX1_may_37 rfl (lv_at hl 3 rfl) ?_
      refine lv_bipush (v := 14) hx hb dX1_may_38 (by decide) ?_
      refine lv_icmp_gt (tgt := 47) hx hb dX1_may_40 (by decide) (fun c_40 => ?_) (fun c_40 => ?_)
      · refine lv_iconst (v := 0) hx hb dX1_may_47 (by decide) ?_
        exact j48 wk hwk 0 (Or.inr ⟨rfl, fun q9 => (Int32.not_le.mpr c_40) q9.2⟩) ls (lv_sub hl [0, 1, 2, 3, 4, 5] rfl)
      · refine lv_iconst (v := 1) hx hb dX1_may_43 (by decide) ?_
        refine lv_goto (tgt := 48) hx hb dX1_may_44 (by decide) ?_
        exact j48 wk hwk 1 (Or.inl ⟨rfl, c_34, dk_inl c_40⟩) ls (lv_sub hl [0, 1, 2, 3, 4, 5] rfl)
  refine lv_iload_n hx hb dX1_may_9 rfl (lv_at hl 2 rfl) ?_
  refine lv_iconst (v := 3) hx hb dX1_may_10 (by decide) ?_
  refine lv_icmp_lt (tgt := 20) hx hb dX1_may_11 (by decide) (fun c_11 => ?_) (fun c_11 => ?_)
  · refine lv_iload_n hx hb dX1_may_20 rfl (lv_at hl 2 rfl) ?_
    refine lv_bipush (v := 13) hx hb dX1_may_21 (by decide) ?_
    refine lv_icmp_ne (tgt := 30) hx hb dX1_may_23 (by decide) (fun c_23 => ?_) (fun c_23 => ?_)
    · refine lv_iconst (v := 0) hx hb dX1_may_30 (by decide) ?_
      exact j31 0 (Or.inr ⟨rfl, fun q9 => q9.elim (fun q8 => q8.1 c_11) (fun q8 => c_23 q8)⟩) ls (lv_sub hl [0, 1, 2, 3, 4] rfl)
    · refine lv_iconst (v := 1) hx hb dX1_may_26 (by decide) ?_
      refine lv_goto (tgt := 31) hx hb dX1_may_27 (by decide) ?_
      exact j31 1 (Or.inl ⟨rfl, Or.inr c_23⟩) ls (lv_sub hl [0, 1, 2, 3, 4] rfl)
  · refine lv_iload_n hx hb dX1_may_14 rfl (lv_at hl 2 rfl) ?_
    refine lv_bipush (v := 6) hx hb dX1_may_15 (by decide) ?_
    refine lv_icmp_le (tgt := 26) hx hb dX1_may_17 (by decide) (fun c_17 => ?_) (fun c_17 => ?_)
    · refine lv_iconst (v := 1) hx hb dX1_may_26 (by decide) ?_
      refine lv_goto (tgt := 31) hx hb dX1_may_27 (by decide) ?_
      exact j31 1 (Or.inl ⟨rfl, Or.inl ⟨c_11, c_17⟩⟩) ls (lv_sub hl [0, 1, 2, 3, 4] rfl)
    · refine lv_iload_n hx hb dX1_may_20 rfl (lv_at hl 2 rfl) ?_
      refine lv_bipush (v := 13) hx hb dX1_may_21 (by decide) ?_
      refine lv_icmp_ne (tgt := 30) hx hb dX1_may_23 (by decide) (fun c_23 => ?_) (fun c_23 => ?_)
      · refine lv_iconst (v := 0) hx hb dX1_may_30 (by decide) ?_
        exact j31 0 (Or.inr ⟨rfl, fun q9 => q9.elim (fun q8 => c_17 q8.2) (fun q8 => c_23 q8)⟩) ls (lv_sub hl [0, 1, 2, 3, 4] rfl)
      · refine lv_iconst (v := 1) hx hb dX1_may_26 (by decide) ?_
        refine lv_goto (tgt := 31) hx hb dX1_may_27 (by decide) ?_
        exact j31 1 (Or.inl ⟨rfl, Or.inr c_23⟩) ls (lv_sub hl [0, 1, 2, 3, 4] rfl)
set_option maxHeartbeats 4000000 in
set_option maxRecDepth 100000 in
/-- look -/
theorem cY_look (l : Launch) (dC : Nat → ClassId) (dI : Nat → Nat → Nat) (g0 a1 a2 a3 a4 : Nat) (T : Nat) (hT9 : T < 100000000) (kk w : Int32) (x : Int32) : Met l yX1_look wsX1_look ({ frames := 1, cells := 0, slots := 0, locals := 20 }) (dk_Pr [.ref g0, .int x] (dC, dI) vwCl [] [(g0, .inr (1, [.long (lN T), .ref a1, .int kk, .ref a2, .ref a3, .int w, .ref a4]))]) (va_Qi (fun (r : Int32) (_ : Unit) => dk_look (nI (T / 1000)) (T % 1000) x r) (fun _ _ => True) dk_no) 0 0 dk_no := by
  refine Met.ofW (cc := cX1_look) (maxL := 5) (ret := (some .int)) (by decide) rfl ?_
  intro p e s m args below meth c s₁ B hml hv
  obtain ⟨rfl, hP, hK⟩ := hv
  have hx := B.exec
  have hb := B.bytes
  have hr := B.returns
  have hts := atoms_spec (ws := wsX1_look) B.pre
  have hown : s.vm.findClass RX1 = some m.cls := findClass_of_methodNamed B.named
  have hlocks := B.notSynchronized
  have hinX1 : ∀ w ∈ wsX10, w ∈ wsX1_look := by decide +kernel
  have hS : va_S dk_no s.heap s.heap [] := va_S.rf
  have hl := lv_entry ([.ref g0, .int x]) (n := 5) (Nat.le_of_ble_eq_true rfl)
  rw [lg_entry_eq]
  generalize (lg_sl ([.ref g0, .int x]) ++ List.replicate (5 - (lg_sl ([.ref g0, .int x])).length) Slot.unset).toArray = ls at hl ⊢
  have hl : lv_has ls 5 [(0, .ref g0), (1, .int x)] := hl
  refine lv_aload_n hx hb dX1_look_0 rfl (lv_at hl 0 rfl) ?_
  have hPc := hP
  have hKc := hK
  refine va_calli (va_runV (As := []) (rest := []) ⟨hx, hb, hml, hown, hts⟩ (cY_tick l dC dI g0 a1 a2 a3 a4 T hT9 kk w) (cwV 0 hts gX1_look_X1_tick rfl rfl rfl (by decide +kernel) ⟨Nat.le_of_ble_eq_true rfl, Nat.le_of_ble_eq_true rfl⟩) (dk_rV hPc hKc (ci := 1) (q0 := 0) rfl rfl) rfl rfl hl.1 rfl (lv_room (Nat.le_of_ble_eq_true rfl)) dX1_look_1 ⟨Nat.zero_le _, Nat.zero_le _⟩) hS (fun q _ h => False.elim h) (fun q h => False.elim h) (fun r_1 u8 t8 H1 locs ht8 hvm8 hw hB hz1 hk1 hS => ?_)
  try dsimp only at hw
  have hP := dk_kept hP hk1
  generalize H1 = H at hP hS ⊢
  subst hw
  refine lv_istore_n (lv' := [(2, .int (nI (T % 1000))), (0, .ref g0), (1, .int x)]) hx hb dX1_look_4 rfl hl (by decide) rfl (fun ls hl => ?_)
  rcases dk_sw5 x with rfl | rfl | rfl | rfl | rfl | hsw
  · refine lv_iload_n hx hb dX1_look_5 rfl (lv_at hl 2 rfl) ?_
    refine lv_iconst (v := 3) hx hb dX1_look_6 (by decide) ?_
    refine lv_icmp_ge (tgt := 49) hx hb dX1_look_7 (by decide) (fun c9 => absurd c9 (by decide)) (fun _ => ?_)
    refine lv_iload_n hx hb dX1_look_10 rfl (lv_at hl 2 rfl) ?_
    refine lv_if_ne (tgt := 26) hx hb dX1_look_11 (by decide) (fun c9 => absurd (by decide) c9) (fun _ => ?_)
    refine lv_aload_n hx hb dX1_look_14 rfl (lv_at hl 1 rfl) ?_
    refine va_get (D := (dC, dI)) (ci := 1) (v := .long (lN T)) (C := RX1) (T := TX1) (N := 7) hx hb hts hinX1 hown hK hP 0 rfl rfl 0 (by decide) (hts (.fieldLink RX1 23 "DayDeskModel" "ticks" "J") (by decide +kernel)) (fun _ h9 => h9) rfl dX1_look_15 ?_
    refine lv_ldc2 (v := lN 1000) hx hb hown (hts (.constantLong RX1 27 (lN 1000)) (by decide +kernel)) dX1_look_18 ?_
    refine lv_ldiv hx hb dX1_look_21 (by decide) ?_
    refine dk_asl (y := lN (T / 1000)) (pk_lDiv (by omega) (by omega) (by omega)) ?_
    refine lv_l2i (v := (lN (T / 1000)).toInt32) hx hb dX1_look_22 rfl ?_
    refine dk_asi (y := nI (T / 1000)) (lN_i _) ?_
    refine lv_goto (tgt := 48) hx hb dX1_look_23 (by decide) ?_
    exact W.iret (v := nI (T / 1000)) hx hb hr (fun z8 hz8 hW8 => ⟨⟨(nI (T / 1000)), (), rfl, Or.inl ⟨rfl, rfl⟩, trivial⟩, hS.F hz8⟩) hS.2.2 dX1_look_48
  · refine lv_iload_n hx hb dX1_look_5 rfl (lv_at hl 2 rfl) ?_
    refine lv_iconst (v := 3) hx hb dX1_look_6 (by decide) ?_
    refine lv_icmp_ge (tgt := 49) hx hb dX1_look_7 (by decide) (fun c9 => absurd c9 (by decide)) (fun _ => ?_)
    refine lv_iload_n hx hb dX1_look_10 rfl (lv_at hl 2 rfl) ?_
    refine lv_if_ne (tgt := 26) hx hb dX1_look_11 (by decide) (fun _ => ?_) (fun c9 => absurd c9 (by decide))
    refine lv_iload_n hx hb dX1_look_26 rfl (lv_at hl 2 rfl) ?_
    refine lv_iconst (v := 1) hx hb dX1_look_27 (by decide) ?_
    refine lv_icmp_ne (tgt := 35) hx hb dX1_look_28 (by decide) (fun c9 => absurd (by decide) c9) (fun _ => ?_)
    refine lv_iload_n hx hb dX1_look_31 rfl (lv_at hl 0 rfl) ?_
    refine lv_goto (tgt := 48) hx hb dX1_look_32 (by decide) ?_
    exact W.iret (v := nI (T % 1000)) hx hb hr (fun z8 hz8 hW8 => ⟨⟨(nI (T % 1000)), (), rfl, Or.inr (Or.inl ⟨rfl, rfl⟩), trivial⟩, hS.F hz8⟩) hS.2.2 dX1_look_48
  · refine lv_iload_n hx hb dX1_look_5 rfl (lv_at hl 2 rfl) ?_
    refine lv_iconst (v := 3) hx hb dX1_look_6 (by decide) ?_
    refine lv_icmp_ge (tgt := 49) hx hb dX1_look_7 (by decide) (fun c9 => absurd c9 (by decide)) (fun _ => ?_)
    refine lv_iload_n hx hb dX1_look_10 rfl (lv_at hl 2 rfl) ?_
    refine lv_if_ne (tgt := 26) hx hb dX1_look_11 (by decide) (fun _ => ?_) (fun c9 => absurd c9 (by decide))
    refine lv_iload_n hx hb dX1_look_26 rfl (lv_at hl 2 rfl) ?_
    refine lv_iconst (v := 1) hx hb dX1_look_27 (by decide) ?_
    refine lv_icmp_ne (tgt := 35) hx hb dX1_look_28 (by decide) (fun _ => ?_) (fun c9 => absurd c9 (by decide))
    refine lv_iload_n hx hb dX1_look_35 rfl (lv_at hl 2 rfl) ?_
    refine lv_iconst (v := 2) hx hb dX1_look_36 (by decide) ?_
    refine lv_icmp_ne (tgt := 47) hx hb dX1_look_37 (by decide) (fun c9 => absurd (by decide) c9) (fun _ => ?_)
    refine lv_iload_n hx hb dX1_look_40 rfl (lv_at hl 0 rfl) ?_
    have hKc := hK
    refine va_calli (va_runS (As := [.int (nI (T % 1000))]) (rest := []) ⟨hx, hb, hml, hown, hts⟩ (cY_phaseOf l dC dI (T % 1000) (by omega)) (va_cwS 1 hts gX1_look_X1_phaseOf rfl rfl rfl (by decide +kernel) ⟨Nat.le_of_ble_eq_true rfl, Nat.le_of_ble_eq_true rfl⟩) (dk_rS dk_P0 hKc) rfl rfl hl.1 rfl (lv_room (Nat.le_of_ble_eq_true rfl)) dX1_look_41 ⟨Nat.zero_le _, Nat.zero_le _⟩) hS (fun q _ h => False.elim h) (fun q h => False.elim h) (fun r_41 u8 t8 H1 locs ht8 hvm8 hw hB hz1 hk1 hS => ?_)
    try dsimp only at hw
    have hP := dk_kept hP hk1
    generalize H1 = H at hP hS ⊢
    subst hw
    refine lv_goto (tgt := 48) hx hb dX1_look_44 (by decide) ?_
    exact W.iret (v := nI (dk_ph (T % 1000))) hx hb hr (fun z8 hz8 hW8 => ⟨⟨(nI (dk_ph (T % 1000))), (), rfl, Or.inr (Or.inr (Or.inl ⟨rfl, rfl⟩)), trivial⟩, hS.F hz8⟩) hS.2.2 dX1_look_48
  · refine lv_iload_n hx hb dX1_look_5 rfl (lv_at hl 2 rfl) ?_
    refine lv_iconst (v := 3) hx hb dX1_look_6 (by decide) ?_
    refine lv_icmp_ge (tgt := 49) hx hb dX1_look_7 (by decide) (fun _ => ?_) (fun c9 => absurd (by decide) c9)
    refine lv_iconst (v := nI 1) hx hb dX1_look_49 (by decide) ?_
    refine lv_istore_n (lv' := [(3, .int (nI 1)), (2, .int (nI (T % 1000))), (0, .ref g0), (1, .int 3)]) hx hb dX1_look_50 rfl hl (by decide) rfl (fun ls hl => ?_)
    refine lv_iconst (v := nI 0) hx hb dX1_look_51 (by decide) ?_
    refine lv_istore (lv' := [(4, .int (nI 0)), (3, .int (nI 1)), (2, .int (nI (T % 1000))), (0, .ref g0), (1, .int 3)]) hx hb dX1_look_52 hl (by decide) rfl (fun ls hl => ?_)
    have ht9 : T % 1000 < 1000 := by omega
    have hb9 := dk_nR_b ht9
    have hlt9 := dk_nR_lt ht9
    have loop : ∀ (f i : Nat), T % 1000 + (i + 1) ≤ dk_nR (T % 1000) → dk_nR (T % 1000) + 1 ≤ T % 1000 + (i + 1) + f → ∀ (H : Heap) (locs : List Loc), va_P (dC, dI) vwCl [(g0, .inr (1, [.long (lN T), .ref a1, .int kk, .ref a2, .ref a3, .int w, .ref a4]))] H → va_S dk_no s.heap H locs → ∀ ls : Array Slot, lv_has ls 5 [(4, .int (nI i)), (3, .int (nI (i + 1))), (2, .int (nI (T % 1000))), (0, .ref g0), (1, .int 3)] → W p l e (headSpec wsX1_look ({ frames := 1, cells := 0, slots := 0, locals := 20 })).room s m ([.ref g0, .int 3] : List Value).toArray below meth c H locs 0 0 (MQ below (va_Qi (fun (r : Int32) (_ : Unit) => dk_look (nI (T / 1000)) (T % 1000) 3 r) (fun _ _ => True) dk_no) ([.ref g0, .int 3] : List Value).toArray s 0 0 dk_no) (F0 m 54 ls []) := by
      intro f
      induction f with
      | zero => intro i h1 h2; exact absurd h2 (by omega)
      | succ f ih =>
        intro i hi hf H locs hP hS ls hl
        refine lv_iload hx hb dX1_look_54 (lv_at hl 0 rfl) ?_
        refine lv_sipush (v := nI 1200) hx hb dX1_look_56 (by decide) ?_
        refine dk_icmp_ge (x := i) (y := 1200) (tgt := 109) hx hb dX1_look_59 (by decide) (by omega) (by omega) (fun c_59 => ?_) (fun c_59 => ?_)
        · exfalso; omega
        · refine lv_iload_n hx hb dX1_look_62 rfl (lv_at hl 4 rfl) ?_
          refine lv_iconst (v := 3) hx hb dX1_look_63 (by decide) ?_
          refine lv_icmp_ne (tgt := 83) hx hb dX1_look_64 (by decide) (fun c9 => absurd (by decide) c9) (fun _ => ?_)
          refine lv_iload_n hx hb dX1_look_67 rfl (lv_at hl 2 rfl) ?_
          refine lv_iload_n hx hb dX1_look_68 rfl (lv_at hl 1 rfl) ?_
          refine lv_iadd hx hb dX1_look_69 ?_
          refine dk_asi (y := nI ((T % 1000) + (i + 1))) (nI_add (T % 1000) (i + 1)) ?_
          refine lv_sipush (v := nI 1000) hx hb dX1_look_70 (by decide) ?_
          refine lv_irem hx hb dX1_look_73 (by decide) ?_
          refine dk_asi (y := nI (((T % 1000) + (i + 1)) % 1000)) (pk_rem (a := (T % 1000) + (i + 1)) (d := 1000) (by omega) (by omega) (by omega)) ?_
          have hKc := hK
          refine va_calli (va_runS (As := [.int (nI (((T % 1000) + (i + 1)) % 1000))]) (rest := []) ⟨hx, hb, hml, hown, hts⟩ (cY_isResolved l dC dI ((T % 1000 + (i + 1)) % 1000) (by omega)) (va_cwS 1 hts gX1_look_X1_isResolved rfl rfl rfl (by decide +kernel) ⟨Nat.le_of_ble_eq_true rfl, Nat.le_of_ble_eq_true rfl⟩) (dk_rS dk_P0 hKc) rfl rfl hl.1 rfl (lv_room (Nat.le_of_ble_eq_true rfl)) dX1_look_74 ⟨Nat.zero_le _, Nat.zero_le _⟩) hS (fun q _ h => False.elim h) (fun q h => False.elim h) (fun r_74 u8 t8 H1 locs ht8 hvm8 hw hB hz1 hk1 hS => ?_)
          try dsimp only at hw
          have hP := dk_kept hP hk1
          generalize H1 = H at hP hS ⊢
          rcases hw with ⟨rfl, hR⟩ | ⟨rfl, hR⟩
          · refine lv_if_ne (tgt := 109) hx hb dX1_look_77 (by decide) (fun _ => ?_) (fun c9 => absurd c9 (by decide))
            have e9 : T % 1000 + (i + 1) = dk_nR (T % 1000) := Nat.le_antisymm hi (Nat.le_of_not_lt fun q9 => dk_nR_no ht9 (by omega) q9 hR)
            refine lv_iload_n hx hb dX1_look_109 rfl (lv_at hl 4 rfl) ?_
            refine lv_iconst (v := 4) hx hb dX1_look_110 (by decide) ?_
            refine lv_icmp_le (tgt := 118) hx hb dX1_look_111 (by decide) (fun _ => ?_) (fun c9 => absurd (by decide) c9)
            refine lv_iload_n hx hb dX1_look_118 rfl (lv_at hl 1 rfl) ?_
            exact W.iret (v := nI (i + 1)) hx hb hr (fun z8 hz8 hW8 => ⟨⟨(nI (i + 1)), (), rfl, Or.inr (Or.inr (Or.inr (Or.inl ⟨rfl, congrArg nI (by omega)⟩))), trivial⟩, hS.F hz8⟩) hS.2.2 dX1_look_119
          · refine lv_if_ne (tgt := 109) hx hb dX1_look_77 (by decide) (fun c9 => absurd (by decide) c9) (fun _ => ?_)
            refine lv_goto (tgt := 100) hx hb dX1_look_80 (by decide) ?_
            have e9 : T % 1000 + (i + 1) ≠ dk_nR (T % 1000) := fun q9 => hR (by rw [q9]; exact dk_nR_yes ht9)
            refine lv_iinc (v := nI ((i + 1) + 1)) (lv' := [(3, .int (nI ((i + 1) + 1))), (4, .int (nI i)), (2, .int (nI (T % 1000))), (0, .ref g0), (1, .int 3)]) hx hb dX1_look_100 hl (k := 1) rfl (by rw [show Int32.ofInt 1 = nI 1 from by decide]; exact nI_add (i + 1) 1) (by decide) rfl (fun ls hl => ?_)
            refine lv_iinc (v := nI (i + 1)) (lv' := [(4, .int (nI (i + 1))), (3, .int (nI ((i + 1) + 1))), (2, .int (nI (T % 1000))), (0, .ref g0), (1, .int 3)]) hx hb dX1_look_103 hl (k := 1) rfl (by rw [show Int32.ofInt 1 = nI 1 from by decide]; exact nI_add i 1) (by decide) rfl (fun ls hl => ?_)
            refine lv_goto (tgt := 54) hx hb dX1_look_106 (by decide) ?_
            exact ih (i + 1) (by omega) (by omega) H locs hP hS ls (lv_sub hl [0, 1, 2, 3, 4] rfl)
    exact loop 2000 0 (by omega) (by omega) H locs hP hS ls (lv_sub hl [0, 1, 2, 3, 4] rfl)
  · refine lv_iload_n hx hb dX1_look_5 rfl (lv_at hl 2 rfl) ?_
    refine lv_iconst (v := 3) hx hb dX1_look_6 (by decide) ?_
    refine lv_icmp_ge (tgt := 49) hx hb dX1_look_7 (by decide) (fun _ => ?_) (fun c9 => absurd (by decide) c9)
    refine lv_iconst (v := nI 1) hx hb dX1_look_49 (by decide) ?_
    refine lv_istore_n (lv' := [(3, .int (nI 1)), (2, .int (nI (T % 1000))), (0, .ref g0), (1, .int 4)]) hx hb dX1_look_50 rfl hl (by decide) rfl (fun ls hl => ?_)
    refine lv_iconst (v := nI 0) hx hb dX1_look_51 (by decide) ?_
    refine lv_istore (lv' := [(4, .int (nI 0)), (3, .int (nI 1)), (2, .int (nI (T % 1000))), (0, .ref g0), (1, .int 4)]) hx hb dX1_look_52 hl (by decide) rfl (fun ls hl => ?_)
    have ht9 : T % 1000 < 1000 := by omega
    have hb9 := dk_nP_b (T % 1000)
    have hlt9 := dk_nP_lt ht9
    have loop : ∀ (f i : Nat), T % 1000 + (i + 1) ≤ dk_nP (T % 1000) → dk_nP (T % 1000) + 1 ≤ T % 1000 + (i + 1) + f → ∀ (H : Heap) (locs : List Loc), va_P (dC, dI) vwCl [(g0, .inr (1, [.long (lN T), .ref a1, .int kk, .ref a2, .ref a3, .int w, .ref a4]))] H → va_S dk_no s.heap H locs → ∀ ls : Array Slot, lv_has ls 5 [(4, .int (nI i)), (3, .int (nI (i + 1))), (2, .int (nI (T % 1000))), (0, .ref g0), (1, .int 4)] → W p l e (headSpec wsX1_look ({ frames := 1, cells := 0, slots := 0, locals := 20 })).room s m ([.ref g0, .int 4] : List Value).toArray below meth c H locs 0 0 (MQ below (va_Qi (fun (r : Int32) (_ : Unit) => dk_look (nI (T / 1000)) (T % 1000) 4 r) (fun _ _ => True) dk_no) ([.ref g0, .int 4] : List Value).toArray s 0 0 dk_no) (F0 m 54 ls []) := by
      intro f
      induction f with
      | zero => intro i h1 h2; exact absurd h2 (by omega)
      | succ f ih =>
        intro i hi hf H locs hP hS ls hl
        have hp1 := dk_ph_lt (T % 1000)
        have hp2 := dk_ph_lt ((T % 1000 + (i + 1)) % 1000)
        refine lv_iload hx hb dX1_look_54 (lv_at hl 0 rfl) ?_
        refine lv_sipush (v := nI 1200) hx hb dX1_look_56 (by decide) ?_
        refine dk_icmp_ge (x := i) (y := 1200) (tgt := 109) hx hb dX1_look_59 (by decide) (by omega) (by omega) (fun c_59 => ?_) (fun c_59 => ?_)
        · exfalso; omega
        · refine lv_iload_n hx hb dX1_look_62 rfl (lv_at hl 4 rfl) ?_
          refine lv_iconst (v := 3) hx hb dX1_look_63 (by decide) ?_
          refine lv_icmp_ne (tgt := 83) hx hb dX1_look_64 (by decide) (fun _ => ?_) (fun c9 => absurd c9 (by decide))
          refine lv_iload_n hx hb dX1_look_83 rfl (lv_at hl 2 rfl) ?_
          refine lv_iload_n hx hb dX1_look_84 rfl (lv_at hl 1 rfl) ?_
          refine lv_iadd hx hb dX1_look_85 ?_
          refine dk_asi (y := nI ((T % 1000) + (i + 1))) (nI_add (T % 1000) (i + 1)) ?_
          refine lv_sipush (v := nI 1000) hx hb dX1_look_86 (by decide) ?_
          refine lv_irem hx hb dX1_look_89 (by decide) ?_
          refine dk_asi (y := nI (((T % 1000) + (i + 1)) % 1000)) (pk_rem (a := (T % 1000) + (i + 1)) (d := 1000) (by omega) (by omega) (by omega)) ?_
          have hKc := hK
          refine va_calli (va_runS (As := [.int (nI (((T % 1000) + (i + 1)) % 1000))]) (rest := []) ⟨hx, hb, hml, hown, hts⟩ (cY_phaseOf l dC dI ((T % 1000 + (i + 1)) % 1000) (by omega)) (va_cwS 1 hts gX1_look_X1_phaseOf rfl rfl rfl (by decide +kernel) ⟨Nat.le_of_ble_eq_true rfl, Nat.le_of_ble_eq_true rfl⟩) (dk_rS dk_P0 hKc) rfl rfl hl.1 rfl (lv_room (Nat.le_of_ble_eq_true rfl)) dX1_look_90 ⟨Nat.zero_le _, Nat.zero_le _⟩) hS (fun q _ h => False.elim h) (fun q h => False.elim h) (fun r_90 u8 t8 H1 locs ht8 hvm8 hw hB hz1 hk1 hS => ?_)
          try dsimp only at hw
          have hP := dk_kept hP hk1
          generalize H1 = H at hP hS ⊢
          subst hw
          refine lv_iload_n hx hb dX1_look_93 rfl (lv_at hl 2 rfl) ?_
          have hKc := hK
          refine va_calli (va_runS (As := [.int (nI (T % 1000))]) (rest := [.int (nI (dk_ph ((T % 1000 + (i + 1)) % 1000)))]) ⟨hx, hb, hml, hown, hts⟩ (cY_phaseOf l dC dI (T % 1000) ht9) (va_cwS 1 hts gX1_look_X1_phaseOf rfl rfl rfl (by decide +kernel) ⟨Nat.le_of_ble_eq_true rfl, Nat.le_of_ble_eq_true rfl⟩) (dk_rS dk_P0 hKc) rfl rfl hl.1 rfl (lv_room (Nat.le_of_ble_eq_true rfl)) dX1_look_94 ⟨Nat.zero_le _, Nat.zero_le _⟩) hS (fun q _ h => False.elim h) (fun q h => False.elim h) (fun r_94 u8 t8 H1 locs ht8 hvm8 hw hB hz1 hk1 hS => ?_)
          try dsimp only at hw
          have hP := dk_kept hP hk1
          generalize H1 = H at hP hS ⊢
          subst hw
          refine dk_icmp_ne (x := dk_ph ((T % 1000 + (i + 1)) % 1000)) (y := dk_ph (T % 1000)) (tgt := 109) hx hb dX1_look_97 (by decide) (by omega) (by omega) (fun c_97 => ?_) (fun c_97 => ?_)
          · have e9 : T % 1000 + (i + 1) = dk_nP (T % 1000) := Nat.le_antisymm hi (Nat.le_of_not_lt fun q9 => c_97 (dk_nP_no ht9 (by omega) q9))
            refine lv_iload_n hx hb dX1_look_109 rfl (lv_at hl 4 rfl) ?_
            refine lv_iconst (v := 4) hx hb dX1_look_110 (by decide) ?_
            refine lv_icmp_le (tgt := 118) hx hb dX1_look_111 (by decide) (fun _ => ?_) (fun c9 => absurd (by decide) c9)
            refine lv_iload_n hx hb dX1_look_118 rfl (lv_at hl 1 rfl) ?_
            exact W.iret (v := nI (i + 1)) hx hb hr (fun z8 hz8 hW8 => ⟨⟨(nI (i + 1)), (), rfl, Or.inr (Or.inr (Or.inr (Or.inr (Or.inl ⟨rfl, congrArg nI (by omega)⟩)))), trivial⟩, hS.F hz8⟩) hS.2.2 dX1_look_119
          · have e9 : T % 1000 + (i + 1) ≠ dk_nP (T % 1000) := fun q9 => dk_nP_yes ht9 (by rw [← q9]; exact c_97)
            refine lv_iinc (v := nI ((i + 1) + 1)) (lv' := [(3, .int (nI ((i + 1) + 1))), (4, .int (nI i)), (2, .int (nI (T % 1000))), (0, .ref g0), (1, .int 4)]) hx hb dX1_look_100 hl (k := 1) rfl (by rw [show Int32.ofInt 1 = nI 1 from by decide]; exact nI_add (i + 1) 1) (by decide) rfl (fun ls hl => ?_)
            refine lv_iinc (v := nI (i + 1)) (lv' := [(4, .int (nI (i + 1))), (3, .int (nI ((i + 1) + 1))), (2, .int (nI (T % 1000))), (0, .ref g0), (1, .int 4)]) hx hb dX1_look_103 hl (k := 1) rfl (by rw [show Int32.ofInt 1 = nI 1 from by decide]; exact nI_add i 1) (by decide) rfl (fun ls hl => ?_)
            refine lv_goto (tgt := 54) hx hb dX1_look_106 (by decide) ?_
            exact ih (i + 1) (by omega) (by omega) H locs hP hS ls (lv_sub hl [0, 1, 2, 3, 4] rfl)
    exact loop 2000 0 (by omega) (by omega) H locs hP hS ls (lv_sub hl [0, 1, 2, 3, 4] rfl)
  · refine lv_iload_n hx hb dX1_look_5 rfl (lv_at hl 2 rfl) ?_
    refine lv_iconst (v := 3) hx hb dX1_look_6 (by decide) ?_
    refine lv_icmp_ge (tgt := 49) hx hb dX1_look_7 (by decide) (fun c_7 => ?_) (fun c_7 => ?_)
    · refine lv_iconst (v := nI 1) hx hb dX1_look_49 (by decide) ?_
      refine lv_istore_n (lv' := [(3, .int (nI 1)), (2, .int (nI (T % 1000))), (0, .ref g0), (1, .int x)]) hx hb dX1_look_50 rfl hl (by decide) rfl (fun ls hl => ?_)
      refine lv_iconst (v := nI 0) hx hb dX1_look_51 (by decide) ?_
      refine lv_istore (lv' := [(4, .int (nI 0)), (3, .int (nI 1)), (2, .int (nI (T % 1000))), (0, .ref g0), (1, .int x)]) hx hb dX1_look_52 hl (by decide) rfl (fun ls hl => ?_)
      have h3 : (3 : Int32) ≤ x := c_7
      have ht9 : T % 1000 < 1000 := by omega
      have hb9 := dk_nP_b (T % 1000)
      have hlt9 := dk_nP_lt ht9
      have loop : ∀ (f i : Nat), T % 1000 + (i + 1) ≤ dk_nP (T % 1000) → dk_nP (T % 1000) + 1 ≤ T % 1000 + (i + 1) + f → ∀ (H : Heap) (locs : List Loc), va_P (dC, dI) vwCl [(g0, .inr (1, [.long (lN T), .ref a1, .int kk, .ref a2, .ref a3, .int w, .ref a4]))] H → va_S dk_no s.heap H locs → ∀ ls : Array Slot, lv_has ls 5 [(4, .int (nI i)), (3, .int (nI (i + 1))), (2, .int (nI (T % 1000))), (0, .ref g0), (1, .int x)] → W p l e (headSpec wsX1_look ({ frames := 1, cells := 0, slots := 0, locals := 20 })).room s m ([.ref g0, .int x] : List Value).toArray below meth c H locs 0 0 (MQ below (va_Qi (fun (r : Int32) (_ : Unit) => dk_look (nI (T / 1000)) (T % 1000) x r) (fun _ _ => True) dk_no) ([.ref g0, .int x] : List Value).toArray s 0 0 dk_no) (F0 m 54 ls []) := by
        intro f
        induction f with
        | zero => intro i h1 h2; exact absurd h2 (by omega)
        | succ f ih =>
          intro i hi hf H locs hP hS ls hl
          have hp1 := dk_ph_lt (T % 1000)
          have hp2 := dk_ph_lt ((T % 1000 + (i + 1)) % 1000)
          refine lv_iload hx hb dX1_look_54 (lv_at hl 0 rfl) ?_
          refine lv_sipush (v := nI 1200) hx hb dX1_look_56 (by decide) ?_
          refine dk_icmp_ge (x := i) (y := 1200) (tgt := 109) hx hb dX1_look_59 (by decide) (by omega) (by omega) (fun c_59 => ?_) (fun c_59 => ?_)
          · exfalso; omega
          · refine lv_iload_n hx hb dX1_look_62 rfl (lv_at hl 4 rfl) ?_
            refine lv_iconst (v := 3) hx hb dX1_look_63 (by decide) ?_
            refine lv_icmp_ne (tgt := 83) hx hb dX1_look_64 (by decide) (fun c_64 => ?_) (fun c_64 => ?_)
            · refine lv_iload_n hx hb dX1_look_83 rfl (lv_at hl 2 rfl) ?_
              refine lv_iload_n hx hb dX1_look_84 rfl (lv_at hl 1 rfl) ?_
              refine lv_iadd hx hb dX1_look_85 ?_
              refine dk_asi (y := nI ((T % 1000) + (i + 1))) (nI_add (T % 1000) (i + 1)) ?_
              refine lv_sipush (v := nI 1000) hx hb dX1_look_86 (by decide) ?_
              refine lv_irem hx hb dX1_look_89 (by decide) ?_
              refine dk_asi (y := nI (((T % 1000) + (i + 1)) % 1000)) (pk_rem (a := (T % 1000) + (i + 1)) (d := 1000) (by omega) (by omega) (by omega)) ?_
              have hKc := hK
              refine va_calli (va_runS (As := [.int (nI (((T % 1000) + (i + 1)) % 1000))]) (rest := []) ⟨hx, hb, hml, hown, hts⟩ (cY_phaseOf l dC dI ((T % 1000 + (i + 1)) % 1000) (by omega)) (va_cwS 1 hts gX1_look_X1_phaseOf rfl rfl rfl (by decide +kernel) ⟨Nat.le_of_ble_eq_true rfl, Nat.le_of_ble_eq_true rfl⟩) (dk_rS dk_P0 hKc) rfl rfl hl.1 rfl (lv_room (Nat.le_of_ble_eq_true rfl)) dX1_look_90 ⟨Nat.zero_le _, Nat.zero_le _⟩) hS (fun q _ h => False.elim h) (fun q h => False.elim h) (fun r_90 u8 t8 H1 locs ht8 hvm8 hw hB hz1 hk1 hS => ?_)
              try dsimp only at hw
              have hP := dk_kept hP hk1
              generalize H1 = H at hP hS ⊢
              subst hw
              refine lv_iload_n hx hb dX1_look_93 rfl (lv_at hl 2 rfl) ?_
              have hKc := hK
              refine va_calli (va_runS (As := [.int (nI (T % 1000))]) (rest := [.int (nI (dk_ph ((T % 1000 + (i + 1)) % 1000)))]) ⟨hx, hb, hml, hown, hts⟩ (cY_phaseOf l dC dI (T % 1000) ht9) (va_cwS 1 hts gX1_look_X1_phaseOf rfl rfl rfl (by decide +kernel) ⟨Nat.le_of_ble_eq_true rfl, Nat.le_of_ble_eq_true rfl⟩) (dk_rS dk_P0 hKc) rfl rfl hl.1 rfl (lv_room (Nat.le_of_ble_eq_true rfl)) dX1_look_94 ⟨Nat.zero_le _, Nat.zero_le _⟩) hS (fun q _ h => False.elim h) (fun q h => False.elim h) (fun r_94 u8 t8 H1 locs ht8 hvm8 hw hB hz1 hk1 hS => ?_)
              try dsimp only at hw
              have hP := dk_kept hP hk1
              generalize H1 = H at hP hS ⊢
              subst hw
              refine dk_icmp_ne (x := dk_ph ((T % 1000 + (i + 1)) % 1000)) (y := dk_ph (T % 1000)) (tgt := 109) hx hb dX1_look_97 (by decide) (by omega) (by omega) (fun c_97 => ?_) (fun c_97 => ?_)
              · have e9 : T % 1000 + (i + 1) = dk_nP (T % 1000) := Nat.le_antisymm hi (Nat.le_of_not_lt fun q9 => c_97 (dk_nP_no ht9 (by omega) q9))
                refine lv_iload_n hx hb dX1_look_109 rfl (lv_at hl 4 rfl) ?_
                refine lv_iconst (v := 4) hx hb dX1_look_110 (by decide) ?_
                refine lv_icmp_le (tgt := 118) hx hb dX1_look_111 (by decide) (fun c_111 => ?_) (fun c_111 => ?_)
                · exact (dk_no4 c_111 h3 hsw).elim
                · refine lv_iconst (v := (-1)) hx hb dX1_look_114 (by decide) ?_
                  refine lv_goto (tgt := 119) hx hb dX1_look_115 (by decide) ?_
                  exact W.iret (v := (-1)) hx hb hr (fun z8 hz8 hW8 => ⟨⟨(-1), (), rfl, Or.inr (Or.inr (Or.inr (Or.inr (Or.inr (⟨hsw, rfl⟩))))), trivial⟩, hS.F hz8⟩) hS.2.2 dX1_look_119
              · have e9 : T % 1000 + (i + 1) ≠ dk_nP (T % 1000) := fun q9 => dk_nP_yes ht9 (by rw [← q9]; exact c_97)
                refine lv_iinc (v := nI ((i + 1) + 1)) (lv' := [(3, .int (nI ((i + 1) + 1))), (4, .int (nI i)), (2, .int (nI (T % 1000))), (0, .ref g0), (1, .int x)]) hx hb dX1_look_100 hl (k := 1) rfl (by rw [show Int32.ofInt 1 = nI 1 from by decide]; exact nI_add (i + 1) 1) (by decide) rfl (fun ls hl => ?_)
                refine lv_iinc (v := nI (i + 1)) (lv' := [(4, .int (nI (i + 1))), (3, .int (nI ((i + 1) + 1))), (2, .int (nI (T % 1000))), (0, .ref g0), (1, .int x)]) hx hb dX1_look_103 hl (k := 1) rfl (by rw [show Int32.ofInt 1 = nI 1 from by decide]; exact nI_add i 1) (by decide) rfl (fun ls hl => ?_)
                refine lv_goto (tgt := 54) hx hb dX1_look_106 (by decide) ?_
                exact ih (i + 1) (by omega) (by omega) H locs hP hS ls (lv_sub hl [0, 1, 2, 3, 4] rfl)
            · subst c_64; exact absurd hsw (by decide)
      exact loop 2000 0 (by omega) (by omega) H locs hP hS ls (lv_sub hl [0, 1, 2, 3, 4] rfl)
    · refine lv_iload_n hx hb dX1_look_10 rfl (lv_at hl 2 rfl) ?_
      refine lv_if_ne (tgt := 26) hx hb dX1_look_11 (by decide) (fun c_11 => ?_) (fun c_11 => ?_)
      · refine lv_iload_n hx hb dX1_look_26 rfl (lv_at hl 2 rfl) ?_
        refine lv_iconst (v := 1) hx hb dX1_look_27 (by decide) ?_
        refine lv_icmp_ne (tgt := 35) hx hb dX1_look_28 (by decide) (fun c_28 => ?_) (fun c_28 => ?_)
        · refine lv_iload_n hx hb dX1_look_35 rfl (lv_at hl 2 rfl) ?_
          refine lv_iconst (v := 2) hx hb dX1_look_36 (by decide) ?_
          refine lv_icmp_ne (tgt := 47) hx hb dX1_look_37 (by decide) (fun c_37 => ?_) (fun c_37 => ?_)
          · refine lv_iconst (v := (-1)) hx hb dX1_look_47 (by decide) ?_
            exact W.iret (v := (-1)) hx hb hr (fun z8 hz8 hW8 => ⟨⟨(-1), (), rfl, Or.inr (Or.inr (Or.inr (Or.inr (Or.inr (⟨hsw, rfl⟩))))), trivial⟩, hS.F hz8⟩) hS.2.2 dX1_look_48
          · subst c_37; exact absurd hsw (by decide)
        · subst c_28; exact absurd hsw (by decide)
      · subst c_11; exact absurd hsw (by decide)
end
section
set_option maxHeartbeats 4000000 in
set_option maxRecDepth 100000 in
/-- isTold -/
theorem cY_isTold (l : Launch) (dC : Nat → ClassId) (dI : Nat → Nat → Nat) (g0 a1 a2 a3 a4 : Nat) (i1 i2 i3 : ClassId) (TT : Int64) (k : Nat) (hk9 : k ≤ 520) (w : Int32) (O : Nat → Int64) (mo : Nat → Int32) (mb : Nat → Int64) (x : Int32) : Met l yX1_isTold wsX1_isTold ({ frames := 2, cells := 0, slots := 0, locals := 49 }) (dk_Pr [.ref g0, .int x] (dC, dI) vwCl [(i1, .long), (i2, .int), (i3, .long)] [(g0, .inr (1, [.long TT, .ref a1, .int (nI k), .ref a2, .ref a3, .int w, .ref a4])), (a1, .inl (i1, 200, .inr (.inl O))), (a2, .inl (i2, 520, .inl mo)), (a3, .inl (i3, 520, .inr (.inl mb)))]) (va_Qi (fun (r : Int32) (_ : Unit) => (r = 1 ∧ dk_tld (fun j => ¬ O j = 0 ∨ ¬ lN (dk_yn mo (nI j) k) ≤ 0) x) ∨ (r = 0 ∧ ¬ dk_tld (fun j => ¬ O j = 0 ∨ ¬ lN (dk_yn mo (nI j) k) ≤ 0) x)) (fun _ _ => True) dk_no) 0 0 dk_no := by
  refine Met.ofW (cc := cX1_isTold) (maxL := 2) (ret := (some .boolean)) (by decide) rfl ?_
  intro p e s m args below meth c s₁ B hml hv
  obtain ⟨rfl, hP, hK⟩ := hv
  have hx := B.exec
  have hb := B.bytes
  have hr := B.returns
  have hts := atoms_spec (ws := wsX1_isTold) B.pre
  have hown : s.vm.findClass RX1 = some m.cls := findClass_of_methodNamed B.named
  have hlocks := B.notSynchronized
  have hinX1 : ∀ w ∈ wsX10, w ∈ wsX1_isTold := by decide +kernel
  have hS : va_S dk_no s.heap s.heap [] := va_S.rf
  have hl := lv_entry ([.ref g0, .int x]) (n := 2) (Nat.le_of_ble_eq_true rfl)
  rw [lg_entry_eq]
  generalize (lg_sl ([.ref g0, .int x]) ++ List.replicate (2 - (lg_sl ([.ref g0, .int x])).length) Slot.unset).toArray = ls at hl ⊢
  have hl : lv_has ls 2 [(0, .ref g0), (1, .int x)] := hl
  refine lv_iload_n hx hb dX1_isTold_0 rfl (lv_at hl 1 rfl) ?_
  have hKc := hK.sub (tys' := []) [] rfl
  refine va_calli (va_runS (As := [.int x]) (rest := []) ⟨hx, hb, hml, hown, hts⟩ (cY_isPosition l dC dI x) (va_cwS 1 hts gX1_isTold_X1_isPosition rfl rfl rfl (by decide +kernel) ⟨Nat.le_of_ble_eq_true rfl, Nat.le_of_ble_eq_true rfl⟩) (dk_rS dk_P0 hKc) rfl rfl hl.1 rfl (lv_room (Nat.le_of_ble_eq_true rfl)) dX1_isTold_1 ⟨Nat.zero_le _, Nat.zero_le _⟩) hS (fun q _ h => False.elim h) (fun q h => False.elim h) (fun r_1 u8 t8 H1 locs ht8 hvm8 hw hB hz1 hk1 hS => ?_)
  try dsimp only at hw
  have hP := dk_kept hP hk1
  generalize H1 = H at hP hS ⊢
  rcases hw with ⟨rfl, j, hj, rfl⟩ | ⟨rfl, hno⟩
  · refine lv_if_eq (tgt := 33) hx hb dX1_isTold_4 (by decide) (fun c9 => absurd c9 (by decide)) (fun _ => ?_)
    refine lv_aload_n hx hb dX1_isTold_7 rfl (lv_at hl 0 rfl) ?_
    refine va_get (D := (dC, dI)) (ci := 1) (v := .ref a1) (C := RX1) (T := TX1) (N := 7) hx hb hts hinX1 hown hK hP 0 rfl rfl 1 (by decide) (hts (.fieldLink RX1 7 "DayDeskModel" "opening" "[J") (by decide +kernel)) (fun _ h9 => h9) rfl dX1_isTold_8 ?_
    refine lv_iload_n hx hb dX1_isTold_11 rfl (lv_at hl 1 rfl) ?_
    refine dk_lald hx hb hK hP 1 0 rfl rfl (j := j) (by omega) (by omega) dX1_isTold_12 ?_
    refine lv_lconst (v := 0) hx hb dX1_isTold_13 (by decide) ?_
    refine W.lcmp hx hb dX1_isTold_14 ?_
    refine lv_if_ne (tgt := 29) hx hb dX1_isTold_15 (by decide) (fun c_15 => ?_) (fun c_15 => ?_)
    · have c_15 : ¬ ((O j) = (0 : Int64)) := fun q9 => c_15 ((lg_cmp_eq _ _).mpr q9)
      refine lv_iconst (v := 1) hx hb dX1_isTold_29 (by decide) ?_
      refine lv_goto (tgt := 34) hx hb dX1_isTold_30 (by decide) ?_
      exact W.zret (v := 1) hx hb hr (by first | rfl | decide) (fun z8 hz8 hW8 => ⟨⟨1, (), rfl, Or.inl ⟨rfl, j, hj, rfl, Or.inl c_15⟩, trivial⟩, hS.F hz8⟩) hS.2.2 dX1_isTold_34
    · have c_15 : (O j) = (0 : Int64) := (lg_cmp_eq _ _).mp c_15
      refine lv_aload_n hx hb dX1_isTold_18 rfl (lv_at hl 0 rfl) ?_
      refine lv_iload_n hx hb dX1_isTold_19 rfl (lv_at hl 1 rfl) ?_
      refine lv_iconst (v := 4) hx hb dX1_isTold_20 (by decide) ?_
      have hPc := hP
      have hKc := hK
      refine va_calll (va_runV (As := [.int (nI j), .int 4]) (rest := []) ⟨hx, hb, hml, hown, hts⟩ (cY_row l dC dI g0 a1 a2 a3 a4 i1 i2 i3 TT k hk9 w O mo mb (nI j) 4) (cwV 2 hts gX1_isTold_X1_row rfl rfl rfl (by decide +kernel) ⟨Nat.le_of_ble_eq_true rfl, Nat.le_of_ble_eq_true rfl⟩) (dk_rV hPc hKc (ci := 1) (q0 := 0) rfl rfl) rfl rfl hl.1 rfl (lv_room (Nat.le_of_ble_eq_true rfl)) dX1_isTold_21 ⟨Nat.zero_le _, Nat.zero_le _⟩) hS (fun q _ h => False.elim h) (fun q h => False.elim h) (fun r_21 u8 t8 H1 locs ht8 hvm8 hw hB hz1 hk1 hS => ?_)
      try dsimp only at hw
      have hP := dk_kept hP hk1
      generalize H1 = H at hP hS ⊢
      have hw := dk_row_in hj hw
      have hw : _ = lN (dk_yn mo (nI j) k) := hw
      subst hw
      refine lv_lconst (v := 0) hx hb dX1_isTold_24 (by decide) ?_
      refine W.lcmp hx hb dX1_isTold_25 ?_
      refine lv_if_le (tgt := 33) hx hb dX1_isTold_26 (by decide) (fun c_26 => ?_) (fun c_26 => ?_)
      · have c_26 : (lN (dk_yn mo (nI j) k)) ≤ (0 : Int64) := (lg_cmp_le _ _).mp c_26
        refine lv_iconst (v := 0) hx hb dX1_isTold_33 (by decide) ?_
        exact W.zret (v := 0) hx hb hr (by first | rfl | decide) (fun z8 hz8 hW8 => ⟨⟨0, (), rfl, Or.inr ⟨rfl, dk_tld_no hj (fun q9 => q9.elim (fun z9 => z9 c_15) (fun z9 => z9 c_26))⟩, trivial⟩, hS.F hz8⟩) hS.2.2 dX1_isTold_34
      · have c_26 : ¬ ((lN (dk_yn mo (nI j) k)) ≤ (0 : Int64)) := fun q9 => c_26 ((lg_cmp_le _ _).mpr q9)
        refine lv_iconst (v := 1) hx hb dX1_isTold_29 (by decide) ?_
        refine lv_goto (tgt := 34) hx hb dX1_isTold_30 (by decide) ?_
        exact W.zret (v := 1) hx hb hr (by first | rfl | decide) (fun z8 hz8 hW8 => ⟨⟨1, (), rfl, Or.inl ⟨rfl, j, hj, rfl, Or.inr c_26⟩, trivial⟩, hS.F hz8⟩) hS.2.2 dX1_isTold_34
  · refine lv_if_eq (tgt := 33) hx hb dX1_isTold_4 (by decide) (fun _ => ?_) (fun c9 => absurd (by decide) c9)
    refine lv_iconst (v := 0) hx hb dX1_isTold_33 (by decide) ?_
    exact W.zret (v := 0) hx hb hr (by first | rfl | decide) (fun z8 hz8 hW8 => ⟨⟨0, (), rfl, Or.inr ⟨rfl, dk_tld_out hno⟩, trivial⟩, hS.F hz8⟩) hS.2.2 dX1_isTold_34
set_option maxHeartbeats 4000000 in
set_option maxRecDepth 100000 in
/-- move -/
theorem cY_move (l : Launch) (dC : Nat → ClassId) (dI : Nat → Nat → Nat) (sz : Nat) (g0 a1 a2 a3 a4 : Nat) (i1 i2 i3 : ClassId) (TT : Int64) (k : Nat) (hk9 : k < 520) (w : Int32) (O : Nat → Int64) (mo : Nat → Int32) (mb : Nat → Int64) (x : Int32) (v : Int64) : Met l yX1_move wsX1_move ({ frames := 2, cells := 0, slots := 0, locals := 49 }) (dk_Pw [.ref g0, .int x, .long v] (dC, dI) vwCl [(i1, .long), (i2, .int), (i3, .long)] [(g0, .inr (1, [.long TT, .ref a1, .int (nI k), .ref a2, .ref a3, .int w, .ref a4])), (a1, .inl (i1, 200, .inr (.inl O))), (a2, .inl (i2, 520, .inl mo)), (a3, .inl (i3, 520, .inr (.inl mb)))] sz) (va_Qi (fun (r : Int32) (u : Nat × (Nat → Int32) × (Nat → Int64)) => match u with | (k2, mo2, mb2) => dk_ymv O mo mb k x v r k2 mo2 mb2) (fun (u : Nat × (Nat → Int32) × (Nat → Int64)) z8 => match u with | (k2, mo2, mb2) => dk_B (dC, dI) vwCl (va_A [(g0, .inr (1, [.long TT, .ref a1, .int (nI k), .ref a2, .ref a3, .int w, .ref a4])), (a1, .inl (i1, 200, .inr (.inl O))), (a2, .inl (i2, 520, .inl mo)), (a3, .inl (i3, 520, .inr (.inl mb)))] sz) [(g0, .inr (1, [.long TT, .ref a1, .int (nI k2), .ref a2, .ref a3, .int w, .ref a4])), (a1, .inl (i1, 200, .inr (.inl O))), (a2, .inl (i2, 520, .inl mo2)), (a3, .inl (i3, 520, .inr (.inl mb2)))] z8) (va_A [(g0, .inr (1, [.long TT, .ref a1, .int (nI k), .ref a2, .ref a3, .int w, .ref a4])), (a1, .inl (i1, 200, .inr (.inl O))), (a2, .inl (i2, 520, .inl mo)), (a3, .inl (i3, 520, .inr (.inl mb)))] sz)) 0 0 (va_A [(g0, .inr (1, [.long TT, .ref a1, .int (nI k), .ref a2, .ref a3, .int w, .ref a4])), (a1, .inl (i1, 200, .inr (.inl O))), (a2, .inl (i2, 520, .inl mo)), (a3, .inl (i3, 520, .inr (.inl mb)))] sz) := by
  refine Met.ofW (cc := cX1_move) (maxL := 4) (ret := (some .int)) (by decide) rfl ?_
  intro p e s m args below meth c s₁ B hml hv
  obtain ⟨rfl, hsz, hP, hK, hD0⟩ := hv
  have hx := B.exec
  have hb := B.bytes
  have hr := B.returns
  have hts := atoms_spec (ws := wsX1_move) B.pre
  have hown : s.vm.findClass RX1 = some m.cls := findClass_of_methodNamed B.named
  have hlocks := B.notSynchronized
  have hinX1 : ∀ w ∈ wsX10, w ∈ wsX1_move := by decide +kernel
  subst hsz
  have hD := hD0.self (sz := s.heap.size)
  generalize hAe : va_A [(g0, .inr (1, [.long TT, .ref a1, .int (nI k), .ref a2, .ref a3, .int w, .ref a4])), (a1, .inl (i1, 200, .inr (.inl O))), (a2, .inl (i2, 520, .inl mo)), (a3, .inl (i3, 520, .inr (.inl mb)))] s.heap.size = A at hD ⊢
  have hA : ∀ q : Nat, s.heap.size ≤ q → A q := fun q h => by rw [← hAe]; exact Or.inr h
  have hS : va_S A s.heap s.heap [] := va_S.rf
  have hl := lv_entry ([.ref g0, .int x, .long v]) (n := 4) (Nat.le_of_ble_eq_true rfl)
  rw [lg_entry_eq]
  generalize (lg_sl ([.ref g0, .int x, .long v]) ++ List.replicate (4 - (lg_sl ([.ref g0, .int x, .long v])).length) Slot.unset).toArray = ls at hl ⊢
  have hl : lv_has ls 4 [(0, .ref g0), (1, .int x), (2, .long v)] := hl
  refine lv_iload_n hx hb dX1_move_0 rfl (lv_at hl 1 rfl) ?_
  have hKc := hK.sub (tys' := []) [] rfl
  refine va_calli (va_runS (As := [.int x]) (rest := []) ⟨hx, hb, hml, hown, hts⟩ (cY_isPosition l dC dI x) (va_cwS 1 hts gX1_move_X1_isPosition rfl rfl rfl (by decide +kernel) ⟨Nat.le_of_ble_eq_true rfl, Nat.le_of_ble_eq_true rfl⟩) (dk_rS dk_P0 hKc) rfl rfl hl.1 rfl (lv_room (Nat.le_of_ble_eq_true rfl)) dX1_move_1 ⟨Nat.zero_le _, Nat.zero_le _⟩) hS (fun q _ h => False.elim h) (fun q h => False.elim h) (fun r_1 u8 t8 H1 locs ht8 hvm8 hw hB hz1 hk1 hS => ?_)
  try dsimp only at hw
  have hP := dk_kept hP hk1
  generalize H1 = H at hP hS ⊢
  rcases hw with ⟨rfl, j, hj, rfl⟩ | ⟨rfl, hno⟩
  · refine lv_if_eq (tgt := 68) hx hb dX1_move_4 (by decide) (fun c9 => absurd c9 (by decide)) (fun _ => ?_)
    refine lv_lload_n hx hb dX1_move_7 rfl (lv_at hl 2 rfl) ?_
    refine lv_ldc2 (v := (-10000000000000000)) hx hb hown (hts (.constantLong RX1 63 (-10000000000000000)) (by decide +kernel)) dX1_move_8 ?_
    refine W.lcmp hx hb dX1_move_11 ?_
    refine lv_if_lt (tgt := 68) hx hb dX1_move_12 (by decide) (fun c_12 => ?_) (fun c_12 => ?_)
    · have c_12 : v < ((-10000000000000000) : Int64) := (lg_cmp_lt _ _).mp c_12
      refine lv_iconst (v := (-1)) hx hb dX1_move_68 (by decide) ?_
      exact W.iret (v := (-1)) hx hb hr (fun z8 hz8 hW8 => ⟨⟨(-1), (k, mo, mb), rfl, Or.inl ⟨rfl, rfl, rfl, rfl, Or.inr ⟨j, hj, rfl, fun q9 => dk_lnle c_12 q9.1.1⟩⟩, by rw [hz8]; exact hP, hD⟩, hS.F hz8⟩) hS.2.2 dX1_move_69
    · have c_12 : ¬ (v < ((-10000000000000000) : Int64)) := fun q9 => c_12 ((lg_cmp_lt _ _).mpr q9)
      refine lv_lload_n hx hb dX1_move_15 rfl (lv_at hl 2 rfl) ?_
      refine lv_ldc2 (v := 10000000000000000) hx hb hown (hts (.constantLong RX1 65 10000000000000000) (by decide +kernel)) dX1_move_16 ?_
      refine W.lcmp hx hb dX1_move_19 ?_
      refine lv_if_gt (tgt := 68) hx hb dX1_move_20 (by decide) (fun c_20 => ?_) (fun c_20 => ?_)
      · have c_20 : (10000000000000000 : Int64) < v := (lg_cmp_gt _ _).mp c_20
        refine lv_iconst (v := (-1)) hx hb dX1_move_68 (by decide) ?_
        exact W.iret (v := (-1)) hx hb hr (fun z8 hz8 hW8 => ⟨⟨(-1), (k, mo, mb), rfl, Or.inl ⟨rfl, rfl, rfl, rfl, Or.inr ⟨j, hj, rfl, fun q9 => dk_lnle c_20 q9.1.2⟩⟩, by rw [hz8]; exact hP, hD⟩, hS.F hz8⟩) hS.2.2 dX1_move_69
      · have c_20 : ¬ ((10000000000000000 : Int64) < v) := fun q9 => c_20 ((lg_cmp_gt _ _).mpr q9)
        refine lv_aload_n hx hb dX1_move_23 rfl (lv_at hl 0 rfl) ?_
        refine lv_iload_n hx hb dX1_move_24 rfl (lv_at hl 1 rfl) ?_
        refine lv_iconst (v := 3) hx hb dX1_move_25 (by decide) ?_
        have hPc := hP
        have hKc := hK
        refine va_calll (va_runV (As := [.int (nI j), .int 3]) (rest := []) ⟨hx, hb, hml, hown, hts⟩ (cY_row l dC dI g0 a1 a2 a3 a4 i1 i2 i3 TT k (by omega) w O mo mb (nI j) 3) (cwV 2 hts gX1_move_X1_row rfl rfl rfl (by decide +kernel) ⟨Nat.le_of_ble_eq_true rfl, Nat.le_of_ble_eq_true rfl⟩) (dk_rV hPc hKc (ci := 1) (q0 := 0) rfl rfl) rfl rfl hl.1 rfl (lv_room (Nat.le_of_ble_eq_true rfl)) dX1_move_26 ⟨Nat.zero_le _, Nat.zero_le _⟩) hS (fun q _ h => False.elim h) (fun q h => False.elim h) (fun r_26 u8 t8 H1 locs ht8 hvm8 hw hB hz1 hk1 hS => ?_)
        try dsimp only at hw
        have hP := dk_kept hP hk1
        generalize H1 = H at hP hS ⊢
        have hw := dk_row_in hj hw
        have hw : _ = dk_y3 O mo mb k j := hw
        subst hw
        refine lv_lload_n hx hb dX1_move_29 rfl (lv_at hl 2 rfl) ?_
        refine lv_ladd hx hb dX1_move_30 ?_
        have hKc := hK.sub (tys' := []) [] rfl
        refine va_calli (va_runS (As := [.long ((dk_y3 O mo mb k j) + v)]) (rest := []) ⟨hx, hb, hml, hown, hts⟩ (cY_isWithin l dC dI ((dk_y3 O mo mb k j) + v)) (va_cwS 1 hts gX1_move_X1_isWithin rfl rfl rfl (by decide +kernel) ⟨Nat.le_of_ble_eq_true rfl, Nat.le_of_ble_eq_true rfl⟩) (dk_rS dk_P0 hKc) rfl rfl hl.1 rfl (lv_room (Nat.le_of_ble_eq_true rfl)) dX1_move_31 ⟨Nat.zero_le _, Nat.zero_le _⟩) hS (fun q _ h => False.elim h) (fun q h => False.elim h) (fun r_31 u8 t8 H1 locs ht8 hvm8 hw hB hz1 hk1 hS => ?_)
        try dsimp only at hw
        have hP := dk_kept hP hk1
        generalize H1 = H at hP hS ⊢
        rcases hw with ⟨rfl, hw1⟩ | ⟨rfl, hw1⟩
        · refine lv_if_eq (tgt := 68) hx hb dX1_move_34 (by decide) (fun c9 => absurd c9 (by decide)) (fun _ => ?_)
          refine lv_lload_n hx hb dX1_move_37 rfl (lv_at hl 2 rfl) ?_
          refine lv_lconst (v := 0) hx hb dX1_move_38 (by decide) ?_
          refine W.lcmp hx hb dX1_move_39 ?_
          refine lv_if_ge (tgt := 54) hx hb dX1_move_40 (by decide) (fun c_40 => ?_) (fun c_40 => ?_)
          · have c_40 : (0 : Int64) ≤ v := (lg_cmp_ge _ _).mp c_40
            refine lv_aload_n hx hb dX1_move_54 rfl (lv_at hl 0 rfl) ?_
            refine lv_iload_n hx hb dX1_move_55 rfl (lv_at hl 1 rfl) ?_
            refine lv_iconst (v := 2) hx hb dX1_move_56 (by decide) ?_
            have hPc := hP
            have hKc := hK
            refine va_calll (va_runV (As := [.int (nI j), .int 2]) (rest := []) ⟨hx, hb, hml, hown, hts⟩ (cY_row l dC dI g0 a1 a2 a3 a4 i1 i2 i3 TT k (by omega) w O mo mb (nI j) 2) (cwV 2 hts gX1_move_X1_row rfl rfl rfl (by decide +kernel) ⟨Nat.le_of_ble_eq_true rfl, Nat.le_of_ble_eq_true rfl⟩) (dk_rV hPc hKc (ci := 1) (q0 := 0) rfl rfl) rfl rfl hl.1 rfl (lv_room (Nat.le_of_ble_eq_true rfl)) dX1_move_57 ⟨Nat.zero_le _, Nat.zero_le _⟩) hS (fun q _ h => False.elim h) (fun q h => False.elim h) (fun r_57 u8 t8 H1 locs ht8 hvm8 hw hB hz1 hk1 hS => ?_)
            try dsimp only at hw
            have hP := dk_kept hP hk1
            generalize H1 = H at hP hS ⊢
            have hw := dk_row_in hj hw
            have hw : _ = dk_yc mo mb (nI j) k := hw
            subst hw
            refine lv_lload_n hx hb dX1_move_60 rfl (lv_at hl 2 rfl) ?_
            refine lv_ladd hx hb dX1_move_61 ?_
            refine dk_asl (y := if v < 0 then dk_yw mo mb (nI j) k - v else dk_yc mo mb (nI j) k + v) (by rw [if_neg (dk_lge0 c_40)]) ?_
            have hKc := hK.sub (tys' := []) [] rfl
            refine va_calli (va_runS (As := [.long (if v < 0 then dk_yw mo mb (nI j) k - v else dk_yc mo mb (nI j) k + v)]) (rest := []) ⟨hx, hb, hml, hown, hts⟩ (cY_isWithin l dC dI (if v < 0 then dk_yw mo mb (nI j) k - v else dk_yc mo mb (nI j) k + v)) (va_cwS 1 hts gX1_move_X1_isWithin rfl rfl rfl (by decide +kernel) ⟨Nat.le_of_ble_eq_true rfl, Nat.le_of_ble_eq_true rfl⟩) (dk_rS dk_P0 hKc) rfl rfl hl.1 rfl (lv_room (Nat.le_of_ble_eq_true rfl)) dX1_move_62 ⟨Nat.zero_le _, Nat.zero_le _⟩) hS (fun q _ h => False.elim h) (fun q h => False.elim h) (fun r_62 u8 t8 H1 locs ht8 hvm8 hw hB hz1 hk1 hS => ?_)
            try dsimp only at hw
            have hP := dk_kept hP hk1
            generalize H1 = H at hP hS ⊢
            rcases hw with ⟨rfl, hw2⟩ | ⟨rfl, hw2⟩
            · refine lv_if_ne (tgt := 70) hx hb dX1_move_65 (by decide) (fun _ => ?_) (fun c9 => absurd c9 (by decide))
              refine lv_lload_n hx hb dX1_move_70 rfl (lv_at hl 2 rfl) ?_
              refine lv_lconst (v := 0) hx hb dX1_move_71 (by decide) ?_
              refine W.lcmp hx hb dX1_move_72 ?_
              refine lv_if_ne (tgt := 78) hx hb dX1_move_73 (by decide) (fun c_73 => ?_) (fun c_73 => ?_)
              · have c_73 : ¬ (v = (0 : Int64)) := fun q9 => c_73 ((lg_cmp_eq _ _).mpr q9)
                refine lv_aload_n hx hb dX1_move_78 rfl (lv_at hl 0 rfl) ?_
                refine va_get (D := (dC, dI)) (ci := 1) (v := .ref a2) (C := RX1) (T := TX1) (N := 7) hx hb hts hinX1 hown hK hP 0 rfl rfl 3 (by decide) (hts (.fieldLink RX1 13 "DayDeskModel" "moveOf" "[I") (by decide +kernel)) (fun _ h9 => h9) rfl dX1_move_79 ?_
                refine lv_aload_n hx hb dX1_move_82 rfl (lv_at hl 0 rfl) ?_
                refine va_get (D := (dC, dI)) (ci := 1) (v := .int (nI k)) (C := RX1) (T := TX1) (N := 7) hx hb hts hinX1 hown hK hP 0 rfl rfl 2 (by decide) (hts (.fieldLink RX1 33 "DayDeskModel" "moves" "I") (by decide +kernel)) (fun _ h9 => h9) rfl dX1_move_83 ?_
                refine lv_iload_n hx hb dX1_move_86 rfl (lv_at hl 1 rfl) ?_
                refine dk_iast hx hb hK hP hD hS 2 1 rfl rfl (j := k) (by omega) (by omega) dX1_move_87 (fun H locs hP hD hS => ?_)
                have hP : va_P (dC, dI) vwCl [(g0, .inr (1, [.long TT, .ref a1, .int (nI k), .ref a2, .ref a3, .int w, .ref a4])), (a1, .inl (i1, 200, .inr (.inl O))), (a2, .inl (i2, 520, .inl (upd mo k (nI j)))), (a3, .inl (i3, 520, .inr (.inl mb)))] H := hP
                have hD : va_D A [(g0, .inr (1, [.long TT, .ref a1, .int (nI k), .ref a2, .ref a3, .int w, .ref a4])), (a1, .inl (i1, 200, .inr (.inl O))), (a2, .inl (i2, 520, .inl (upd mo k (nI j)))), (a3, .inl (i3, 520, .inr (.inl mb)))] := hD
                refine lv_aload_n hx hb dX1_move_88 rfl (lv_at hl 0 rfl) ?_
                refine va_get (D := (dC, dI)) (ci := 1) (v := .ref a3) (C := RX1) (T := TX1) (N := 7) hx hb hts hinX1 hown hK hP 0 rfl rfl 4 (by decide) (hts (.fieldLink RX1 17 "DayDeskModel" "moveBy" "[J") (by decide +kernel)) (fun _ h9 => h9) rfl dX1_move_89 ?_
                refine lv_aload_n hx hb dX1_move_92 rfl (lv_at hl 0 rfl) ?_
                refine va_get (D := (dC, dI)) (ci := 1) (v := .int (nI k)) (C := RX1) (T := TX1) (N := 7) hx hb hts hinX1 hown hK hP 0 rfl rfl 2 (by decide) (hts (.fieldLink RX1 33 "DayDeskModel" "moves" "I") (by decide +kernel)) (fun _ h9 => h9) rfl dX1_move_93 ?_
                refine lv_lload_n hx hb dX1_move_96 rfl (lv_at hl 2 rfl) ?_
                refine dk_last hx hb hK hP hD hS 3 2 rfl rfl (j := k) (by omega) (by omega) dX1_move_97 (fun H locs hP hD hS => ?_)
                have hP : va_P (dC, dI) vwCl [(g0, .inr (1, [.long TT, .ref a1, .int (nI k), .ref a2, .ref a3, .int w, .ref a4])), (a1, .inl (i1, 200, .inr (.inl O))), (a2, .inl (i2, 520, .inl (upd mo k (nI j)))), (a3, .inl (i3, 520, .inr (.inl (vp_updL mb k v))))] H := hP
                have hD : va_D A [(g0, .inr (1, [.long TT, .ref a1, .int (nI k), .ref a2, .ref a3, .int w, .ref a4])), (a1, .inl (i1, 200, .inr (.inl O))), (a2, .inl (i2, 520, .inl (upd mo k (nI j)))), (a3, .inl (i3, 520, .inr (.inl (vp_updL mb k v))))] := hD
                refine lv_aload_n hx hb dX1_move_98 rfl (lv_at hl 0 rfl) ?_
                refine lv_dup hx hb dX1_move_99 rfl ?_
                refine va_get (D := (dC, dI)) (ci := 1) (v := .int (nI k)) (C := RX1) (T := TX1) (N := 7) hx hb hts hinX1 hown hK hP 0 rfl rfl 2 (by decide) (hts (.fieldLink RX1 33 "DayDeskModel" "moves" "I") (by decide +kernel)) (fun _ h9 => h9) rfl dX1_move_100 ?_
                refine lv_iconst (v := 1) hx hb dX1_move_103 (by decide) ?_
                refine lv_iadd hx hb dX1_move_104 ?_
                refine dk_asi (y := nI (k + 1)) (nI_add k 1) ?_
                refine va_put (D := (dC, dI)) (ci := 1) (v := .int (nI (k + 1))) (ty := .int) (C := RX1) (T := TX1) (N := 7) hx hb hts hinX1 tyX1 tyX1_ok nmX1 hown hK hP hD hS 0 rfl rfl 2 (by decide) (hts (.fieldLink RX1 33 "DayDeskModel" "moves" "I") (by decide +kernel)) (fun _ h9 => h9) rfl (by decide +kernel) rfl rfl (Nat.le_of_ble_eq_true rfl) dX1_move_105 (fun H locs hP hD hS => ?_)
                have hP : va_P (dC, dI) vwCl [(g0, .inr (1, [.long TT, .ref a1, .int (nI (k + 1)), .ref a2, .ref a3, .int w, .ref a4])), (a1, .inl (i1, 200, .inr (.inl O))), (a2, .inl (i2, 520, .inl (upd mo k (nI j)))), (a3, .inl (i3, 520, .inr (.inl (vp_updL mb k v))))] H := hP
                have hD : va_D A [(g0, .inr (1, [.long TT, .ref a1, .int (nI (k + 1)), .ref a2, .ref a3, .int w, .ref a4])), (a1, .inl (i1, 200, .inr (.inl O))), (a2, .inl (i2, 520, .inl (upd mo k (nI j)))), (a3, .inl (i3, 520, .inr (.inl (vp_updL mb k v))))] := hD
                refine lv_iconst (v := 1) hx hb dX1_move_108 (by decide) ?_
                exact W.iret (v := 1) hx hb hr (fun z8 hz8 hW8 => ⟨⟨1, (k + 1, upd mo k (nI j), vp_updL mb k v), rfl, Or.inr (Or.inr ⟨rfl, j, hj, rfl, c_73, ⟨⟨dk_lnl c_12, dk_lnl c_20⟩, hw1, hw2⟩, rfl, rfl, rfl⟩), by rw [hz8]; exact hP, hD⟩, hS.F hz8⟩) hS.2.2 dX1_move_109
              · have c_73 : v = (0 : Int64) := (lg_cmp_eq _ _).mp c_73
                refine lv_iconst (v := 0) hx hb dX1_move_76 (by decide) ?_
                exact W.iret (v := 0) hx hb hr (fun z8 hz8 hW8 => ⟨⟨0, (k, mo, mb), rfl, Or.inr (Or.inl ⟨rfl, rfl, rfl, rfl, c_73, j, hj, rfl, ⟨⟨dk_lnl c_12, dk_lnl c_20⟩, hw1, hw2⟩⟩), by rw [hz8]; exact hP, hD⟩, hS.F hz8⟩) hS.2.2 dX1_move_77
            · refine lv_if_ne (tgt := 70) hx hb dX1_move_65 (by decide) (fun c9 => absurd (by decide) c9) (fun _ => ?_)
              refine lv_iconst (v := (-1)) hx hb dX1_move_68 (by decide) ?_
              exact W.iret (v := (-1)) hx hb hr (fun z8 hz8 hW8 => ⟨⟨(-1), (k, mo, mb), rfl, Or.inl ⟨rfl, rfl, rfl, rfl, Or.inr ⟨j, hj, rfl, fun q9 => hw2 q9.2.2⟩⟩, by rw [hz8]; exact hP, hD⟩, hS.F hz8⟩) hS.2.2 dX1_move_69
          · have c_40 : ¬ ((0 : Int64) ≤ v) := fun q9 => c_40 ((lg_cmp_ge _ _).mpr q9)
            refine lv_aload_n hx hb dX1_move_43 rfl (lv_at hl 0 rfl) ?_
            refine lv_iload_n hx hb dX1_move_44 rfl (lv_at hl 1 rfl) ?_
            refine lv_iconst (v := 1) hx hb dX1_move_45 (by decide) ?_
            have hPc := hP
            have hKc := hK
            refine va_calll (va_runV (As := [.int (nI j), .int 1]) (rest := []) ⟨hx, hb, hml, hown, hts⟩ (cY_row l dC dI g0 a1 a2 a3 a4 i1 i2 i3 TT k (by omega) w O mo mb (nI j) 1) (cwV 2 hts gX1_move_X1_row rfl rfl rfl (by decide +kernel) ⟨Nat.le_of_ble_eq_true rfl, Nat.le_of_ble_eq_true rfl⟩) (dk_rV hPc hKc (ci := 1) (q0 := 0) rfl rfl) rfl rfl hl.1 rfl (lv_room (Nat.le_of_ble_eq_true rfl)) dX1_move_46 ⟨Nat.zero_le _, Nat.zero_le _⟩) hS (fun q _ h => False.elim h) (fun q h => False.elim h) (fun r_46 u8 t8 H1 locs ht8 hvm8 hw hB hz1 hk1 hS => ?_)
            try dsimp only at hw
            have hP := dk_kept hP hk1
            generalize H1 = H at hP hS ⊢
            have hw := dk_row_in hj hw
            have hw : _ = dk_yw mo mb (nI j) k := hw
            subst hw
            refine lv_lload_n hx hb dX1_move_49 rfl (lv_at hl 2 rfl) ?_
            refine lv_lsub hx hb dX1_move_50 ?_
            refine lv_goto (tgt := 62) hx hb dX1_move_51 (by decide) ?_
            refine dk_asl (y := if v < 0 then dk_yw mo mb (nI j) k - v else dk_yc mo mb (nI j) k + v) (by rw [if_pos (dk_llt0 c_40)]) ?_
            have hKc := hK.sub (tys' := []) [] rfl
            refine va_calli (va_runS (As := [.long (if v < 0 then dk_yw mo mb (nI j) k - v else dk_yc mo mb (nI j) k + v)]) (rest := []) ⟨hx, hb, hml, hown, hts⟩ (cY_isWithin l dC dI (if v < 0 then dk_yw mo mb (nI j) k - v else dk_yc mo mb (nI j) k + v)) (va_cwS 1 hts gX1_move_X1_isWithin rfl rfl rfl (by decide +kernel) ⟨Nat.le_of_ble_eq_true rfl, Nat.le_of_ble_eq_true rfl⟩) (dk_rS dk_P0 hKc) rfl rfl hl.1 rfl (lv_room (Nat.le_of_ble_eq_true rfl)) dX1_move_62 ⟨Nat.zero_le _, Nat.zero_le _⟩) hS (fun q _ h => False.elim h) (fun q h => False.elim h) (fun r_62 u8 t8 H1 locs ht8 hvm8 hw hB hz1 hk1 hS => ?_)
            try dsimp only at hw
            have hP := dk_kept hP hk1
            generalize H1 = H at hP hS ⊢
            rcases hw with ⟨rfl, hw2⟩ | ⟨rfl, hw2⟩
            · refine lv_if_ne (tgt := 70) hx hb dX1_move_65 (by decide) (fun _ => ?_) (fun c9 => absurd c9 (by decide))
              refine lv_lload_n hx hb dX1_move_70 rfl (lv_at hl 2 rfl) ?_
              refine lv_lconst (v := 0) hx hb dX1_move_71 (by decide) ?_
              refine W.lcmp hx hb dX1_move_72 ?_
              refine lv_if_ne (tgt := 78) hx hb dX1_move_73 (by decide) (fun c_73 => ?_) (fun c_73 => ?_)
              · have c_73 : ¬ (v = (0 : Int64)) := fun q9 => c_73 ((lg_cmp_eq _ _).mpr q9)
                refine lv_aload_n hx hb dX1_move_78 rfl (lv_at hl 0 rfl) ?_
                refine va_get (D := (dC, dI)) (ci := 1) (v := .ref a2) (C := RX1) (T := TX1) (N := 7) hx hb hts hinX1 hown hK hP 0 rfl rfl 3 (by decide) (hts (.fieldLink RX1 13 "DayDeskModel" "moveOf" "[I") (by decide +kernel)) (fun _ h9 => h9) rfl dX1_move_79 ?_
                refine lv_aload_n hx hb dX1_move_82 rfl (lv_at hl 0 rfl) ?_
                refine va_get (D := (dC, dI)) (ci := 1) (v := .int (nI k)) (C := RX1) (T := TX1) (N := 7) hx hb hts hinX1 hown hK hP 0 rfl rfl 2 (by decide) (hts (.fieldLink RX1 33 "DayDeskModel" "moves" "I") (by decide +kernel)) (fun _ h9 => h9) rfl dX1_move_83 ?_
                refine lv_iload_n hx hb dX1_move_86 rfl (lv_at hl 1 rfl) ?_
                refine dk_iast hx hb hK hP hD hS 2 1 rfl rfl (j := k) (by omega) (by omega) dX1_move_87 (fun H locs hP hD hS => ?_)
                have hP : va_P (dC, dI) vwCl [(g0, .inr (1, [.long TT, .ref a1, .int (nI k), .ref a2, .ref a3, .int w, .ref a4])), (a1, .inl (i1, 200, .inr (.inl O))), (a2, .inl (i2, 520, .inl (upd mo k (nI j)))), (a3, .inl (i3, 520, .inr (.inl mb)))] H := hP
                have hD : va_D A [(g0, .inr (1, [.long TT, .ref a1, .int (nI k), .ref a2, .ref a3, .int w, .ref a4])), (a1, .inl (i1, 200, .inr (.inl O))), (a2, .inl (i2, 520, .inl (upd mo k (nI j)))), (a3, .inl (i3, 520, .inr (.inl mb)))] := hD
                refine lv_aload_n hx hb dX1_move_88 rfl (lv_at hl 0 rfl) ?_
                refine va_get (D := (dC, dI)) (ci := 1) (v := .ref a3) (C := RX1) (T := TX1) (N := 7) hx hb hts hinX1 hown hK hP 0 rfl rfl 4 (by decide) (hts (.fieldLink RX1 17 "DayDeskModel" "moveBy" "[J") (by decide +kernel)) (fun _ h9 => h9) rfl dX1_move_89 ?_
                refine lv_aload_n hx hb dX1_move_92 rfl (lv_at hl 0 rfl) ?_
                refine va_get (D := (dC, dI)) (ci := 1) (v := .int (nI k)) (C := RX1) (T := TX1) (N := 7) hx hb hts hinX1 hown hK hP 0 rfl rfl 2 (by decide) (hts (.fieldLink RX1 33 "DayDeskModel" "moves" "I") (by decide +kernel)) (fun _ h9 => h9) rfl dX1_move_93 ?_
                refine lv_lload_n hx hb dX1_move_96 rfl (lv_at hl 2 rfl) ?_
                refine dk_last hx hb hK hP hD hS 3 2 rfl rfl (j := k) (by omega) (by omega) dX1_move_97 (fun H locs hP hD hS => ?_)
                have hP : va_P (dC, dI) vwCl [(g0, .inr (1, [.long TT, .ref a1, .int (nI k), .ref a2, .ref a3, .int w, .ref a4])), (a1, .inl (i1, 200, .inr (.inl O))), (a2, .inl (i2, 520, .inl (upd mo k (nI j)))), (a3, .inl (i3, 520, .inr (.inl (vp_updL mb k v))))] H := hP
                have hD : va_D A [(g0, .inr (1, [.long TT, .ref a1, .int (nI k), .ref a2, .ref a3, .int w, .ref a4])), (a1, .inl (i1, 200, .inr (.inl O))), (a2, .inl (i2, 520, .inl (upd mo k (nI j)))), (a3, .inl (i3, 520, .inr (.inl (vp_updL mb k v))))] := hD
                refine lv_aload_n hx hb dX1_move_98 rfl (lv_at hl 0 rfl) ?_
                refine lv_dup hx hb dX1_move_99 rfl ?_
                refine va_get (D := (dC, dI)) (ci := 1) (v := .int (nI k)) (C := RX1) (T := TX1) (N := 7) hx hb hts hinX1 hown hK hP 0 rfl rfl 2 (by decide) (hts (.fieldLink RX1 33 "DayDeskModel" "moves" "I") (by decide +kernel)) (fun _ h9 => h9) rfl dX1_move_100 ?_
                refine lv_iconst (v := 1) hx hb dX1_move_103 (by decide) ?_
                refine lv_iadd hx hb dX1_move_104 ?_
                refine dk_asi (y := nI (k + 1)) (nI_add k 1) ?_
                refine va_put (D := (dC, dI)) (ci := 1) (v := .int (nI (k + 1))) (ty := .int) (C := RX1) (T := TX1) (N := 7) hx hb hts hinX1 tyX1 tyX1_ok nmX1 hown hK hP hD hS 0 rfl rfl 2 (by decide) (hts (.fieldLink RX1 33 "DayDeskModel" "moves" "I") (by decide +kernel)) (fun _ h9 => h9) rfl (by decide +kernel) rfl rfl (Nat.le_of_ble_eq_true rfl) dX1_move_105 (fun H locs hP hD hS => ?_)
                have hP : va_P (dC, dI) vwCl [(g0, .inr (1, [.long TT, .ref a1, .int (nI (k + 1)), .ref a2, .ref a3, .int w, .ref a4])), (a1, .inl (i1, 200, .inr (.inl O))), (a2, .inl (i2, 520, .inl (upd mo k (nI j)))), (a3, .inl (i3, 520, .inr (.inl (vp_updL mb k v))))] H := hP
                have hD : va_D A [(g0, .inr (1, [.long TT, .ref a1, .int (nI (k + 1)), .ref a2, .ref a3, .int w, .ref a4])), (a1, .inl (i1, 200, .inr (.inl O))), (a2, .inl (i2, 520, .inl (upd mo k (nI j)))), (a3, .inl (i3, 520, .inr (.inl (vp_updL mb k v))))] := hD
                refine lv_iconst (v := 1) hx hb dX1_move_108 (by decide) ?_
                exact W.iret (v := 1) hx hb hr (fun z8 hz8 hW8 => ⟨⟨1, (k + 1, upd mo k (nI j), vp_updL mb k v), rfl, Or.inr (Or.inr ⟨rfl, j, hj, rfl, c_73, ⟨⟨dk_lnl c_12, dk_lnl c_20⟩, hw1, hw2⟩, rfl, rfl, rfl⟩), by rw [hz8]; exact hP, hD⟩, hS.F hz8⟩) hS.2.2 dX1_move_109
              · have c_73 : v = (0 : Int64) := (lg_cmp_eq _ _).mp c_73
                refine lv_iconst (v := 0) hx hb dX1_move_76 (by decide) ?_
                exact W.iret (v := 0) hx hb hr (fun z8 hz8 hW8 => ⟨⟨0, (k, mo, mb), rfl, Or.inr (Or.inl ⟨rfl, rfl, rfl, rfl, c_73, j, hj, rfl, ⟨⟨dk_lnl c_12, dk_lnl c_20⟩, hw1, hw2⟩⟩), by rw [hz8]; exact hP, hD⟩, hS.F hz8⟩) hS.2.2 dX1_move_77
            · refine lv_if_ne (tgt := 70) hx hb dX1_move_65 (by decide) (fun c9 => absurd (by decide) c9) (fun _ => ?_)
              refine lv_iconst (v := (-1)) hx hb dX1_move_68 (by decide) ?_
              exact W.iret (v := (-1)) hx hb hr (fun z8 hz8 hW8 => ⟨⟨(-1), (k, mo, mb), rfl, Or.inl ⟨rfl, rfl, rfl, rfl, Or.inr ⟨j, hj, rfl, fun q9 => hw2 q9.2.2⟩⟩, by rw [hz8]; exact hP, hD⟩, hS.F hz8⟩) hS.2.2 dX1_move_69
        · refine lv_if_eq (tgt := 68) hx hb dX1_move_34 (by decide) (fun _ => ?_) (fun c9 => absurd (by decide) c9)
          refine lv_iconst (v := (-1)) hx hb dX1_move_68 (by decide) ?_
          exact W.iret (v := (-1)) hx hb hr (fun z8 hz8 hW8 => ⟨⟨(-1), (k, mo, mb), rfl, Or.inl ⟨rfl, rfl, rfl, rfl, Or.inr ⟨j, hj, rfl, fun q9 => hw1 q9.2.1⟩⟩, by rw [hz8]; exact hP, hD⟩, hS.F hz8⟩) hS.2.2 dX1_move_69
  · refine lv_if_eq (tgt := 68) hx hb dX1_move_4 (by decide) (fun _ => ?_) (fun c9 => absurd (by decide) c9)
    refine lv_iconst (v := (-1)) hx hb dX1_move_68 (by decide) ?_
    exact W.iret (v := (-1)) hx hb hr (fun z8 hz8 hW8 => ⟨⟨(-1), (k, mo, mb), rfl, Or.inl ⟨rfl, rfl, rfl, rfl, Or.inl hno⟩, by rw [hz8]; exact hP, hD⟩, hS.F hz8⟩) hS.2.2 dX1_move_69
end
section
set_option maxHeartbeats 4000000 in
set_option maxRecDepth 100000 in
/-- put -/
theorem cY_put (l : Launch) (dC : Nat → ClassId) (dI : Nat → Nat → Nat) (sz : Nat) (g0 a1 a2 a3 a4 : Nat) (i4 : ClassId) (TT : Int64) (kk : Int32) (n : Nat) (hn9 : n < 104) (tx : Nat → Int32) (ch : Nat) : Met l yX1_put wsX1_put ({ frames := 0, cells := 0, slots := 0, locals := 0 }) (dk_Pw [.ref g0, .int (nI ch)] (dC, dI) vwCl [(i4, .int)] [(g0, .inr (1, [.long TT, .ref a1, .int kk, .ref a2, .ref a3, .int (nI n), .ref a4])), (a4, .inl (i4, 120, .inl tx))] sz) (va_Qv (fun (_ : Unit) => True) (fun (_ : Unit) z8 => dk_B (dC, dI) vwCl (va_A [(g0, .inr (1, [.long TT, .ref a1, .int kk, .ref a2, .ref a3, .int (nI n), .ref a4])), (a4, .inl (i4, 120, .inl tx))] sz) [(g0, .inr (1, [.long TT, .ref a1, .int kk, .ref a2, .ref a3, .int (nI (n + 1)), .ref a4])), (a4, .inl (i4, 120, .inl (upd tx n (nI ch))))] z8) (va_A [(g0, .inr (1, [.long TT, .ref a1, .int kk, .ref a2, .ref a3, .int (nI n), .ref a4])), (a4, .inl (i4, 120, .inl tx))] sz)) 0 0 (va_A [(g0, .inr (1, [.long TT, .ref a1, .int kk, .ref a2, .ref a3, .int (nI n), .ref a4])), (a4, .inl (i4, 120, .inl tx))] sz) := by
  refine Met.ofW (cc := cX1_put) (maxL := 2) (ret := none) (by decide) rfl ?_
  intro p e s m args below meth c s₁ B hml hv
  obtain ⟨rfl, hsz, hP, hK, hD0⟩ := hv
  have hx := B.exec
  have hb := B.bytes
  have hr := B.returns
  have hts := atoms_spec (ws := wsX1_put) B.pre
  have hown : s.vm.findClass RX1 = some m.cls := findClass_of_methodNamed B.named
  have hlocks := B.notSynchronized
  have hinX1 : ∀ w ∈ wsX10, w ∈ wsX1_put := by decide +kernel
  subst hsz
  have hD := hD0.self (sz := s.heap.size)
  generalize hAe : va_A [(g0, .inr (1, [.long TT, .ref a1, .int kk, .ref a2, .ref a3, .int (nI n), .ref a4])), (a4, .inl (i4, 120, .inl tx))] s.heap.size = A at hD ⊢
  have hA : ∀ q : Nat, s.heap.size ≤ q → A q := fun q h => by rw [← hAe]; exact Or.inr h
  have hS : va_S A s.heap s.heap [] := va_S.rf
  have hl := lv_entry ([.ref g0, .int (nI ch)]) (n := 2) (Nat.le_of_ble_eq_true rfl)
  rw [lg_entry_eq]
  generalize (lg_sl ([.ref g0, .int (nI ch)]) ++ List.replicate (2 - (lg_sl ([.ref g0, .int (nI ch)])).length) Slot.unset).toArray = ls at hl ⊢
  have hl : lv_has ls 2 [(0, .ref g0), (1, .int (nI ch))] := hl
  refine lv_aload_n hx hb dX1_put_0 rfl (lv_at hl 0 rfl) ?_
  refine va_get (D := (dC, dI)) (ci := 1) (v := .ref a4) (C := RX1) (T := TX1) (N := 7) hx hb hts hinX1 hown hK hP 0 rfl rfl 6 (by decide) (hts (.fieldLink RX1 20 "DayDeskModel" "text" "[I") (by decide +kernel)) (fun _ h9 => h9) rfl dX1_put_1 ?_
  refine lv_aload_n hx hb dX1_put_4 rfl (lv_at hl 0 rfl) ?_
  refine va_get (D := (dC, dI)) (ci := 1) (v := .int (nI n)) (C := RX1) (T := TX1) (N := 7) hx hb hts hinX1 hown hK hP 0 rfl rfl 5 (by decide) (hts (.fieldLink RX1 71 "DayDeskModel" "written" "I") (by decide +kernel)) (fun _ h9 => h9) rfl dX1_put_5 ?_
  refine lv_iload_n hx hb dX1_put_8 rfl (lv_at hl 1 rfl) ?_
  refine dk_iast hx hb hK hP hD hS 1 0 rfl rfl (j := n) (by omega) (by omega) dX1_put_9 (fun H locs hP hD hS => ?_)
  have hP : va_P (dC, dI) vwCl [(g0, .inr (1, [.long TT, .ref a1, .int kk, .ref a2, .ref a3, .int (nI n), .ref a4])), (a4, .inl (i4, 120, .inl (upd tx n (nI ch))))] H := hP
  have hD : va_D A [(g0, .inr (1, [.long TT, .ref a1, .int kk, .ref a2, .ref a3, .int (nI n), .ref a4])), (a4, .inl (i4, 120, .inl (upd tx n (nI ch))))] := hD
  refine lv_aload_n hx hb dX1_put_10 rfl (lv_at hl 0 rfl) ?_
  refine lv_dup hx hb dX1_put_11 rfl ?_
  refine va_get (D := (dC, dI)) (ci := 1) (v := .int (nI n)) (C := RX1) (T := TX1) (N := 7) hx hb hts hinX1 hown hK hP 0 rfl rfl 5 (by decide) (hts (.fieldLink RX1 71 "DayDeskModel" "written" "I") (by decide +kernel)) (fun _ h9 => h9) rfl dX1_put_12 ?_
  refine lv_iconst (v := 1) hx hb dX1_put_15 (by decide) ?_
  refine lv_iadd hx hb dX1_put_16 ?_
  refine dk_asi (y := nI (n + 1)) (nI_add n 1) ?_
  refine va_put (D := (dC, dI)) (ci := 1) (v := .int (nI (n + 1))) (ty := .int) (C := RX1) (T := TX1) (N := 7) hx hb hts hinX1 tyX1 tyX1_ok nmX1 hown hK hP hD hS 0 rfl rfl 5 (by decide) (hts (.fieldLink RX1 71 "DayDeskModel" "written" "I") (by decide +kernel)) (fun _ h9 => h9) rfl (by decide +kernel) rfl rfl (Nat.le_of_ble_eq_true rfl) dX1_put_17 (fun H locs hP hD hS => ?_)
  have hP : va_P (dC, dI) vwCl [(g0, .inr (1, [.long TT, .ref a1, .int kk, .ref a2, .ref a3, .int (nI (n + 1)), .ref a4])), (a4, .inl (i4, 120, .inl (upd tx n (nI ch))))] H := hP
  have hD : va_D A [(g0, .inr (1, [.long TT, .ref a1, .int kk, .ref a2, .ref a3, .int (nI (n + 1)), .ref a4])), (a4, .inl (i4, 120, .inl (upd tx n (nI ch))))] := hD
  exact W.vret hx hb hr (fun z8 hz8 hW8 => ⟨⟨(), rfl, trivial, by rw [hz8]; exact hP, hD⟩, hS.F hz8⟩) hS.2.2 dX1_put_20
set_option maxHeartbeats 4000000 in
set_option maxRecDepth 100000 in
/-- number -/
theorem cY_number (l : Launch) (dC : Nat → ClassId) (dI : Nat → Nat → Nat) (sz : Nat) (g0 a1 a2 a3 a4 : Nat) (i4 : ClassId) (TT : Int64) (kk : Int32) (n : Nat) (tx : Nat → Int32) (v : Int64) (hn9 : n + (dk_num v).length ≤ 104) : Met l yX1_number wsX1_number ({ frames := 1, cells := 0, slots := 0, locals := 21 }) (dk_Pw [.ref g0, .long v] (dC, dI) vwCl [(i4, .int)] [(g0, .inr (1, [.long TT, .ref a1, .int kk, .ref a2, .ref a3, .int (nI n), .ref a4])), (a4, .inl (i4, 120, .inl tx))] sz) (va_Qv (fun (_ : Unit) => True) (fun (_ : Unit) z8 => dk_B (dC, dI) vwCl (va_A [(g0, .inr (1, [.long TT, .ref a1, .int kk, .ref a2, .ref a3, .int (nI n), .ref a4])), (a4, .inl (i4, 120, .inl tx))] sz) [(g0, .inr (1, [.long TT, .ref a1, .int kk, .ref a2, .ref a3, .int (nI (n + (dk_num v).length)), .ref a4])), (a4, .inl (i4, 120, .inl (dk_ap tx n (dk_num v))))] z8) (va_A [(g0, .inr (1, [.long TT, .ref a1, .int kk, .ref a2, .ref a3, .int (nI n), .ref a4])), (a4, .inl (i4, 120, .inl tx))] sz)) 0 0 (va_A [(g0, .inr (1, [.long TT, .ref a1, .int kk, .ref a2, .ref a3, .int (nI n), .ref a4])), (a4, .inl (i4, 120, .inl tx))] sz) := by
  refine Met.ofW (cc := cX1_number) (maxL := 9) (ret := none) (by decide) rfl ?_
  intro p e s m args below meth c s₁ B hml hv
  obtain ⟨rfl, hsz, hP, hK, hD0⟩ := hv
  have hx := B.exec
  have hb := B.bytes
  have hr := B.returns
  have hts := atoms_spec (ws := wsX1_number) B.pre
  have hown : s.vm.findClass RX1 = some m.cls := findClass_of_methodNamed B.named
  have hlocks := B.notSynchronized
  subst hsz
  have hD := hD0.self (sz := s.heap.size)
  generalize hAe : va_A [(g0, .inr (1, [.long TT, .ref a1, .int kk, .ref a2, .ref a3, .int (nI n), .ref a4])), (a4, .inl (i4, 120, .inl tx))] s.heap.size = A at hD ⊢
  have hA : ∀ q : Nat, s.heap.size ≤ q → A q := fun q h => by rw [← hAe]; exact Or.inr h
  have hS : va_S A s.heap s.heap [] := va_S.rf
  have hl := lv_entry ([.ref g0, .long v]) (n := 9) (Nat.le_of_ble_eq_true rfl)
  rw [lg_entry_eq]
  generalize (lg_sl ([.ref g0, .long v]) ++ List.replicate (9 - (lg_sl ([.ref g0, .long v])).length) Slot.unset).toArray = ls at hl ⊢
  have hl : lv_has ls 9 [(0, .ref g0), (1, .long v)] := hl
  obtain ⟨z, hz⟩ : ∃ z : Nat, z = v.toInt.natAbs := ⟨_, rfl⟩
  have hz19 : z < 10 ^ 19 := by rw [hz]; exact dk_z19 v
  obtain ⟨FL, hFL⟩ : ∃ FL : Nat → Int32, FL = dk_ap tx n (dk_num v) := ⟨_, rfl⟩
  obtain ⟨NN, hNN⟩ : ∃ NN : Nat, NN = n + (dk_num v).length := ⟨_, rfl⟩
  have inner : ∀ (D q i : Nat) (f : Nat → Int32) (H : Heap) (locs : List Loc), q < 19 → va_P (dC, dI) vwCl [(g0, .inr (1, [.long TT, .ref a1, .int kk, .ref a2, .ref a3, .int (nI i), .ref a4])), (a4, .inl (i4, 120, .inl f))] H → va_D A [(g0, .inr (1, [.long TT, .ref a1, .int kk, .ref a2, .ref a3, .int (nI i), .ref a4])), (a4, .inl (i4, 120, .inl f))] → va_S A s.heap H locs → (∀ (rs : Int64) (ls : Array Slot), rs.toInt.natAbs = z / 10 ^ q → lv_has ls 9 [(7, .int (nI q)), (5, .long rs), (4, .int (nI q)), (3, .int (nI D)), (0, .ref g0), (1, .long v)] → W p l e (headSpec wsX1_number ({ frames := 1, cells := 0, slots := 0, locals := 21 })).room s m ([.ref g0, .long v] : List Value).toArray below meth c H locs 0 0 (MQ below (va_Qv (fun (_ : Unit) => True) (fun (_ : Unit) z8 => dk_B (dC, dI) vwCl A [(g0, .inr (1, [.long TT, .ref a1, .int kk, .ref a2, .ref a3, .int (nI (n + (dk_num v).length)), .ref a4])), (a4, .inl (i4, 120, .inl (dk_ap tx n (dk_num v))))] z8) A) ([.ref g0, .long v] : List Value).toArray s 0 0 A) (F0 m 79 ls [])) → ∀ (g b : Nat) (rs : Int64) (ls : Array Slot), b ≤ q → q + 1 ≤ b + g → rs.toInt.natAbs = z / 10 ^ b → lv_has ls 9 [(7, .int (nI b)), (5, .long rs), (4, .int (nI q)), (3, .int (nI D)), (0, .ref g0), (1, .long v)] → W p l e (headSpec wsX1_number ({ frames := 1, cells := 0, slots := 0, locals := 21 })).room s m ([.ref g0, .long v] : List Value).toArray below meth c H locs 0 0 (MQ below (va_Qv (fun (_ : Unit) => True) (fun (_ : Unit) z8 => dk_B (dC, dI) vwCl A [(g0, .inr (1, [.long TT, .ref a1, .int kk, .ref a2, .ref a3, .int (nI (n + (dk_num v).length)), .ref a4])), (a4, .inl (i4, 120, .inl (dk_ap tx n (dk_num v))))] z8) A) ([.ref g0, .long v] : List Value).toArray s 0 0 A) (F0 m 58 ls []) := by
    intro D q i f H locs hq hP hD hS kk9 g
    induction g with
    | zero => intro b rs ls h1 h2; exact absurd h2 (by omega)
    | succ g ih =>
      intro b rs ls hb9 hg hrs hl
      refine lv_iload hx hb dX1_number_58 (lv_at hl 0 rfl) ?_
      refine lv_iload hx hb dX1_number_60 (lv_at hl 2 rfl) ?_
      refine dk_icmp_ge (x := b) (y := q) (tgt := 79) hx hb dX1_number_62 (by decide) (by omega) (by omega) (fun c_62 => ?_) (fun c_62 => ?_)
      · have e9 : b = q := by omega
        subst e9
        exact kk9 rs ls hrs hl
      · refine lv_lload hx hb dX1_number_65 (lv_at hl 1 rfl) ?_
        refine lv_ldc2 (v := lN 10) hx hb hown (hts (.constantLong RX1 78 (lN 10)) (by decide +kernel)) dX1_number_67 ?_
        refine lv_ldiv hx hb dX1_number_70 (by decide) ?_
        refine lv_lstore (lv' := [(5, .long (rs / (lN 10))), (7, .int (nI b)), (4, .int (nI q)), (3, .int (nI D)), (0, .ref g0), (1, .long v)]) hx hb dX1_number_71 hl (by decide) rfl (fun ls hl => ?_)
        refine lv_iinc (v := nI (b + 1)) (lv' := [(7, .int (nI (b + 1))), (5, .long (rs / (lN 10))), (4, .int (nI q)), (3, .int (nI D)), (0, .ref g0), (1, .long v)]) hx hb dX1_number_73 hl (k := 1) rfl (by rw [show Int32.ofInt 1 = nI 1 from by decide]; exact nI_add b 1) (by decide) rfl (fun ls hl => ?_)
        refine lv_goto (tgt := 58) hx hb dX1_number_76 (by decide) ?_
        exact ih (b + 1) (rs / lN 10) ls (by omega) (by omega) (by rw [dk_dv, hrs, dk_divs]) (lv_sub hl [0, 1, 2, 3, 4, 5] rfl)
  have outer : ∀ (D q i : Nat) (f : Nat → Int32), q ≤ 19 → i + (dk_dd q z).length = NN → NN ≤ 104 → dk_ap f i (dk_dd q z) = FL → ∀ (H : Heap) (locs : List Loc), va_P (dC, dI) vwCl [(g0, .inr (1, [.long TT, .ref a1, .int kk, .ref a2, .ref a3, .int (nI i), .ref a4])), (a4, .inl (i4, 120, .inl f))] H → va_D A [(g0, .inr (1, [.long TT, .ref a1, .int kk, .ref a2, .ref a3, .int (nI i), .ref a4])), (a4, .inl (i4, 120, .inl f))] → va_S A s.heap H locs → ∀ ls : Array Slot, lv_has ls 9 [(4, .int (nI q + (-1))), (3, .int (nI D)), (0, .ref g0), (1, .long v)] → W p l e (headSpec wsX1_number ({ frames := 1, cells := 0, slots := 0, locals := 21 })).room s m ([.ref g0, .long v] : List Value).toArray below meth c H locs 0 0 (MQ below (va_Qv (fun (_ : Unit) => True) (fun (_ : Unit) z8 => dk_B (dC, dI) vwCl A [(g0, .inr (1, [.long TT, .ref a1, .int kk, .ref a2, .ref a3, .int (nI (n + (dk_num v).length)), .ref a4])), (a4, .inl (i4, 120, .inl (dk_ap tx n (dk_num v))))] z8) A) ([.ref g0, .long v] : List Value).toArray s 0 0 A) (F0 m 47 ls []) := by
    intro D q
    induction q with
    | zero =>
      intro i f hq hlen h104 hap H locs hP hD hS ls hl
      refine lv_iload hx hb dX1_number_47 (lv_at hl 0 rfl) ?_
      refine lv_if_lt (tgt := 116) hx hb dX1_number_49 (by decide) (fun c_49 => ?_) (fun c_49 => ?_)
      · have e1 : i = n + (dk_num v).length := by rw [dk_dd_len] at hlen; omega
        have e2 : f = dk_ap tx n (dk_num v) := by rw [← hFL, ← hap]; rfl
        rw [e1, e2] at hP hD
        exact W.vret hx hb hr (fun z8 hz8 hW8 => ⟨⟨(), rfl, trivial, by rw [hz8]; exact hP, hD⟩, hS.F hz8⟩) hS.2.2 dX1_number_116
      · exact absurd (by decide) c_49
    | succ q ih =>
      intro i f hq hlen h104 hap H locs hP hD hS ls hl
      rw [pk_m1] at hl
      have hl2 := dk_dd_len q z
      rw [dk_dd_len] at hlen
      have hdig : dk_dd (q + 1) z = (48 + z / 10 ^ q % 10) :: dk_dd q z := rfl
      rw [hdig, dk_ap_cons] at hap
      refine lv_iload hx hb dX1_number_47 (lv_at hl 0 rfl) ?_
      refine dk_if_lt (x := q) (tgt := 116) hx hb dX1_number_49 (by decide) (by omega) ?_
      refine lv_lload_n hx hb dX1_number_52 rfl (lv_at hl 3 rfl) ?_
      refine lv_lstore (lv' := [(5, .long v), (4, .int (nI q)), (3, .int (nI D)), (0, .ref g0), (1, .long v)]) hx hb dX1_number_53 hl (by decide) rfl (fun ls hl => ?_)
      refine lv_iconst (v := nI 0) hx hb dX1_number_55 (by decide) ?_
      refine lv_istore (lv' := [(7, .int (nI 0)), (5, .long v), (4, .int (nI q)), (3, .int (nI D)), (0, .ref g0), (1, .long v)]) hx hb dX1_number_56 hl (by decide) rfl (fun ls hl => ?_)
      refine inner D q i f H locs (by omega) hP hD hS (fun rs ls hrs hl => ?_) (q + 1) 0 v ls (by omega) (by omega) (by rw [Nat.pow_zero, Nat.div_one, hz]) (lv_sub hl [0, 1, 2, 3, 4, 5] rfl)
      have hdg := dk_rm rs
      rw [hrs] at hdg
      obtain ⟨dg, hdg9⟩ : ∃ dg : Int64, dg = rs - rs / lN 10 * lN 10 := ⟨_, rfl⟩
      rw [← hdg9] at hdg
      refine lv_lload hx hb dX1_number_79 (lv_at hl 1 rfl) ?_
      refine lv_ldc2 (v := lN 10) hx hb hown (hts (.constantLong RX1 78 (lN 10)) (by decide +kernel)) dX1_number_81 ?_
      refine lv_lrem hx hb dX1_number_84 (by decide) ?_
      refine dk_asl (y := dg) (hdg9.symm) ?_
      refine lv_lstore (lv' := [(7, .long dg), (5, .long rs), (4, .int (nI q)), (3, .int (nI D)), (0, .ref g0), (1, .long v)]) hx hb dX1_number_85 hl (by decide) rfl (fun ls hl => ?_)
      refine lv_aload_n hx hb dX1_number_87 rfl (lv_at hl 4 rfl) ?_
      refine lv_bipush (v := nI 48) hx hb dX1_number_88 (by decide) ?_
      refine lv_lload hx hb dX1_number_90 (lv_at hl 0 rfl) ?_
      refine lv_lconst (v := 0) hx hb dX1_number_92 (by decide) ?_
      refine W.lcmp hx hb dX1_number_93 ?_
      refine lv_if_ge (tgt := 103) hx hb dX1_number_94 (by decide) (fun c_94 => ?_) (fun c_94 => ?_)
      · have c_94 : (0 : Int64) ≤ dg := (lg_cmp_ge _ _).mp c_94
        refine lv_lload hx hb dX1_number_103 (lv_at hl 0 rfl) ?_
        refine dk_asl (y := lN (z / 10 ^ q % 10)) (dk_abs0 hdg (by omega) c_94) ?_
        refine lv_l2i (v := (lN (z / 10 ^ q % 10)).toInt32) hx hb dX1_number_105 rfl ?_
        refine dk_asi (y := nI (z / 10 ^ q % 10)) (lN_i _) ?_
        refine lv_iadd hx hb dX1_number_106 ?_
        refine dk_asi (y := nI (48 + (z / 10 ^ q % 10))) (nI_add 48 (z / 10 ^ q % 10)) ?_
        have hPc := hP
        have hDc := hD
        have hFc := va_free (wc := [(g0, .inr (1, [.long TT, .ref a1, .int kk, .ref a2, .ref a3, .int (nI i), .ref a4])), (a4, .inl (i4, 120, .inl f))]) hD hS hA [0, 1] rfl
        have hKc := hK
        refine va_callv (va_runV (As := [.int (nI (48 + (z / 10 ^ q % 10)))]) (rest := []) ⟨hx, hb, hml, hown, hts⟩ (cY_put l dC dI _ g0 a1 a2 a3 a4 i4 TT kk i (by omega) f (48 + z / 10 ^ q % 10)) (cwV 1 hts gX1_number_X1_put rfl rfl rfl (by decide +kernel) ⟨Nat.le_of_ble_eq_true rfl, Nat.le_of_ble_eq_true rfl⟩) (dk_wV hPc hKc hDc (ci := 1) (q0 := 0) rfl rfl) rfl rfl hl.1 rfl (lv_room (Nat.le_of_ble_eq_true rfl)) dX1_number_107 ⟨Nat.zero_le _, Nat.zero_le _⟩) hS (fun q _ h => hFc q h) hFc (fun u8 t8 H1 locs ht8 hvm8 hw hB hz1 hk1 hS => ?_)
        try dsimp only at hw
        obtain ⟨hP1, hD1⟩ := hB
        rw [ht8] at hP1
        obtain ⟨hP, hD⟩ := va_join (wr := []) (w1 := [(g0, .inr (1, [.long TT, .ref a1, .int kk, .ref a2, .ref a3, .int (nI (i + 1)), .ref a4])), (a4, .inl (i4, 120, .inl (upd f i (nI (48 + z / 10 ^ q % 10)))))]) hP hD [0, 1] [] rfl rfl (by decide) (by decide) hk1 hFc hP1 hD1
        generalize H1 = H at hP hS ⊢
        have hP : va_P (dC, dI) vwCl [(g0, .inr (1, [.long TT, .ref a1, .int kk, .ref a2, .ref a3, .int (nI (i + 1)), .ref a4])), (a4, .inl (i4, 120, .inl (upd f i (nI (48 + z / 10 ^ q % 10)))))] H := hP
        have hD : va_D A [(g0, .inr (1, [.long TT, .ref a1, .int kk, .ref a2, .ref a3, .int (nI (i + 1)), .ref a4])), (a4, .inl (i4, 120, .inl (upd f i (nI (48 + z / 10 ^ q % 10)))))] := hD
        refine lv_iinc (v := (nI q) + (-1)) (lv' := [(4, .int ((nI q) + (-1))), (7, .long dg), (5, .long rs), (3, .int (nI D)), (0, .ref g0), (1, .long v)]) hx hb dX1_number_110 hl (k := 2) rfl (rfl) (by decide) rfl (fun ls hl => ?_)
        refine lv_goto (tgt := 47) hx hb dX1_number_113 (by decide) ?_
        exact ih (i + 1) (upd f i (nI (48 + z / 10 ^ q % 10))) (by omega) (by omega) h104 hap _ _ hP hD hS ls (lv_sub hl [0, 3, 4, 5] rfl)
      · have c_94 : ¬ ((0 : Int64) ≤ dg) := fun q9 => c_94 ((lg_cmp_ge _ _).mpr q9)
        refine lv_lload hx hb dX1_number_97 (lv_at hl 0 rfl) ?_
        refine lv_lneg hx hb dX1_number_99 ?_
        refine lv_goto (tgt := 105) hx hb dX1_number_100 (by decide) ?_
        refine dk_asl (y := lN (z / 10 ^ q % 10)) (dk_abs1 hdg (by omega) c_94) ?_
        refine lv_l2i (v := (lN (z / 10 ^ q % 10)).toInt32) hx hb dX1_number_105 rfl ?_
        refine dk_asi (y := nI (z / 10 ^ q % 10)) (lN_i _) ?_
        refine lv_iadd hx hb dX1_number_106 ?_
        refine dk_asi (y := nI (48 + (z / 10 ^ q % 10))) (nI_add 48 (z / 10 ^ q % 10)) ?_
        have hPc := hP
        have hDc := hD
        have hFc := va_free (wc := [(g0, .inr (1, [.long TT, .ref a1, .int kk, .ref a2, .ref a3, .int (nI i), .ref a4])), (a4, .inl (i4, 120, .inl f))]) hD hS hA [0, 1] rfl
        have hKc := hK
        refine va_callv (va_runV (As := [.int (nI (48 + (z / 10 ^ q % 10)))]) (rest := []) ⟨hx, hb, hml, hown, hts⟩ (cY_put l dC dI _ g0 a1 a2 a3 a4 i4 TT kk i (by omega) f (48 + z / 10 ^ q % 10)) (cwV 1 hts gX1_number_X1_put rfl rfl rfl (by decide +kernel) ⟨Nat.le_of_ble_eq_true rfl, Nat.le_of_ble_eq_true rfl⟩) (dk_wV hPc hKc hDc (ci := 1) (q0 := 0) rfl rfl) rfl rfl hl.1 rfl (lv_room (Nat.le_of_ble_eq_true rfl)) dX1_number_107 ⟨Nat.zero_le _, Nat.zero_le _⟩) hS (fun q _ h => hFc q h) hFc (fun u8 t8 H1 locs ht8 hvm8 hw hB hz1 hk1 hS => ?_)
        try dsimp only at hw
        obtain ⟨hP1, hD1⟩ := hB
        rw [ht8] at hP1
        obtain ⟨hP, hD⟩ := va_join (wr := []) (w1 := [(g0, .inr (1, [.long TT, .ref a1, .int kk, .ref a2, .ref a3, .int (nI (i + 1)), .ref a4])), (a4, .inl (i4, 120, .inl (upd f i (nI (48 + z / 10 ^ q % 10)))))]) hP hD [0, 1] [] rfl rfl (by decide) (by decide) hk1 hFc hP1 hD1
        generalize H1 = H at hP hS ⊢
        have hP : va_P (dC, dI) vwCl [(g0, .inr (1, [.long TT, .ref a1, .int kk, .ref a2, .ref a3, .int (nI (i + 1)), .ref a4])), (a4, .inl (i4, 120, .inl (upd f i (nI (48 + z / 10 ^ q % 10)))))] H := hP
        have hD : va_D A [(g0, .inr (1, [.long TT, .ref a1, .int kk, .ref a2, .ref a3, .int (nI (i + 1)), .ref a4])), (a4, .inl (i4, 120, .inl (upd f i (nI (48 + z / 10 ^ q % 10)))))] := hD
        refine lv_iinc (v := (nI q) + (-1)) (lv' := [(4, .int ((nI q) + (-1))), (7, .long dg), (5, .long rs), (3, .int (nI D)), (0, .ref g0), (1, .long v)]) hx hb dX1_number_110 hl (k := 2) rfl (rfl) (by decide) rfl (fun ls hl => ?_)
        refine lv_goto (tgt := 47) hx hb dX1_number_113 (by decide) ?_
        exact ih (i + 1) (upd f i (nI (48 + z / 10 ^ q % 10))) (by omega) (by omega) h104 hap _ _ hP hD hS ls (lv_sub hl [0, 3, 4, 5] rfl)
  have count : ∀ (i : Nat) (f : Nat → Int32) (H : Heap) (locs : List Loc), va_P (dC, dI) vwCl [(g0, .inr (1, [.long TT, .ref a1, .int kk, .ref a2, .ref a3, .int (nI i), .ref a4])), (a4, .inl (i4, 120, .inl f))] H → va_D A [(g0, .inr (1, [.long TT, .ref a1, .int kk, .ref a2, .ref a3, .int (nI i), .ref a4])), (a4, .inl (i4, 120, .inl f))] → va_S A s.heap H locs → i + (dk_dg 18 z).length = NN → NN ≤ 104 → dk_ap f i (dk_dg 18 z) = FL → ∀ (g D : Nat) (rs : Int64) (ls : Array Slot), 1 ≤ D → 20 ≤ D + g → D ≤ 19 → (D = 1 ∨ 10 ^ (D - 1) ≤ z) → rs.toInt.natAbs = z / 10 ^ D → lv_has ls 9 [(4, .long rs), (3, .int (nI D)), (0, .ref g0), (1, .long v)] → W p l e (headSpec wsX1_number ({ frames := 1, cells := 0, slots := 0, locals := 21 })).room s m ([.ref g0, .long v] : List Value).toArray below meth c H locs 0 0 (MQ below (va_Qv (fun (_ : Unit) => True) (fun (_ : Unit) z8 => dk_B (dC, dI) vwCl A [(g0, .inr (1, [.long TT, .ref a1, .int kk, .ref a2, .ref a3, .int (nI (n + (dk_num v).length)), .ref a4])), (a4, .inl (i4, 120, .inl (dk_ap tx n (dk_num v))))] z8) A) ([.ref g0, .long v] : List Value).toArray s 0 0 A) (F0 m 21 ls []) := by
    intro i f H locs hP hD hS hlen h104 hap g
    induction g with
    | zero => intro D rs ls h1 h2 h3; exact absurd h2 (by omega)
    | succ g ih =>
      intro D rs ls h1 hg h19 hge hrs hl
      refine lv_lload hx hb dX1_number_21 (lv_at hl 0 rfl) ?_
      refine lv_lconst (v := 0) hx hb dX1_number_23 (by decide) ?_
      refine W.lcmp hx hb dX1_number_24 ?_
      refine lv_if_eq (tgt := 42) hx hb dX1_number_25 (by decide) (fun c_25 => ?_) (fun c_25 => ?_)
      · have c_25 : rs = (0 : Int64) := (lg_cmp_eq _ _).mp c_25
        have hlt : z < 10 ^ D := dk_div0.mp (by rw [← hrs]; exact dk_z0.mp c_25)
        have hDD := dk_dg_D h1 h19 hge hlt
        rw [hDD] at hlen hap
        refine lv_iload_n hx hb dX1_number_42 rfl (lv_at hl 1 rfl) ?_
        refine lv_iconst (v := 1) hx hb dX1_number_43 (by decide) ?_
        refine lv_isub hx hb dX1_number_44 ?_
        refine dk_asi (y := nI D + (-1)) (dk_sm1 h1) ?_
        refine lv_istore (lv' := [(4, .int (nI D + (-1))), (3, .int (nI D)), (0, .ref g0), (1, .long v)]) hx hb dX1_number_45 hl (by decide) rfl (fun ls hl => ?_)
        exact outer D D i f h19 hlen h104 hap H locs hP hD hS ls (lv_sub hl [0, 1, 2, 3] rfl)
      · have c_25 : ¬ (rs = (0 : Int64)) := fun q9 => c_25 ((lg_cmp_eq _ _).mpr q9)
        refine lv_iinc (v := nI (D + 1)) (lv' := [(3, .int (nI (D + 1))), (4, .long rs), (0, .ref g0), (1, .long v)]) hx hb dX1_number_28 hl (k := 1) rfl (by rw [show Int32.ofInt 1 = nI 1 from by decide]; exact nI_add D 1) (by decide) rfl (fun ls hl => ?_)
        refine lv_lload hx hb dX1_number_31 (lv_at hl 1 rfl) ?_
        refine lv_ldc2 (v := lN 10) hx hb hown (hts (.constantLong RX1 78 (lN 10)) (by decide +kernel)) dX1_number_33 ?_
        refine lv_ldiv hx hb dX1_number_36 (by decide) ?_
        refine lv_lstore (lv' := [(4, .long (rs / (lN 10))), (3, .int (nI (D + 1))), (0, .ref g0), (1, .long v)]) hx hb dX1_number_37 hl (by decide) rfl (fun ls hl => ?_)
        refine lv_goto (tgt := 21) hx hb dX1_number_39 (by decide) ?_
        have hge2 : 10 ^ D ≤ z := Nat.le_of_not_lt fun q9 => c_25 (dk_z0.mpr (by rw [hrs]; exact dk_div0.mpr q9))
        have h18 : D ≤ 18 := dk_18 hge2 hz19 h19
        exact ih (D + 1) (rs / lN 10) ls (by omega) (by omega) (by omega) (Or.inr hge2) (by rw [dk_dv, hrs, dk_divs]) (lv_sub hl [0, 1, 2, 3] rfl)
  refine lv_lload_n hx hb dX1_number_0 rfl (lv_at hl 1 rfl) ?_
  refine lv_lconst (v := 0) hx hb dX1_number_1 (by decide) ?_
  refine W.lcmp hx hb dX1_number_2 ?_
  refine lv_if_ge (tgt := 12) hx hb dX1_number_3 (by decide) (fun c_3 => ?_) (fun c_3 => ?_)
  · have c_3 : (0 : Int64) ≤ v := (lg_cmp_ge _ _).mp c_3
    refine lv_iconst (v := nI 1) hx hb dX1_number_12 (by decide) ?_
    refine lv_istore_n (lv' := [(3, .int (nI 1)), (0, .ref g0), (1, .long v)]) hx hb dX1_number_13 rfl hl (by decide) rfl (fun ls hl => ?_)
    refine lv_lload_n hx hb dX1_number_14 rfl (lv_at hl 2 rfl) ?_
    refine lv_ldc2 (v := lN 10) hx hb hown (hts (.constantLong RX1 78 (lN 10)) (by decide +kernel)) dX1_number_15 ?_
    refine lv_ldiv hx hb dX1_number_18 (by decide) ?_
    refine lv_lstore (lv' := [(4, .long (v / (lN 10))), (3, .int (nI 1)), (0, .ref g0), (1, .long v)]) hx hb dX1_number_19 hl (by decide) rfl (fun ls hl => ?_)
    have hnum : dk_num v = dk_dg 18 z := by unfold dk_num; rw [if_neg (dk_lge0 c_3), ← hz]; rfl
    exact count n tx _ _ hP hD hS (by rw [hNN, hnum]) (by omega) (by rw [hFL, hnum]) 19 1 (v / lN 10) ls (by omega) (by omega) (by omega) (Or.inl rfl) (by rw [dk_dv, ← hz, Nat.pow_one]) (lv_sub hl [0, 1, 2, 3] rfl)
  · have c_3 : ¬ ((0 : Int64) ≤ v) := fun q9 => c_3 ((lg_cmp_ge _ _).mpr q9)
    have hnum : dk_num v = 45 :: dk_dg 18 z := by unfold dk_num; rw [if_pos (dk_llt0 c_3), ← hz]; rfl
    have hl104 : n + ((dk_dg 18 z).length + 1) ≤ 104 := by rw [hnum, List.length_cons] at hn9; exact hn9
    refine lv_aload_n hx hb dX1_number_6 rfl (lv_at hl 0 rfl) ?_
    refine lv_bipush (v := nI 45) hx hb dX1_number_7 (by decide) ?_
    have hPc := hP
    have hDc := hD
    have hFc := va_free (wc := [(g0, .inr (1, [.long TT, .ref a1, .int kk, .ref a2, .ref a3, .int (nI n), .ref a4])), (a4, .inl (i4, 120, .inl tx))]) hD hS hA [0, 1] rfl
    have hKc := hK
    refine va_callv (va_runV (As := [.int (nI 45)]) (rest := []) ⟨hx, hb, hml, hown, hts⟩ (cY_put l dC dI _ g0 a1 a2 a3 a4 i4 TT kk n (by omega) tx 45) (cwV 1 hts gX1_number_X1_put rfl rfl rfl (by decide +kernel) ⟨Nat.le_of_ble_eq_true rfl, Nat.le_of_ble_eq_true rfl⟩) (dk_wV hPc hKc hDc (ci := 1) (q0 := 0) rfl rfl) rfl rfl hl.1 rfl (lv_room (Nat.le_of_ble_eq_true rfl)) dX1_number_9 ⟨Nat.zero_le _, Nat.zero_le _⟩) hS (fun q _ h => hFc q h) hFc (fun u8 t8 H1 locs ht8 hvm8 hw hB hz1 hk1 hS => ?_)
    try dsimp only at hw
    obtain ⟨hP1, hD1⟩ := hB
    rw [ht8] at hP1
    obtain ⟨hP, hD⟩ := va_join (wr := []) (w1 := [(g0, .inr (1, [.long TT, .ref a1, .int kk, .ref a2, .ref a3, .int (nI (n + 1)), .ref a4])), (a4, .inl (i4, 120, .inl (upd tx n (nI 45))))]) hP hD [0, 1] [] rfl rfl (by decide) (by decide) hk1 hFc hP1 hD1
    generalize H1 = H at hP hS ⊢
    have hP : va_P (dC, dI) vwCl [(g0, .inr (1, [.long TT, .ref a1, .int kk, .ref a2, .ref a3, .int (nI (n + 1)), .ref a4])), (a4, .inl (i4, 120, .inl (upd tx n (nI 45))))] H := hP
    have hD : va_D A [(g0, .inr (1, [.long TT, .ref a1, .int kk, .ref a2, .ref a3, .int (nI (n + 1)), .ref a4])), (a4, .inl (i4, 120, .inl (upd tx n (nI 45))))] := hD
    refine lv_iconst (v := nI 1) hx hb dX1_number_12 (by decide) ?_
    refine lv_istore_n (lv' := [(3, .int (nI 1)), (0, .ref g0), (1, .long v)]) hx hb dX1_number_13 rfl hl (by decide) rfl (fun ls hl => ?_)
    refine lv_lload_n hx hb dX1_number_14 rfl (lv_at hl 2 rfl) ?_
    refine lv_ldc2 (v := lN 10) hx hb hown (hts (.constantLong RX1 78 (lN 10)) (by decide +kernel)) dX1_number_15 ?_
    refine lv_ldiv hx hb dX1_number_18 (by decide) ?_
    refine lv_lstore (lv' := [(4, .long (v / (lN 10))), (3, .int (nI 1)), (0, .ref g0), (1, .long v)]) hx hb dX1_number_19 hl (by decide) rfl (fun ls hl => ?_)
    exact count (n + 1) (upd tx n (nI 45)) _ _ hP hD hS (by rw [hNN, hnum, List.length_cons]; omega) (by omega) (by rw [hFL, hnum, dk_ap_cons]) 19 1 (v / lN 10) ls (by omega) (by omega) (by omega) (Or.inl rfl) (by rw [dk_dv, ← hz, Nat.pow_one]) (lv_sub hl [0, 1, 2, 3] rfl)
end
section
set_option maxHeartbeats 4000000 in
set_option maxRecDepth 100000 in
/-- write -/
theorem cY_write (l : Launch) (dC : Nat → ClassId) (dI : Nat → Nat → Nat) (sz : Nat) (g0 a1 a2 a3 a4 : Nat) (i1 i2 i3 i4 : ClassId) (TT : Int64) (k : Nat) (hk9 : k ≤ 520) (w : Int32) (O : Nat → Int64) (mo : Nat → Int32) (mb : Nat → Int64) (tx : Nat → Int32) (x : Int32) : Met l yX1_write wsX1_write ({ frames := 2, cells := 0, slots := 0, locals := 49 }) (dk_Pw [.ref g0, .int x] (dC, dI) vwCl [(i1, .long), (i2, .int), (i3, .long), (i4, .int)] [(g0, .inr (1, [.long TT, .ref a1, .int (nI k), .ref a2, .ref a3, .int w, .ref a4])), (a1, .inl (i1, 200, .inr (.inl O))), (a2, .inl (i2, 520, .inl mo)), (a3, .inl (i3, 520, .inr (.inl mb))), (a4, .inl (i4, 120, .inl tx))] sz) (va_Qi (fun (r : Int32) (u : Int32 × (Nat → Int32)) => match u with | (w2, tx2) => (r = -1 ∧ (x < 0 ∨ nI 200 ≤ x) ∧ w2 = w ∧ tx2 = tx) ∨ ∃ j : Nat, j < 200 ∧ x = nI j ∧ r = nI (dk_txt (O j) (dk_yw mo mb (nI j) k) (dk_yc mo mb (nI j) k) (dk_y3 O mo mb k j) (lN (dk_yn mo (nI j) k))).length ∧ w2 = nI (dk_txt (O j) (dk_yw mo mb (nI j) k) (dk_yc mo mb (nI j) k) (dk_y3 O mo mb k j) (lN (dk_yn mo (nI j) k))).length ∧ tx2 = dk_ap tx 0 (dk_txt (O j) (dk_yw mo mb (nI j) k) (dk_yc mo mb (nI j) k) (dk_y3 O mo mb k j) (lN (dk_yn mo (nI j) k)))) (fun (u : Int32 × (Nat → Int32)) z8 => match u with | (w2, tx2) => dk_B (dC, dI) vwCl (va_A [(g0, .inr (1, [.long TT, .ref a1, .int (nI k), .ref a2, .ref a3, .int w, .ref a4])), (a1, .inl (i1, 200, .inr (.inl O))), (a2, .inl (i2, 520, .inl mo)), (a3, .inl (i3, 520, .inr (.inl mb))), (a4, .inl (i4, 120, .inl tx))] sz) [(g0, .inr (1, [.long TT, .ref a1, .int (nI k), .ref a2, .ref a3, .int w2, .ref a4])), (a1, .inl (i1, 200, .inr (.inl O))), (a2, .inl (i2, 520, .inl mo)), (a3, .inl (i3, 520, .inr (.inl mb))), (a4, .inl (i4, 120, .inl tx2))] z8) (va_A [(g0, .inr (1, [.long TT, .ref a1, .int (nI k), .ref a2, .ref a3, .int w, .ref a4])), (a1, .inl (i1, 200, .inr (.inl O))), (a2, .inl (i2, 520, .inl mo)), (a3, .inl (i3, 520, .inr (.inl mb))), (a4, .inl (i4, 120, .inl tx))] sz)) 0 0 (va_A [(g0, .inr (1, [.long TT, .ref a1, .int (nI k), .ref a2, .ref a3, .int w, .ref a4])), (a1, .inl (i1, 200, .inr (.inl O))), (a2, .inl (i2, 520, .inl mo)), (a3, .inl (i3, 520, .inr (.inl mb))), (a4, .inl (i4, 120, .inl tx))] sz) := by
  refine Met.ofW (cc := cX1_write) (maxL := 3) (ret := (some .int)) (by decide) rfl ?_
  intro p e s m args below meth c s₁ B hml hv
  obtain ⟨rfl, hsz, hP, hK, hD0⟩ := hv
  have hx := B.exec
  have hb := B.bytes
  have hr := B.returns
  have hts := atoms_spec (ws := wsX1_write) B.pre
  have hown : s.vm.findClass RX1 = some m.cls := findClass_of_methodNamed B.named
  have hlocks := B.notSynchronized
  have hinX1 : ∀ w ∈ wsX10, w ∈ wsX1_write := by decide +kernel
  subst hsz
  have hD := hD0.self (sz := s.heap.size)
  generalize hAe : va_A [(g0, .inr (1, [.long TT, .ref a1, .int (nI k), .ref a2, .ref a3, .int w, .ref a4])), (a1, .inl (i1, 200, .inr (.inl O))), (a2, .inl (i2, 520, .inl mo)), (a3, .inl (i3, 520, .inr (.inl mb))), (a4, .inl (i4, 120, .inl tx))] s.heap.size = A at hD ⊢
  have hA : ∀ q : Nat, s.heap.size ≤ q → A q := fun q h => by rw [← hAe]; exact Or.inr h
  have hS : va_S A s.heap s.heap [] := va_S.rf
  have hl := lv_entry ([.ref g0, .int x]) (n := 3) (Nat.le_of_ble_eq_true rfl)
  rw [lg_entry_eq]
  generalize (lg_sl ([.ref g0, .int x]) ++ List.replicate (3 - (lg_sl ([.ref g0, .int x])).length) Slot.unset).toArray = ls at hl ⊢
  have hl : lv_has ls 3 [(0, .ref g0), (1, .int x)] := hl
  refine lv_iload_n hx hb dX1_write_0 rfl (lv_at hl 1 rfl) ?_
  have hKc := hK.sub (tys' := []) [] rfl
  refine va_calli (va_runS (As := [.int x]) (rest := []) ⟨hx, hb, hml, hown, hts⟩ (cY_isPosition l dC dI x) (va_cwS 1 hts gX1_write_X1_isPosition rfl rfl rfl (by decide +kernel) ⟨Nat.le_of_ble_eq_true rfl, Nat.le_of_ble_eq_true rfl⟩) (dk_rS dk_P0 hKc) rfl rfl hl.1 rfl (lv_room (Nat.le_of_ble_eq_true rfl)) dX1_write_1 ⟨Nat.zero_le _, Nat.zero_le _⟩) hS (fun q _ h => False.elim h) (fun q h => False.elim h) (fun r_1 u8 t8 H1 locs ht8 hvm8 hw hB hz1 hk1 hS => ?_)
  try dsimp only at hw
  have hP := dk_kept hP hk1
  generalize H1 = H at hP hS ⊢
  rcases hw with ⟨rfl, j, hj, rfl⟩ | ⟨rfl, hno⟩
  · have hw0 := dk_num_len (O j)
    have hw1 := dk_num_len (dk_yw mo mb (nI j) k)
    have hw2 := dk_num_len (dk_yc mo mb (nI j) k)
    have hw3 := dk_num_len (dk_y3 O mo mb k j)
    have hw4 := dk_num_len (lN (dk_yn mo (nI j) k))
    refine lv_if_ne (tgt := 9) hx hb dX1_write_4 (by decide) (fun _ => ?_) (fun c9 => absurd c9 (by decide))
    refine lv_aload_n hx hb dX1_write_9 rfl (lv_at hl 0 rfl) ?_
    refine lv_iconst (v := nI 0) hx hb dX1_write_10 (by decide) ?_
    refine va_put (D := (dC, dI)) (ci := 1) (v := .int (nI 0)) (ty := .int) (C := RX1) (T := TX1) (N := 7) hx hb hts hinX1 tyX1 tyX1_ok nmX1 hown hK hP hD hS 0 rfl rfl 5 (by decide) (hts (.fieldLink RX1 71 "DayDeskModel" "written" "I") (by decide +kernel)) (fun _ h9 => h9) rfl (by decide +kernel) rfl rfl (Nat.le_of_ble_eq_true rfl) dX1_write_11 (fun H locs hP hD hS => ?_)
    have hP : va_P (dC, dI) vwCl [(g0, .inr (1, [.long TT, .ref a1, .int (nI k), .ref a2, .ref a3, .int (nI 0), .ref a4])), (a1, .inl (i1, 200, .inr (.inl O))), (a2, .inl (i2, 520, .inl mo)), (a3, .inl (i3, 520, .inr (.inl mb))), (a4, .inl (i4, 120, .inl tx))] H := hP
    have hD : va_D A [(g0, .inr (1, [.long TT, .ref a1, .int (nI k), .ref a2, .ref a3, .int (nI 0), .ref a4])), (a1, .inl (i1, 200, .inr (.inl O))), (a2, .inl (i2, 520, .inl mo)), (a3, .inl (i3, 520, .inr (.inl mb))), (a4, .inl (i4, 120, .inl tx))] := hD
    refine lv_iconst (v := 0) hx hb dX1_write_14 (by decide) ?_
    refine lv_istore_n (lv' := [(2, .int 0), (0, .ref g0), (1, .int (nI j))]) hx hb dX1_write_15 rfl hl (by decide) rfl (fun ls hl => ?_)
    refine lv_iload_n hx hb dX1_write_16 rfl (lv_at hl 0 rfl) ?_
    refine lv_iconst (v := 5) hx hb dX1_write_17 (by decide) ?_
    refine lv_icmp_ge (tgt := 47) hx hb dX1_write_18 (by decide) (fun c9 => absurd c9 (by decide)) (fun _ => ?_)
    refine lv_iload_n hx hb dX1_write_21 rfl (lv_at hl 0 rfl) ?_
    refine lv_if_le (tgt := 31) hx hb dX1_write_22 (by decide) (fun _ => ?_) (fun c9 => absurd (by decide) c9)
    refine lv_aload_n hx hb dX1_write_31 rfl (lv_at hl 1 rfl) ?_
    refine lv_aload_n hx hb dX1_write_32 rfl (lv_at hl 1 rfl) ?_
    refine lv_iload_n hx hb dX1_write_33 rfl (lv_at hl 2 rfl) ?_
    refine lv_iload_n hx hb dX1_write_34 rfl (lv_at hl 0 rfl) ?_
    have hPc := hP.sub (ws' := [(g0, .inr (1, [.long TT, .ref a1, .int (nI k), .ref a2, .ref a3, .int (nI 0), .ref a4])), (a1, .inl (i1, 200, .inr (.inl O))), (a2, .inl (i2, 520, .inl mo)), (a3, .inl (i3, 520, .inr (.inl mb)))]) [0, 1, 2, 3] rfl
    have hKc := hK.sub (tys' := [(i1, .long), (i2, .int), (i3, .long)]) [0, 1, 2] rfl
    refine va_calll (va_runV (As := [.int (nI j), .int 0]) (rest := [.ref g0]) ⟨hx, hb, hml, hown, hts⟩ (cY_row l dC dI g0 a1 a2 a3 a4 i1 i2 i3 TT k hk9 (nI 0) O mo mb (nI j) 0) (cwV 2 hts gX1_write_X1_row rfl rfl rfl (by decide +kernel) ⟨Nat.le_of_ble_eq_true rfl, Nat.le_of_ble_eq_true rfl⟩) (dk_rV hPc hKc (ci := 1) (q0 := 0) rfl rfl) rfl rfl hl.1 rfl (lv_room (Nat.le_of_ble_eq_true rfl)) dX1_write_35 ⟨Nat.zero_le _, Nat.zero_le _⟩) hS (fun q _ h => False.elim h) (fun q h => False.elim h) (fun r_35 u8 t8 H1 locs ht8 hvm8 hw hB hz1 hk1 hS => ?_)
    try dsimp only at hw
    have hP := dk_kept hP hk1
    generalize H1 = H at hP hS ⊢
    have hw := dk_row_in hj hw
    have hw : _ = O j := hw
    subst hw
    have hPc := hP.sub (ws' := [(g0, .inr (1, [.long TT, .ref a1, .int (nI k), .ref a2, .ref a3, .int (nI 0), .ref a4])), (a4, .inl (i4, 120, .inl tx))]) [0, 4] rfl
    have hDc := hD.sub (ws' := [(g0, .inr (1, [.long TT, .ref a1, .int (nI k), .ref a2, .ref a3, .int (nI 0), .ref a4])), (a4, .inl (i4, 120, .inl tx))]) [0, 4] (by decide) rfl
    have hFc := va_free (wc := [(g0, .inr (1, [.long TT, .ref a1, .int (nI k), .ref a2, .ref a3, .int (nI 0), .ref a4])), (a4, .inl (i4, 120, .inl tx))]) hD hS hA [0, 4] rfl
    have hKc := hK.sub (tys' := [(i4, .int)]) [3] rfl
    refine va_callv (va_runV (As := [.long (O j)]) (rest := []) ⟨hx, hb, hml, hown, hts⟩ (cY_number l dC dI _ g0 a1 a2 a3 a4 i4 TT (nI k) 0 tx (O j) (by omega)) (cwV 1 hts gX1_write_X1_number rfl rfl rfl (by decide +kernel) ⟨Nat.le_of_ble_eq_true rfl, Nat.le_of_ble_eq_true rfl⟩) (dk_wV hPc hKc hDc (ci := 1) (q0 := 0) rfl rfl) rfl rfl hl.1 rfl (lv_room (Nat.le_of_ble_eq_true rfl)) dX1_write_38 ⟨Nat.zero_le _, Nat.zero_le _⟩) hS (fun q _ h => hFc q h) hFc (fun u8 t8 H1 locs ht8 hvm8 hw hB hz1 hk1 hS => ?_)
    try dsimp only at hw
    obtain ⟨hP1, hD1⟩ := hB
    rw [ht8] at hP1
    obtain ⟨hP, hD⟩ := va_join (wr := [(a1, .inl (i1, 200, .inr (.inl O))), (a2, .inl (i2, 520, .inl mo)), (a3, .inl (i3, 520, .inr (.inl mb)))]) (w1 := [(g0, .inr (1, [.long TT, .ref a1, .int (nI k), .ref a2, .ref a3, .int (nI (0 + (dk_num (O j)).length)), .ref a4])), (a4, .inl (i4, 120, .inl (dk_ap tx 0 (dk_num (O j)))))]) hP hD [0, 4] [1, 2, 3] rfl rfl (by decide) (by decide) hk1 hFc hP1 hD1
    generalize H1 = H at hP hS ⊢
    have hP := hP.sub (ws' := [(g0, .inr (1, [.long TT, .ref a1, .int (nI k), .ref a2, .ref a3, .int (nI (0 + (dk_num (O j)).length)), .ref a4])), (a1, .inl (i1, 200, .inr (.inl O))), (a2, .inl (i2, 520, .inl mo)), (a3, .inl (i3, 520, .inr (.inl mb))), (a4, .inl (i4, 120, .inl (dk_ap tx 0 (dk_num (O j)))))]) [3, 0, 1, 2, 4] rfl
    have hD := hD.sub (ws' := [(g0, .inr (1, [.long TT, .ref a1, .int (nI k), .ref a2, .ref a3, .int (nI (0 + (dk_num (O j)).length)), .ref a4])), (a1, .inl (i1, 200, .inr (.inl O))), (a2, .inl (i2, 520, .inl mo)), (a3, .inl (i3, 520, .inr (.inl mb))), (a4, .inl (i4, 120, .inl (dk_ap tx 0 (dk_num (O j)))))]) [3, 0, 1, 2, 4] (by decide) rfl
    have hP : va_P (dC, dI) vwCl [(g0, .inr (1, [.long TT, .ref a1, .int (nI k), .ref a2, .ref a3, .int (nI (0 + (dk_num (O j)).length)), .ref a4])), (a1, .inl (i1, 200, .inr (.inl O))), (a2, .inl (i2, 520, .inl mo)), (a3, .inl (i3, 520, .inr (.inl mb))), (a4, .inl (i4, 120, .inl (dk_ap tx 0 (dk_num (O j)))))] H := hP
    have hD : va_D A [(g0, .inr (1, [.long TT, .ref a1, .int (nI k), .ref a2, .ref a3, .int (nI (0 + (dk_num (O j)).length)), .ref a4])), (a1, .inl (i1, 200, .inr (.inl O))), (a2, .inl (i2, 520, .inl mo)), (a3, .inl (i3, 520, .inr (.inl mb))), (a4, .inl (i4, 120, .inl (dk_ap tx 0 (dk_num (O j)))))] := hD
    refine lv_iinc (v := 1) (lv' := [(2, .int 1), (0, .ref g0), (1, .int (nI j))]) hx hb dX1_write_41 hl (k := 0) rfl (by decide) (by decide) rfl (fun ls hl => ?_)
    refine lv_goto (tgt := 16) hx hb dX1_write_44 (by decide) ?_
    refine lv_iload_n hx hb dX1_write_16 rfl (lv_at hl 0 rfl) ?_
    refine lv_iconst (v := 5) hx hb dX1_write_17 (by decide) ?_
    refine lv_icmp_ge (tgt := 47) hx hb dX1_write_18 (by decide) (fun c9 => absurd c9 (by decide)) (fun _ => ?_)
    refine lv_iload_n hx hb dX1_write_21 rfl (lv_at hl 0 rfl) ?_
    refine lv_if_le (tgt := 31) hx hb dX1_write_22 (by decide) (fun c9 => absurd c9 (by decide)) (fun _ => ?_)
    refine lv_aload_n hx hb dX1_write_25 rfl (lv_at hl 1 rfl) ?_
    refine lv_bipush (v := nI 32) hx hb dX1_write_26 (by decide) ?_
    have hPc := hP.sub (ws' := [(g0, .inr (1, [.long TT, .ref a1, .int (nI k), .ref a2, .ref a3, .int (nI (0 + (dk_num (O j)).length)), .ref a4])), (a4, .inl (i4, 120, .inl (dk_ap tx 0 (dk_num (O j)))))]) [0, 4] rfl
    have hDc := hD.sub (ws' := [(g0, .inr (1, [.long TT, .ref a1, .int (nI k), .ref a2, .ref a3, .int (nI (0 + (dk_num (O j)).length)), .ref a4])), (a4, .inl (i4, 120, .inl (dk_ap tx 0 (dk_num (O j)))))]) [0, 4] (by decide) rfl
    have hFc := va_free (wc := [(g0, .inr (1, [.long TT, .ref a1, .int (nI k), .ref a2, .ref a3, .int (nI (0 + (dk_num (O j)).length)), .ref a4])), (a4, .inl (i4, 120, .inl (dk_ap tx 0 (dk_num (O j)))))]) hD hS hA [0, 4] rfl
    have hKc := hK.sub (tys' := [(i4, .int)]) [3] rfl
    refine va_callv (va_runV (As := [.int (nI 32)]) (rest := []) ⟨hx, hb, hml, hown, hts⟩ (cY_put l dC dI _ g0 a1 a2 a3 a4 i4 TT (nI k) (0 + (dk_num (O j)).length) (by omega) (dk_ap tx 0 (dk_num (O j))) 32) (cwV 1 hts gX1_write_X1_put rfl rfl rfl (by decide +kernel) ⟨Nat.le_of_ble_eq_true rfl, Nat.le_of_ble_eq_true rfl⟩) (dk_wV hPc hKc hDc (ci := 1) (q0 := 0) rfl rfl) rfl rfl hl.1 rfl (lv_room (Nat.le_of_ble_eq_true rfl)) dX1_write_28 ⟨Nat.zero_le _, Nat.zero_le _⟩) hS (fun q _ h => hFc q h) hFc (fun u8 t8 H1 locs ht8 hvm8 hw hB hz1 hk1 hS => ?_)
    try dsimp only at hw
    obtain ⟨hP1, hD1⟩ := hB
    rw [ht8] at hP1
    obtain ⟨hP, hD⟩ := va_join (wr := [(a1, .inl (i1, 200, .inr (.inl O))), (a2, .inl (i2, 520, .inl mo)), (a3, .inl (i3, 520, .inr (.inl mb)))]) (w1 := [(g0, .inr (1, [.long TT, .ref a1, .int (nI k), .ref a2, .ref a3, .int (nI (0 + (dk_num (O j)).length + 1)), .ref a4])), (a4, .inl (i4, 120, .inl (upd (dk_ap tx 0 (dk_num (O j))) (0 + (dk_num (O j)).length) (nI 32))))]) hP hD [0, 4] [1, 2, 3] rfl rfl (by decide) (by decide) hk1 hFc hP1 hD1
    generalize H1 = H at hP hS ⊢
    have hP := hP.sub (ws' := [(g0, .inr (1, [.long TT, .ref a1, .int (nI k), .ref a2, .ref a3, .int (nI (0 + (dk_num (O j)).length + 1)), .ref a4])), (a1, .inl (i1, 200, .inr (.inl O))), (a2, .inl (i2, 520, .inl mo)), (a3, .inl (i3, 520, .inr (.inl mb))), (a4, .inl (i4, 120, .inl (upd (dk_ap tx 0 (dk_num (O j))) (0 + (dk_num (O j)).length) (nI 32))))]) [3, 0, 1, 2, 4] rfl
    have hD := hD.sub (ws' := [(g0, .inr (1, [.long TT, .ref a1, .int (nI k), .ref a2, .ref a3, .int (nI (0 + (dk_num (O j)).length + 1)), .ref a4])), (a1, .inl (i1, 200, .inr (.inl O))), (a2, .inl (i2, 520, .inl mo)), (a3, .inl (i3, 520, .inr (.inl mb))), (a4, .inl (i4, 120, .inl (upd (dk_ap tx 0 (dk_num (O j))) (0 + (dk_num (O j)).length) (nI 32))))]) [3, 0, 1, 2, 4] (by decide) rfl
    have hP : va_P (dC, dI) vwCl [(g0, .inr (1, [.long TT, .ref a1, .int (nI k), .ref a2, .ref a3, .int (nI (0 + (dk_num (O j)).length + 1)), .ref a4])), (a1, .inl (i1, 200, .inr (.inl O))), (a2, .inl (i2, 520, .inl mo)), (a3, .inl (i3, 520, .inr (.inl mb))), (a4, .inl (i4, 120, .inl (upd (dk_ap tx 0 (dk_num (O j))) (0 + (dk_num (O j)).length) (nI 32))))] H := hP
    have hD : va_D A [(g0, .inr (1, [.long TT, .ref a1, .int (nI k), .ref a2, .ref a3, .int (nI (0 + (dk_num (O j)).length + 1)), .ref a4])), (a1, .inl (i1, 200, .inr (.inl O))), (a2, .inl (i2, 520, .inl mo)), (a3, .inl (i3, 520, .inr (.inl mb))), (a4, .inl (i4, 120, .inl (upd (dk_ap tx 0 (dk_num (O j))) (0 + (dk_num (O j)).length) (nI 32))))] := hD
    refine lv_aload_n hx hb dX1_write_31 rfl (lv_at hl 1 rfl) ?_
    refine lv_aload_n hx hb dX1_write_32 rfl (lv_at hl 1 rfl) ?_
    refine lv_iload_n hx hb dX1_write_33 rfl (lv_at hl 2 rfl) ?_
    refine lv_iload_n hx hb dX1_write_34 rfl (lv_at hl 0 rfl) ?_
    have hPc := hP.sub (ws' := [(g0, .inr (1, [.long TT, .ref a1, .int (nI k), .ref a2, .ref a3, .int (nI (0 + (dk_num (O j)).length + 1)), .ref a4])), (a1, .inl (i1, 200, .inr (.inl O))), (a2, .inl (i2, 520, .inl mo)), (a3, .inl (i3, 520, .inr (.inl mb)))]) [0, 1, 2, 3] rfl
    have hKc := hK.sub (tys' := [(i1, .long), (i2, .int), (i3, .long)]) [0, 1, 2] rfl
    refine va_calll (va_runV (As := [.int (nI j), .int 1]) (rest := [.ref g0]) ⟨hx, hb, hml, hown, hts⟩ (cY_row l dC dI g0 a1 a2 a3 a4 i1 i2 i3 TT k hk9 (nI (0 + (dk_num (O j)).length + 1)) O mo mb (nI j) 1) (cwV 2 hts gX1_write_X1_row rfl rfl rfl (by decide +kernel) ⟨Nat.le_of_ble_eq_true rfl, Nat.le_of_ble_eq_true rfl⟩) (dk_rV hPc hKc (ci := 1) (q0 := 0) rfl rfl) rfl rfl hl.1 rfl (lv_room (Nat.le_of_ble_eq_true rfl)) dX1_write_35 ⟨Nat.zero_le _, Nat.zero_le _⟩) hS (fun q _ h => False.elim h) (fun q h => False.elim h) (fun r_35 u8 t8 H1 locs ht8 hvm8 hw hB hz1 hk1 hS => ?_)
    try dsimp only at hw
    have hP := dk_kept hP hk1
    generalize H1 = H at hP hS ⊢
    have hw := dk_row_in hj hw
    have hw : _ = dk_yw mo mb (nI j) k := hw
    subst hw
    have hPc := hP.sub (ws' := [(g0, .inr (1, [.long TT, .ref a1, .int (nI k), .ref a2, .ref a3, .int (nI (0 + (dk_num (O j)).length + 1)), .ref a4])), (a4, .inl (i4, 120, .inl (upd (dk_ap tx 0 (dk_num (O j))) (0 + (dk_num (O j)).length) (nI 32))))]) [0, 4] rfl
    have hDc := hD.sub (ws' := [(g0, .inr (1, [.long TT, .ref a1, .int (nI k), .ref a2, .ref a3, .int (nI (0 + (dk_num (O j)).length + 1)), .ref a4])), (a4, .inl (i4, 120, .inl (upd (dk_ap tx 0 (dk_num (O j))) (0 + (dk_num (O j)).length) (nI 32))))]) [0, 4] (by decide) rfl
    have hFc := va_free (wc := [(g0, .inr (1, [.long TT, .ref a1, .int (nI k), .ref a2, .ref a3, .int (nI (0 + (dk_num (O j)).length + 1)), .ref a4])), (a4, .inl (i4, 120, .inl (upd (dk_ap tx 0 (dk_num (O j))) (0 + (dk_num (O j)).length) (nI 32))))]) hD hS hA [0, 4] rfl
    have hKc := hK.sub (tys' := [(i4, .int)]) [3] rfl
    refine va_callv (va_runV (As := [.long (dk_yw mo mb (nI j) k)]) (rest := []) ⟨hx, hb, hml, hown, hts⟩ (cY_number l dC dI _ g0 a1 a2 a3 a4 i4 TT (nI k) (0 + (dk_num (O j)).length + 1) (upd (dk_ap tx 0 (dk_num (O j))) (0 + (dk_num (O j)).length) (nI 32)) (dk_yw mo mb (nI j) k) (by omega)) (cwV 1 hts gX1_write_X1_number rfl rfl rfl (by decide +kernel) ⟨Nat.le_of_ble_eq_true rfl, Nat.le_of_ble_eq_true rfl⟩) (dk_wV hPc hKc hDc (ci := 1) (q0 := 0) rfl rfl) rfl rfl hl.1 rfl (lv_room (Nat.le_of_ble_eq_true rfl)) dX1_write_38 ⟨Nat.zero_le _, Nat.zero_le _⟩) hS (fun q _ h => hFc q h) hFc (fun u8 t8 H1 locs ht8 hvm8 hw hB hz1 hk1 hS => ?_)
    try dsimp only at hw
    obtain ⟨hP1, hD1⟩ := hB
    rw [ht8] at hP1
    obtain ⟨hP, hD⟩ := va_join (wr := [(a1, .inl (i1, 200, .inr (.inl O))), (a2, .inl (i2, 520, .inl mo)), (a3, .inl (i3, 520, .inr (.inl mb)))]) (w1 := [(g0, .inr (1, [.long TT, .ref a1, .int (nI k), .ref a2, .ref a3, .int (nI (0 + (dk_num (O j)).length + 1 + (dk_num (dk_yw mo mb (nI j) k)).length)), .ref a4])), (a4, .inl (i4, 120, .inl (dk_ap (upd (dk_ap tx 0 (dk_num (O j))) (0 + (dk_num (O j)).length) (nI 32)) (0 + (dk_num (O j)).length + 1) (dk_num (dk_yw mo mb (nI j) k)))))]) hP hD [0, 4] [1, 2, 3] rfl rfl (by decide) (by decide) hk1 hFc hP1 hD1
    generalize H1 = H at hP hS ⊢
    have hP := hP.sub (ws' := [(g0, .inr (1, [.long TT, .ref a1, .int (nI k), .ref a2, .ref a3, .int (nI (0 + (dk_num (O j)).length + 1 + (dk_num (dk_yw mo mb (nI j) k)).length)), .ref a4])), (a1, .inl (i1, 200, .inr (.inl O))), (a2, .inl (i2, 520, .inl mo)), (a3, .inl (i3, 520, .inr (.inl mb))), (a4, .inl (i4, 120, .inl (dk_ap (upd (dk_ap tx 0 (dk_num (O j))) (0 + (dk_num (O j)).length) (nI 32)) (0 + (dk_num (O j)).length + 1) (dk_num (dk_yw mo mb (nI j) k)))))]) [3, 0, 1, 2, 4] rfl
    have hD := hD.sub (ws' := [(g0, .inr (1, [.long TT, .ref a1, .int (nI k), .ref a2, .ref a3, .int (nI (0 + (dk_num (O j)).length + 1 + (dk_num (dk_yw mo mb (nI j) k)).length)), .ref a4])), (a1, .inl (i1, 200, .inr (.inl O))), (a2, .inl (i2, 520, .inl mo)), (a3, .inl (i3, 520, .inr (.inl mb))), (a4, .inl (i4, 120, .inl (dk_ap (upd (dk_ap tx 0 (dk_num (O j))) (0 + (dk_num (O j)).length) (nI 32)) (0 + (dk_num (O j)).length + 1) (dk_num (dk_yw mo mb (nI j) k)))))]) [3, 0, 1, 2, 4] (by decide) rfl
    have hP : va_P (dC, dI) vwCl [(g0, .inr (1, [.long TT, .ref a1, .int (nI k), .ref a2, .ref a3, .int (nI (0 + (dk_num (O j)).length + 1 + (dk_num (dk_yw mo mb (nI j) k)).length)), .ref a4])), (a1, .inl (i1, 200, .inr (.inl O))), (a2, .inl (i2, 520, .inl mo)), (a3, .inl (i3, 520, .inr (.inl mb))), (a4, .inl (i4, 120, .inl (dk_ap (upd (dk_ap tx 0 (dk_num (O j))) (0 + (dk_num (O j)).length) (nI 32)) (0 + (dk_num (O j)).length + 1) (dk_num (dk_yw mo mb (nI j) k)))))] H := hP
    have hD : va_D A [(g0, .inr (1, [.long TT, .ref a1, .int (nI k), .ref a2, .ref a3, .int (nI (0 + (dk_num (O j)).length + 1 + (dk_num (dk_yw mo mb (nI j) k)).length)), .ref a4])), (a1, .inl (i1, 200, .inr (.inl O))), (a2, .inl (i2, 520, .inl mo)), (a3, .inl (i3, 520, .inr (.inl mb))), (a4, .inl (i4, 120, .inl (dk_ap (upd (dk_ap tx 0 (dk_num (O j))) (0 + (dk_num (O j)).length) (nI 32)) (0 + (dk_num (O j)).length + 1) (dk_num (dk_yw mo mb (nI j) k)))))] := hD
    refine lv_iinc (v := 2) (lv' := [(2, .int 2), (0, .ref g0), (1, .int (nI j))]) hx hb dX1_write_41 hl (k := 0) rfl (by decide) (by decide) rfl (fun ls hl => ?_)
    refine lv_goto (tgt := 16) hx hb dX1_write_44 (by decide) ?_
    refine lv_iload_n hx hb dX1_write_16 rfl (lv_at hl 0 rfl) ?_
    refine lv_iconst (v := 5) hx hb dX1_write_17 (by decide) ?_
    refine lv_icmp_ge (tgt := 47) hx hb dX1_write_18 (by decide) (fun c9 => absurd c9 (by decide)) (fun _ => ?_)
    refine lv_iload_n hx hb dX1_write_21 rfl (lv_at hl 0 rfl) ?_
    refine lv_if_le (tgt := 31) hx hb dX1_write_22 (by decide) (fun c9 => absurd c9 (by decide)) (fun _ => ?_)
    refine lv_aload_n hx hb dX1_write_25 rfl (lv_at hl 1 rfl) ?_
    refine lv_bipush (v := nI 32) hx hb dX1_write_26 (by decide) ?_
    have hPc := hP.sub (ws' := [(g0, .inr (1, [.long TT, .ref a1, .int (nI k), .ref a2, .ref a3, .int (nI (0 + (dk_num (O j)).length + 1 + (dk_num (dk_yw mo mb (nI j) k)).length)), .ref a4])), (a4, .inl (i4, 120, .inl (dk_ap (upd (dk_ap tx 0 (dk_num (O j))) (0 + (dk_num (O j)).length) (nI 32)) (0 + (dk_num (O j)).length + 1) (dk_num (dk_yw mo mb (nI j) k)))))]) [0, 4] rfl
    have hDc := hD.sub (ws' := [(g0, .inr (1, [.long TT, .ref a1, .int (nI k), .ref a2, .ref a3, .int (nI (0 + (dk_num (O j)).length + 1 + (dk_num (dk_yw mo mb (nI j) k)).length)), .ref a4])), (a4, .inl (i4, 120, .inl (dk_ap (upd (dk_ap tx 0 (dk_num (O j))) (0 + (dk_num (O j)).length) (nI 32)) (0 + (dk_num (O j)).length + 1) (dk_num (dk_yw mo mb (nI j) k)))))]) [0, 4] (by decide) rfl
    have hFc := va_free (wc := [(g0, .inr (1, [.long TT, .ref a1, .int (nI k), .ref a2, .ref a3, .int (nI (0 + (dk_num (O j)).length + 1 + (dk_num (dk_yw mo mb (nI j) k)).length)), .ref a4])), (a4, .inl (i4, 120, .inl (dk_ap (upd (dk_ap tx 0 (dk_num (O j))) (0 + (dk_num (O j)).length) (nI 32)) (0 + (dk_num (O j)).length + 1) (dk_num (dk_yw mo mb (nI j) k)))))]) hD hS hA [0, 4] rfl
    have hKc := hK.sub (tys' := [(i4, .int)]) [3] rfl
    refine va_callv (va_runV (As := [.int (nI 32)]) (rest := []) ⟨hx, hb, hml, hown, hts⟩ (cY_put l dC dI _ g0 a1 a2 a3 a4 i4 TT (nI k) (0 + (dk_num (O j)).length + 1 + (dk_num (dk_yw mo mb (nI j) k)).length) (by omega) (dk_ap (upd (dk_ap tx 0 (dk_num (O j))) (0 + (dk_num (O j)).length) (nI 32)) (0 + (dk_num (O j)).length + 1) (dk_num (dk_yw mo mb (nI j) k))) 32) (cwV 1 hts gX1_write_X1_put rfl rfl rfl (by decide +kernel) ⟨Nat.le_of_ble_eq_true rfl, Nat.le_of_ble_eq_true rfl⟩) (dk_wV hPc hKc hDc (ci := 1) (q0 := 0) rfl rfl) rfl rfl hl.1 rfl (lv_room (Nat.le_of_ble_eq_true rfl)) dX1_write_28 ⟨Nat.zero_le _, Nat.zero_le _⟩) hS (fun q _ h => hFc q h) hFc (fun u8 t8 H1 locs ht8 hvm8 hw hB hz1 hk1 hS => ?_)
    try dsimp only at hw
    obtain ⟨hP1, hD1⟩ := hB
    rw [ht8] at hP1
    obtain ⟨hP, hD⟩ := va_join (wr := [(a1, .inl (i1, 200, .inr (.inl O))), (a2, .inl (i2, 520, .inl mo)), (a3, .inl (i3, 520, .inr (.inl mb)))]) (w1 := [(g0, .inr (1, [.long TT, .ref a1, .int (nI k), .ref a2, .ref a3, .int (nI (0 + (dk_num (O j)).length + 1 + (dk_num (dk_yw mo mb (nI j) k)).length + 1)), .ref a4])), (a4, .inl (i4, 120, .inl (upd (dk_ap (upd (dk_ap tx 0 (dk_num (O j))) (0 + (dk_num (O j)).length) (nI 32)) (0 + (dk_num (O j)).length + 1) (dk_num (dk_yw mo mb (nI j) k))) (0 + (dk_num (O j)).length + 1 + (dk_num (dk_yw mo mb (nI j) k)).length) (nI 32))))]) hP hD [0, 4] [1, 2, 3] rfl rfl (by decide) (by decide) hk1 hFc hP1 hD1
    generalize H1 = H at hP hS ⊢
    have hP := hP.sub (ws' := [(g0, .inr (1, [.long TT, .ref a1, .int (nI k), .ref a2, .ref a3, .int (nI (0 + (dk_num (O j)).length + 1 + (dk_num (dk_yw mo mb (nI j) k)).length + 1)), .ref a4])), (a1, .inl (i1, 200, .inr (.inl O))), (a2, .inl (i2, 520, .inl mo)), (a3, .inl (i3, 520, .inr (.inl mb))), (a4, .inl (i4, 120, .inl (upd (dk_ap (upd (dk_ap tx 0 (dk_num (O j))) (0 + (dk_num (O j)).length) (nI 32)) (0 + (dk_num (O j)).length + 1) (dk_num (dk_yw mo mb (nI j) k))) (0 + (dk_num (O j)).length + 1 + (dk_num (dk_yw mo mb (nI j) k)).length) (nI 32))))]) [3, 0, 1, 2, 4] rfl
    have hD := hD.sub (ws' := [(g0, .inr (1, [.long TT, .ref a1, .int (nI k), .ref a2, .ref a3, .int (nI (0 + (dk_num (O j)).length + 1 + (dk_num (dk_yw mo mb (nI j) k)).length + 1)), .ref a4])), (a1, .inl (i1, 200, .inr (.inl O))), (a2, .inl (i2, 520, .inl mo)), (a3, .inl (i3, 520, .inr (.inl mb))), (a4, .inl (i4, 120, .inl (upd (dk_ap (upd (dk_ap tx 0 (dk_num (O j))) (0 + (dk_num (O j)).length) (nI 32)) (0 + (dk_num (O j)).length + 1) (dk_num (dk_yw mo mb (nI j) k))) (0 + (dk_num (O j)).length + 1 + (dk_num (dk_yw mo mb (nI j) k)).length) (nI 32))))]) [3, 0, 1, 2, 4] (by decide) rfl
    have hP : va_P (dC, dI) vwCl [(g0, .inr (1, [.long TT, .ref a1, .int (nI k), .ref a2, .ref a3, .int (nI (0 + (dk_num (O j)).length + 1 + (dk_num (dk_yw mo mb (nI j) k)).length + 1)), .ref a4])), (a1, .inl (i1, 200, .inr (.inl O))), (a2, .inl (i2, 520, .inl mo)), (a3, .inl (i3, 520, .inr (.inl mb))), (a4, .inl (i4, 120, .inl (upd (dk_ap (upd (dk_ap tx 0 (dk_num (O j))) (0 + (dk_num (O j)).length) (nI 32)) (0 + (dk_num (O j)).length + 1) (dk_num (dk_yw mo mb (nI j) k))) (0 + (dk_num (O j)).length + 1 + (dk_num (dk_yw mo mb (nI j) k)).length) (nI 32))))] H := hP
    have hD : va_D A [(g0, .inr (1, [.long TT, .ref a1, .int (nI k), .ref a2, .ref a3, .int (nI (0 + (dk_num (O j)).length + 1 + (dk_num (dk_yw mo mb (nI j) k)).length + 1)), .ref a4])), (a1, .inl (i1, 200, .inr (.inl O))), (a2, .inl (i2, 520, .inl mo)), (a3, .inl (i3, 520, .inr (.inl mb))), (a4, .inl (i4, 120, .inl (upd (dk_ap (upd (dk_ap tx 0 (dk_num (O j))) (0 + (dk_num (O j)).length) (nI 32)) (0 + (dk_num (O j)).length + 1) (dk_num (dk_yw mo mb (nI j) k))) (0 + (dk_num (O j)).length + 1 + (dk_num (dk_yw mo mb (nI j) k)).length) (nI 32))))] := hD
    refine lv_aload_n hx hb dX1_write_31 rfl (lv_at hl 1 rfl) ?_
    refine lv_aload_n hx hb dX1_write_32 rfl (lv_at hl 1 rfl) ?_
    refine lv_iload_n hx hb dX1_write_33 rfl (lv_at hl 2 rfl) ?_
    refine lv_iload_n hx hb dX1_write_34 rfl (lv_at hl 0 rfl) ?_
    have hPc := hP.sub (ws' := [(g0, .inr (1, [.long TT, .ref a1, .int (nI k), .ref a2, .ref a3, .int (nI (0 + (dk_num (O j)).length + 1 + (dk_num (dk_yw mo mb (nI j) k)).length + 1)), .ref a4])), (a1, .inl (i1, 200, .inr (.inl O))), (a2, .inl (i2, 520, .inl mo)), (a3, .inl (i3, 520, .inr (.inl mb)))]) [0, 1, 2, 3] rfl
    have hKc := hK.sub (tys' := [(i1, .long), (i2, .int), (i3, .long)]) [0, 1, 2] rfl
    refine va_calll (va_runV (As := [.int (nI j), .int 2]) (rest := [.ref g0]) ⟨hx, hb, hml, hown, hts⟩ (cY_row l dC dI g0 a1 a2 a3 a4 i1 i2 i3 TT k hk9 (nI (0 + (dk_num (O j)).length + 1 + (dk_num (dk_yw mo mb (nI j) k)).length + 1)) O mo mb (nI j) 2) (cwV 2 hts gX1_write_X1_row rfl rfl rfl (by decide +kernel) ⟨Nat.le_of_ble_eq_true rfl, Nat.le_of_ble_eq_true rfl⟩) (dk_rV hPc hKc (ci := 1) (q0 := 0) rfl rfl) rfl rfl hl.1 rfl (lv_room (Nat.le_of_ble_eq_true rfl)) dX1_write_35 ⟨Nat.zero_le _, Nat.zero_le _⟩) hS (fun q _ h => False.elim h) (fun q h => False.elim h) (fun r_35 u8 t8 H1 locs ht8 hvm8 hw hB hz1 hk1 hS => ?_)
    try dsimp only at hw
    have hP := dk_kept hP hk1
    generalize H1 = H at hP hS ⊢
    have hw := dk_row_in hj hw
    have hw : _ = dk_yc mo mb (nI j) k := hw
    subst hw
    have hPc := hP.sub (ws' := [(g0, .inr (1, [.long TT, .ref a1, .int (nI k), .ref a2, .ref a3, .int (nI (0 + (dk_num (O j)).length + 1 + (dk_num (dk_yw mo mb (nI j) k)).length + 1)), .ref a4])), (a4, .inl (i4, 120, .inl (upd (dk_ap (upd (dk_ap tx 0 (dk_num (O j))) (0 + (dk_num (O j)).length) (nI 32)) (0 + (dk_num (O j)).length + 1) (dk_num (dk_yw mo mb (nI j) k))) (0 + (dk_num (O j)).length + 1 + (dk_num (dk_yw mo mb (nI j) k)).length) (nI 32))))]) [0, 4] rfl
    have hDc := hD.sub (ws' := [(g0, .inr (1, [.long TT, .ref a1, .int (nI k), .ref a2, .ref a3, .int (nI (0 + (dk_num (O j)).length + 1 + (dk_num (dk_yw mo mb (nI j) k)).length + 1)), .ref a4])), (a4, .inl (i4, 120, .inl (upd (dk_ap (upd (dk_ap tx 0 (dk_num (O j))) (0 + (dk_num (O j)).length) (nI 32)) (0 + (dk_num (O j)).length + 1) (dk_num (dk_yw mo mb (nI j) k))) (0 + (dk_num (O j)).length + 1 + (dk_num (dk_yw mo mb (nI j) k)).length) (nI 32))))]) [0, 4] (by decide) rfl
    have hFc := va_free (wc := [(g0, .inr (1, [.long TT, .ref a1, .int (nI k), .ref a2, .ref a3, .int (nI (0 + (dk_num (O j)).length + 1 + (dk_num (dk_yw mo mb (nI j) k)).length + 1)), .ref a4])), (a4, .inl (i4, 120, .inl (upd (dk_ap (upd (dk_ap tx 0 (dk_num (O j))) (0 + (dk_num (O j)).length) (nI 32)) (0 + (dk_num (O j)).length + 1) (dk_num (dk_yw mo mb (nI j) k))) (0 + (dk_num (O j)).length + 1 + (dk_num (dk_yw mo mb (nI j) k)).length) (nI 32))))]) hD hS hA [0, 4] rfl
    have hKc := hK.sub (tys' := [(i4, .int)]) [3] rfl
    refine va_callv (va_runV (As := [.long (dk_yc mo mb (nI j) k)]) (rest := []) ⟨hx, hb, hml, hown, hts⟩ (cY_number l dC dI _ g0 a1 a2 a3 a4 i4 TT (nI k) (0 + (dk_num (O j)).length + 1 + (dk_num (dk_yw mo mb (nI j) k)).length + 1) (upd (dk_ap (upd (dk_ap tx 0 (dk_num (O j))) (0 + (dk_num (O j)).length) (nI 32)) (0 + (dk_num (O j)).length + 1) (dk_num (dk_yw mo mb (nI j) k))) (0 + (dk_num (O j)).length + 1 + (dk_num (dk_yw mo mb (nI j) k)).length) (nI 32)) (dk_yc mo mb (nI j) k) (by omega)) (cwV 1 hts gX1_write_X1_number rfl rfl rfl (by decide +kernel) ⟨Nat.le_of_ble_eq_true rfl, Nat.le_of_ble_eq_true rfl⟩) (dk_wV hPc hKc hDc (ci := 1) (q0 := 0) rfl rfl) rfl rfl hl.1 rfl (lv_room (Nat.le_of_ble_eq_true rfl)) dX1_write_38 ⟨Nat.zero_le _, Nat.zero_le _⟩) hS (fun q _ h => hFc q h) hFc (fun u8 t8 H1 locs ht8 hvm8 hw hB hz1 hk1 hS => ?_)
    try dsimp only at hw
    obtain ⟨hP1, hD1⟩ := hB
    rw [ht8] at hP1
    obtain ⟨hP, hD⟩ := va_join (wr := [(a1, .inl (i1, 200, .inr (.inl O))), (a2, .inl (i2, 520, .inl mo)), (a3, .inl (i3, 520, .inr (.inl mb)))]) (w1 := [(g0, .inr (1, [.long TT, .ref a1, .int (nI k), .ref a2, .ref a3, .int (nI (0 + (dk_num (O j)).length + 1 + (dk_num (dk_yw mo mb (nI j) k)).length + 1 + (dk_num (dk_yc mo mb (nI j) k)).length)), .ref a4])), (a4, .inl (i4, 120, .inl (dk_ap (upd (dk_ap (upd (dk_ap tx 0 (dk_num (O j))) (0 + (dk_num (O j)).length) (nI 32)) (0 + (dk_num (O j)).length + 1) (dk_num (dk_yw mo mb (nI j) k))) (0 + (dk_num (O j)).length + 1 + (dk_num (dk_yw mo mb (nI j) k)).length) (nI 32)) (0 + (dk_num (O j)).length + 1 + (dk_num (dk_yw mo mb (nI j) k)).length + 1) (dk_num (dk_yc mo mb (nI j) k)))))]) hP hD [0, 4] [1, 2, 3] rfl rfl (by decide) (by decide) hk1 hFc hP1 hD1
    generalize H1 = H at hP hS ⊢
    have hP := hP.sub (ws' := [(g0, .inr (1, [.long TT, .ref a1, .int (nI k), .ref a2, .ref a3, .int (nI (0 + (dk_num (O j)).length + 1 + (dk_num (dk_yw mo mb (nI j) k)).length + 1 + (dk_num (dk_yc mo mb (nI j) k)).length)), .ref a4])), (a1, .inl (i1, 200, .inr (.inl O))), (a2, .inl (i2, 520, .inl mo)), (a3, .inl (i3, 520, .inr (.inl mb))), (a4, .inl (i4, 120, .inl (dk_ap (upd (dk_ap (upd (dk_ap tx 0 (dk_num (O j))) (0 + (dk_num (O j)).length) (nI 32)) (0 + (dk_num (O j)).length + 1) (dk_num (dk_yw mo mb (nI j) k))) (0 + (dk_num (O j)).length + 1 + (dk_num (dk_yw mo mb (nI j) k)).length) (nI 32)) (0 + (dk_num (O j)).length + 1 + (dk_num (dk_yw mo mb (nI j) k)).length + 1) (dk_num (dk_yc mo mb (nI j) k)))))]) [3, 0, 1, 2, 4] rfl
    have hD := hD.sub (ws' := [(g0, .inr (1, [.long TT, .ref a1, .int (nI k), .ref a2, .ref a3, .int (nI (0 + (dk_num (O j)).length + 1 + (dk_num (dk_yw mo mb (nI j) k)).length + 1 + (dk_num (dk_yc mo mb (nI j) k)).length)), .ref a4])), (a1, .inl (i1, 200, .inr (.inl O))), (a2, .inl (i2, 520, .inl mo)), (a3, .inl (i3, 520, .inr (.inl mb))), (a4, .inl (i4, 120, .inl (dk_ap (upd (dk_ap (upd (dk_ap tx 0 (dk_num (O j))) (0 + (dk_num (O j)).length) (nI 32)) (0 + (dk_num (O j)).length + 1) (dk_num (dk_yw mo mb (nI j) k))) (0 + (dk_num (O j)).length + 1 + (dk_num (dk_yw mo mb (nI j) k)).length) (nI 32)) (0 + (dk_num (O j)).length + 1 + (dk_num (dk_yw mo mb (nI j) k)).length + 1) (dk_num (dk_yc mo mb (nI j) k)))))]) [3, 0, 1, 2, 4] (by decide) rfl
    have hP : va_P (dC, dI) vwCl [(g0, .inr (1, [.long TT, .ref a1, .int (nI k), .ref a2, .ref a3, .int (nI (0 + (dk_num (O j)).length + 1 + (dk_num (dk_yw mo mb (nI j) k)).length + 1 + (dk_num (dk_yc mo mb (nI j) k)).length)), .ref a4])), (a1, .inl (i1, 200, .inr (.inl O))), (a2, .inl (i2, 520, .inl mo)), (a3, .inl (i3, 520, .inr (.inl mb))), (a4, .inl (i4, 120, .inl (dk_ap (upd (dk_ap (upd (dk_ap tx 0 (dk_num (O j))) (0 + (dk_num (O j)).length) (nI 32)) (0 + (dk_num (O j)).length + 1) (dk_num (dk_yw mo mb (nI j) k))) (0 + (dk_num (O j)).length + 1 + (dk_num (dk_yw mo mb (nI j) k)).length) (nI 32)) (0 + (dk_num (O j)).length + 1 + (dk_num (dk_yw mo mb (nI j) k)).length + 1) (dk_num (dk_yc mo mb (nI j) k)))))] H := hP
    have hD : va_D A [(g0, .inr (1, [.long TT, .ref a1, .int (nI k), .ref a2, .ref a3, .int (nI (0 + (dk_num (O j)).length + 1 + (dk_num (dk_yw mo mb (nI j) k)).length + 1 + (dk_num (dk_yc mo mb (nI j) k)).length)), .ref a4])), (a1, .inl (i1, 200, .inr (.inl O))), (a2, .inl (i2, 520, .inl mo)), (a3, .inl (i3, 520, .inr (.inl mb))), (a4, .inl (i4, 120, .inl (dk_ap (upd (dk_ap (upd (dk_ap tx 0 (dk_num (O j))) (0 + (dk_num (O j)).length) (nI 32)) (0 + (dk_num (O j)).length + 1) (dk_num (dk_yw mo mb (nI j) k))) (0 + (dk_num (O j)).length + 1 + (dk_num (dk_yw mo mb (nI j) k)).length) (nI 32)) (0 + (dk_num (O j)).length + 1 + (dk_num (dk_yw mo mb (nI j) k)).length + 1) (dk_num (dk_yc mo mb (nI j) k)))))] := hD
    refine lv_iinc (v := 3) (lv' := [(2, .int 3), (0, .ref g0), (1, .int (nI j))]) hx hb dX1_write_41 hl (k := 0) rfl (by decide) (by decide) rfl (fun ls hl => ?_)
    refine lv_goto (tgt := 16) hx hb dX1_write_44 (by decide) ?_
    refine lv_iload_n hx hb dX1_write_16 rfl (lv_at hl 0 rfl) ?_
    refine lv_iconst (v := 5) hx hb dX1_write_17 (by decide) ?_
    refine lv_icmp_ge (tgt := 47) hx hb dX1_write_18 (by decide) (fun c9 => absurd c9 (by decide)) (fun _ => ?_)
    refine lv_iload_n hx hb dX1_write_21 rfl (lv_at hl 0 rfl) ?_
    refine lv_if_le (tgt := 31) hx hb dX1_write_22 (by decide) (fun c9 => absurd c9 (by decide)) (fun _ => ?_)
    refine lv_aload_n hx hb dX1_write_25 rfl (lv_at hl 1 rfl) ?_
    refine lv_bipush (v := nI 32) hx hb dX1_write_26 (by decide) ?_
    have hPc := hP.sub (ws' := [(g0, .inr (1, [.long TT, .ref a1, .int (nI k), .ref a2, .ref a3, .int (nI (0 + (dk_num (O j)).length + 1 + (dk_num (dk_yw mo mb (nI j) k)).length + 1 + (dk_num (dk_yc mo mb (nI j) k)).length)), .ref a4])), (a4, .inl (i4, 120, .inl (dk_ap (upd (dk_ap (upd (dk_ap tx 0 (dk_num (O j))) (0 + (dk_num (O j)).length) (nI 32)) (0 + (dk_num (O j)).length + 1) (dk_num (dk_yw mo mb (nI j) k))) (0 + (dk_num (O j)).length + 1 + (dk_num (dk_yw mo mb (nI j) k)).length) (nI 32)) (0 + (dk_num (O j)).length + 1 + (dk_num (dk_yw mo mb (nI j) k)).length + 1) (dk_num (dk_yc mo mb (nI j) k)))))]) [0, 4] rfl
    have hDc := hD.sub (ws' := [(g0, .inr (1, [.long TT, .ref a1, .int (nI k), .ref a2, .ref a3, .int (nI (0 + (dk_num (O j)).length + 1 + (dk_num (dk_yw mo mb (nI j) k)).length + 1 + (dk_num (dk_yc mo mb (nI j) k)).length)), .ref a4])), (a4, .inl (i4, 120, .inl (dk_ap (upd (dk_ap (upd (dk_ap tx 0 (dk_num (O j))) (0 + (dk_num (O j)).length) (nI 32)) (0 + (dk_num (O j)).length + 1) (dk_num (dk_yw mo mb (nI j) k))) (0 + (dk_num (O j)).length + 1 + (dk_num (dk_yw mo mb (nI j) k)).length) (nI 32)) (0 + (dk_num (O j)).length + 1 + (dk_num (dk_yw mo mb (nI j) k)).length + 1) (dk_num (dk_yc mo mb (nI j) k)))))]) [0, 4] (by decide) rfl
    have hFc := va_free (wc := [(g0, .inr (1, [.long TT, .ref a1, .int (nI k), .ref a2, .ref a3, .int (nI (0 + (dk_num (O j)).length + 1 + (dk_num (dk_yw mo mb (nI j) k)).length + 1 + (dk_num (dk_yc mo mb (nI j) k)).length)), .ref a4])), (a4, .inl (i4, 120, .inl (dk_ap (upd (dk_ap (upd (dk_ap tx 0 (dk_num (O j))) (0 + (dk_num (O j)).length) (nI 32)) (0 + (dk_num (O j)).length + 1) (dk_num (dk_yw mo mb (nI j) k))) (0 + (dk_num (O j)).length + 1 + (dk_num (dk_yw mo mb (nI j) k)).length) (nI 32)) (0 + (dk_num (O j)).length + 1 + (dk_num (dk_yw mo mb (nI j) k)).length + 1) (dk_num (dk_yc mo mb (nI j) k)))))]) hD hS hA [0, 4] rfl
    have hKc := hK.sub (tys' := [(i4, .int)]) [3] rfl
    refine va_callv (va_runV (As := [.int (nI 32)]) (rest := []) ⟨hx, hb, hml, hown, hts⟩ (cY_put l dC dI _ g0 a1 a2 a3 a4 i4 TT (nI k) (0 + (dk_num (O j)).length + 1 + (dk_num (dk_yw mo mb (nI j) k)).length + 1 + (dk_num (dk_yc mo mb (nI j) k)).length) (by omega) (dk_ap (upd (dk_ap (upd (dk_ap tx 0 (dk_num (O j))) (0 + (dk_num (O j)).length) (nI 32)) (0 + (dk_num (O j)).length + 1) (dk_num (dk_yw mo mb (nI j) k))) (0 + (dk_num (O j)).length + 1 + (dk_num (dk_yw mo mb (nI j) k)).length) (nI 32)) (0 + (dk_num (O j)).length + 1 + (dk_num (dk_yw mo mb (nI j) k)).length + 1) (dk_num (dk_yc mo mb (nI j) k))) 32) (cwV 1 hts gX1_write_X1_put rfl rfl rfl (by decide +kernel) ⟨Nat.le_of_ble_eq_true rfl, Nat.le_of_ble_eq_true rfl⟩) (dk_wV hPc hKc hDc (ci := 1) (q0 := 0) rfl rfl) rfl rfl hl.1 rfl (lv_room (Nat.le_of_ble_eq_true rfl)) dX1_write_28 ⟨Nat.zero_le _, Nat.zero_le _⟩) hS (fun q _ h => hFc q h) hFc (fun u8 t8 H1 locs ht8 hvm8 hw hB hz1 hk1 hS => ?_)
    try dsimp only at hw
    obtain ⟨hP1, hD1⟩ := hB
    rw [ht8] at hP1
    obtain ⟨hP, hD⟩ := va_join (wr := [(a1, .inl (i1, 200, .inr (.inl O))), (a2, .inl (i2, 520, .inl mo)), (a3, .inl (i3, 520, .inr (.inl mb)))]) (w1 := [(g0, .inr (1, [.long TT, .ref a1, .int (nI k), .ref a2, .ref a3, .int (nI (0 + (dk_num (O j)).length + 1 + (dk_num (dk_yw mo mb (nI j) k)).length + 1 + (dk_num (dk_yc mo mb (nI j) k)).length + 1)), .ref a4])), (a4, .inl (i4, 120, .inl (upd (dk_ap (upd (dk_ap (upd (dk_ap tx 0 (dk_num (O j))) (0 + (dk_num (O j)).length) (nI 32)) (0 + (dk_num (O j)).length + 1) (dk_num (dk_yw mo mb (nI j) k))) (0 + (dk_num (O j)).length + 1 + (dk_num (dk_yw mo mb (nI j) k)).length) (nI 32)) (0 + (dk_num (O j)).length + 1 + (dk_num (dk_yw mo mb (nI j) k)).length + 1) (dk_num (dk_yc mo mb (nI j) k))) (0 + (dk_num (O j)).length + 1 + (dk_num (dk_yw mo mb (nI j) k)).length + 1 + (dk_num (dk_yc mo mb (nI j) k)).length) (nI 32))))]) hP hD [0, 4] [1, 2, 3] rfl rfl (by decide) (by decide) hk1 hFc hP1 hD1
    generalize H1 = H at hP hS ⊢
    have hP := hP.sub (ws' := [(g0, .inr (1, [.long TT, .ref a1, .int (nI k), .ref a2, .ref a3, .int (nI (0 + (dk_num (O j)).length + 1 + (dk_num (dk_yw mo mb (nI j) k)).length + 1 + (dk_num (dk_yc mo mb (nI j) k)).length + 1)), .ref a4])), (a1, .inl (i1, 200, .inr (.inl O))), (a2, .inl (i2, 520, .inl mo)), (a3, .inl (i3, 520, .inr (.inl mb))), (a4, .inl (i4, 120, .inl (upd (dk_ap (upd (dk_ap (upd (dk_ap tx 0 (dk_num (O j))) (0 + (dk_num (O j)).length) (nI 32)) (0 + (dk_num (O j)).length + 1) (dk_num (dk_yw mo mb (nI j) k))) (0 + (dk_num (O j)).length + 1 + (dk_num (dk_yw mo mb (nI j) k)).length) (nI 32)) (0 + (dk_num (O j)).length + 1 + (dk_num (dk_yw mo mb (nI j) k)).length + 1) (dk_num (dk_yc mo mb (nI j) k))) (0 + (dk_num (O j)).length + 1 + (dk_num (dk_yw mo mb (nI j) k)).length + 1 + (dk_num (dk_yc mo mb (nI j) k)).length) (nI 32))))]) [3, 0, 1, 2, 4] rfl
    have hD := hD.sub (ws' := [(g0, .inr (1, [.long TT, .ref a1, .int (nI k), .ref a2, .ref a3, .int (nI (0 + (dk_num (O j)).length + 1 + (dk_num (dk_yw mo mb (nI j) k)).length + 1 + (dk_num (dk_yc mo mb (nI j) k)).length + 1)), .ref a4])), (a1, .inl (i1, 200, .inr (.inl O))), (a2, .inl (i2, 520, .inl mo)), (a3, .inl (i3, 520, .inr (.inl mb))), (a4, .inl (i4, 120, .inl (upd (dk_ap (upd (dk_ap (upd (dk_ap tx 0 (dk_num (O j))) (0 + (dk_num (O j)).length) (nI 32)) (0 + (dk_num (O j)).length + 1) (dk_num (dk_yw mo mb (nI j) k))) (0 + (dk_num (O j)).length + 1 + (dk_num (dk_yw mo mb (nI j) k)).length) (nI 32)) (0 + (dk_num (O j)).length + 1 + (dk_num (dk_yw mo mb (nI j) k)).length + 1) (dk_num (dk_yc mo mb (nI j) k))) (0 + (dk_num (O j)).length + 1 + (dk_num (dk_yw mo mb (nI j) k)).length + 1 + (dk_num (dk_yc mo mb (nI j) k)).length) (nI 32))))]) [3, 0, 1, 2, 4] (by decide) rfl
    have hP : va_P (dC, dI) vwCl [(g0, .inr (1, [.long TT, .ref a1, .int (nI k), .ref a2, .ref a3, .int (nI (0 + (dk_num (O j)).length + 1 + (dk_num (dk_yw mo mb (nI j) k)).length + 1 + (dk_num (dk_yc mo mb (nI j) k)).length + 1)), .ref a4])), (a1, .inl (i1, 200, .inr (.inl O))), (a2, .inl (i2, 520, .inl mo)), (a3, .inl (i3, 520, .inr (.inl mb))), (a4, .inl (i4, 120, .inl (upd (dk_ap (upd (dk_ap (upd (dk_ap tx 0 (dk_num (O j))) (0 + (dk_num (O j)).length) (nI 32)) (0 + (dk_num (O j)).length + 1) (dk_num (dk_yw mo mb (nI j) k))) (0 + (dk_num (O j)).length + 1 + (dk_num (dk_yw mo mb (nI j) k)).length) (nI 32)) (0 + (dk_num (O j)).length + 1 + (dk_num (dk_yw mo mb (nI j) k)).length + 1) (dk_num (dk_yc mo mb (nI j) k))) (0 + (dk_num (O j)).length + 1 + (dk_num (dk_yw mo mb (nI j) k)).length + 1 + (dk_num (dk_yc mo mb (nI j) k)).length) (nI 32))))] H := hP
    have hD : va_D A [(g0, .inr (1, [.long TT, .ref a1, .int (nI k), .ref a2, .ref a3, .int (nI (0 + (dk_num (O j)).length + 1 + (dk_num (dk_yw mo mb (nI j) k)).length + 1 + (dk_num (dk_yc mo mb (nI j) k)).length + 1)), .ref a4])), (a1, .inl (i1, 200, .inr (.inl O))), (a2, .inl (i2, 520, .inl mo)), (a3, .inl (i3, 520, .inr (.inl mb))), (a4, .inl (i4, 120, .inl (upd (dk_ap (upd (dk_ap (upd (dk_ap tx 0 (dk_num (O j))) (0 + (dk_num (O j)).length) (nI 32)) (0 + (dk_num (O j)).length + 1) (dk_num (dk_yw mo mb (nI j) k))) (0 + (dk_num (O j)).length + 1 + (dk_num (dk_yw mo mb (nI j) k)).length) (nI 32)) (0 + (dk_num (O j)).length + 1 + (dk_num (dk_yw mo mb (nI j) k)).length + 1) (dk_num (dk_yc mo mb (nI j) k))) (0 + (dk_num (O j)).length + 1 + (dk_num (dk_yw mo mb (nI j) k)).length + 1 + (dk_num (dk_yc mo mb (nI j) k)).length) (nI 32))))] := hD
    refine lv_aload_n hx hb dX1_write_31 rfl (lv_at hl 1 rfl) ?_
    refine lv_aload_n hx hb dX1_write_32 rfl (lv_at hl 1 rfl) ?_
    refine lv_iload_n hx hb dX1_write_33 rfl (lv_at hl 2 rfl) ?_
    refine lv_iload_n hx hb dX1_write_34 rfl (lv_at hl 0 rfl) ?_
    have hPc := hP.sub (ws' := [(g0, .inr (1, [.long TT, .ref a1, .int (nI k), .ref a2, .ref a3, .int (nI (0 + (dk_num (O j)).length + 1 + (dk_num (dk_yw mo mb (nI j) k)).length + 1 + (dk_num (dk_yc mo mb (nI j) k)).length + 1)), .ref a4])), (a1, .inl (i1, 200, .inr (.inl O))), (a2, .inl (i2, 520, .inl mo)), (a3, .inl (i3, 520, .inr (.inl mb)))]) [0, 1, 2, 3] rfl
    have hKc := hK.sub (tys' := [(i1, .long), (i2, .int), (i3, .long)]) [0, 1, 2] rfl
    refine va_calll (va_runV (As := [.int (nI j), .int 3]) (rest := [.ref g0]) ⟨hx, hb, hml, hown, hts⟩ (cY_row l dC dI g0 a1 a2 a3 a4 i1 i2 i3 TT k hk9 (nI (0 + (dk_num (O j)).length + 1 + (dk_num (dk_yw mo mb (nI j) k)).length + 1 + (dk_num (dk_yc mo mb (nI j) k)).length + 1)) O mo mb (nI j) 3) (cwV 2 hts gX1_write_X1_row rfl rfl rfl (by decide +kernel) ⟨Nat.le_of_ble_eq_true rfl, Nat.le_of_ble_eq_true rfl⟩) (dk_rV hPc hKc (ci := 1) (q0 := 0) rfl rfl) rfl rfl hl.1 rfl (lv_room (Nat.le_of_ble_eq_true rfl)) dX1_write_35 ⟨Nat.zero_le _, Nat.zero_le _⟩) hS (fun q _ h => False.elim h) (fun q h => False.elim h) (fun r_35 u8 t8 H1 locs ht8 hvm8 hw hB hz1 hk1 hS => ?_)
    try dsimp only at hw
    have hP := dk_kept hP hk1
    generalize H1 = H at hP hS ⊢
    have hw := dk_row_in hj hw
    have hw : _ = dk_y3 O mo mb k j := hw
    subst hw
    have hPc := hP.sub (ws' := [(g0, .inr (1, [.long TT, .ref a1, .int (nI k), .ref a2, .ref a3, .int (nI (0 + (dk_num (O j)).length + 1 + (dk_num (dk_yw mo mb (nI j) k)).length + 1 + (dk_num (dk_yc mo mb (nI j) k)).length + 1)), .ref a4])), (a4, .inl (i4, 120, .inl (upd (dk_ap (upd (dk_ap (upd (dk_ap tx 0 (dk_num (O j))) (0 + (dk_num (O j)).length) (nI 32)) (0 + (dk_num (O j)).length + 1) (dk_num (dk_yw mo mb (nI j) k))) (0 + (dk_num (O j)).length + 1 + (dk_num (dk_yw mo mb (nI j) k)).length) (nI 32)) (0 + (dk_num (O j)).length + 1 + (dk_num (dk_yw mo mb (nI j) k)).length + 1) (dk_num (dk_yc mo mb (nI j) k))) (0 + (dk_num (O j)).length + 1 + (dk_num (dk_yw mo mb (nI j) k)).length + 1 + (dk_num (dk_yc mo mb (nI j) k)).length) (nI 32))))]) [0, 4] rfl
    have hDc := hD.sub (ws' := [(g0, .inr (1, [.long TT, .ref a1, .int (nI k), .ref a2, .ref a3, .int (nI (0 + (dk_num (O j)).length + 1 + (dk_num (dk_yw mo mb (nI j) k)).length + 1 + (dk_num (dk_yc mo mb (nI j) k)).length + 1)), .ref a4])), (a4, .inl (i4, 120, .inl (upd (dk_ap (upd (dk_ap (upd (dk_ap tx 0 (dk_num (O j))) (0 + (dk_num (O j)).length) (nI 32)) (0 + (dk_num (O j)).length + 1) (dk_num (dk_yw mo mb (nI j) k))) (0 + (dk_num (O j)).length + 1 + (dk_num (dk_yw mo mb (nI j) k)).length) (nI 32)) (0 + (dk_num (O j)).length + 1 + (dk_num (dk_yw mo mb (nI j) k)).length + 1) (dk_num (dk_yc mo mb (nI j) k))) (0 + (dk_num (O j)).length + 1 + (dk_num (dk_yw mo mb (nI j) k)).length + 1 + (dk_num (dk_yc mo mb (nI j) k)).length) (nI 32))))]) [0, 4] (by decide) rfl
    have hFc := va_free (wc := [(g0, .inr (1, [.long TT, .ref a1, .int (nI k), .ref a2, .ref a3, .int (nI (0 + (dk_num (O j)).length + 1 + (dk_num (dk_yw mo mb (nI j) k)).length + 1 + (dk_num (dk_yc mo mb (nI j) k)).length + 1)), .ref a4])), (a4, .inl (i4, 120, .inl (upd (dk_ap (upd (dk_ap (upd (dk_ap tx 0 (dk_num (O j))) (0 + (dk_num (O j)).length) (nI 32)) (0 + (dk_num (O j)).length + 1) (dk_num (dk_yw mo mb (nI j) k))) (0 + (dk_num (O j)).length + 1 + (dk_num (dk_yw mo mb (nI j) k)).length) (nI 32)) (0 + (dk_num (O j)).length + 1 + (dk_num (dk_yw mo mb (nI j) k)).length + 1) (dk_num (dk_yc mo mb (nI j) k))) (0 + (dk_num (O j)).length + 1 + (dk_num (dk_yw mo mb (nI j) k)).length + 1 + (dk_num (dk_yc mo mb (nI j) k)).length) (nI 32))))]) hD hS hA [0, 4] rfl
    have hKc := hK.sub (tys' := [(i4, .int)]) [3] rfl
    refine va_callv (va_runV (As := [.long (dk_y3 O mo mb k j)]) (rest := []) ⟨hx, hb, hml, hown, hts⟩ (cY_number l dC dI _ g0 a1 a2 a3 a4 i4 TT (nI k) (0 + (dk_num (O j)).length + 1 + (dk_num (dk_yw mo mb (nI j) k)).length + 1 + (dk_num (dk_yc mo mb (nI j) k)).length + 1) (upd (dk_ap (upd (dk_ap (upd (dk_ap tx 0 (dk_num (O j))) (0 + (dk_num (O j)).length) (nI 32)) (0 + (dk_num (O j)).length + 1) (dk_num (dk_yw mo mb (nI j) k))) (0 + (dk_num (O j)).length + 1 + (dk_num (dk_yw mo mb (nI j) k)).length) (nI 32)) (0 + (dk_num (O j)).length + 1 + (dk_num (dk_yw mo mb (nI j) k)).length + 1) (dk_num (dk_yc mo mb (nI j) k))) (0 + (dk_num (O j)).length + 1 + (dk_num (dk_yw mo mb (nI j) k)).length + 1 + (dk_num (dk_yc mo mb (nI j) k)).length) (nI 32)) (dk_y3 O mo mb k j) (by omega)) (cwV 1 hts gX1_write_X1_number rfl rfl rfl (by decide +kernel) ⟨Nat.le_of_ble_eq_true rfl, Nat.le_of_ble_eq_true rfl⟩) (dk_wV hPc hKc hDc (ci := 1) (q0 := 0) rfl rfl) rfl rfl hl.1 rfl (lv_room (Nat.le_of_ble_eq_true rfl)) dX1_write_38 ⟨Nat.zero_le _, Nat.zero_le _⟩) hS (fun q _ h => hFc q h) hFc (fun u8 t8 H1 locs ht8 hvm8 hw hB hz1 hk1 hS => ?_)
    try dsimp only at hw
    obtain ⟨hP1, hD1⟩ := hB
    rw [ht8] at hP1
    obtain ⟨hP, hD⟩ := va_join (wr := [(a1, .inl (i1, 200, .inr (.inl O))), (a2, .inl (i2, 520, .inl mo)), (a3, .inl (i3, 520, .inr (.inl mb)))]) (w1 := [(g0, .inr (1, [.long TT, .ref a1, .int (nI k), .ref a2, .ref a3, .int (nI (0 + (dk_num (O j)).length + 1 + (dk_num (dk_yw mo mb (nI j) k)).length + 1 + (dk_num (dk_yc mo mb (nI j) k)).length + 1 + (dk_num (dk_y3 O mo mb k j)).length)), .ref a4])), (a4, .inl (i4, 120, .inl (dk_ap (upd (dk_ap (upd (dk_ap (upd (dk_ap tx 0 (dk_num (O j))) (0 + (dk_num (O j)).length) (nI 32)) (0 + (dk_num (O j)).length + 1) (dk_num (dk_yw mo mb (nI j) k))) (0 + (dk_num (O j)).length + 1 + (dk_num (dk_yw mo mb (nI j) k)).length) (nI 32)) (0 + (dk_num (O j)).length + 1 + (dk_num (dk_yw mo mb (nI j) k)).length + 1) (dk_num (dk_yc mo mb (nI j) k))) (0 + (dk_num (O j)).length + 1 + (dk_num (dk_yw mo mb (nI j) k)).length + 1 + (dk_num (dk_yc mo mb (nI j) k)).length) (nI 32)) (0 + (dk_num (O j)).length + 1 + (dk_num (dk_yw mo mb (nI j) k)).length + 1 + (dk_num (dk_yc mo mb (nI j) k)).length + 1) (dk_num (dk_y3 O mo mb k j)))))]) hP hD [0, 4] [1, 2, 3] rfl rfl (by decide) (by decide) hk1 hFc hP1 hD1
    generalize H1 = H at hP hS ⊢
    have hP := hP.sub (ws' := [(g0, .inr (1, [.long TT, .ref a1, .int (nI k), .ref a2, .ref a3, .int (nI (0 + (dk_num (O j)).length + 1 + (dk_num (dk_yw mo mb (nI j) k)).length + 1 + (dk_num (dk_yc mo mb (nI j) k)).length + 1 + (dk_num (dk_y3 O mo mb k j)).length)), .ref a4])), (a1, .inl (i1, 200, .inr (.inl O))), (a2, .inl (i2, 520, .inl mo)), (a3, .inl (i3, 520, .inr (.inl mb))), (a4, .inl (i4, 120, .inl (dk_ap (upd (dk_ap (upd (dk_ap (upd (dk_ap tx 0 (dk_num (O j))) (0 + (dk_num (O j)).length) (nI 32)) (0 + (dk_num (O j)).length + 1) (dk_num (dk_yw mo mb (nI j) k))) (0 + (dk_num (O j)).length + 1 + (dk_num (dk_yw mo mb (nI j) k)).length) (nI 32)) (0 + (dk_num (O j)).length + 1 + (dk_num (dk_yw mo mb (nI j) k)).length + 1) (dk_num (dk_yc mo mb (nI j) k))) (0 + (dk_num (O j)).length + 1 + (dk_num (dk_yw mo mb (nI j) k)).length + 1 + (dk_num (dk_yc mo mb (nI j) k)).length) (nI 32)) (0 + (dk_num (O j)).length + 1 + (dk_num (dk_yw mo mb (nI j) k)).length + 1 + (dk_num (dk_yc mo mb (nI j) k)).length + 1) (dk_num (dk_y3 O mo mb k j)))))]) [3, 0, 1, 2, 4] rfl
    have hD := hD.sub (ws' := [(g0, .inr (1, [.long TT, .ref a1, .int (nI k), .ref a2, .ref a3, .int (nI (0 + (dk_num (O j)).length + 1 + (dk_num (dk_yw mo mb (nI j) k)).length + 1 + (dk_num (dk_yc mo mb (nI j) k)).length + 1 + (dk_num (dk_y3 O mo mb k j)).length)), .ref a4])), (a1, .inl (i1, 200, .inr (.inl O))), (a2, .inl (i2, 520, .inl mo)), (a3, .inl (i3, 520, .inr (.inl mb))), (a4, .inl (i4, 120, .inl (dk_ap (upd (dk_ap (upd (dk_ap (upd (dk_ap tx 0 (dk_num (O j))) (0 + (dk_num (O j)).length) (nI 32)) (0 + (dk_num (O j)).length + 1) (dk_num (dk_yw mo mb (nI j) k))) (0 + (dk_num (O j)).length + 1 + (dk_num (dk_yw mo mb (nI j) k)).length) (nI 32)) (0 + (dk_num (O j)).length + 1 + (dk_num (dk_yw mo mb (nI j) k)).length + 1) (dk_num (dk_yc mo mb (nI j) k))) (0 + (dk_num (O j)).length + 1 + (dk_num (dk_yw mo mb (nI j) k)).length + 1 + (dk_num (dk_yc mo mb (nI j) k)).length) (nI 32)) (0 + (dk_num (O j)).length + 1 + (dk_num (dk_yw mo mb (nI j) k)).length + 1 + (dk_num (dk_yc mo mb (nI j) k)).length + 1) (dk_num (dk_y3 O mo mb k j)))))]) [3, 0, 1, 2, 4] (by decide) rfl
    have hP : va_P (dC, dI) vwCl [(g0, .inr (1, [.long TT, .ref a1, .int (nI k), .ref a2, .ref a3, .int (nI (0 + (dk_num (O j)).length + 1 + (dk_num (dk_yw mo mb (nI j) k)).length + 1 + (dk_num (dk_yc mo mb (nI j) k)).length + 1 + (dk_num (dk_y3 O mo mb k j)).length)), .ref a4])), (a1, .inl (i1, 200, .inr (.inl O))), (a2, .inl (i2, 520, .inl mo)), (a3, .inl (i3, 520, .inr (.inl mb))), (a4, .inl (i4, 120, .inl (dk_ap (upd (dk_ap (upd (dk_ap (upd (dk_ap tx 0 (dk_num (O j))) (0 + (dk_num (O j)).length) (nI 32)) (0 + (dk_num (O j)).length + 1) (dk_num (dk_yw mo mb (nI j) k))) (0 + (dk_num (O j)).length + 1 + (dk_num (dk_yw mo mb (nI j) k)).length) (nI 32)) (0 + (dk_num (O j)).length + 1 + (dk_num (dk_yw mo mb (nI j) k)).length + 1) (dk_num (dk_yc mo mb (nI j) k))) (0 + (dk_num (O j)).length + 1 + (dk_num (dk_yw mo mb (nI j) k)).length + 1 + (dk_num (dk_yc mo mb (nI j) k)).length) (nI 32)) (0 + (dk_num (O j)).length + 1 + (dk_num (dk_yw mo mb (nI j) k)).length + 1 + (dk_num (dk_yc mo mb (nI j) k)).length + 1) (dk_num (dk_y3 O mo mb k j)))))] H := hP
    have hD : va_D A [(g0, .inr (1, [.long TT, .ref a1, .int (nI k), .ref a2, .ref a3, .int (nI (0 + (dk_num (O j)).length + 1 + (dk_num (dk_yw mo mb (nI j) k)).length + 1 + (dk_num (dk_yc mo mb (nI j) k)).length + 1 + (dk_num (dk_y3 O mo mb k j)).length)), .ref a4])), (a1, .inl (i1, 200, .inr (.inl O))), (a2, .inl (i2, 520, .inl mo)), (a3, .inl (i3, 520, .inr (.inl mb))), (a4, .inl (i4, 120, .inl (dk_ap (upd (dk_ap (upd (dk_ap (upd (dk_ap tx 0 (dk_num (O j))) (0 + (dk_num (O j)).length) (nI 32)) (0 + (dk_num (O j)).length + 1) (dk_num (dk_yw mo mb (nI j) k))) (0 + (dk_num (O j)).length + 1 + (dk_num (dk_yw mo mb (nI j) k)).length) (nI 32)) (0 + (dk_num (O j)).length + 1 + (dk_num (dk_yw mo mb (nI j) k)).length + 1) (dk_num (dk_yc mo mb (nI j) k))) (0 + (dk_num (O j)).length + 1 + (dk_num (dk_yw mo mb (nI j) k)).length + 1 + (dk_num (dk_yc mo mb (nI j) k)).length) (nI 32)) (0 + (dk_num (O j)).length + 1 + (dk_num (dk_yw mo mb (nI j) k)).length + 1 + (dk_num (dk_yc mo mb (nI j) k)).length + 1) (dk_num (dk_y3 O mo mb k j)))))] := hD
    refine lv_iinc (v := 4) (lv' := [(2, .int 4), (0, .ref g0), (1, .int (nI j))]) hx hb dX1_write_41 hl (k := 0) rfl (by decide) (by decide) rfl (fun ls hl => ?_)
    refine lv_goto (tgt := 16) hx hb dX1_write_44 (by decide) ?_
    refine lv_iload_n hx hb dX1_write_16 rfl (lv_at hl 0 rfl) ?_
    refine lv_iconst (v := 5) hx hb dX1_write_17 (by decide) ?_
    refine lv_icmp_ge (tgt := 47) hx hb dX1_write_18 (by decide) (fun c9 => absurd c9 (by decide)) (fun _ => ?_)
    refine lv_iload_n hx hb dX1_write_21 rfl (lv_at hl 0 rfl) ?_
    refine lv_if_le (tgt := 31) hx hb dX1_write_22 (by decide) (fun c9 => absurd c9 (by decide)) (fun _ => ?_)
    refine lv_aload_n hx hb dX1_write_25 rfl (lv_at hl 1 rfl) ?_
    refine lv_bipush (v := nI 32) hx hb dX1_write_26 (by decide) ?_
    have hPc := hP.sub (ws' := [(g0, .inr (1, [.long TT, .ref a1, .int (nI k), .ref a2, .ref a3, .int (nI (0 + (dk_num (O j)).length + 1 + (dk_num (dk_yw mo mb (nI j) k)).length + 1 + (dk_num (dk_yc mo mb (nI j) k)).length + 1 + (dk_num (dk_y3 O mo mb k j)).length)), .ref a4])), (a4, .inl (i4, 120, .inl (dk_ap (upd (dk_ap (upd (dk_ap (upd (dk_ap tx 0 (dk_num (O j))) (0 + (dk_num (O j)).length) (nI 32)) (0 + (dk_num (O j)).length + 1) (dk_num (dk_yw mo mb (nI j) k))) (0 + (dk_num (O j)).length + 1 + (dk_num (dk_yw mo mb (nI j) k)).length) (nI 32)) (0 + (dk_num (O j)).length + 1 + (dk_num (dk_yw mo mb (nI j) k)).length + 1) (dk_num (dk_yc mo mb (nI j) k))) (0 + (dk_num (O j)).length + 1 + (dk_num (dk_yw mo mb (nI j) k)).length + 1 + (dk_num (dk_yc mo mb (nI j) k)).length) (nI 32)) (0 + (dk_num (O j)).length + 1 + (dk_num (dk_yw mo mb (nI j) k)).length + 1 + (dk_num (dk_yc mo mb (nI j) k)).length + 1) (dk_num (dk_y3 O mo mb k j)))))]) [0, 4] rfl
    have hDc := hD.sub (ws' := [(g0, .inr (1, [.long TT, .ref a1, .int (nI k), .ref a2, .ref a3, .int (nI (0 + (dk_num (O j)).length + 1 + (dk_num (dk_yw mo mb (nI j) k)).length + 1 + (dk_num (dk_yc mo mb (nI j) k)).length + 1 + (dk_num (dk_y3 O mo mb k j)).length)), .ref a4])), (a4, .inl (i4, 120, .inl (dk_ap (upd (dk_ap (upd (dk_ap (upd (dk_ap tx 0 (dk_num (O j))) (0 + (dk_num (O j)).length) (nI 32)) (0 + (dk_num (O j)).length + 1) (dk_num (dk_yw mo mb (nI j) k))) (0 + (dk_num (O j)).length + 1 + (dk_num (dk_yw mo mb (nI j) k)).length) (nI 32)) (0 + (dk_num (O j)).length + 1 + (dk_num (dk_yw mo mb (nI j) k)).length + 1) (dk_num (dk_yc mo mb (nI j) k))) (0 + (dk_num (O j)).length + 1 + (dk_num (dk_yw mo mb (nI j) k)).length + 1 + (dk_num (dk_yc mo mb (nI j) k)).length) (nI 32)) (0 + (dk_num (O j)).length + 1 + (dk_num (dk_yw mo mb (nI j) k)).length + 1 + (dk_num (dk_yc mo mb (nI j) k)).length + 1) (dk_num (dk_y3 O mo mb k j)))))]) [0, 4] (by decide) rfl
    have hFc := va_free (wc := [(g0, .inr (1, [.long TT, .ref a1, .int (nI k), .ref a2, .ref a3, .int (nI (0 + (dk_num (O j)).length + 1 + (dk_num (dk_yw mo mb (nI j) k)).length + 1 + (dk_num (dk_yc mo mb (nI j) k)).length + 1 + (dk_num (dk_y3 O mo mb k j)).length)), .ref a4])), (a4, .inl (i4, 120, .inl (dk_ap (upd (dk_ap (upd (dk_ap (upd (dk_ap tx 0 (dk_num (O j))) (0 + (dk_num (O j)).length) (nI 32)) (0 + (dk_num (O j)).length + 1) (dk_num (dk_yw mo mb (nI j) k))) (0 + (dk_num (O j)).length + 1 + (dk_num (dk_yw mo mb (nI j) k)).length) (nI 32)) (0 + (dk_num (O j)).length + 1 + (dk_num (dk_yw mo mb (nI j) k)).length + 1) (dk_num (dk_yc mo mb (nI j) k))) (0 + (dk_num (O j)).length + 1 + (dk_num (dk_yw mo mb (nI j) k)).length + 1 + (dk_num (dk_yc mo mb (nI j) k)).length) (nI 32)) (0 + (dk_num (O j)).length + 1 + (dk_num (dk_yw mo mb (nI j) k)).length + 1 + (dk_num (dk_yc mo mb (nI j) k)).length + 1) (dk_num (dk_y3 O mo mb k j)))))]) hD hS hA [0, 4] rfl
    have hKc := hK.sub (tys' := [(i4, .int)]) [3] rfl
    refine va_callv (va_runV (As := [.int (nI 32)]) (rest := []) ⟨hx, hb, hml, hown, hts⟩ (cY_put l dC dI _ g0 a1 a2 a3 a4 i4 TT (nI k) (0 + (dk_num (O j)).length + 1 + (dk_num (dk_yw mo mb (nI j) k)).length + 1 + (dk_num (dk_yc mo mb (nI j) k)).length + 1 + (dk_num (dk_y3 O mo mb k j)).length) (by omega) (dk_ap (upd (dk_ap (upd (dk_ap (upd (dk_ap tx 0 (dk_num (O j))) (0 + (dk_num (O j)).length) (nI 32)) (0 + (dk_num (O j)).length + 1) (dk_num (dk_yw mo mb (nI j) k))) (0 + (dk_num (O j)).length + 1 + (dk_num (dk_yw mo mb (nI j) k)).length) (nI 32)) (0 + (dk_num (O j)).length + 1 + (dk_num (dk_yw mo mb (nI j) k)).length + 1) (dk_num (dk_yc mo mb (nI j) k))) (0 + (dk_num (O j)).length + 1 + (dk_num (dk_yw mo mb (nI j) k)).length + 1 + (dk_num (dk_yc mo mb (nI j) k)).length) (nI 32)) (0 + (dk_num (O j)).length + 1 + (dk_num (dk_yw mo mb (nI j) k)).length + 1 + (dk_num (dk_yc mo mb (nI j) k)).length + 1) (dk_num (dk_y3 O mo mb k j))) 32) (cwV 1 hts gX1_write_X1_put rfl rfl rfl (by decide +kernel) ⟨Nat.le_of_ble_eq_true rfl, Nat.le_of_ble_eq_true rfl⟩) (dk_wV hPc hKc hDc (ci := 1) (q0 := 0) rfl rfl) rfl rfl hl.1 rfl (lv_room (Nat.le_of_ble_eq_true rfl)) dX1_write_28 ⟨Nat.zero_le _, Nat.zero_le _⟩) hS (fun q _ h => hFc q h) hFc (fun u8 t8 H1 locs ht8 hvm8 hw hB hz1 hk1 hS => ?_)
    try dsimp only at hw
    obtain ⟨hP1, hD1⟩ := hB
    rw [ht8] at hP1
    obtain ⟨hP, hD⟩ := va_join (wr := [(a1, .inl (i1, 200, .inr (.inl O))), (a2, .inl (i2, 520, .inl mo)), (a3, .inl (i3, 520, .inr (.inl mb)))]) (w1 := [(g0, .inr (1, [.long TT, .ref a1, .int (nI k), .ref a2, .ref a3, .int (nI (0 + (dk_num (O j)).length + 1 + (dk_num (dk_yw mo mb (nI j) k)).length + 1 + (dk_num (dk_yc mo mb (nI j) k)).length + 1 + (dk_num (dk_y3 O mo mb k j)).length + 1)), .ref a4])), (a4, .inl (i4, 120, .inl (upd (dk_ap (upd (dk_ap (upd (dk_ap (upd (dk_ap tx 0 (dk_num (O j))) (0 + (dk_num (O j)).length) (nI 32)) (0 + (dk_num (O j)).length + 1) (dk_num (dk_yw mo mb (nI j) k))) (0 + (dk_num (O j)).length + 1 + (dk_num (dk_yw mo mb (nI j) k)).length) (nI 32)) (0 + (dk_num (O j)).length + 1 + (dk_num (dk_yw mo mb (nI j) k)).length + 1) (dk_num (dk_yc mo mb (nI j) k))) (0 + (dk_num (O j)).length + 1 + (dk_num (dk_yw mo mb (nI j) k)).length + 1 + (dk_num (dk_yc mo mb (nI j) k)).length) (nI 32)) (0 + (dk_num (O j)).length + 1 + (dk_num (dk_yw mo mb (nI j) k)).length + 1 + (dk_num (dk_yc mo mb (nI j) k)).length + 1) (dk_num (dk_y3 O mo mb k j))) (0 + (dk_num (O j)).length + 1 + (dk_num (dk_yw mo mb (nI j) k)).length + 1 + (dk_num (dk_yc mo mb (nI j) k)).length + 1 + (dk_num (dk_y3 O mo mb k j)).length) (nI 32))))]) hP hD [0, 4] [1, 2, 3] rfl rfl (by decide) (by decide) hk1 hFc hP1 hD1
    generalize H1 = H at hP hS ⊢
    have hP := hP.sub (ws' := [(g0, .inr (1, [.long TT, .ref a1, .int (nI k), .ref a2, .ref a3, .int (nI (0 + (dk_num (O j)).length + 1 + (dk_num (dk_yw mo mb (nI j) k)).length + 1 + (dk_num (dk_yc mo mb (nI j) k)).length + 1 + (dk_num (dk_y3 O mo mb k j)).length + 1)), .ref a4])), (a1, .inl (i1, 200, .inr (.inl O))), (a2, .inl (i2, 520, .inl mo)), (a3, .inl (i3, 520, .inr (.inl mb))), (a4, .inl (i4, 120, .inl (upd (dk_ap (upd (dk_ap (upd (dk_ap (upd (dk_ap tx 0 (dk_num (O j))) (0 + (dk_num (O j)).length) (nI 32)) (0 + (dk_num (O j)).length + 1) (dk_num (dk_yw mo mb (nI j) k))) (0 + (dk_num (O j)).length + 1 + (dk_num (dk_yw mo mb (nI j) k)).length) (nI 32)) (0 + (dk_num (O j)).length + 1 + (dk_num (dk_yw mo mb (nI j) k)).length + 1) (dk_num (dk_yc mo mb (nI j) k))) (0 + (dk_num (O j)).length + 1 + (dk_num (dk_yw mo mb (nI j) k)).length + 1 + (dk_num (dk_yc mo mb (nI j) k)).length) (nI 32)) (0 + (dk_num (O j)).length + 1 + (dk_num (dk_yw mo mb (nI j) k)).length + 1 + (dk_num (dk_yc mo mb (nI j) k)).length + 1) (dk_num (dk_y3 O mo mb k j))) (0 + (dk_num (O j)).length + 1 + (dk_num (dk_yw mo mb (nI j) k)).length + 1 + (dk_num (dk_yc mo mb (nI j) k)).length + 1 + (dk_num (dk_y3 O mo mb k j)).length) (nI 32))))]) [3, 0, 1, 2, 4] rfl
    have hD := hD.sub (ws' := [(g0, .inr (1, [.long TT, .ref a1, .int (nI k), .ref a2, .ref a3, .int (nI (0 + (dk_num (O j)).length + 1 + (dk_num (dk_yw mo mb (nI j) k)).length + 1 + (dk_num (dk_yc mo mb (nI j) k)).length + 1 + (dk_num (dk_y3 O mo mb k j)).length + 1)), .ref a4])), (a1, .inl (i1, 200, .inr (.inl O))), (a2, .inl (i2, 520, .inl mo)), (a3, .inl (i3, 520, .inr (.inl mb))), (a4, .inl (i4, 120, .inl (upd (dk_ap (upd (dk_ap (upd (dk_ap (upd (dk_ap tx 0 (dk_num (O j))) (0 + (dk_num (O j)).length) (nI 32)) (0 + (dk_num (O j)).length + 1) (dk_num (dk_yw mo mb (nI j) k))) (0 + (dk_num (O j)).length + 1 + (dk_num (dk_yw mo mb (nI j) k)).length) (nI 32)) (0 + (dk_num (O j)).length + 1 + (dk_num (dk_yw mo mb (nI j) k)).length + 1) (dk_num (dk_yc mo mb (nI j) k))) (0 + (dk_num (O j)).length + 1 + (dk_num (dk_yw mo mb (nI j) k)).length + 1 + (dk_num (dk_yc mo mb (nI j) k)).length) (nI 32)) (0 + (dk_num (O j)).length + 1 + (dk_num (dk_yw mo mb (nI j) k)).length + 1 + (dk_num (dk_yc mo mb (nI j) k)).length + 1) (dk_num (dk_y3 O mo mb k j))) (0 + (dk_num (O j)).length + 1 + (dk_num (dk_yw mo mb (nI j) k)).length + 1 + (dk_num (dk_yc mo mb (nI j) k)).length + 1 + (dk_num (dk_y3 O mo mb k j)).length) (nI 32))))]) [3, 0, 1, 2, 4] (by decide) rfl
    have hP : va_P (dC, dI) vwCl [(g0, .inr (1, [.long TT, .ref a1, .int (nI k), .ref a2, .ref a3, .int (nI (0 + (dk_num (O j)).length + 1 + (dk_num (dk_yw mo mb (nI j) k)).length + 1 + (dk_num (dk_yc mo mb (nI j) k)).length + 1 + (dk_num (dk_y3 O mo mb k j)).length + 1)), .ref a4])), (a1, .inl (i1, 200, .inr (.inl O))), (a2, .inl (i2, 520, .inl mo)), (a3, .inl (i3, 520, .inr (.inl mb))), (a4, .inl (i4, 120, .inl (upd (dk_ap (upd (dk_ap (upd (dk_ap (upd (dk_ap tx 0 (dk_num (O j))) (0 + (dk_num (O j)).length) (nI 32)) (0 + (dk_num (O j)).length + 1) (dk_num (dk_yw mo mb (nI j) k))) (0 + (dk_num (O j)).length + 1 + (dk_num (dk_yw mo mb (nI j) k)).length) (nI 32)) (0 + (dk_num (O j)).length + 1 + (dk_num (dk_yw mo mb (nI j) k)).length + 1) (dk_num (dk_yc mo mb (nI j) k))) (0 + (dk_num (O j)).length + 1 + (dk_num (dk_yw mo mb (nI j) k)).length + 1 + (dk_num (dk_yc mo mb (nI j) k)).length) (nI 32)) (0 + (dk_num (O j)).length + 1 + (dk_num (dk_yw mo mb (nI j) k)).length + 1 + (dk_num (dk_yc mo mb (nI j) k)).length + 1) (dk_num (dk_y3 O mo mb k j))) (0 + (dk_num (O j)).length + 1 + (dk_num (dk_yw mo mb (nI j) k)).length + 1 + (dk_num (dk_yc mo mb (nI j) k)).length + 1 + (dk_num (dk_y3 O mo mb k j)).length) (nI 32))))] H := hP
    have hD : va_D A [(g0, .inr (1, [.long TT, .ref a1, .int (nI k), .ref a2, .ref a3, .int (nI (0 + (dk_num (O j)).length + 1 + (dk_num (dk_yw mo mb (nI j) k)).length + 1 + (dk_num (dk_yc mo mb (nI j) k)).length + 1 + (dk_num (dk_y3 O mo mb k j)).length + 1)), .ref a4])), (a1, .inl (i1, 200, .inr (.inl O))), (a2, .inl (i2, 520, .inl mo)), (a3, .inl (i3, 520, .inr (.inl mb))), (a4, .inl (i4, 120, .inl (upd (dk_ap (upd (dk_ap (upd (dk_ap (upd (dk_ap tx 0 (dk_num (O j))) (0 + (dk_num (O j)).length) (nI 32)) (0 + (dk_num (O j)).length + 1) (dk_num (dk_yw mo mb (nI j) k))) (0 + (dk_num (O j)).length + 1 + (dk_num (dk_yw mo mb (nI j) k)).length) (nI 32)) (0 + (dk_num (O j)).length + 1 + (dk_num (dk_yw mo mb (nI j) k)).length + 1) (dk_num (dk_yc mo mb (nI j) k))) (0 + (dk_num (O j)).length + 1 + (dk_num (dk_yw mo mb (nI j) k)).length + 1 + (dk_num (dk_yc mo mb (nI j) k)).length) (nI 32)) (0 + (dk_num (O j)).length + 1 + (dk_num (dk_yw mo mb (nI j) k)).length + 1 + (dk_num (dk_yc mo mb (nI j) k)).length + 1) (dk_num (dk_y3 O mo mb k j))) (0 + (dk_num (O j)).length + 1 + (dk_num (dk_yw mo mb (nI j) k)).length + 1 + (dk_num (dk_yc mo mb (nI j) k)).length + 1 + (dk_num (dk_y3 O mo mb k j)).length) (nI 32))))] := hD
    refine lv_aload_n hx hb dX1_write_31 rfl (lv_at hl 1 rfl) ?_
    refine lv_aload_n hx hb dX1_write_32 rfl (lv_at hl 1 rfl) ?_
    refine lv_iload_n hx hb dX1_write_33 rfl (lv_at hl 2 rfl) ?_
    refine lv_iload_n hx hb dX1_write_34 rfl (lv_at hl 0 rfl) ?_
    have hPc := hP.sub (ws' := [(g0, .inr (1, [.long TT, .ref a1, .int (nI k), .ref a2, .ref a3, .int (nI (0 + (dk_num (O j)).length + 1 + (dk_num (dk_yw mo mb (nI j) k)).length + 1 + (dk_num (dk_yc mo mb (nI j) k)).length + 1 + (dk_num (dk_y3 O mo mb k j)).length + 1)), .ref a4])), (a1, .inl (i1, 200, .inr (.inl O))), (a2, .inl (i2, 520, .inl mo)), (a3, .inl (i3, 520, .inr (.inl mb)))]) [0, 1, 2, 3] rfl
    have hKc := hK.sub (tys' := [(i1, .long), (i2, .int), (i3, .long)]) [0, 1, 2] rfl
    refine va_calll (va_runV (As := [.int (nI j), .int 4]) (rest := [.ref g0]) ⟨hx, hb, hml, hown, hts⟩ (cY_row l dC dI g0 a1 a2 a3 a4 i1 i2 i3 TT k hk9 (nI (0 + (dk_num (O j)).length + 1 + (dk_num (dk_yw mo mb (nI j) k)).length + 1 + (dk_num (dk_yc mo mb (nI j) k)).length + 1 + (dk_num (dk_y3 O mo mb k j)).length + 1)) O mo mb (nI j) 4) (cwV 2 hts gX1_write_X1_row rfl rfl rfl (by decide +kernel) ⟨Nat.le_of_ble_eq_true rfl, Nat.le_of_ble_eq_true rfl⟩) (dk_rV hPc hKc (ci := 1) (q0 := 0) rfl rfl) rfl rfl hl.1 rfl (lv_room (Nat.le_of_ble_eq_true rfl)) dX1_write_35 ⟨Nat.zero_le _, Nat.zero_le _⟩) hS (fun q _ h => False.elim h) (fun q h => False.elim h) (fun r_35 u8 t8 H1 locs ht8 hvm8 hw hB hz1 hk1 hS => ?_)
    try dsimp only at hw
    have hP := dk_kept hP hk1
    generalize H1 = H at hP hS ⊢
    have hw := dk_row_in hj hw
    have hw : _ = lN (dk_yn mo (nI j) k) := hw
    subst hw
    have hPc := hP.sub (ws' := [(g0, .inr (1, [.long TT, .ref a1, .int (nI k), .ref a2, .ref a3, .int (nI (0 + (dk_num (O j)).length + 1 + (dk_num (dk_yw mo mb (nI j) k)).length + 1 + (dk_num (dk_yc mo mb (nI j) k)).length + 1 + (dk_num (dk_y3 O mo mb k j)).length + 1)), .ref a4])), (a4, .inl (i4, 120, .inl (upd (dk_ap (upd (dk_ap (upd (dk_ap (upd (dk_ap tx 0 (dk_num (O j))) (0 + (dk_num (O j)).length) (nI 32)) (0 + (dk_num (O j)).length + 1) (dk_num (dk_yw mo mb (nI j) k))) (0 + (dk_num (O j)).length + 1 + (dk_num (dk_yw mo mb (nI j) k)).length) (nI 32)) (0 + (dk_num (O j)).length + 1 + (dk_num (dk_yw mo mb (nI j) k)).length + 1) (dk_num (dk_yc mo mb (nI j) k))) (0 + (dk_num (O j)).length + 1 + (dk_num (dk_yw mo mb (nI j) k)).length + 1 + (dk_num (dk_yc mo mb (nI j) k)).length) (nI 32)) (0 + (dk_num (O j)).length + 1 + (dk_num (dk_yw mo mb (nI j) k)).length + 1 + (dk_num (dk_yc mo mb (nI j) k)).length + 1) (dk_num (dk_y3 O mo mb k j))) (0 + (dk_num (O j)).length + 1 + (dk_num (dk_yw mo mb (nI j) k)).length + 1 + (dk_num (dk_yc mo mb (nI j) k)).length + 1 + (dk_num (dk_y3 O mo mb k j)).length) (nI 32))))]) [0, 4] rfl
    have hDc := hD.sub (ws' := [(g0, .inr (1, [.long TT, .ref a1, .int (nI k), .ref a2, .ref a3, .int (nI (0 + (dk_num (O j)).length + 1 + (dk_num (dk_yw mo mb (nI j) k)).length + 1 + (dk_num (dk_yc mo mb (nI j) k)).length + 1 + (dk_num (dk_y3 O mo mb k j)).length + 1)), .ref a4])), (a4, .inl (i4, 120, .inl (upd (dk_ap (upd (dk_ap (upd (dk_ap (upd (dk_ap tx 0 (dk_num (O j))) (0 + (dk_num (O j)).length) (nI 32)) (0 + (dk_num (O j)).length + 1) (dk_num (dk_yw mo mb (nI j) k))) (0 + (dk_num (O j)).length + 1 + (dk_num (dk_yw mo mb (nI j) k)).length) (nI 32)) (0 + (dk_num (O j)).length + 1 + (dk_num (dk_yw mo mb (nI j) k)).length + 1) (dk_num (dk_yc mo mb (nI j) k))) (0 + (dk_num (O j)).length + 1 + (dk_num (dk_yw mo mb (nI j) k)).length + 1 + (dk_num (dk_yc mo mb (nI j) k)).length) (nI 32)) (0 + (dk_num (O j)).length + 1 + (dk_num (dk_yw mo mb (nI j) k)).length + 1 + (dk_num (dk_yc mo mb (nI j) k)).length + 1) (dk_num (dk_y3 O mo mb k j))) (0 + (dk_num (O j)).length + 1 + (dk_num (dk_yw mo mb (nI j) k)).length + 1 + (dk_num (dk_yc mo mb (nI j) k)).length + 1 + (dk_num (dk_y3 O mo mb k j)).length) (nI 32))))]) [0, 4] (by decide) rfl
    have hFc := va_free (wc := [(g0, .inr (1, [.long TT, .ref a1, .int (nI k), .ref a2, .ref a3, .int (nI (0 + (dk_num (O j)).length + 1 + (dk_num (dk_yw mo mb (nI j) k)).length + 1 + (dk_num (dk_yc mo mb (nI j) k)).length + 1 + (dk_num (dk_y3 O mo mb k j)).length + 1)), .ref a4])), (a4, .inl (i4, 120, .inl (upd (dk_ap (upd (dk_ap (upd (dk_ap (upd (dk_ap tx 0 (dk_num (O j))) (0 + (dk_num (O j)).length) (nI 32)) (0 + (dk_num (O j)).length + 1) (dk_num (dk_yw mo mb (nI j) k))) (0 + (dk_num (O j)).length + 1 + (dk_num (dk_yw mo mb (nI j) k)).length) (nI 32)) (0 + (dk_num (O j)).length + 1 + (dk_num (dk_yw mo mb (nI j) k)).length + 1) (dk_num (dk_yc mo mb (nI j) k))) (0 + (dk_num (O j)).length + 1 + (dk_num (dk_yw mo mb (nI j) k)).length + 1 + (dk_num (dk_yc mo mb (nI j) k)).length) (nI 32)) (0 + (dk_num (O j)).length + 1 + (dk_num (dk_yw mo mb (nI j) k)).length + 1 + (dk_num (dk_yc mo mb (nI j) k)).length + 1) (dk_num (dk_y3 O mo mb k j))) (0 + (dk_num (O j)).length + 1 + (dk_num (dk_yw mo mb (nI j) k)).length + 1 + (dk_num (dk_yc mo mb (nI j) k)).length + 1 + (dk_num (dk_y3 O mo mb k j)).length) (nI 32))))]) hD hS hA [0, 4] rfl
    have hKc := hK.sub (tys' := [(i4, .int)]) [3] rfl
    refine va_callv (va_runV (As := [.long (lN (dk_yn mo (nI j) k))]) (rest := []) ⟨hx, hb, hml, hown, hts⟩ (cY_number l dC dI _ g0 a1 a2 a3 a4 i4 TT (nI k) (0 + (dk_num (O j)).length + 1 + (dk_num (dk_yw mo mb (nI j) k)).length + 1 + (dk_num (dk_yc mo mb (nI j) k)).length + 1 + (dk_num (dk_y3 O mo mb k j)).length + 1) (upd (dk_ap (upd (dk_ap (upd (dk_ap (upd (dk_ap tx 0 (dk_num (O j))) (0 + (dk_num (O j)).length) (nI 32)) (0 + (dk_num (O j)).length + 1) (dk_num (dk_yw mo mb (nI j) k))) (0 + (dk_num (O j)).length + 1 + (dk_num (dk_yw mo mb (nI j) k)).length) (nI 32)) (0 + (dk_num (O j)).length + 1 + (dk_num (dk_yw mo mb (nI j) k)).length + 1) (dk_num (dk_yc mo mb (nI j) k))) (0 + (dk_num (O j)).length + 1 + (dk_num (dk_yw mo mb (nI j) k)).length + 1 + (dk_num (dk_yc mo mb (nI j) k)).length) (nI 32)) (0 + (dk_num (O j)).length + 1 + (dk_num (dk_yw mo mb (nI j) k)).length + 1 + (dk_num (dk_yc mo mb (nI j) k)).length + 1) (dk_num (dk_y3 O mo mb k j))) (0 + (dk_num (O j)).length + 1 + (dk_num (dk_yw mo mb (nI j) k)).length + 1 + (dk_num (dk_yc mo mb (nI j) k)).length + 1 + (dk_num (dk_y3 O mo mb k j)).length) (nI 32)) (lN (dk_yn mo (nI j) k)) (by omega)) (cwV 1 hts gX1_write_X1_number rfl rfl rfl (by decide +kernel) ⟨Nat.le_of_ble_eq_true rfl, Nat.le_of_ble_eq_true rfl⟩) (dk_wV hPc hKc hDc (ci := 1) (q0 := 0) rfl rfl) rfl rfl hl.1 rfl (lv_room (Nat.le_of_ble_eq_true rfl)) dX1_write_38 ⟨Nat.zero_le _, Nat.zero_le _⟩) hS (fun q _ h => hFc q h) hFc (fun u8 t8 H1 locs ht8 hvm8 hw hB hz1 hk1 hS => ?_)
    try dsimp only at hw
    obtain ⟨hP1, hD1⟩ := hB
    rw [ht8] at hP1
    obtain ⟨hP, hD⟩ := va_join (wr := [(a1, .inl (i1, 200, .inr (.inl O))), (a2, .inl (i2, 520, .inl mo)), (a3, .inl (i3, 520, .inr (.inl mb)))]) (w1 := [(g0, .inr (1, [.long TT, .ref a1, .int (nI k), .ref a2, .ref a3, .int (nI (0 + (dk_num (O j)).length + 1 + (dk_num (dk_yw mo mb (nI j) k)).length + 1 + (dk_num (dk_yc mo mb (nI j) k)).length + 1 + (dk_num (dk_y3 O mo mb k j)).length + 1 + (dk_num (lN (dk_yn mo (nI j) k))).length)), .ref a4])), (a4, .inl (i4, 120, .inl (dk_ap (upd (dk_ap (upd (dk_ap (upd (dk_ap (upd (dk_ap tx 0 (dk_num (O j))) (0 + (dk_num (O j)).length) (nI 32)) (0 + (dk_num (O j)).length + 1) (dk_num (dk_yw mo mb (nI j) k))) (0 + (dk_num (O j)).length + 1 + (dk_num (dk_yw mo mb (nI j) k)).length) (nI 32)) (0 + (dk_num (O j)).length + 1 + (dk_num (dk_yw mo mb (nI j) k)).length + 1) (dk_num (dk_yc mo mb (nI j) k))) (0 + (dk_num (O j)).length + 1 + (dk_num (dk_yw mo mb (nI j) k)).length + 1 + (dk_num (dk_yc mo mb (nI j) k)).length) (nI 32)) (0 + (dk_num (O j)).length + 1 + (dk_num (dk_yw mo mb (nI j) k)).length + 1 + (dk_num (dk_yc mo mb (nI j) k)).length + 1) (dk_num (dk_y3 O mo mb k j))) (0 + (dk_num (O j)).length + 1 + (dk_num (dk_yw mo mb (nI j) k)).length + 1 + (dk_num (dk_yc mo mb (nI j) k)).length + 1 + (dk_num (dk_y3 O mo mb k j)).length) (nI 32)) (0 + (dk_num (O j)).length + 1 + (dk_num (dk_yw mo mb (nI j) k)).length + 1 + (dk_num (dk_yc mo mb (nI j) k)).length + 1 + (dk_num (dk_y3 O mo mb k j)).length + 1) (dk_num (lN (dk_yn mo (nI j) k))))))]) hP hD [0, 4] [1, 2, 3] rfl rfl (by decide) (by decide) hk1 hFc hP1 hD1
    generalize H1 = H at hP hS ⊢
    have hP := hP.sub (ws' := [(g0, .inr (1, [.long TT, .ref a1, .int (nI k), .ref a2, .ref a3, .int (nI (0 + (dk_num (O j)).length + 1 + (dk_num (dk_yw mo mb (nI j) k)).length + 1 + (dk_num (dk_yc mo mb (nI j) k)).length + 1 + (dk_num (dk_y3 O mo mb k j)).length + 1 + (dk_num (lN (dk_yn mo (nI j) k))).length)), .ref a4])), (a1, .inl (i1, 200, .inr (.inl O))), (a2, .inl (i2, 520, .inl mo)), (a3, .inl (i3, 520, .inr (.inl mb))), (a4, .inl (i4, 120, .inl (dk_ap (upd (dk_ap (upd (dk_ap (upd (dk_ap (upd (dk_ap tx 0 (dk_num (O j))) (0 + (dk_num (O j)).length) (nI 32)) (0 + (dk_num (O j)).length + 1) (dk_num (dk_yw mo mb (nI j) k))) (0 + (dk_num (O j)).length + 1 + (dk_num (dk_yw mo mb (nI j) k)).length) (nI 32)) (0 + (dk_num (O j)).length + 1 + (dk_num (dk_yw mo mb (nI j) k)).length + 1) (dk_num (dk_yc mo mb (nI j) k))) (0 + (dk_num (O j)).length + 1 + (dk_num (dk_yw mo mb (nI j) k)).length + 1 + (dk_num (dk_yc mo mb (nI j) k)).length) (nI 32)) (0 + (dk_num (O j)).length + 1 + (dk_num (dk_yw mo mb (nI j) k)).length + 1 + (dk_num (dk_yc mo mb (nI j) k)).length + 1) (dk_num (dk_y3 O mo mb k j))) (0 + (dk_num (O j)).length + 1 + (dk_num (dk_yw mo mb (nI j) k)).length + 1 + (dk_num (dk_yc mo mb (nI j) k)).length + 1 + (dk_num (dk_y3 O mo mb k j)).length) (nI 32)) (0 + (dk_num (O j)).length + 1 + (dk_num (dk_yw mo mb (nI j) k)).length + 1 + (dk_num (dk_yc mo mb (nI j) k)).length + 1 + (dk_num (dk_y3 O mo mb k j)).length + 1) (dk_num (lN (dk_yn mo (nI j) k))))))]) [3, 0, 1, 2, 4] rfl
    have hD := hD.sub (ws' := [(g0, .inr (1, [.long TT, .ref a1, .int (nI k), .ref a2, .ref a3, .int (nI (0 + (dk_num (O j)).length + 1 + (dk_num (dk_yw mo mb (nI j) k)).length + 1 + (dk_num (dk_yc mo mb (nI j) k)).length + 1 + (dk_num (dk_y3 O mo mb k j)).length + 1 + (dk_num (lN (dk_yn mo (nI j) k))).length)), .ref a4])), (a1, .inl (i1, 200, .inr (.inl O))), (a2, .inl (i2, 520, .inl mo)), (a3, .inl (i3, 520, .inr (.inl mb))), (a4, .inl (i4, 120, .inl (dk_ap (upd (dk_ap (upd (dk_ap (upd (dk_ap (upd (dk_ap tx 0 (dk_num (O j))) (0 + (dk_num (O j)).length) (nI 32)) (0 + (dk_num (O j)).length + 1) (dk_num (dk_yw mo mb (nI j) k))) (0 + (dk_num (O j)).length + 1 + (dk_num (dk_yw mo mb (nI j) k)).length) (nI 32)) (0 + (dk_num (O j)).length + 1 + (dk_num (dk_yw mo mb (nI j) k)).length + 1) (dk_num (dk_yc mo mb (nI j) k))) (0 + (dk_num (O j)).length + 1 + (dk_num (dk_yw mo mb (nI j) k)).length + 1 + (dk_num (dk_yc mo mb (nI j) k)).length) (nI 32)) (0 + (dk_num (O j)).length + 1 + (dk_num (dk_yw mo mb (nI j) k)).length + 1 + (dk_num (dk_yc mo mb (nI j) k)).length + 1) (dk_num (dk_y3 O mo mb k j))) (0 + (dk_num (O j)).length + 1 + (dk_num (dk_yw mo mb (nI j) k)).length + 1 + (dk_num (dk_yc mo mb (nI j) k)).length + 1 + (dk_num (dk_y3 O mo mb k j)).length) (nI 32)) (0 + (dk_num (O j)).length + 1 + (dk_num (dk_yw mo mb (nI j) k)).length + 1 + (dk_num (dk_yc mo mb (nI j) k)).length + 1 + (dk_num (dk_y3 O mo mb k j)).length + 1) (dk_num (lN (dk_yn mo (nI j) k))))))]) [3, 0, 1, 2, 4] (by decide) rfl
    have hP : va_P (dC, dI) vwCl [(g0, .inr (1, [.long TT, .ref a1, .int (nI k), .ref a2, .ref a3, .int (nI (0 + (dk_num (O j)).length + 1 + (dk_num (dk_yw mo mb (nI j) k)).length + 1 + (dk_num (dk_yc mo mb (nI j) k)).length + 1 + (dk_num (dk_y3 O mo mb k j)).length + 1 + (dk_num (lN (dk_yn mo (nI j) k))).length)), .ref a4])), (a1, .inl (i1, 200, .inr (.inl O))), (a2, .inl (i2, 520, .inl mo)), (a3, .inl (i3, 520, .inr (.inl mb))), (a4, .inl (i4, 120, .inl (dk_ap (upd (dk_ap (upd (dk_ap (upd (dk_ap (upd (dk_ap tx 0 (dk_num (O j))) (0 + (dk_num (O j)).length) (nI 32)) (0 + (dk_num (O j)).length + 1) (dk_num (dk_yw mo mb (nI j) k))) (0 + (dk_num (O j)).length + 1 + (dk_num (dk_yw mo mb (nI j) k)).length) (nI 32)) (0 + (dk_num (O j)).length + 1 + (dk_num (dk_yw mo mb (nI j) k)).length + 1) (dk_num (dk_yc mo mb (nI j) k))) (0 + (dk_num (O j)).length + 1 + (dk_num (dk_yw mo mb (nI j) k)).length + 1 + (dk_num (dk_yc mo mb (nI j) k)).length) (nI 32)) (0 + (dk_num (O j)).length + 1 + (dk_num (dk_yw mo mb (nI j) k)).length + 1 + (dk_num (dk_yc mo mb (nI j) k)).length + 1) (dk_num (dk_y3 O mo mb k j))) (0 + (dk_num (O j)).length + 1 + (dk_num (dk_yw mo mb (nI j) k)).length + 1 + (dk_num (dk_yc mo mb (nI j) k)).length + 1 + (dk_num (dk_y3 O mo mb k j)).length) (nI 32)) (0 + (dk_num (O j)).length + 1 + (dk_num (dk_yw mo mb (nI j) k)).length + 1 + (dk_num (dk_yc mo mb (nI j) k)).length + 1 + (dk_num (dk_y3 O mo mb k j)).length + 1) (dk_num (lN (dk_yn mo (nI j) k))))))] H := hP
    have hD : va_D A [(g0, .inr (1, [.long TT, .ref a1, .int (nI k), .ref a2, .ref a3, .int (nI (0 + (dk_num (O j)).length + 1 + (dk_num (dk_yw mo mb (nI j) k)).length + 1 + (dk_num (dk_yc mo mb (nI j) k)).length + 1 + (dk_num (dk_y3 O mo mb k j)).length + 1 + (dk_num (lN (dk_yn mo (nI j) k))).length)), .ref a4])), (a1, .inl (i1, 200, .inr (.inl O))), (a2, .inl (i2, 520, .inl mo)), (a3, .inl (i3, 520, .inr (.inl mb))), (a4, .inl (i4, 120, .inl (dk_ap (upd (dk_ap (upd (dk_ap (upd (dk_ap (upd (dk_ap tx 0 (dk_num (O j))) (0 + (dk_num (O j)).length) (nI 32)) (0 + (dk_num (O j)).length + 1) (dk_num (dk_yw mo mb (nI j) k))) (0 + (dk_num (O j)).length + 1 + (dk_num (dk_yw mo mb (nI j) k)).length) (nI 32)) (0 + (dk_num (O j)).length + 1 + (dk_num (dk_yw mo mb (nI j) k)).length + 1) (dk_num (dk_yc mo mb (nI j) k))) (0 + (dk_num (O j)).length + 1 + (dk_num (dk_yw mo mb (nI j) k)).length + 1 + (dk_num (dk_yc mo mb (nI j) k)).length) (nI 32)) (0 + (dk_num (O j)).length + 1 + (dk_num (dk_yw mo mb (nI j) k)).length + 1 + (dk_num (dk_yc mo mb (nI j) k)).length + 1) (dk_num (dk_y3 O mo mb k j))) (0 + (dk_num (O j)).length + 1 + (dk_num (dk_yw mo mb (nI j) k)).length + 1 + (dk_num (dk_yc mo mb (nI j) k)).length + 1 + (dk_num (dk_y3 O mo mb k j)).length) (nI 32)) (0 + (dk_num (O j)).length + 1 + (dk_num (dk_yw mo mb (nI j) k)).length + 1 + (dk_num (dk_yc mo mb (nI j) k)).length + 1 + (dk_num (dk_y3 O mo mb k j)).length + 1) (dk_num (lN (dk_yn mo (nI j) k))))))] := hD
    refine lv_iinc (v := 5) (lv' := [(2, .int 5), (0, .ref g0), (1, .int (nI j))]) hx hb dX1_write_41 hl (k := 0) rfl (by decide) (by decide) rfl (fun ls hl => ?_)
    refine lv_goto (tgt := 16) hx hb dX1_write_44 (by decide) ?_
    refine lv_iload_n hx hb dX1_write_16 rfl (lv_at hl 0 rfl) ?_
    refine lv_iconst (v := 5) hx hb dX1_write_17 (by decide) ?_
    refine lv_icmp_ge (tgt := 47) hx hb dX1_write_18 (by decide) (fun _ => ?_) (fun c9 => absurd (by decide) c9)
    have e1 : (0 + (dk_num (O j)).length + 1 + (dk_num (dk_yw mo mb (nI j) k)).length + 1 + (dk_num (dk_yc mo mb (nI j) k)).length + 1 + (dk_num (dk_y3 O mo mb k j)).length + 1 + (dk_num (lN (dk_yn mo (nI j) k))).length) = (dk_txt (O j) (dk_yw mo mb (nI j) k) (dk_yc mo mb (nI j) k) (dk_y3 O mo mb k j) (lN (dk_yn mo (nI j) k))).length := by unfold dk_txt; simp only [List.length_append, List.length_singleton]; omega
    have e2 : dk_ap (upd (dk_ap (upd (dk_ap (upd (dk_ap (upd (dk_ap tx 0 (dk_num (O j))) (0 + (dk_num (O j)).length) (nI 32)) (0 + (dk_num (O j)).length + 1) (dk_num (dk_yw mo mb (nI j) k))) (0 + (dk_num (O j)).length + 1 + (dk_num (dk_yw mo mb (nI j) k)).length) (nI 32)) (0 + (dk_num (O j)).length + 1 + (dk_num (dk_yw mo mb (nI j) k)).length + 1) (dk_num (dk_yc mo mb (nI j) k))) (0 + (dk_num (O j)).length + 1 + (dk_num (dk_yw mo mb (nI j) k)).length + 1 + (dk_num (dk_yc mo mb (nI j) k)).length) (nI 32)) (0 + (dk_num (O j)).length + 1 + (dk_num (dk_yw mo mb (nI j) k)).length + 1 + (dk_num (dk_yc mo mb (nI j) k)).length + 1) (dk_num (dk_y3 O mo mb k j))) (0 + (dk_num (O j)).length + 1 + (dk_num (dk_yw mo mb (nI j) k)).length + 1 + (dk_num (dk_yc mo mb (nI j) k)).length + 1 + (dk_num (dk_y3 O mo mb k j)).length) (nI 32)) (0 + (dk_num (O j)).length + 1 + (dk_num (dk_yw mo mb (nI j) k)).length + 1 + (dk_num (dk_yc mo mb (nI j) k)).length + 1 + (dk_num (dk_y3 O mo mb k j)).length + 1) (dk_num (lN (dk_yn mo (nI j) k))) = dk_ap tx 0 (dk_txt (O j) (dk_yw mo mb (nI j) k) (dk_yc mo mb (nI j) k) (dk_y3 O mo mb k j) (lN (dk_yn mo (nI j) k))) := by unfold dk_txt; simp only [dk_ap_app, dk_ap_cons, dk_ap_nil, List.length_singleton]
    rw [e1, e2] at hP hD
    have hP : va_P (dC, dI) vwCl [(g0, .inr (1, [.long TT, .ref a1, .int (nI k), .ref a2, .ref a3, .int (nI (dk_txt (O j) (dk_yw mo mb (nI j) k) (dk_yc mo mb (nI j) k) (dk_y3 O mo mb k j) (lN (dk_yn mo (nI j) k))).length), .ref a4])), (a1, .inl (i1, 200, .inr (.inl O))), (a2, .inl (i2, 520, .inl mo)), (a3, .inl (i3, 520, .inr (.inl mb))), (a4, .inl (i4, 120, .inl (dk_ap tx 0 (dk_txt (O j) (dk_yw mo mb (nI j) k) (dk_yc mo mb (nI j) k) (dk_y3 O mo mb k j) (lN (dk_yn mo (nI j) k))))))] H := hP
    have hD : va_D A [(g0, .inr (1, [.long TT, .ref a1, .int (nI k), .ref a2, .ref a3, .int (nI (dk_txt (O j) (dk_yw mo mb (nI j) k) (dk_yc mo mb (nI j) k) (dk_y3 O mo mb k j) (lN (dk_yn mo (nI j) k))).length), .ref a4])), (a1, .inl (i1, 200, .inr (.inl O))), (a2, .inl (i2, 520, .inl mo)), (a3, .inl (i3, 520, .inr (.inl mb))), (a4, .inl (i4, 120, .inl (dk_ap tx 0 (dk_txt (O j) (dk_yw mo mb (nI j) k) (dk_yc mo mb (nI j) k) (dk_y3 O mo mb k j) (lN (dk_yn mo (nI j) k))))))] := hD
    refine lv_aload_n hx hb dX1_write_47 rfl (lv_at hl 1 rfl) ?_
    refine va_get (D := (dC, dI)) (ci := 1) (v := .int (nI (dk_txt (O j) (dk_yw mo mb (nI j) k) (dk_yc mo mb (nI j) k) (dk_y3 O mo mb k j) (lN (dk_yn mo (nI j) k))).length)) (C := RX1) (T := TX1) (N := 7) hx hb hts hinX1 hown hK hP 0 rfl rfl 5 (by decide) (hts (.fieldLink RX1 71 "DayDeskModel" "written" "I") (by decide +kernel)) (fun _ h9 => h9) rfl dX1_write_48 ?_
    exact W.iret (v := nI (dk_txt (O j) (dk_yw mo mb (nI j) k) (dk_yc mo mb (nI j) k) (dk_y3 O mo mb k j) (lN (dk_yn mo (nI j) k))).length) hx hb hr (fun z8 hz8 hW8 => ⟨⟨(nI (dk_txt (O j) (dk_yw mo mb (nI j) k) (dk_yc mo mb (nI j) k) (dk_y3 O mo mb k j) (lN (dk_yn mo (nI j) k))).length), (nI (dk_txt (O j) (dk_yw mo mb (nI j) k) (dk_yc mo mb (nI j) k) (dk_y3 O mo mb k j) (lN (dk_yn mo (nI j) k))).length, dk_ap tx 0 (dk_txt (O j) (dk_yw mo mb (nI j) k) (dk_yc mo mb (nI j) k) (dk_y3 O mo mb k j) (lN (dk_yn mo (nI j) k)))), rfl, Or.inr ⟨j, hj, rfl, rfl, rfl, rfl⟩, by rw [hz8]; exact hP, hD⟩, hS.F hz8⟩) hS.2.2 dX1_write_51
  · refine lv_if_ne (tgt := 9) hx hb dX1_write_4 (by decide) (fun c9 => absurd (by decide) c9) (fun _ => ?_)
    refine lv_iconst (v := (-1)) hx hb dX1_write_7 (by decide) ?_
    exact W.iret (v := (-1)) hx hb hr (fun z8 hz8 hW8 => ⟨⟨(-1), (w, tx), rfl, Or.inl ⟨rfl, hno, rfl, rfl⟩, by rw [hz8]; exact hP, hD⟩, hS.F hz8⟩) hS.2.2 dX1_write_8
end
section
set_option maxHeartbeats 4000000 in
set_option maxRecDepth 100000 in
/-- the reference's constructor: all is 0 -/
theorem cY_init (l : Launch) (dC : Nat → ClassId) (dI : Nat → Nat → Nat) (sz : Nat) (g0 : Nat) : Met l yX1_init wsX1_init ({ frames := 1, cells := 4, slots := 1360, locals := 12 }) (dk_Pw [.ref g0] (dC, dI) vwCl [] [(g0, .inr (1, [.long 0, .null, .int 0, .null, .null, .int 0, .null]))] sz) (va_Qv (fun _ => True) (fun (u : Nat × Nat × Nat × Nat × ClassId × ClassId × ClassId × ClassId) z8 => match u with | (a1, a2, a3, a4, i1, i2, i3, i4) => va_P (dC, dI) vwCl [(g0, .inr (1, [.long 0, .ref a1, .int 0, .ref a2, .ref a3, .int 0, .ref a4])), (a1, .inl (i1, 200, .inr (.inl (fun _ => 0)))), (a2, .inl (i2, 520, .inl (fun _ => 0))), (a3, .inl (i3, 520, .inr (.inl (fun _ => 0)))), (a4, .inl (i4, 120, .inl (fun _ => 0)))] z8.heap ∧ va_K (dC, dI) vwCl [(i1, .long), (i2, .int), (i3, .long), (i4, .int)] z8 ∧ va_D (va_A [(g0, .inr (1, [.long 0, .null, .int 0, .null, .null, .int 0, .null]))] sz) [(g0, .inr (1, [.long 0, .ref a1, .int 0, .ref a2, .ref a3, .int 0, .ref a4])), (a1, .inl (i1, 200, .inr (.inl (fun _ => 0)))), (a2, .inl (i2, 520, .inl (fun _ => 0))), (a3, .inl (i3, 520, .inr (.inl (fun _ => 0)))), (a4, .inl (i4, 120, .inl (fun _ => 0)))]) (va_A [(g0, .inr (1, [.long 0, .null, .int 0, .null, .null, .int 0, .null]))] sz)) 4 1360 (va_A [(g0, .inr (1, [.long 0, .null, .int 0, .null, .null, .int 0, .null]))] sz) := by
  refine Met.ofW (cc := cX1_init) (maxL := 1) (ret := none) (by decide) rfl ?_
  intro p e s m args below meth c s₁ B hml hv
  obtain ⟨rfl, hsz, hP, hK, hD0⟩ := hv
  have hx := B.exec
  have hb := B.bytes
  have hr := B.returns
  have hts := atoms_spec (ws := wsX1_init) B.pre
  have hown : s.vm.findClass RX1 = some m.cls := findClass_of_methodNamed B.named
  have hlocks := B.notSynchronized
  have hin9 : meth.name = "<init>" := (name_of_methodNamed B.named B.method).1
  have hinX1 : ∀ w ∈ wsX10, w ∈ wsX1_init := by decide +kernel
  subst hsz
  have hD := hD0.self (sz := s.heap.size)
  generalize hAe : va_A [(g0, .inr (1, [.long 0, .null, .int 0, .null, .null, .int 0, .null]))] s.heap.size = A at hD ⊢
  have hA : ∀ q : Nat, s.heap.size ≤ q → A q := fun q h => by rw [← hAe]; exact Or.inr h
  have hS : va_S A s.heap s.heap [] := va_S.rf
  have hl := lv_entry ([.ref g0]) (n := 1) (Nat.le_of_ble_eq_true rfl)
  rw [lg_entry_eq]
  generalize (lg_sl ([.ref g0]) ++ List.replicate (1 - (lg_sl ([.ref g0])).length) Slot.unset).toArray = ls at hl ⊢
  have hl : lv_has ls 1 [(0, .ref g0)] := hl
  refine lv_aload_n hx hb dX1_init_0 rfl (lv_at hl 0 rfl) ?_
  refine W.objInit hx hb hown (hts (.methodLink RX1 1 objectInit) (by decide +kernel)) (hts (.instanceMethod objectInit) (by decide +kernel)) (hts (.code objectInit ⟨#[0xb1]⟩ 1 none) (by decide +kernel)) rfl (by rw [hml]; exact hl.1) rfl dX1_init_1 (Nat.le_of_ble_eq_true rfl) (Nat.le_of_ble_eq_true rfl) ?_
  refine W.eq (g2 := F0 m 4 ls []) rfl ?_
  refine lv_aload_n hx hb dX1_init_4 rfl (lv_at hl 0 rfl) ?_
  refine lv_sipush (v := nI 200) hx hb dX1_init_5 (by decide) ?_
  refine va_newa (atype := .long) (a0 := (200, .inr (.inl (fun _ => 0)))) (N' := 200) (ty := .long) hx hb (hts (.arrayClass .long) (by decide +kernel)) rfl hK hP hD hS hA (fun cA => dk_arL 200 cA) (by decide) (nI_clamp (by omega)) (by decide) (show 1 ≤ 4 from by decide) (show 200 ≤ 1360 from by decide) dX1_init_8 (fun a1 i1 H hK hP hD hS => ?_)
  have hP : va_P (dC, dI) vwCl [(g0, .inr (1, [.long 0, .null, .int 0, .null, .null, .int 0, .null])), (a1, .inl (i1, 200, .inr (.inl (fun _ => 0))))] H := hP
  have hD : va_D A [(g0, .inr (1, [.long 0, .null, .int 0, .null, .null, .int 0, .null])), (a1, .inl (i1, 200, .inr (.inl (fun _ => 0))))] := hD
  have hK : va_K (dC, dI) vwCl [(i1, .long)] s := hK
  refine W.widen (k := 1) (n := 200) (by decide) (by decide) ?_
  refine va_putF (D := (dC, dI)) (ci := 1) (v := .ref a1) (ty := (.array .long)) (C := RX1) (T := TX1) (N := 7) hx hb hts hinX1 tyX1 tyX1_ok nmX1 hown hK hP hD hS 0 rfl rfl 1 (by decide) (hts (.fieldLink RX1 7 "DayDeskModel" "opening" "[J") (by decide +kernel)) (fun _ h9 => h9) rfl hin9 rfl (by decide +kernel) rfl rfl (Nat.le_of_ble_eq_true rfl) dX1_init_10 (fun H locs hP hD hS => ?_)
  have hP : va_P (dC, dI) vwCl [(g0, .inr (1, [.long 0, .ref a1, .int 0, .null, .null, .int 0, .null])), (a1, .inl (i1, 200, .inr (.inl (fun _ => 0))))] H := hP
  have hD : va_D A [(g0, .inr (1, [.long 0, .ref a1, .int 0, .null, .null, .int 0, .null])), (a1, .inl (i1, 200, .inr (.inl (fun _ => 0))))] := hD
  refine lv_aload_n hx hb dX1_init_13 rfl (lv_at hl 0 rfl) ?_
  refine lv_sipush (v := nI 520) hx hb dX1_init_14 (by decide) ?_
  refine va_newa (atype := .int) (a0 := (520, .inl (fun _ => 0))) (N' := 520) (ty := .int) hx hb (hts (.arrayClass .int) (by decide +kernel)) rfl hK hP hD hS hA (fun cA => dk_arI 520 cA) (by decide) (nI_clamp (by omega)) (by decide) (show 2 ≤ 4 from by decide) (show 720 ≤ 1360 from by decide) dX1_init_17 (fun a2 i2 H hK hP hD hS => ?_)
  have hP : va_P (dC, dI) vwCl [(g0, .inr (1, [.long 0, .ref a1, .int 0, .null, .null, .int 0, .null])), (a1, .inl (i1, 200, .inr (.inl (fun _ => 0)))), (a2, .inl (i2, 520, .inl (fun _ => 0)))] H := hP
  have hD : va_D A [(g0, .inr (1, [.long 0, .ref a1, .int 0, .null, .null, .int 0, .null])), (a1, .inl (i1, 200, .inr (.inl (fun _ => 0)))), (a2, .inl (i2, 520, .inl (fun _ => 0)))] := hD
  have hK : va_K (dC, dI) vwCl [(i1, .long), (i2, .int)] s := hK
  refine W.widen (k := 2) (n := 720) (by decide) (by decide) ?_
  refine va_putF (D := (dC, dI)) (ci := 1) (v := .ref a2) (ty := (.array .int)) (C := RX1) (T := TX1) (N := 7) hx hb hts hinX1 tyX1 tyX1_ok nmX1 hown hK hP hD hS 0 rfl rfl 3 (by decide) (hts (.fieldLink RX1 13 "DayDeskModel" "moveOf" "[I") (by decide +kernel)) (fun _ h9 => h9) rfl hin9 rfl (by decide +kernel) rfl rfl (Nat.le_of_ble_eq_true rfl) dX1_init_19 (fun H locs hP hD hS => ?_)
  have hP : va_P (dC, dI) vwCl [(g0, .inr (1, [.long 0, .ref a1, .int 0, .ref a2, .null, .int 0, .null])), (a1, .inl (i1, 200, .inr (.inl (fun _ => 0)))), (a2, .inl (i2, 520, .inl (fun _ => 0)))] H := hP
  have hD : va_D A [(g0, .inr (1, [.long 0, .ref a1, .int 0, .ref a2, .null, .int 0, .null])), (a1, .inl (i1, 200, .inr (.inl (fun _ => 0)))), (a2, .inl (i2, 520, .inl (fun _ => 0)))] := hD
  refine lv_aload_n hx hb dX1_init_22 rfl (lv_at hl 0 rfl) ?_
  refine lv_sipush (v := nI 520) hx hb dX1_init_23 (by decide) ?_
  refine va_newa (atype := .long) (a0 := (520, .inr (.inl (fun _ => 0)))) (N' := 520) (ty := .long) hx hb (hts (.arrayClass .long) (by decide +kernel)) rfl hK hP hD hS hA (fun cA => dk_arL 520 cA) (by decide) (nI_clamp (by omega)) (by decide) (show 3 ≤ 4 from by decide) (show 1240 ≤ 1360 from by decide) dX1_init_26 (fun a3 i3 H hK hP hD hS => ?_)
  have hP : va_P (dC, dI) vwCl [(g0, .inr (1, [.long 0, .ref a1, .int 0, .ref a2, .null, .int 0, .null])), (a1, .inl (i1, 200, .inr (.inl (fun _ => 0)))), (a2, .inl (i2, 520, .inl (fun _ => 0))), (a3, .inl (i3, 520, .inr (.inl (fun _ => 0))))] H := hP
  have hD : va_D A [(g0, .inr (1, [.long 0, .ref a1, .int 0, .ref a2, .null, .int 0, .null])), (a1, .inl (i1, 200, .inr (.inl (fun _ => 0)))), (a2, .inl (i2, 520, .inl (fun _ => 0))), (a3, .inl (i3, 520, .inr (.inl (fun _ => 0))))] := hD
  have hK : va_K (dC, dI) vwCl [(i1, .long), (i2, .int), (i3, .long)] s := hK
  refine W.widen (k := 3) (n := 1240) (by decide) (by decide) ?_
  refine va_putF (D := (dC, dI)) (ci := 1) (v := .ref a3) (ty := (.array .long)) (C := RX1) (T := TX1) (N := 7) hx hb hts hinX1 tyX1 tyX1_ok nmX1 hown hK hP hD hS 0 rfl rfl 4 (by decide) (hts (.fieldLink RX1 17 "DayDeskModel" "moveBy" "[J") (by decide +kernel)) (fun _ h9 => h9) rfl hin9 rfl (by decide +kernel) rfl rfl (Nat.le_of_ble_eq_true rfl) dX1_init_28 (fun H locs hP hD hS => ?_)
  have hP : va_P (dC, dI) vwCl [(g0, .inr (1, [.long 0, .ref a1, .int 0, .ref a2, .ref a3, .int 0, .null])), (a1, .inl (i1, 200, .inr (.inl (fun _ => 0)))), (a2, .inl (i2, 520, .inl (fun _ => 0))), (a3, .inl (i3, 520, .inr (.inl (fun _ => 0))))] H := hP
  have hD : va_D A [(g0, .inr (1, [.long 0, .ref a1, .int 0, .ref a2, .ref a3, .int 0, .null])), (a1, .inl (i1, 200, .inr (.inl (fun _ => 0)))), (a2, .inl (i2, 520, .inl (fun _ => 0))), (a3, .inl (i3, 520, .inr (.inl (fun _ => 0))))] := hD
  refine lv_aload_n hx hb dX1_init_31 rfl (lv_at hl 0 rfl) ?_
  refine lv_bipush (v := nI 120) hx hb dX1_init_32 (by decide) ?_
  refine va_newa (atype := .int) (a0 := (120, .inl (fun _ => 0))) (N' := 120) (ty := .int) hx hb (hts (.arrayClass .int) (by decide +kernel)) rfl hK hP hD hS hA (fun cA => dk_arI 120 cA) (by decide) (nI_clamp (by omega)) (by decide) (show 4 ≤ 4 from by decide) (show 1360 ≤ 1360 from by decide) dX1_init_34 (fun a4 i4 H hK hP hD hS => ?_)
  have hP : va_P (dC, dI) vwCl [(g0, .inr (1, [.long 0, .ref a1, .int 0, .ref a2, .ref a3, .int 0, .null])), (a1, .inl (i1, 200, .inr (.inl (fun _ => 0)))), (a2, .inl (i2, 520, .inl (fun _ => 0))), (a3, .inl (i3, 520, .inr (.inl (fun _ => 0)))), (a4, .inl (i4, 120, .inl (fun _ => 0)))] H := hP
  have hD : va_D A [(g0, .inr (1, [.long 0, .ref a1, .int 0, .ref a2, .ref a3, .int 0, .null])), (a1, .inl (i1, 200, .inr (.inl (fun _ => 0)))), (a2, .inl (i2, 520, .inl (fun _ => 0))), (a3, .inl (i3, 520, .inr (.inl (fun _ => 0)))), (a4, .inl (i4, 120, .inl (fun _ => 0)))] := hD
  have hK : va_K (dC, dI) vwCl [(i1, .long), (i2, .int), (i3, .long), (i4, .int)] s := hK
  refine W.widen (k := 4) (n := 1360) (by decide) (by decide) ?_
  refine va_putF (D := (dC, dI)) (ci := 1) (v := .ref a4) (ty := (.array .int)) (C := RX1) (T := TX1) (N := 7) hx hb hts hinX1 tyX1 tyX1_ok nmX1 hown hK hP hD hS 0 rfl rfl 6 (by decide) (hts (.fieldLink RX1 20 "DayDeskModel" "text" "[I") (by decide +kernel)) (fun _ h9 => h9) rfl hin9 rfl (by decide +kernel) rfl rfl (Nat.le_of_ble_eq_true rfl) dX1_init_36 (fun H locs hP hD hS => ?_)
  have hP : va_P (dC, dI) vwCl [(g0, .inr (1, [.long 0, .ref a1, .int 0, .ref a2, .ref a3, .int 0, .ref a4])), (a1, .inl (i1, 200, .inr (.inl (fun _ => 0)))), (a2, .inl (i2, 520, .inl (fun _ => 0))), (a3, .inl (i3, 520, .inr (.inl (fun _ => 0)))), (a4, .inl (i4, 120, .inl (fun _ => 0)))] H := hP
  have hD : va_D A [(g0, .inr (1, [.long 0, .ref a1, .int 0, .ref a2, .ref a3, .int 0, .ref a4])), (a1, .inl (i1, 200, .inr (.inl (fun _ => 0)))), (a2, .inl (i2, 520, .inl (fun _ => 0))), (a3, .inl (i3, 520, .inr (.inl (fun _ => 0)))), (a4, .inl (i4, 120, .inl (fun _ => 0)))] := hD
  exact W.vret hx hb hr (fun z8 hz8 hW8 => ⟨⟨(a1, a2, a3, a4, i1, i2, i3, i4), rfl, trivial, by rw [hz8]; exact hP, va_K.moved hW8.alike hK, hD⟩, hS.F hz8⟩) hS.2.2 dX1_init_39
end
section
-- the class and the reference side by side: what holds between them after q calls
def dk_Inv (q : Nat) (d : Int32) (t n : Nat) (fo fw fc fn fm : Nat → Int64) (fl : Nat → Int32) (T k : Nat) (O : Nat → Int64) (mo : Nat → Int32) (mb : Nat → Int64) (tx : Nat → Int32) : Prop :=
  t = T % 1000 ∧ d = nI (T / 1000) ∧ T ≤ q * 100000 ∧ k ≤ q ∧ n ≤ 104 ∧ (∀ i : Nat, i < n → fl i = tx i) ∧
  ∀ j : Nat, j < 200 → (fo j = O j ∧ fw j = dk_yw mo mb (nI j) k ∧ fc j = dk_yc mo mb (nI j) k ∧ fn j = dk_y3 O mo mb k j ∧ fm j = lN (dk_yn mo (nI j) k)) ∧
    (dk_in (fo j) 9000000000000000000 ∧ dk_in (fw j) 9000000000000000000 ∧ dk_in (fc j) 9000000000000000000 ∧ dk_in (fn j) 9000000000000000000)
theorem dk_Inv_mono {q q2 : Nat} {d : Int32} {t n : Nat} {fo fw fc fn fm : Nat → Int64} {fl : Nat → Int32} {T k : Nat} {O : Nat → Int64} {mo : Nat → Int32} {mb : Nat → Int64} {tx : Nat → Int32} (h : q ≤ q2) (hI : dk_Inv q d t n fo fw fc fn fm fl T k O mo mb tx) : dk_Inv q2 d t n fo fw fc fn fm fl T k O mo mb tx := by
  obtain ⟨h1, h2, h3, h4, h5, h6, h7⟩ := hI
  exact ⟨h1, h2, Nat.le_trans h3 (Nat.mul_le_mul_right _ h), Nat.le_trans h4 h, h5, h6, h7⟩
theorem dk_in0 : dk_in 0 9000000000000000000 := ⟨by decide, by decide⟩
theorem dk_Inv_adv {q : Nat} {d : Int32} {t n : Nat} {fo fw fc fn fm go gw gc gm : Nat → Int64} {fl : Nat → Int32} {T k k2 : Nat} {O O2 : Nat → Int64} {mo : Nat → Int32} {mb : Nat → Int64} {tx : Nat → Int32} (a : Nat) (ha : a ≤ 100000) (hI : dk_Inv q d t n fo fw fc fn fm fl T k O mo mb tx) (hop : dk_Op ((t + a) / 1000) fo fw fc fn fm go gw gc gm) (hys : dk_YS ((T + a) / 1000 - T / 1000) O mo mb k O2 k2) :
    dk_Inv (q + 1) (d + nI ((t + a) / 1000)) ((t + a) % 1000) n go gw gc fn gm fl (T + a) k2 O2 mo mb tx := by
  obtain ⟨h1, h2, h3, h4, h5, h6, h7⟩ := hI
  have hb : (t + a) / 1000 = (T + a) / 1000 - T / 1000 := by omega
  refine ⟨by omega, by rw [h2, nI_add]; exact congrArg nI (by omega), by omega, ?_, h5, h6, ?_⟩
  · rcases hys with ⟨-, -, e⟩ | ⟨-, e, -⟩ <;> omega
  · intro j hj
    obtain ⟨⟨e1, e2, e3, e4, e5⟩, b1, b2, b3, b4⟩ := h7 j hj
    rcases hop with ⟨z, rfl, rfl, rfl, rfl⟩ | ⟨z, hop⟩
    · rcases hys with ⟨-, rfl, rfl⟩ | ⟨z2, -⟩
      · exact ⟨⟨e1, e2, e3, e4, e5⟩, b1, b2, b3, b4⟩
      · exact absurd z2 (by omega)
    · rcases hys with ⟨z2, -⟩ | ⟨-, rfl, hO⟩
      · exact absurd z (by omega)
      · obtain ⟨o1, o2, o3, o4⟩ := hop j hj
        refine ⟨⟨by rw [o1, e4, hO j hj], by rw [o2]; rfl, by rw [o3]; rfl, by rw [dk_y3_0, hO j hj, e4], by rw [o4]; rfl⟩, by rw [o1]; exact b4, by rw [o2]; exact dk_in0, by rw [o3]; exact dk_in0, b4⟩
theorem dk_sk_out {n : Nat} (h1 : 1 ≤ n) (h2 : n ≤ 100000) : ¬ (nI n < 1 ∨ nI 100000 < nI n) := fun q => by
  rcases q with q | q
  · have a : nI n < nI 1 := q
    have b := (nI_ltI (by omega) (by omega)).mp a
    omega
  · have b := (nI_ltI (by omega) (by omega)).mp q
    omega
theorem dk_bool {P : Prop} {r r2 : Int32} (h : (r = 1 ∧ P) ∨ (r = 0 ∧ ¬ P)) (h2 : (r2 = 1 ∧ P) ∨ (r2 = 0 ∧ ¬ P)) : r = r2 := by
  rcases h with ⟨rfl, h⟩ | ⟨rfl, h⟩ <;> rcases h2 with ⟨rfl, h2⟩ | ⟨rfl, h2⟩ <;> first | rfl | exact absurd h h2 | exact absurd h2 h
theorem dk_bool2 {P Q : Prop} {r r2 : Int32} (e : P ↔ Q) (h : (r = 1 ∧ P) ∨ (r = 0 ∧ ¬ P)) (h2 : (r2 = 1 ∧ Q) ∨ (r2 = 0 ∧ ¬ Q)) : r = r2 := by
  rw [← e] at h2
  exact dk_bool h h2
theorem dk_tld_congr {P Q : Nat → Prop} {x : Int32} (e : ∀ j : Nat, j < 200 → (P j ↔ Q j)) : dk_tld P x ↔ dk_tld Q x :=
  ⟨fun ⟨j, hj, a, b⟩ => ⟨j, hj, a, (e j hj).mp b⟩, fun ⟨j, hj, a, b⟩ => ⟨j, hj, a, (e j hj).mpr b⟩⟩
theorem dk_lN0 {n : Nat} (h : n < 2 ^ 31) : lN n = 0 ↔ lN n ≤ 0 := by
  rw [← Int64.toInt_inj, Int64.le_iff_toInt_le, lN_toInt h, dk_l0]; omega
theorem dk_in_lo {v : Int64} (h : dk_in v 9000000000000000000) : -9223372036854775808 < v.toInt := by
  have a := h.1
  rw [Int64.le_iff_toInt_le] at a
  have e : (-9000000000000000000 : Int64).toInt = -9000000000000000000 := by decide
  rw [e] at a
  omega
theorem dk_skip_r {t T n : Nat} (ht : t = T % 1000) : (t + n) / 1000 * 16 + dk_rU ((t + n) % 1000) - dk_rU t = dk_R (T + n) - dk_R T := by
  unfold dk_R
  rw [show (T + n) % 1000 = (t + n) % 1000 from by omega, ← ht]
  omega
-- the list of moves, one longer
theorem dk_yw_upd (mo : Nat → Int32) (mb : Nat → Int64) (k : Nat) (a : Int32) (v : Int64) (p : Int32) : ∀ i : Nat, i ≤ k → dk_yw (upd mo k a) (vp_updL mb k v) p i = dk_yw mo mb p i := by
  intro i
  induction i with
  | zero => intro _; rfl
  | succ i ih =>
    intro h
    show (if upd mo k a i = p then (if vp_updL mb k v i < 0 then dk_yw (upd mo k a) (vp_updL mb k v) p i - vp_updL mb k v i else dk_yw (upd mo k a) (vp_updL mb k v) p i) else dk_yw (upd mo k a) (vp_updL mb k v) p i) = (if mo i = p then (if mb i < 0 then dk_yw mo mb p i - mb i else dk_yw mo mb p i) else dk_yw mo mb p i)
    rw [ih (by omega), pk_un (by omega), pk_uLn (by omega)]
theorem dk_yc_upd (mo : Nat → Int32) (mb : Nat → Int64) (k : Nat) (a : Int32) (v : Int64) (p : Int32) : ∀ i : Nat, i ≤ k → dk_yc (upd mo k a) (vp_updL mb k v) p i = dk_yc mo mb p i := by
  intro i
  induction i with
  | zero => intro _; rfl
  | succ i ih =>
    intro h
    show (if upd mo k a i = p then (if 0 < vp_updL mb k v i then dk_yc (upd mo k a) (vp_updL mb k v) p i + vp_updL mb k v i else dk_yc (upd mo k a) (vp_updL mb k v) p i) else dk_yc (upd mo k a) (vp_updL mb k v) p i) = (if mo i = p then (if 0 < mb i then dk_yc mo mb p i + mb i else dk_yc mo mb p i) else dk_yc mo mb p i)
    rw [ih (by omega), pk_un (by omega), pk_uLn (by omega)]
theorem dk_yn_upd (mo : Nat → Int32) (k : Nat) (a : Int32) (p : Int32) : ∀ i : Nat, i ≤ k → dk_yn (upd mo k a) p i = dk_yn mo p i := by
  intro i
  induction i with
  | zero => intro _; rfl
  | succ i ih =>
    intro h
    show (if upd mo k a i = p then dk_yn (upd mo k a) p i + 1 else dk_yn (upd mo k a) p i) = (if mo i = p then dk_yn mo p i + 1 else dk_yn mo p i)
    rw [ih (by omega), pk_un (by omega)]
theorem dk_yw_new {mo : Nat → Int32} {mb : Nat → Int64} {k : Nat} {v : Int64} {p : Int32} : dk_yw (upd mo k p) (vp_updL mb k v) p (k + 1) = dk_yw mo mb p k + dk_neg v := by
  show (if upd mo k p k = p then (if vp_updL mb k v k < 0 then dk_yw (upd mo k p) (vp_updL mb k v) p k - vp_updL mb k v k else dk_yw (upd mo k p) (vp_updL mb k v) p k) else dk_yw (upd mo k p) (vp_updL mb k v) p k) = _
  rw [pk_us, if_pos rfl, pk_uLs, dk_yw_upd mo mb k p v p k (Nat.le_refl k)]
  unfold dk_neg
  by_cases h : v < 0
  · rw [if_pos h, if_pos h, Int64.sub_eq_add_neg]
  · rw [if_neg h, if_neg h, Int64.add_zero]
theorem dk_yc_new {mo : Nat → Int32} {mb : Nat → Int64} {k : Nat} {v : Int64} {p : Int32} : dk_yc (upd mo k p) (vp_updL mb k v) p (k + 1) = dk_yc mo mb p k + dk_ps v := by
  show (if upd mo k p k = p then (if 0 < vp_updL mb k v k then dk_yc (upd mo k p) (vp_updL mb k v) p k + vp_updL mb k v k else dk_yc (upd mo k p) (vp_updL mb k v) p k) else dk_yc (upd mo k p) (vp_updL mb k v) p k) = _
  rw [pk_us, if_pos rfl, pk_uLs, dk_yc_upd mo mb k p v p k (Nat.le_refl k)]
  unfold dk_ps
  by_cases h : 0 < v
  · rw [if_pos h, if_pos h]
  · rw [if_neg h, if_neg h, Int64.add_zero]
theorem dk_yn_new {mo : Nat → Int32} {k : Nat} {p : Int32} : dk_yn (upd mo k p) p (k + 1) = dk_yn mo p k + 1 := by
  show (if upd mo k p k = p then dk_yn (upd mo k p) p k + 1 else dk_yn (upd mo k p) p k) = _
  rw [pk_us, if_pos rfl, dk_yn_upd mo k p p k (Nat.le_refl k)]
theorem dk_yw_oth {mo : Nat → Int32} {mb : Nat → Int64} {k : Nat} {v : Int64} {a p : Int32} (h : ¬ a = p) : dk_yw (upd mo k a) (vp_updL mb k v) p (k + 1) = dk_yw mo mb p k := by
  show (if upd mo k a k = p then (if vp_updL mb k v k < 0 then dk_yw (upd mo k a) (vp_updL mb k v) p k - vp_updL mb k v k else dk_yw (upd mo k a) (vp_updL mb k v) p k) else dk_yw (upd mo k a) (vp_updL mb k v) p k) = _
  rw [pk_us, if_neg h, dk_yw_upd mo mb k a v p k (Nat.le_refl k)]
theorem dk_yc_oth {mo : Nat → Int32} {mb : Nat → Int64} {k : Nat} {v : Int64} {a p : Int32} (h : ¬ a = p) : dk_yc (upd mo k a) (vp_updL mb k v) p (k + 1) = dk_yc mo mb p k := by
  show (if upd mo k a k = p then (if 0 < vp_updL mb k v k then dk_yc (upd mo k a) (vp_updL mb k v) p k + vp_updL mb k v k else dk_yc (upd mo k a) (vp_updL mb k v) p k) else dk_yc (upd mo k a) (vp_updL mb k v) p k) = _
  rw [pk_us, if_neg h, dk_yc_upd mo mb k a v p k (Nat.le_refl k)]
theorem dk_yn_oth {mo : Nat → Int32} {k : Nat} {a p : Int32} (h : ¬ a = p) : dk_yn (upd mo k a) p (k + 1) = dk_yn mo p k := by
  show (if upd mo k a k = p then dk_yn (upd mo k a) p k + 1 else dk_yn (upd mo k a) p k) = _
  rw [pk_us, if_neg h, dk_yn_upd mo k a p k (Nat.le_refl k)]
theorem dk_split (v : Int64) : -(dk_neg v) + dk_ps v = v := by
  unfold dk_neg dk_ps
  by_cases h : v < 0
  · rw [if_pos h, if_neg (fun q => by rw [Int64.lt_iff_toInt_lt] at h q; omega), Int64.neg_neg, Int64.add_zero]
  · by_cases h2 : 0 < v
    · rw [if_neg h, if_pos h2]
      rw [show (-(0 : Int64)) = 0 from by decide, Int64.zero_add]
    · rw [if_neg h, if_neg h2]
      have e : v = 0 := Int64.toInt_inj.mp (by rw [Int64.lt_iff_toInt_lt, dk_l0] at h h2; rw [dk_l0]; omega)
      rw [e]; decide
theorem dk_y3_new {O : Nat → Int64} {mo : Nat → Int32} {mb : Nat → Int64} {k j : Nat} {v : Int64} : dk_y3 O (upd mo k (nI j)) (vp_updL mb k v) (k + 1) j = dk_y3 O mo mb k j + v := by
  unfold dk_y3
  rw [dk_yw_new, dk_yc_new]
  have e : ∀ a b c x y : Int64, a - (b + x) + (c + y) = a - b + c + (-x + y) := fun a b c x y => by
    rw [Int64.sub_eq_add_neg, Int64.sub_eq_add_neg, Int64.neg_add, Int64.sub_eq_add_neg]
    ac_rfl
  rw [e, dk_split]
/-- the class and the reference take the same moves -/
theorem dk_ok_iff {q : Nat} {d : Int32} {t n : Nat} {fo fw fc fn fm : Nat → Int64} {fl : Nat → Int32} {T k : Nat} {O : Nat → Int64} {mo : Nat → Int32} {mb : Nat → Int64} {tx : Nat → Int32} (hI : dk_Inv q d t n fo fw fc fn fm fl T k O mo mb tx) {j : Nat} (hj : j < 200) (v : Int64) :
    dk_ok O mo mb k j v ↔ (dk_in v 10000000000000000 ∧ dk_in (fn j + v) 9000000000000000000 ∧ dk_in (fw j + dk_neg v) 9000000000000000000 ∧ dk_in (fc j + dk_ps v) 9000000000000000000) := by
  obtain ⟨⟨e1, e2, e3, e4, e5⟩, b1, b2, b3, b4⟩ := hI.2.2.2.2.2.2 j hj
  unfold dk_ok
  rw [← e4, ← e2, ← e3]
  by_cases h : v < 0
  · have hn : dk_neg v = -v := by unfold dk_neg; rw [if_pos h]
    have hp : dk_ps v = 0 := by unfold dk_ps; rw [if_neg (fun q => by rw [Int64.lt_iff_toInt_lt] at h q; omega)]
    rw [if_pos h, hn, hp, Int64.add_zero, Int64.sub_eq_add_neg]
    exact ⟨fun ⟨x, y, z⟩ => ⟨x, y, z, b3⟩, fun ⟨x, y, z, _⟩ => ⟨x, y, z⟩⟩
  · have hn : dk_neg v = 0 := by unfold dk_neg; rw [if_neg h]
    have hp : dk_ps v = v := by
      unfold dk_ps
      by_cases h2 : 0 < v
      · rw [if_pos h2]
      · rw [if_neg h2]
        exact (Int64.toInt_inj.mp (by rw [Int64.lt_iff_toInt_lt, dk_l0] at h h2; rw [dk_l0]; omega)).symm
    rw [if_neg h, hn, hp, Int64.add_zero]
    exact ⟨fun ⟨x, y, z⟩ => ⟨x, y, b2, z⟩, fun ⟨x, y, _, z⟩ => ⟨x, y, z⟩⟩
theorem dk_Inv_mv {q : Nat} {d : Int32} {t n : Nat} {fo fw fc fn fm gw gc gn gm : Nat → Int64} {fl : Nat → Int32} {T k k2 : Nat} {O : Nat → Int64} {mo mo2 : Nat → Int32} {mb mb2 : Nat → Int64} {tx : Nat → Int32} {x r r2 : Int32} {v : Int64} (hI : dk_Inv q d t n fo fw fc fn fm fl T k O mo mb tx) (h : dk_mv x v fw fc fn fm r gw gc gn gm) (h2 : dk_ymv O mo mb k x v r2 k2 mo2 mb2) :
    r = r2 ∧ dk_Inv (q + 1) d t n fo gw gc gn gm fl T k2 O mo2 mb2 tx := by
  have hm := dk_Inv_mono (Nat.le_succ q) hI
  rcases h with ⟨rfl, rfl, rfl, rfl, rfl, h⟩ | ⟨rfl, rfl, rfl, rfl, rfl, hv, j, hj, rfl⟩ | ⟨rfl, j, hj, rfl, m1, hv, m2, m3, m4, rfl, rfl, rfl, rfl⟩
  · rcases h2 with ⟨rfl, rfl, rfl, rfl, -⟩ | ⟨rfl, rfl, rfl, rfl, hv, j, hj, rfl, hok⟩ | ⟨rfl, j, hj, rfl, hv, hok, rfl, rfl, rfl⟩
    · exact ⟨rfl, hm⟩
    · exfalso
      have a := (dk_ok_iff hI hj v).mp hok
      rcases h with h | h | ⟨i, hi, e, hv2, -⟩
      · exact dk_out hj h rfl
      · exact h a.1
      · exact hv2 hv
    · exfalso
      have a := (dk_ok_iff hI hj v).mp hok
      rcases h with h | h | ⟨i, hi, e, hv2, h⟩
      · exact dk_out hj h rfl
      · exact h a.1
      · have z := dk_nI_inj hj hi e
        subst z
        exact h a.2
  · rcases h2 with ⟨rfl, rfl, rfl, rfl, h2⟩ | ⟨rfl, rfl, rfl, rfl, -⟩ | ⟨rfl, i, hi, e, hv2, -⟩
    · exfalso
      rcases h2 with h2 | ⟨i, hi, e, hok⟩
      · exact dk_out hj h2 rfl
      · have z := dk_nI_inj hj hi e
        subst z
        refine hok ((dk_ok_iff hI hj v).mpr ?_)
        obtain ⟨-, b1, b2, b3, b4⟩ := hI.2.2.2.2.2.2 j hj
        rw [hv, show dk_neg 0 = 0 from by decide, show dk_ps 0 = 0 from by decide, Int64.add_zero, Int64.add_zero, Int64.add_zero]
        exact ⟨⟨by decide, by decide⟩, b4, b2, b3⟩
    · exact ⟨rfl, hm⟩
    · exact absurd hv hv2
  · have hok := (dk_ok_iff hI hj v).mpr ⟨m1, m2, m3, m4⟩
    rcases h2 with ⟨rfl, rfl, rfl, rfl, h2⟩ | ⟨rfl, rfl, rfl, rfl, hv2, -⟩ | ⟨rfl, i, hi, e, -, -, rfl, rfl, rfl⟩
    · exfalso
      rcases h2 with h2 | ⟨i, hi, e, h2⟩
      · exact dk_out hj h2 rfl
      · have z := dk_nI_inj hj hi e
        subst z
        exact h2 hok
    · exact absurd hv2 hv
    · have z := dk_nI_inj hj hi e
      subst z
      obtain ⟨h1, h2, h3, h4, h5, h6, h7⟩ := hI
      refine ⟨rfl, h1, h2, Nat.le_trans h3 (Nat.mul_le_mul_right _ (Nat.le_succ q)), Nat.succ_le_succ h4, h5, h6, ?_⟩
      intro i hi
      obtain ⟨⟨e1, e2, e3, e4, e5⟩, b1, b2, b3, b4⟩ := h7 i hi
      by_cases z : i = j
      · subst z
        rw [pk_uLs, pk_uLs, pk_uLs, pk_uLs, dk_yw_new, dk_yc_new, dk_yn_new, dk_y3_new, ← e2, ← e3, ← e4, e5, lN_1]
        exact ⟨⟨e1, rfl, rfl, rfl, rfl⟩, b1, m3, m4, m2⟩
      · have z2 : ¬ nI j = nI i := fun w => z (dk_nI_inj hi hj w.symm)
        rw [pk_uLn z, pk_uLn z, pk_uLn z, pk_uLn z, dk_yw_oth z2, dk_yc_oth z2, dk_yn_oth z2]
        refine ⟨⟨e1, e2, e3, ?_, e5⟩, b1, b2, b3, b4⟩
        unfold dk_y3
        rw [dk_yw_oth z2, dk_yc_oth z2]
        exact e4
theorem dk_Inv_sk {q : Nat} {d e2 : Int32} {t t2 n : Nat} {fo fw fc fn fm go gw gc gm : Nat → Int64} {fl : Nat → Int32} {T T2 k k2 : Nat} {O O2 : Nat → Int64} {mo : Nat → Int32} {mb : Nat → Int64} {tx : Nat → Int32} {x r r2 : Int32} (hI : dk_Inv q d t n fo fw fc fn fm fl T k O mo mb tx)
    (h : (r = -1 ∧ (x < 1 ∨ nI 100000 < x) ∧ e2 = d ∧ t2 = t ∧ go = fo ∧ gw = fw ∧ gc = fc ∧ gm = fm) ∨ (∃ n : Nat, 1 ≤ n ∧ n ≤ 100000 ∧ x = nI n ∧ e2 = d + nI ((t + n) / 1000) ∧ t2 = (t + n) % 1000 ∧ dk_Op ((t + n) / 1000) fo fw fc fn fm go gw gc gm ∧ r = nI ((t + n) / 1000 * 16 + dk_rU ((t + n) % 1000) - dk_rU t)))
    (h2 : (r2 = -1 ∧ (x < 1 ∨ nI 100000 < x) ∧ O2 = O ∧ k2 = k ∧ T2 = T) ∨ (∃ n : Nat, 1 ≤ n ∧ n ≤ 100000 ∧ x = nI n ∧ T2 = T + n ∧ dk_YS ((T + n) / 1000 - T / 1000) O mo mb k O2 k2 ∧ r2 = nI (dk_R (T + n) - dk_R T))) :
    r = r2 ∧ dk_Inv (q + 1) e2 t2 n go gw gc fn gm fl T2 k2 O2 mo mb tx := by
  rcases h with ⟨rfl, ho, rfl, rfl, rfl, rfl, rfl, rfl⟩ | ⟨a, h1, h3, rfl, rfl, rfl, hop, rfl⟩
  · rcases h2 with ⟨rfl, -, rfl, rfl, rfl⟩ | ⟨a, h1, h3, rfl, -⟩
    · exact ⟨rfl, dk_Inv_mono (Nat.le_succ q) hI⟩
    · exact absurd ho (dk_sk_out h1 h3)
  · rcases h2 with ⟨-, ho, -⟩ | ⟨a2, h4, h5, e, rfl, hys, rfl⟩
    · exact absurd ho (dk_sk_out h1 h3)
    · have z := (nI_eq (by omega) (by omega)).mp e
      subst z
      exact ⟨congrArg nI (dk_skip_r hI.1), dk_Inv_adv a h3 hI hop hys⟩
theorem dk_Inv_wr {q : Nat} {d : Int32} {t n : Nat} {fo fw fc fn fm : Nat → Int64} {fl gl : Nat → Int32} {T k : Nat} {O : Nat → Int64} {mo : Nat → Int32} {mb : Nat → Int64} {tx tx2 : Nat → Int32} {x r r2 ll2 w2 : Int32} (hI : dk_Inv q d t n fo fw fc fn fm fl T k O mo mb tx)
    (h : (r = -1 ∧ (x < 0 ∨ nI 200 ≤ x) ∧ ll2 = nI n ∧ gl = fl) ∨ ∃ j : Nat, j < 200 ∧ x = nI j ∧ r = nI (dk_txt (fo j) (fw j) (fc j) (fn j) (fm j)).length ∧ ll2 = nI (dk_txt (fo j) (fw j) (fc j) (fn j) (fm j)).length ∧ gl = dk_ap fl 0 (dk_txt (fo j) (fw j) (fc j) (fn j) (fm j)))
    (h2 : (r2 = -1 ∧ (x < 0 ∨ nI 200 ≤ x) ∧ w2 = nI n ∧ tx2 = tx) ∨ ∃ j : Nat, j < 200 ∧ x = nI j ∧ r2 = nI (dk_txt (O j) (dk_yw mo mb (nI j) k) (dk_yc mo mb (nI j) k) (dk_y3 O mo mb k j) (lN (dk_yn mo (nI j) k))).length ∧ w2 = nI (dk_txt (O j) (dk_yw mo mb (nI j) k) (dk_yc mo mb (nI j) k) (dk_y3 O mo mb k j) (lN (dk_yn mo (nI j) k))).length ∧ tx2 = dk_ap tx 0 (dk_txt (O j) (dk_yw mo mb (nI j) k) (dk_yc mo mb (nI j) k) (dk_y3 O mo mb k j) (lN (dk_yn mo (nI j) k)))) :
    r = r2 ∧ ∃ n2 : Nat, ll2 = nI n2 ∧ w2 = nI n2 ∧ dk_Inv (q + 1) d t n2 fo fw fc fn fm gl T k O mo mb tx2 := by
  rcases h with ⟨rfl, ho, rfl, rfl⟩ | ⟨j, hj, rfl, rfl, rfl, rfl⟩
  · rcases h2 with ⟨rfl, -, rfl, rfl⟩ | ⟨j, hj, rfl, -⟩
    · exact ⟨rfl, n, rfl, rfl, dk_Inv_mono (Nat.le_succ q) hI⟩
    · exact absurd rfl (dk_out hj ho)
  · rcases h2 with ⟨-, ho, -⟩ | ⟨i, hi, e, rfl, rfl, rfl⟩
    · exact absurd rfl (dk_out hj ho)
    · have z := dk_nI_inj hj hi e
      subst z
      obtain ⟨h1, h2, h3, h4, h5, h6, h7⟩ := hI
      obtain ⟨⟨e1, e2, e3, e4, e5⟩, -⟩ := id (h7 j hj)
      rw [← e1, ← e2, ← e3, ← e4, ← e5]
      refine ⟨rfl, _, rfl, rfl, h1, h2, Nat.le_trans h3 (Nat.mul_le_mul_right _ (Nat.le_succ q)), Nat.le_succ_of_le h4, dk_txt_len _ _ _ _ _, ?_, h7⟩
      intro i hi
      have a := dk_ap_at fl 0 _ hi
      have b := dk_ap_at tx 0 _ hi
      rw [Nat.zero_add] at a b
      rw [a, b]
end
section
/-! THE CLAIM OUT OF ONE WALK OF THE LAW'S BODY. Your part is whole_start (and what it stands on); all else here is the same for every law, but numbers. -/
def R_law : String := "DayDeskLaw"
def lw_P (b : Addr) (xs : List Int32) (args : Array Value) (s : State) : Prop := args = #[.ref b] ∧ s.IntsAt b xs ∧ xs.length ≤ 2048 ∧ (Jvm.Cond.and given_1 narrow_1).before args s = true
def lw_Q (_ : Array Value) (s : State) (o : Outcome) (t : State) : Prop := o = .returned (some (.int 1)) ∧ Framed s o t [] 12 2480
def lw_Z (below : List Frame) (a : Array Value) (s : State) : State → Prop := fun t => ∃ o, t.status = .running ∧ Ended t below o ∧ lw_Q a s o t
/-- the law's own end, with 1 on the stack, nothing written that was there before, its room as the claim has it -/
theorem lw_ret {p : Program} {l : Launch} {e : Env} {s : State} {m : MethodId} {below : List Frame} {meth : Method} {c : Code} {b : Nat} (hx : p.tables.exec = Jvm.exec) (hb : c.code = code) (hr : meth.sig.returnType = ret) (hlocks : meth.locks = false) {pc : Nat} {H : Heap} {ls : Array Slot} (hdg : decode code pc = .ok (.ireturn, 1)) : W p l e room_1 s m #[Value.ref b] below meth c H [] 12 2480 (lw_Z below #[Value.ref b] s) (F0 m pc ls [.int 1]) := by
  intro T hT X
  obtain ⟨fs, hret, hrun, hended, hW, hframe⟩ := X.leave (v := some (.int 1)) (hlocks := hlocks) (fun h => by rw [hr] at h; cases h)
  have hmeth' : T.vm.method? m = some meth := X.method'
  refine ⟨T.setFrames fs, ?_, .returned (some (.int 1)), hrun, hended, rfl, ⟨_, rfl⟩, hW, hframe⟩
  jvm_step X.here [X.here.top, hx, hb, hdg, hmeth', hr, ret, narrow_b1]
  (try refine ⟨rfl, ?_⟩); (try refine ⟨rfl, ?_⟩)
  first | (intro acts; rw [hret _ acts rfl rfl rfl]) | rw [hret _ _ rfl rfl rfl]
  exact Steps.refl _
/-- what holds at the law's entry: the machine, the code, the tables' words (any of lw_tbl by 'hts w (by decide +kernel)'), the script of L ints xs at the cell b, what the Statement gives of the start (any of its parts by flat_of_before) -/
def lw_At (p : Program) (s : State) (m : MethodId) (meth : Method) (c : Code) (b L : Nat) (xs : Nat → Int32) : Prop :=
  p.tables.exec = Jvm.exec ∧ c.code = code ∧ meth.sig.returnType = ret ∧ c.maxLocals = 4 ∧ s.vm.findClass R_law = some m.cls ∧ (∀ w ∈ lw_tbl, w.before #[Value.ref b] s = true) ∧ va_X b L xs s s.heap ∧ b < s.heap.size ∧ meth.locks = false ∧ (Jvm.Cond.and given_1 narrow_1).before #[Value.ref b] s = true
set_option maxHeartbeats 4000000 in
set_option maxRecDepth 100000 in
/-- the law: pass -/
theorem law_pass {p : Program} {l : Launch} {e : Env} {s : State} {m : MethodId} {below : List Frame} {meth : Method} {c : Code} {dC : Nat → ClassId} {dI : Nat → Nat → Nat} {b L : Nat} {xs : Nat → Int32} {h0 qo qw qc qn qm ql g0 a1 a2 a3 a4 : Nat} {k1 k2 k3 k4 k5 k6 i1 i2 i3 i4 : ClassId} (hL : L ≤ 2048) (C0 : lw_At p s m meth c b L xs) (hK : va_K (dC, dI) vwCl [(k1, .long), (k2, .long), (k3, .long), (k4, .long), (k5, .long), (k6, .char), (i1, .long), (i2, .int), (i3, .long), (i4, .int)] s) (i q : Nat) (hi : i + 4 ≤ L) (hq : q ≤ 511) (d : Int32) (t n : Nat) (fo fw fc fn fm : Nat → Int64) (fl : Nat → Int32) (T k : Nat) (O : Nat → Int64) (mo : Nat → Int32) (mb : Nat → Int64) (tx : Nat → Int32) (hI : dk_Inv q d t n fo fw fc fn fm fl T k O mo mb tx) (H : Heap) (locs : List Loc) (hP : va_P (dC, dI) vwCl [(h0, .inr (0, [.int d, .int (nI t), .ref qo, .ref qw, .ref qc, .ref qn, .ref qm, .ref ql, .int (nI n)])), (qo, .inl (k1, 200, .inr (.inl fo))), (qw, .inl (k2, 200, .inr (.inl fw))), (qc, .inl (k3, 200, .inr (.inl fc))), (qn, .inl (k4, 200, .inr (.inl fn))), (qm, .inl (k5, 200, .inr (.inl fm))), (ql, .inl (k6, 104, .inl fl)), (g0, .inr (1, [.long (lN T), .ref a1, .int (nI k), .ref a2, .ref a3, .int (nI n), .ref a4])), (a1, .inl (i1, 200, .inr (.inl O))), (a2, .inl (i2, 520, .inl mo)), (a3, .inl (i3, 520, .inr (.inl mb))), (a4, .inl (i4, 120, .inl tx))] H) (hD : va_D (fun q : Nat => s.heap.size ≤ q) [(h0, .inr (0, [.int d, .int (nI t), .ref qo, .ref qw, .ref qc, .ref qn, .ref qm, .ref ql, .int (nI n)])), (qo, .inl (k1, 200, .inr (.inl fo))), (qw, .inl (k2, 200, .inr (.inl fw))), (qc, .inl (k3, 200, .inr (.inl fc))), (qn, .inl (k4, 200, .inr (.inl fn))), (qm, .inl (k5, 200, .inr (.inl fm))), (ql, .inl (k6, 104, .inl fl)), (g0, .inr (1, [.long (lN T), .ref a1, .int (nI k), .ref a2, .ref a3, .int (nI n), .ref a4])), (a1, .inl (i1, 200, .inr (.inl O))), (a2, .inl (i2, 520, .inl mo)), (a3, .inl (i3, 520, .inr (.inl mb))), (a4, .inl (i4, 120, .inl tx))]) (hS : va_S (fun q : Nat => s.heap.size ≤ q) s.heap H locs) (ls : Array Slot) (hl : lv_has ls 4 [(0, .ref b), (1, .ref h0), (2, .ref g0), (3, .int (nI i))]) (kk : ∀ (d : Int32) (t n : Nat) (fo fw fc fn fm : Nat → Int64) (fl : Nat → Int32) (T k : Nat) (O : Nat → Int64) (mo : Nat → Int32) (mb : Nat → Int64) (tx : Nat → Int32), dk_Inv (q + 1) d t n fo fw fc fn fm fl T k O mo mb tx → ∀ (H : Heap) (locs : List Loc), va_P (dC, dI) vwCl [(h0, .inr (0, [.int d, .int (nI t), .ref qo, .ref qw, .ref qc, .ref qn, .ref qm, .ref ql, .int (nI n)])), (qo, .inl (k1, 200, .inr (.inl fo))), (qw, .inl (k2, 200, .inr (.inl fw))), (qc, .inl (k3, 200, .inr (.inl fc))), (qn, .inl (k4, 200, .inr (.inl fn))), (qm, .inl (k5, 200, .inr (.inl fm))), (ql, .inl (k6, 104, .inl fl)), (g0, .inr (1, [.long (lN T), .ref a1, .int (nI k), .ref a2, .ref a3, .int (nI n), .ref a4])), (a1, .inl (i1, 200, .inr (.inl O))), (a2, .inl (i2, 520, .inl mo)), (a3, .inl (i3, 520, .inr (.inl mb))), (a4, .inl (i4, 120, .inl tx))] H → va_D (fun q : Nat => s.heap.size ≤ q) [(h0, .inr (0, [.int d, .int (nI t), .ref qo, .ref qw, .ref qc, .ref qn, .ref qm, .ref ql, .int (nI n)])), (qo, .inl (k1, 200, .inr (.inl fo))), (qw, .inl (k2, 200, .inr (.inl fw))), (qc, .inl (k3, 200, .inr (.inl fc))), (qn, .inl (k4, 200, .inr (.inl fn))), (qm, .inl (k5, 200, .inr (.inl fm))), (ql, .inl (k6, 104, .inl fl)), (g0, .inr (1, [.long (lN T), .ref a1, .int (nI k), .ref a2, .ref a3, .int (nI n), .ref a4])), (a1, .inl (i1, 200, .inr (.inl O))), (a2, .inl (i2, 520, .inl mo)), (a3, .inl (i3, 520, .inr (.inl mb))), (a4, .inl (i4, 120, .inl tx))] → va_S (fun q : Nat => s.heap.size ≤ q) s.heap H locs → ∀ ls : Array Slot, lv_has ls 4 [(0, .ref b), (1, .ref h0), (2, .ref g0), (3, .int (nI i))] → W p l e room_1 s m #[Value.ref b] below meth c H locs 12 2480 (lw_Z below #[Value.ref b] s) (F0 m 368 ls [])) : W p l e room_1 s m #[Value.ref b] below meth c H locs 12 2480 (lw_Z below #[Value.ref b] s) (F0 m 84 ls []) := by
  obtain ⟨hx, hb, hr, hml, hown0, hts0, hX, hbl, hlocks, hgv⟩ := C0
  have hts : ∀ w ∈ wsL_law, w.before #[Value.ref b] s = true := fun w h => hts0 w (wsL_law_in w h)
  have hown : s.vm.findClass RL = some m.cls := hown0
  have hA : ∀ q : Nat, s.heap.size ≤ q → (fun q : Nat => s.heap.size ≤ q) q := fun _ h => h
  have hbA : ¬ (fun q : Nat => s.heap.size ≤ q) b := Nat.not_le.mpr hbl
  obtain ⟨v1, v2, v3, v4, v5, v6, v7⟩ := id hI
  have ht9 : t < 1000 := by rw [v1]; exact Nat.mod_lt _ (by decide)
  have hT9 : T ≤ 51100000 := Nat.le_trans v3 (Nat.mul_le_mul_right 100000 hq)
  refine lv_aload_n hx hb dL_law_84 rfl (lv_at hl 1 rfl) ?_
  have hPc := hP.sub (ws' := [(h0, .inr (0, [.int d, .int (nI t), .ref qo, .ref qw, .ref qc, .ref qn, .ref qm, .ref ql, .int (nI n)])), (qo, .inl (k1, 200, .inr (.inl fo))), (qw, .inl (k2, 200, .inr (.inl fw))), (qc, .inl (k3, 200, .inr (.inl fc))), (qn, .inl (k4, 200, .inr (.inl fn))), (qm, .inl (k5, 200, .inr (.inl fm)))]) [0, 1, 2, 3, 4, 5] rfl
  have hDc := hD.sub (ws' := [(h0, .inr (0, [.int d, .int (nI t), .ref qo, .ref qw, .ref qc, .ref qn, .ref qm, .ref ql, .int (nI n)])), (qo, .inl (k1, 200, .inr (.inl fo))), (qw, .inl (k2, 200, .inr (.inl fw))), (qc, .inl (k3, 200, .inr (.inl fc))), (qn, .inl (k4, 200, .inr (.inl fn))), (qm, .inl (k5, 200, .inr (.inl fm)))]) [0, 1, 2, 3, 4, 5] (by decide) rfl
  have hFc := va_free (wc := [(h0, .inr (0, [.int d, .int (nI t), .ref qo, .ref qw, .ref qc, .ref qn, .ref qm, .ref ql, .int (nI n)])), (qo, .inl (k1, 200, .inr (.inl fo))), (qw, .inl (k2, 200, .inr (.inl fw))), (qc, .inl (k3, 200, .inr (.inl fc))), (qn, .inl (k4, 200, .inr (.inl fn))), (qm, .inl (k5, 200, .inr (.inl fm)))]) hD hS hA [0, 1, 2, 3, 4, 5] rfl
  have hKc := hK.sub (tys' := [(k1, .long), (k2, .long), (k3, .long), (k4, .long), (k5, .long)]) [0, 1, 2, 3, 4] rfl
  refine va_calli (va_runV (As := []) (rest := []) ⟨hx, hb, hml, hown, hts⟩ (cX_pass l dC dI _ h0 qo qw qc qn qm ql k1 k2 k3 k4 k5 d (nI n) t ht9 fo fw fc fn fm) (cwV 0 hts gL_law_X0_pass rfl rfl rfl (by decide +kernel) ⟨Nat.le_of_ble_eq_true rfl, Nat.le_of_ble_eq_true rfl⟩) (dk_wV hPc hKc hDc (ci := 0) (q0 := 0) rfl rfl) rfl rfl hl.1 rfl (lv_room (Nat.le_of_ble_eq_true rfl)) dL_law_85 ⟨Nat.le_of_ble_eq_true rfl, Nat.le_of_ble_eq_true rfl⟩) hS (fun q _ h => hFc q h) hFc (fun rx u8 t8 H1 locs ht8 hvm8 hw hB hz1 hk1 hS => ?_)
  try dsimp only at hw
  obtain ⟨go, gw, gc, gm⟩ := u8
  try dsimp only at hw hB
  obtain ⟨hP1, hD1⟩ := hB
  rw [ht8] at hP1
  obtain ⟨hP, hD⟩ := va_join (wr := [(ql, .inl (k6, 104, .inl fl)), (g0, .inr (1, [.long (lN T), .ref a1, .int (nI k), .ref a2, .ref a3, .int (nI n), .ref a4])), (a1, .inl (i1, 200, .inr (.inl O))), (a2, .inl (i2, 520, .inl mo)), (a3, .inl (i3, 520, .inr (.inl mb))), (a4, .inl (i4, 120, .inl tx))]) (w1 := [(h0, .inr (0, [.int (d + nI ((t + 1) / 1000)), .int (nI ((t + 1) % 1000)), .ref qo, .ref qw, .ref qc, .ref qn, .ref qm, .ref ql, .int (nI n)])), (qo, .inl (k1, 200, .inr (.inl go))), (qw, .inl (k2, 200, .inr (.inl gw))), (qc, .inl (k3, 200, .inr (.inl gc))), (qn, .inl (k4, 200, .inr (.inl fn))), (qm, .inl (k5, 200, .inr (.inl gm)))]) hP hD [0, 1, 2, 3, 4, 5] [6, 7, 8, 9, 10, 11] rfl rfl (by decide) (by decide) hk1 hFc hP1 hD1
  generalize H1 = H at hP hS ⊢
  have hP := hP.sub (ws' := [(h0, .inr (0, [.int (d + nI ((t + 1) / 1000)), .int (nI ((t + 1) % 1000)), .ref qo, .ref qw, .ref qc, .ref qn, .ref qm, .ref ql, .int (nI n)])), (qo, .inl (k1, 200, .inr (.inl go))), (qw, .inl (k2, 200, .inr (.inl gw))), (qc, .inl (k3, 200, .inr (.inl gc))), (qn, .inl (k4, 200, .inr (.inl fn))), (qm, .inl (k5, 200, .inr (.inl gm))), (ql, .inl (k6, 104, .inl fl)), (g0, .inr (1, [.long (lN T), .ref a1, .int (nI k), .ref a2, .ref a3, .int (nI n), .ref a4])), (a1, .inl (i1, 200, .inr (.inl O))), (a2, .inl (i2, 520, .inl mo)), (a3, .inl (i3, 520, .inr (.inl mb))), (a4, .inl (i4, 120, .inl tx))]) [6, 7, 8, 9, 10, 11, 0, 1, 2, 3, 4, 5] rfl
  have hD := hD.sub (ws' := [(h0, .inr (0, [.int (d + nI ((t + 1) / 1000)), .int (nI ((t + 1) % 1000)), .ref qo, .ref qw, .ref qc, .ref qn, .ref qm, .ref ql, .int (nI n)])), (qo, .inl (k1, 200, .inr (.inl go))), (qw, .inl (k2, 200, .inr (.inl gw))), (qc, .inl (k3, 200, .inr (.inl gc))), (qn, .inl (k4, 200, .inr (.inl fn))), (qm, .inl (k5, 200, .inr (.inl gm))), (ql, .inl (k6, 104, .inl fl)), (g0, .inr (1, [.long (lN T), .ref a1, .int (nI k), .ref a2, .ref a3, .int (nI n), .ref a4])), (a1, .inl (i1, 200, .inr (.inl O))), (a2, .inl (i2, 520, .inl mo)), (a3, .inl (i3, 520, .inr (.inl mb))), (a4, .inl (i4, 120, .inl tx))]) [6, 7, 8, 9, 10, 11, 0, 1, 2, 3, 4, 5] (by decide) rfl
  have hP : va_P (dC, dI) vwCl [(h0, .inr (0, [.int (d + nI ((t + 1) / 1000)), .int (nI ((t + 1) % 1000)), .ref qo, .ref qw, .ref qc, .ref qn, .ref qm, .ref ql, .int (nI n)])), (qo, .inl (k1, 200, .inr (.inl go))), (qw, .inl (k2, 200, .inr (.inl gw))), (qc, .inl (k3, 200, .inr (.inl gc))), (qn, .inl (k4, 200, .inr (.inl fn))), (qm, .inl (k5, 200, .inr (.inl gm))), (ql, .inl (k6, 104, .inl fl)), (g0, .inr (1, [.long (lN T), .ref a1, .int (nI k), .ref a2, .ref a3, .int (nI n), .ref a4])), (a1, .inl (i1, 200, .inr (.inl O))), (a2, .inl (i2, 520, .inl mo)), (a3, .inl (i3, 520, .inr (.inl mb))), (a4, .inl (i4, 120, .inl tx))] H := hP
  have hD : va_D (fun q : Nat => s.heap.size ≤ q) [(h0, .inr (0, [.int (d + nI ((t + 1) / 1000)), .int (nI ((t + 1) % 1000)), .ref qo, .ref qw, .ref qc, .ref qn, .ref qm, .ref ql, .int (nI n)])), (qo, .inl (k1, 200, .inr (.inl go))), (qw, .inl (k2, 200, .inr (.inl gw))), (qc, .inl (k3, 200, .inr (.inl gc))), (qn, .inl (k4, 200, .inr (.inl fn))), (qm, .inl (k5, 200, .inr (.inl gm))), (ql, .inl (k6, 104, .inl fl)), (g0, .inr (1, [.long (lN T), .ref a1, .int (nI k), .ref a2, .ref a3, .int (nI n), .ref a4])), (a1, .inl (i1, 200, .inr (.inl O))), (a2, .inl (i2, 520, .inl mo)), (a3, .inl (i3, 520, .inr (.inl mb))), (a4, .inl (i4, 120, .inl tx))] := hD
  have hwx := hw
  refine lv_aload_n hx hb dL_law_88 rfl (lv_at hl 2 rfl) ?_
  have hPc := hP.sub (ws' := [(g0, .inr (1, [.long (lN T), .ref a1, .int (nI k), .ref a2, .ref a3, .int (nI n), .ref a4])), (a1, .inl (i1, 200, .inr (.inl O))), (a2, .inl (i2, 520, .inl mo)), (a3, .inl (i3, 520, .inr (.inl mb)))]) [7, 8, 9, 10] rfl
  have hDc := hD.sub (ws' := [(g0, .inr (1, [.long (lN T), .ref a1, .int (nI k), .ref a2, .ref a3, .int (nI n), .ref a4])), (a1, .inl (i1, 200, .inr (.inl O))), (a2, .inl (i2, 520, .inl mo)), (a3, .inl (i3, 520, .inr (.inl mb)))]) [7, 8, 9, 10] (by decide) rfl
  have hFc := va_free (wc := [(g0, .inr (1, [.long (lN T), .ref a1, .int (nI k), .ref a2, .ref a3, .int (nI n), .ref a4])), (a1, .inl (i1, 200, .inr (.inl O))), (a2, .inl (i2, 520, .inl mo)), (a3, .inl (i3, 520, .inr (.inl mb)))]) hD hS hA [7, 8, 9, 10] rfl
  have hKc := hK.sub (tys' := [(i1, .long), (i2, .int), (i3, .long)]) [6, 7, 8] rfl
  refine va_calli (va_runV (As := []) (rest := [.int rx]) ⟨hx, hb, hml, hown, hts⟩ (cY_pass l dC dI _ g0 a1 a2 a3 a4 i1 i2 i3 T (by omega) k (by omega) (nI n) O mo mb) (cwV 0 hts gL_law_X1_pass rfl rfl rfl (by decide +kernel) ⟨Nat.le_of_ble_eq_true rfl, Nat.le_of_ble_eq_true rfl⟩) (dk_wV hPc hKc hDc (ci := 1) (q0 := 0) rfl rfl) rfl rfl hl.1 rfl (lv_room (Nat.le_of_ble_eq_true rfl)) dL_law_89 ⟨Nat.le_of_ble_eq_true rfl, Nat.le_of_ble_eq_true rfl⟩) hS (fun q _ h => hFc q h) hFc (fun ry u8 t8 H1 locs ht8 hvm8 hw hB hz1 hk1 hS => ?_)
  try dsimp only at hw
  obtain ⟨O2, j2⟩ := u8
  try dsimp only at hw hB
  obtain ⟨hP1, hD1⟩ := hB
  rw [ht8] at hP1
  obtain ⟨hP, hD⟩ := va_join (wr := [(h0, .inr (0, [.int (d + nI ((t + 1) / 1000)), .int (nI ((t + 1) % 1000)), .ref qo, .ref qw, .ref qc, .ref qn, .ref qm, .ref ql, .int (nI n)])), (qo, .inl (k1, 200, .inr (.inl go))), (qw, .inl (k2, 200, .inr (.inl gw))), (qc, .inl (k3, 200, .inr (.inl gc))), (qn, .inl (k4, 200, .inr (.inl fn))), (qm, .inl (k5, 200, .inr (.inl gm))), (ql, .inl (k6, 104, .inl fl)), (a4, .inl (i4, 120, .inl tx))]) (w1 := [(g0, .inr (1, [.long (lN (T + 1)), .ref a1, .int (nI j2), .ref a2, .ref a3, .int (nI n), .ref a4])), (a1, .inl (i1, 200, .inr (.inl O2))), (a2, .inl (i2, 520, .inl mo)), (a3, .inl (i3, 520, .inr (.inl mb)))]) hP hD [7, 8, 9, 10] [0, 1, 2, 3, 4, 5, 6, 11] rfl rfl (by decide) (by decide) hk1 hFc hP1 hD1
  generalize H1 = H at hP hS ⊢
  have hP := hP.sub (ws' := [(h0, .inr (0, [.int (d + nI ((t + 1) / 1000)), .int (nI ((t + 1) % 1000)), .ref qo, .ref qw, .ref qc, .ref qn, .ref qm, .ref ql, .int (nI n)])), (qo, .inl (k1, 200, .inr (.inl go))), (qw, .inl (k2, 200, .inr (.inl gw))), (qc, .inl (k3, 200, .inr (.inl gc))), (qn, .inl (k4, 200, .inr (.inl fn))), (qm, .inl (k5, 200, .inr (.inl gm))), (ql, .inl (k6, 104, .inl fl)), (g0, .inr (1, [.long (lN (T + 1)), .ref a1, .int (nI j2), .ref a2, .ref a3, .int (nI n), .ref a4])), (a1, .inl (i1, 200, .inr (.inl O2))), (a2, .inl (i2, 520, .inl mo)), (a3, .inl (i3, 520, .inr (.inl mb))), (a4, .inl (i4, 120, .inl tx))]) [0, 1, 2, 3, 4, 5, 6, 8, 9, 10, 11, 7] rfl
  have hD := hD.sub (ws' := [(h0, .inr (0, [.int (d + nI ((t + 1) / 1000)), .int (nI ((t + 1) % 1000)), .ref qo, .ref qw, .ref qc, .ref qn, .ref qm, .ref ql, .int (nI n)])), (qo, .inl (k1, 200, .inr (.inl go))), (qw, .inl (k2, 200, .inr (.inl gw))), (qc, .inl (k3, 200, .inr (.inl gc))), (qn, .inl (k4, 200, .inr (.inl fn))), (qm, .inl (k5, 200, .inr (.inl gm))), (ql, .inl (k6, 104, .inl fl)), (g0, .inr (1, [.long (lN (T + 1)), .ref a1, .int (nI j2), .ref a2, .ref a3, .int (nI n), .ref a4])), (a1, .inl (i1, 200, .inr (.inl O2))), (a2, .inl (i2, 520, .inl mo)), (a3, .inl (i3, 520, .inr (.inl mb))), (a4, .inl (i4, 120, .inl tx))]) [0, 1, 2, 3, 4, 5, 6, 8, 9, 10, 11, 7] (by decide) rfl
  have hP : va_P (dC, dI) vwCl [(h0, .inr (0, [.int (d + nI ((t + 1) / 1000)), .int (nI ((t + 1) % 1000)), .ref qo, .ref qw, .ref qc, .ref qn, .ref qm, .ref ql, .int (nI n)])), (qo, .inl (k1, 200, .inr (.inl go))), (qw, .inl (k2, 200, .inr (.inl gw))), (qc, .inl (k3, 200, .inr (.inl gc))), (qn, .inl (k4, 200, .inr (.inl fn))), (qm, .inl (k5, 200, .inr (.inl gm))), (ql, .inl (k6, 104, .inl fl)), (g0, .inr (1, [.long (lN (T + 1)), .ref a1, .int (nI j2), .ref a2, .ref a3, .int (nI n), .ref a4])), (a1, .inl (i1, 200, .inr (.inl O2))), (a2, .inl (i2, 520, .inl mo)), (a3, .inl (i3, 520, .inr (.inl mb))), (a4, .inl (i4, 120, .inl tx))] H := hP
  have hD : va_D (fun q : Nat => s.heap.size ≤ q) [(h0, .inr (0, [.int (d + nI ((t + 1) / 1000)), .int (nI ((t + 1) % 1000)), .ref qo, .ref qw, .ref qc, .ref qn, .ref qm, .ref ql, .int (nI n)])), (qo, .inl (k1, 200, .inr (.inl go))), (qw, .inl (k2, 200, .inr (.inl gw))), (qc, .inl (k3, 200, .inr (.inl gc))), (qn, .inl (k4, 200, .inr (.inl fn))), (qm, .inl (k5, 200, .inr (.inl gm))), (ql, .inl (k6, 104, .inl fl)), (g0, .inr (1, [.long (lN (T + 1)), .ref a1, .int (nI j2), .ref a2, .ref a3, .int (nI n), .ref a4])), (a1, .inl (i1, 200, .inr (.inl O2))), (a2, .inl (i2, 520, .inl mo)), (a3, .inl (i3, 520, .inr (.inl mb))), (a4, .inl (i4, 120, .inl tx))] := hD
  have hwy := hw
  obtain ⟨e1, hop⟩ := hwx
  obtain ⟨e2, hys⟩ := hwy
  have req : rx = ry := by rw [e1, e2, show (t + 1) % 1000 = (T + 1) % 1000 from by omega]
  refine lv_icmp_eq (tgt := 368) hx hb dL_law_92 (by decide) (fun _ => ?_) (fun c9 => absurd req c9)
  exact kk (d + nI ((t + 1) / 1000)) ((t + 1) % 1000) n go gw gc fn gm fl (T + 1) j2 O2 mo mb tx (dk_Inv_adv 1 (by omega) hI hop hys) H locs hP hD hS ls hl
set_option maxHeartbeats 4000000 in
set_option maxRecDepth 100000 in
/-- the law: skip -/
theorem law_skip {p : Program} {l : Launch} {e : Env} {s : State} {m : MethodId} {below : List Frame} {meth : Method} {c : Code} {dC : Nat → ClassId} {dI : Nat → Nat → Nat} {b L : Nat} {xs : Nat → Int32} {h0 qo qw qc qn qm ql g0 a1 a2 a3 a4 : Nat} {k1 k2 k3 k4 k5 k6 i1 i2 i3 i4 : ClassId} (hL : L ≤ 2048) (C0 : lw_At p s m meth c b L xs) (hK : va_K (dC, dI) vwCl [(k1, .long), (k2, .long), (k3, .long), (k4, .long), (k5, .long), (k6, .char), (i1, .long), (i2, .int), (i3, .long), (i4, .int)] s) (i q : Nat) (hi : i + 4 ≤ L) (hq : q ≤ 511) (d : Int32) (t n : Nat) (fo fw fc fn fm : Nat → Int64) (fl : Nat → Int32) (T k : Nat) (O : Nat → Int64) (mo : Nat → Int32) (mb : Nat → Int64) (tx : Nat → Int32) (hI : dk_Inv q d t n fo fw fc fn fm fl T k O mo mb tx) (H : Heap) (locs : List Loc) (hP : va_P (dC, dI) vwCl [(h0, .inr (0, [.int d, .int (nI t), .ref qo, .ref qw, .ref qc, .ref qn, .ref qm, .ref ql, .int (nI n)])), (qo, .inl (k1, 200, .inr (.inl fo))), (qw, .inl (k2, 200, .inr (.inl fw))), (qc, .inl (k3, 200, .inr (.inl fc))), (qn, .inl (k4, 200, .inr (.inl fn))), (qm, .inl (k5, 200, .inr (.inl fm))), (ql, .inl (k6, 104, .inl fl)), (g0, .inr (1, [.long (lN T), .ref a1, .int (nI k), .ref a2, .ref a3, .int (nI n), .ref a4])), (a1, .inl (i1, 200, .inr (.inl O))), (a2, .inl (i2, 520, .inl mo)), (a3, .inl (i3, 520, .inr (.inl mb))), (a4, .inl (i4, 120, .inl tx))] H) (hD : va_D (fun q : Nat => s.heap.size ≤ q) [(h0, .inr (0, [.int d, .int (nI t), .ref qo, .ref qw, .ref qc, .ref qn, .ref qm, .ref ql, .int (nI n)])), (qo, .inl (k1, 200, .inr (.inl fo))), (qw, .inl (k2, 200, .inr (.inl fw))), (qc, .inl (k3, 200, .inr (.inl fc))), (qn, .inl (k4, 200, .inr (.inl fn))), (qm, .inl (k5, 200, .inr (.inl fm))), (ql, .inl (k6, 104, .inl fl)), (g0, .inr (1, [.long (lN T), .ref a1, .int (nI k), .ref a2, .ref a3, .int (nI n), .ref a4])), (a1, .inl (i1, 200, .inr (.inl O))), (a2, .inl (i2, 520, .inl mo)), (a3, .inl (i3, 520, .inr (.inl mb))), (a4, .inl (i4, 120, .inl tx))]) (hS : va_S (fun q : Nat => s.heap.size ≤ q) s.heap H locs) (ls : Array Slot) (hl : lv_has ls 4 [(0, .ref b), (1, .ref h0), (2, .ref g0), (3, .int (nI i))]) (kk : ∀ (d : Int32) (t n : Nat) (fo fw fc fn fm : Nat → Int64) (fl : Nat → Int32) (T k : Nat) (O : Nat → Int64) (mo : Nat → Int32) (mb : Nat → Int64) (tx : Nat → Int32), dk_Inv (q + 1) d t n fo fw fc fn fm fl T k O mo mb tx → ∀ (H : Heap) (locs : List Loc), va_P (dC, dI) vwCl [(h0, .inr (0, [.int d, .int (nI t), .ref qo, .ref qw, .ref qc, .ref qn, .ref qm, .ref ql, .int (nI n)])), (qo, .inl (k1, 200, .inr (.inl fo))), (qw, .inl (k2, 200, .inr (.inl fw))), (qc, .inl (k3, 200, .inr (.inl fc))), (qn, .inl (k4, 200, .inr (.inl fn))), (qm, .inl (k5, 200, .inr (.inl fm))), (ql, .inl (k6, 104, .inl fl)), (g0, .inr (1, [.long (lN T), .ref a1, .int (nI k), .ref a2, .ref a3, .int (nI n), .ref a4])), (a1, .inl (i1, 200, .inr (.inl O))), (a2, .inl (i2, 520, .inl mo)), (a3, .inl (i3, 520, .inr (.inl mb))), (a4, .inl (i4, 120, .inl tx))] H → va_D (fun q : Nat => s.heap.size ≤ q) [(h0, .inr (0, [.int d, .int (nI t), .ref qo, .ref qw, .ref qc, .ref qn, .ref qm, .ref ql, .int (nI n)])), (qo, .inl (k1, 200, .inr (.inl fo))), (qw, .inl (k2, 200, .inr (.inl fw))), (qc, .inl (k3, 200, .inr (.inl fc))), (qn, .inl (k4, 200, .inr (.inl fn))), (qm, .inl (k5, 200, .inr (.inl fm))), (ql, .inl (k6, 104, .inl fl)), (g0, .inr (1, [.long (lN T), .ref a1, .int (nI k), .ref a2, .ref a3, .int (nI n), .ref a4])), (a1, .inl (i1, 200, .inr (.inl O))), (a2, .inl (i2, 520, .inl mo)), (a3, .inl (i3, 520, .inr (.inl mb))), (a4, .inl (i4, 120, .inl tx))] → va_S (fun q : Nat => s.heap.size ≤ q) s.heap H locs → ∀ ls : Array Slot, lv_has ls 4 [(0, .ref b), (1, .ref h0), (2, .ref g0), (3, .int (nI i))] → W p l e room_1 s m #[Value.ref b] below meth c H locs 12 2480 (lw_Z below #[Value.ref b] s) (F0 m 368 ls [])) : W p l e room_1 s m #[Value.ref b] below meth c H locs 12 2480 (lw_Z below #[Value.ref b] s) (F0 m 97 ls []) := by
  obtain ⟨hx, hb, hr, hml, hown0, hts0, hX, hbl, hlocks, hgv⟩ := C0
  have hts : ∀ w ∈ wsL_law, w.before #[Value.ref b] s = true := fun w h => hts0 w (wsL_law_in w h)
  have hown : s.vm.findClass RL = some m.cls := hown0
  have hA : ∀ q : Nat, s.heap.size ≤ q → (fun q : Nat => s.heap.size ≤ q) q := fun _ h => h
  have hbA : ¬ (fun q : Nat => s.heap.size ≤ q) b := Nat.not_le.mpr hbl
  obtain ⟨v1, v2, v3, v4, v5, v6, v7⟩ := id hI
  have ht9 : t < 1000 := by rw [v1]; exact Nat.mod_lt _ (by decide)
  have hT9 : T ≤ 51100000 := Nat.le_trans v3 (Nat.mul_le_mul_right 100000 hq)
  refine lv_aload_n hx hb dL_law_97 rfl (lv_at hl 1 rfl) ?_
  refine lv_aload_n hx hb dL_law_98 rfl (lv_at hl 0 rfl) ?_
  refine lv_iload_n hx hb dL_law_99 rfl (lv_at hl 3 rfl) ?_
  refine lv_iconst (v := 1) hx hb dL_law_100 (by decide) ?_
  refine lv_iadd hx hb dL_law_101 ?_
  refine dk_asi (y := nI (i + 1)) (nI_add i 1) ?_
  refine dk_sld hx hb hX hbl hbA hS (j := i + 1) (by omega) (by omega) dL_law_102 ?_
  have hPc := hP.sub (ws' := [(h0, .inr (0, [.int d, .int (nI t), .ref qo, .ref qw, .ref qc, .ref qn, .ref qm, .ref ql, .int (nI n)])), (qo, .inl (k1, 200, .inr (.inl fo))), (qw, .inl (k2, 200, .inr (.inl fw))), (qc, .inl (k3, 200, .inr (.inl fc))), (qn, .inl (k4, 200, .inr (.inl fn))), (qm, .inl (k5, 200, .inr (.inl fm)))]) [0, 1, 2, 3, 4, 5] rfl
  have hDc := hD.sub (ws' := [(h0, .inr (0, [.int d, .int (nI t), .ref qo, .ref qw, .ref qc, .ref qn, .ref qm, .ref ql, .int (nI n)])), (qo, .inl (k1, 200, .inr (.inl fo))), (qw, .inl (k2, 200, .inr (.inl fw))), (qc, .inl (k3, 200, .inr (.inl fc))), (qn, .inl (k4, 200, .inr (.inl fn))), (qm, .inl (k5, 200, .inr (.inl fm)))]) [0, 1, 2, 3, 4, 5] (by decide) rfl
  have hFc := va_free (wc := [(h0, .inr (0, [.int d, .int (nI t), .ref qo, .ref qw, .ref qc, .ref qn, .ref qm, .ref ql, .int (nI n)])), (qo, .inl (k1, 200, .inr (.inl fo))), (qw, .inl (k2, 200, .inr (.inl fw))), (qc, .inl (k3, 200, .inr (.inl fc))), (qn, .inl (k4, 200, .inr (.inl fn))), (qm, .inl (k5, 200, .inr (.inl fm)))]) hD hS hA [0, 1, 2, 3, 4, 5] rfl
  have hKc := hK.sub (tys' := [(k1, .long), (k2, .long), (k3, .long), (k4, .long), (k5, .long)]) [0, 1, 2, 3, 4] rfl
  refine va_calli (va_runV (As := [.int (xs (i + 1))]) (rest := []) ⟨hx, hb, hml, hown, hts⟩ (cX_skip l dC dI _ h0 qo qw qc qn qm ql k1 k2 k3 k4 k5 d (nI n) t ht9 fo fw fc fn fm (xs (i + 1))) (cwV 1 hts gL_law_X0_skip rfl rfl rfl (by decide +kernel) ⟨Nat.le_of_ble_eq_true rfl, Nat.le_of_ble_eq_true rfl⟩) (dk_wV hPc hKc hDc (ci := 0) (q0 := 0) rfl rfl) rfl rfl hl.1 rfl (lv_room (Nat.le_of_ble_eq_true rfl)) dL_law_103 ⟨Nat.le_of_ble_eq_true rfl, Nat.le_of_ble_eq_true rfl⟩) hS (fun q _ h => hFc q h) hFc (fun rx u8 t8 H1 locs ht8 hvm8 hw hB hz1 hk1 hS => ?_)
  try dsimp only at hw
  obtain ⟨e2, t2, go, gw, gc, gm⟩ := u8
  try dsimp only at hw hB
  obtain ⟨hP1, hD1⟩ := hB
  rw [ht8] at hP1
  obtain ⟨hP, hD⟩ := va_join (wr := [(ql, .inl (k6, 104, .inl fl)), (g0, .inr (1, [.long (lN T), .ref a1, .int (nI k), .ref a2, .ref a3, .int (nI n), .ref a4])), (a1, .inl (i1, 200, .inr (.inl O))), (a2, .inl (i2, 520, .inl mo)), (a3, .inl (i3, 520, .inr (.inl mb))), (a4, .inl (i4, 120, .inl tx))]) (w1 := [(h0, .inr (0, [.int e2, .int (nI t2), .ref qo, .ref qw, .ref qc, .ref qn, .ref qm, .ref ql, .int (nI n)])), (qo, .inl (k1, 200, .inr (.inl go))), (qw, .inl (k2, 200, .inr (.inl gw))), (qc, .inl (k3, 200, .inr (.inl gc))), (qn, .inl (k4, 200, .inr (.inl fn))), (qm, .inl (k5, 200, .inr (.inl gm)))]) hP hD [0, 1, 2, 3, 4, 5] [6, 7, 8, 9, 10, 11] rfl rfl (by decide) (by decide) hk1 hFc hP1 hD1
  generalize H1 = H at hP hS ⊢
  have hP := hP.sub (ws' := [(h0, .inr (0, [.int e2, .int (nI t2), .ref qo, .ref qw, .ref qc, .ref qn, .ref qm, .ref ql, .int (nI n)])), (qo, .inl (k1, 200, .inr (.inl go))), (qw, .inl (k2, 200, .inr (.inl gw))), (qc, .inl (k3, 200, .inr (.inl gc))), (qn, .inl (k4, 200, .inr (.inl fn))), (qm, .inl (k5, 200, .inr (.inl gm))), (ql, .inl (k6, 104, .inl fl)), (g0, .inr (1, [.long (lN T), .ref a1, .int (nI k), .ref a2, .ref a3, .int (nI n), .ref a4])), (a1, .inl (i1, 200, .inr (.inl O))), (a2, .inl (i2, 520, .inl mo)), (a3, .inl (i3, 520, .inr (.inl mb))), (a4, .inl (i4, 120, .inl tx))]) [6, 7, 8, 9, 10, 11, 0, 1, 2, 3, 4, 5] rfl
  have hD := hD.sub (ws' := [(h0, .inr (0, [.int e2, .int (nI t2), .ref qo, .ref qw, .ref qc, .ref qn, .ref qm, .ref ql, .int (nI n)])), (qo, .inl (k1, 200, .inr (.inl go))), (qw, .inl (k2, 200, .inr (.inl gw))), (qc, .inl (k3, 200, .inr (.inl gc))), (qn, .inl (k4, 200, .inr (.inl fn))), (qm, .inl (k5, 200, .inr (.inl gm))), (ql, .inl (k6, 104, .inl fl)), (g0, .inr (1, [.long (lN T), .ref a1, .int (nI k), .ref a2, .ref a3, .int (nI n), .ref a4])), (a1, .inl (i1, 200, .inr (.inl O))), (a2, .inl (i2, 520, .inl mo)), (a3, .inl (i3, 520, .inr (.inl mb))), (a4, .inl (i4, 120, .inl tx))]) [6, 7, 8, 9, 10, 11, 0, 1, 2, 3, 4, 5] (by decide) rfl
  have hP : va_P (dC, dI) vwCl [(h0, .inr (0, [.int e2, .int (nI t2), .ref qo, .ref qw, .ref qc, .ref qn, .ref qm, .ref ql, .int (nI n)])), (qo, .inl (k1, 200, .inr (.inl go))), (qw, .inl (k2, 200, .inr (.inl gw))), (qc, .inl (k3, 200, .inr (.inl gc))), (qn, .inl (k4, 200, .inr (.inl fn))), (qm, .inl (k5, 200, .inr (.inl gm))), (ql, .inl (k6, 104, .inl fl)), (g0, .inr (1, [.long (lN T), .ref a1, .int (nI k), .ref a2, .ref a3, .int (nI n), .ref a4])), (a1, .inl (i1, 200, .inr (.inl O))), (a2, .inl (i2, 520, .inl mo)), (a3, .inl (i3, 520, .inr (.inl mb))), (a4, .inl (i4, 120, .inl tx))] H := hP
  have hD : va_D (fun q : Nat => s.heap.size ≤ q) [(h0, .inr (0, [.int e2, .int (nI t2), .ref qo, .ref qw, .ref qc, .ref qn, .ref qm, .ref ql, .int (nI n)])), (qo, .inl (k1, 200, .inr (.inl go))), (qw, .inl (k2, 200, .inr (.inl gw))), (qc, .inl (k3, 200, .inr (.inl gc))), (qn, .inl (k4, 200, .inr (.inl fn))), (qm, .inl (k5, 200, .inr (.inl gm))), (ql, .inl (k6, 104, .inl fl)), (g0, .inr (1, [.long (lN T), .ref a1, .int (nI k), .ref a2, .ref a3, .int (nI n), .ref a4])), (a1, .inl (i1, 200, .inr (.inl O))), (a2, .inl (i2, 520, .inl mo)), (a3, .inl (i3, 520, .inr (.inl mb))), (a4, .inl (i4, 120, .inl tx))] := hD
  have hwx := hw
  refine lv_aload_n hx hb dL_law_106 rfl (lv_at hl 2 rfl) ?_
  refine lv_aload_n hx hb dL_law_107 rfl (lv_at hl 0 rfl) ?_
  refine lv_iload_n hx hb dL_law_108 rfl (lv_at hl 3 rfl) ?_
  refine lv_iconst (v := 1) hx hb dL_law_109 (by decide) ?_
  refine lv_iadd hx hb dL_law_110 ?_
  refine dk_asi (y := nI (i + 1)) (nI_add i 1) ?_
  refine dk_sld hx hb hX hbl hbA hS (j := i + 1) (by omega) (by omega) dL_law_111 ?_
  have hPc := hP.sub (ws' := [(g0, .inr (1, [.long (lN T), .ref a1, .int (nI k), .ref a2, .ref a3, .int (nI n), .ref a4])), (a1, .inl (i1, 200, .inr (.inl O))), (a2, .inl (i2, 520, .inl mo)), (a3, .inl (i3, 520, .inr (.inl mb)))]) [7, 8, 9, 10] rfl
  have hDc := hD.sub (ws' := [(g0, .inr (1, [.long (lN T), .ref a1, .int (nI k), .ref a2, .ref a3, .int (nI n), .ref a4])), (a1, .inl (i1, 200, .inr (.inl O))), (a2, .inl (i2, 520, .inl mo)), (a3, .inl (i3, 520, .inr (.inl mb)))]) [7, 8, 9, 10] (by decide) rfl
  have hFc := va_free (wc := [(g0, .inr (1, [.long (lN T), .ref a1, .int (nI k), .ref a2, .ref a3, .int (nI n), .ref a4])), (a1, .inl (i1, 200, .inr (.inl O))), (a2, .inl (i2, 520, .inl mo)), (a3, .inl (i3, 520, .inr (.inl mb)))]) hD hS hA [7, 8, 9, 10] rfl
  have hKc := hK.sub (tys' := [(i1, .long), (i2, .int), (i3, .long)]) [6, 7, 8] rfl
  refine va_calli (va_runV (As := [.int (xs (i + 1))]) (rest := [.int rx]) ⟨hx, hb, hml, hown, hts⟩ (cY_skip l dC dI _ g0 a1 a2 a3 a4 i1 i2 i3 T (by omega) k (by omega) (nI n) O mo mb (xs (i + 1))) (cwV 1 hts gL_law_X1_skip rfl rfl rfl (by decide +kernel) ⟨Nat.le_of_ble_eq_true rfl, Nat.le_of_ble_eq_true rfl⟩) (dk_wV hPc hKc hDc (ci := 1) (q0 := 0) rfl rfl) rfl rfl hl.1 rfl (lv_room (Nat.le_of_ble_eq_true rfl)) dL_law_112 ⟨Nat.le_of_ble_eq_true rfl, Nat.le_of_ble_eq_true rfl⟩) hS (fun q _ h => hFc q h) hFc (fun ry u8 t8 H1 locs ht8 hvm8 hw hB hz1 hk1 hS => ?_)
  try dsimp only at hw
  obtain ⟨O2, j2, T2⟩ := u8
  try dsimp only at hw hB
  obtain ⟨hP1, hD1⟩ := hB
  rw [ht8] at hP1
  obtain ⟨hP, hD⟩ := va_join (wr := [(h0, .inr (0, [.int e2, .int (nI t2), .ref qo, .ref qw, .ref qc, .ref qn, .ref qm, .ref ql, .int (nI n)])), (qo, .inl (k1, 200, .inr (.inl go))), (qw, .inl (k2, 200, .inr (.inl gw))), (qc, .inl (k3, 200, .inr (.inl gc))), (qn, .inl (k4, 200, .inr (.inl fn))), (qm, .inl (k5, 200, .inr (.inl gm))), (ql, .inl (k6, 104, .inl fl)), (a4, .inl (i4, 120, .inl tx))]) (w1 := [(g0, .inr (1, [.long (lN T2), .ref a1, .int (nI j2), .ref a2, .ref a3, .int (nI n), .ref a4])), (a1, .inl (i1, 200, .inr (.inl O2))), (a2, .inl (i2, 520, .inl mo)), (a3, .inl (i3, 520, .inr (.inl mb)))]) hP hD [7, 8, 9, 10] [0, 1, 2, 3, 4, 5, 6, 11] rfl rfl (by decide) (by decide) hk1 hFc hP1 hD1
  generalize H1 = H at hP hS ⊢
  have hP := hP.sub (ws' := [(h0, .inr (0, [.int e2, .int (nI t2), .ref qo, .ref qw, .ref qc, .ref qn, .ref qm, .ref ql, .int (nI n)])), (qo, .inl (k1, 200, .inr (.inl go))), (qw, .inl (k2, 200, .inr (.inl gw))), (qc, .inl (k3, 200, .inr (.inl gc))), (qn, .inl (k4, 200, .inr (.inl fn))), (qm, .inl (k5, 200, .inr (.inl gm))), (ql, .inl (k6, 104, .inl fl)), (g0, .inr (1, [.long (lN T2), .ref a1, .int (nI j2), .ref a2, .ref a3, .int (nI n), .ref a4])), (a1, .inl (i1, 200, .inr (.inl O2))), (a2, .inl (i2, 520, .inl mo)), (a3, .inl (i3, 520, .inr (.inl mb))), (a4, .inl (i4, 120, .inl tx))]) [0, 1, 2, 3, 4, 5, 6, 8, 9, 10, 11, 7] rfl
  have hD := hD.sub (ws' := [(h0, .inr (0, [.int e2, .int (nI t2), .ref qo, .ref qw, .ref qc, .ref qn, .ref qm, .ref ql, .int (nI n)])), (qo, .inl (k1, 200, .inr (.inl go))), (qw, .inl (k2, 200, .inr (.inl gw))), (qc, .inl (k3, 200, .inr (.inl gc))), (qn, .inl (k4, 200, .inr (.inl fn))), (qm, .inl (k5, 200, .inr (.inl gm))), (ql, .inl (k6, 104, .inl fl)), (g0, .inr (1, [.long (lN T2), .ref a1, .int (nI j2), .ref a2, .ref a3, .int (nI n), .ref a4])), (a1, .inl (i1, 200, .inr (.inl O2))), (a2, .inl (i2, 520, .inl mo)), (a3, .inl (i3, 520, .inr (.inl mb))), (a4, .inl (i4, 120, .inl tx))]) [0, 1, 2, 3, 4, 5, 6, 8, 9, 10, 11, 7] (by decide) rfl
  have hP : va_P (dC, dI) vwCl [(h0, .inr (0, [.int e2, .int (nI t2), .ref qo, .ref qw, .ref qc, .ref qn, .ref qm, .ref ql, .int (nI n)])), (qo, .inl (k1, 200, .inr (.inl go))), (qw, .inl (k2, 200, .inr (.inl gw))), (qc, .inl (k3, 200, .inr (.inl gc))), (qn, .inl (k4, 200, .inr (.inl fn))), (qm, .inl (k5, 200, .inr (.inl gm))), (ql, .inl (k6, 104, .inl fl)), (g0, .inr (1, [.long (lN T2), .ref a1, .int (nI j2), .ref a2, .ref a3, .int (nI n), .ref a4])), (a1, .inl (i1, 200, .inr (.inl O2))), (a2, .inl (i2, 520, .inl mo)), (a3, .inl (i3, 520, .inr (.inl mb))), (a4, .inl (i4, 120, .inl tx))] H := hP
  have hD : va_D (fun q : Nat => s.heap.size ≤ q) [(h0, .inr (0, [.int e2, .int (nI t2), .ref qo, .ref qw, .ref qc, .ref qn, .ref qm, .ref ql, .int (nI n)])), (qo, .inl (k1, 200, .inr (.inl go))), (qw, .inl (k2, 200, .inr (.inl gw))), (qc, .inl (k3, 200, .inr (.inl gc))), (qn, .inl (k4, 200, .inr (.inl fn))), (qm, .inl (k5, 200, .inr (.inl gm))), (ql, .inl (k6, 104, .inl fl)), (g0, .inr (1, [.long (lN T2), .ref a1, .int (nI j2), .ref a2, .ref a3, .int (nI n), .ref a4])), (a1, .inl (i1, 200, .inr (.inl O2))), (a2, .inl (i2, 520, .inl mo)), (a3, .inl (i3, 520, .inr (.inl mb))), (a4, .inl (i4, 120, .inl tx))] := hD
  have hwy := hw
  obtain ⟨req, hI2⟩ := dk_Inv_sk hI hwx hwy
  refine lv_icmp_eq (tgt := 368) hx hb dL_law_115 (by decide) (fun _ => ?_) (fun c9 => absurd req c9)
  exact kk e2 t2 n go gw gc fn gm fl T2 j2 O2 mo mb tx hI2 H locs hP hD hS ls hl
set_option maxHeartbeats 4000000 in
set_option maxRecDepth 100000 in
/-- the law: may -/
theorem law_may {p : Program} {l : Launch} {e : Env} {s : State} {m : MethodId} {below : List Frame} {meth : Method} {c : Code} {dC : Nat → ClassId} {dI : Nat → Nat → Nat} {b L : Nat} {xs : Nat → Int32} {h0 qo qw qc qn qm ql g0 a1 a2 a3 a4 : Nat} {k1 k2 k3 k4 k5 k6 i1 i2 i3 i4 : ClassId} (hL : L ≤ 2048) (C0 : lw_At p s m meth c b L xs) (hK : va_K (dC, dI) vwCl [(k1, .long), (k2, .long), (k3, .long), (k4, .long), (k5, .long), (k6, .char), (i1, .long), (i2, .int), (i3, .long), (i4, .int)] s) (i q : Nat) (hi : i + 4 ≤ L) (hq : q ≤ 511) (d : Int32) (t n : Nat) (fo fw fc fn fm : Nat → Int64) (fl : Nat → Int32) (T k : Nat) (O : Nat → Int64) (mo : Nat → Int32) (mb : Nat → Int64) (tx : Nat → Int32) (hI : dk_Inv q d t n fo fw fc fn fm fl T k O mo mb tx) (H : Heap) (locs : List Loc) (hP : va_P (dC, dI) vwCl [(h0, .inr (0, [.int d, .int (nI t), .ref qo, .ref qw, .ref qc, .ref qn, .ref qm, .ref ql, .int (nI n)])), (qo, .inl (k1, 200, .inr (.inl fo))), (qw, .inl (k2, 200, .inr (.inl fw))), (qc, .inl (k3, 200, .inr (.inl fc))), (qn, .inl (k4, 200, .inr (.inl fn))), (qm, .inl (k5, 200, .inr (.inl fm))), (ql, .inl (k6, 104, .inl fl)), (g0, .inr (1, [.long (lN T), .ref a1, .int (nI k), .ref a2, .ref a3, .int (nI n), .ref a4])), (a1, .inl (i1, 200, .inr (.inl O))), (a2, .inl (i2, 520, .inl mo)), (a3, .inl (i3, 520, .inr (.inl mb))), (a4, .inl (i4, 120, .inl tx))] H) (hD : va_D (fun q : Nat => s.heap.size ≤ q) [(h0, .inr (0, [.int d, .int (nI t), .ref qo, .ref qw, .ref qc, .ref qn, .ref qm, .ref ql, .int (nI n)])), (qo, .inl (k1, 200, .inr (.inl fo))), (qw, .inl (k2, 200, .inr (.inl fw))), (qc, .inl (k3, 200, .inr (.inl fc))), (qn, .inl (k4, 200, .inr (.inl fn))), (qm, .inl (k5, 200, .inr (.inl fm))), (ql, .inl (k6, 104, .inl fl)), (g0, .inr (1, [.long (lN T), .ref a1, .int (nI k), .ref a2, .ref a3, .int (nI n), .ref a4])), (a1, .inl (i1, 200, .inr (.inl O))), (a2, .inl (i2, 520, .inl mo)), (a3, .inl (i3, 520, .inr (.inl mb))), (a4, .inl (i4, 120, .inl tx))]) (hS : va_S (fun q : Nat => s.heap.size ≤ q) s.heap H locs) (ls : Array Slot) (hl : lv_has ls 4 [(0, .ref b), (1, .ref h0), (2, .ref g0), (3, .int (nI i))]) (kk : ∀ (d : Int32) (t n : Nat) (fo fw fc fn fm : Nat → Int64) (fl : Nat → Int32) (T k : Nat) (O : Nat → Int64) (mo : Nat → Int32) (mb : Nat → Int64) (tx : Nat → Int32), dk_Inv (q + 1) d t n fo fw fc fn fm fl T k O mo mb tx → ∀ (H : Heap) (locs : List Loc), va_P (dC, dI) vwCl [(h0, .inr (0, [.int d, .int (nI t), .ref qo, .ref qw, .ref qc, .ref qn, .ref qm, .ref ql, .int (nI n)])), (qo, .inl (k1, 200, .inr (.inl fo))), (qw, .inl (k2, 200, .inr (.inl fw))), (qc, .inl (k3, 200, .inr (.inl fc))), (qn, .inl (k4, 200, .inr (.inl fn))), (qm, .inl (k5, 200, .inr (.inl fm))), (ql, .inl (k6, 104, .inl fl)), (g0, .inr (1, [.long (lN T), .ref a1, .int (nI k), .ref a2, .ref a3, .int (nI n), .ref a4])), (a1, .inl (i1, 200, .inr (.inl O))), (a2, .inl (i2, 520, .inl mo)), (a3, .inl (i3, 520, .inr (.inl mb))), (a4, .inl (i4, 120, .inl tx))] H → va_D (fun q : Nat => s.heap.size ≤ q) [(h0, .inr (0, [.int d, .int (nI t), .ref qo, .ref qw, .ref qc, .ref qn, .ref qm, .ref ql, .int (nI n)])), (qo, .inl (k1, 200, .inr (.inl fo))), (qw, .inl (k2, 200, .inr (.inl fw))), (qc, .inl (k3, 200, .inr (.inl fc))), (qn, .inl (k4, 200, .inr (.inl fn))), (qm, .inl (k5, 200, .inr (.inl fm))), (ql, .inl (k6, 104, .inl fl)), (g0, .inr (1, [.long (lN T), .ref a1, .int (nI k), .ref a2, .ref a3, .int (nI n), .ref a4])), (a1, .inl (i1, 200, .inr (.inl O))), (a2, .inl (i2, 520, .inl mo)), (a3, .inl (i3, 520, .inr (.inl mb))), (a4, .inl (i4, 120, .inl tx))] → va_S (fun q : Nat => s.heap.size ≤ q) s.heap H locs → ∀ ls : Array Slot, lv_has ls 4 [(0, .ref b), (1, .ref h0), (2, .ref g0), (3, .int (nI i))] → W p l e room_1 s m #[Value.ref b] below meth c H locs 12 2480 (lw_Z below #[Value.ref b] s) (F0 m 368 ls [])) : W p l e room_1 s m #[Value.ref b] below meth c H locs 12 2480 (lw_Z below #[Value.ref b] s) (F0 m 120 ls []) := by
  obtain ⟨hx, hb, hr, hml, hown0, hts0, hX, hbl, hlocks, hgv⟩ := C0
  have hts : ∀ w ∈ wsL_law, w.before #[Value.ref b] s = true := fun w h => hts0 w (wsL_law_in w h)
  have hown : s.vm.findClass RL = some m.cls := hown0
  have hA : ∀ q : Nat, s.heap.size ≤ q → (fun q : Nat => s.heap.size ≤ q) q := fun _ h => h
  have hbA : ¬ (fun q : Nat => s.heap.size ≤ q) b := Nat.not_le.mpr hbl
  obtain ⟨v1, v2, v3, v4, v5, v6, v7⟩ := id hI
  have ht9 : t < 1000 := by rw [v1]; exact Nat.mod_lt _ (by decide)
  have hT9 : T ≤ 51100000 := Nat.le_trans v3 (Nat.mul_le_mul_right 100000 hq)
  refine lv_aload_n hx hb dL_law_120 rfl (lv_at hl 1 rfl) ?_
  refine lv_aload_n hx hb dL_law_121 rfl (lv_at hl 0 rfl) ?_
  refine lv_iload_n hx hb dL_law_122 rfl (lv_at hl 3 rfl) ?_
  refine lv_iconst (v := 1) hx hb dL_law_123 (by decide) ?_
  refine lv_iadd hx hb dL_law_124 ?_
  refine dk_asi (y := nI (i + 1)) (nI_add i 1) ?_
  refine dk_sld hx hb hX hbl hbA hS (j := i + 1) (by omega) (by omega) dL_law_125 ?_
  refine lv_aload_n hx hb dL_law_126 rfl (lv_at hl 0 rfl) ?_
  refine lv_iload_n hx hb dL_law_127 rfl (lv_at hl 3 rfl) ?_
  refine lv_iconst (v := 2) hx hb dL_law_128 (by decide) ?_
  refine lv_iadd hx hb dL_law_129 ?_
  refine dk_asi (y := nI (i + 2)) (nI_add i 2) ?_
  refine dk_sld hx hb hX hbl hbA hS (j := i + 2) (by omega) (by omega) dL_law_130 ?_
  refine lv_aload_n hx hb dL_law_131 rfl (lv_at hl 0 rfl) ?_
  refine lv_iload_n hx hb dL_law_132 rfl (lv_at hl 3 rfl) ?_
  refine lv_iconst (v := 3) hx hb dL_law_133 (by decide) ?_
  refine lv_iadd hx hb dL_law_134 ?_
  refine dk_asi (y := nI (i + 3)) (nI_add i 3) ?_
  refine dk_sld hx hb hX hbl hbA hS (j := i + 3) (by omega) (by omega) dL_law_135 ?_
  refine lv_if_eq (tgt := 143) hx hb dL_law_136 (by decide) (fun c_136 => ?_) (fun c_136 => ?_)
  · refine lv_iconst (v := 0) hx hb dL_law_143 (by decide) ?_
    have hPc := hP.sub (ws' := [(h0, .inr (0, [.int d, .int (nI t), .ref qo, .ref qw, .ref qc, .ref qn, .ref qm, .ref ql, .int (nI n)]))]) [0] rfl
    have hKc := hK.sub (tys' := []) [] rfl
    refine va_calli (va_runV (As := [.int (xs (i + 1)), .int (xs (i + 2)), .int 0]) (rest := []) ⟨hx, hb, hml, hown, hts⟩ (cX_may l dC dI h0 qo qw qc qn qm ql d (nI n) t ht9 (xs (i + 1)) (xs (i + 2)) 0) (cwV 3 hts gL_law_X0_may rfl rfl rfl (by decide +kernel) ⟨Nat.le_of_ble_eq_true rfl, Nat.le_of_ble_eq_true rfl⟩) (dk_rV hPc hKc (ci := 0) (q0 := 0) rfl rfl) rfl rfl hl.1 rfl (lv_room (Nat.le_of_ble_eq_true rfl)) dL_law_144 ⟨Nat.le_of_ble_eq_true rfl, Nat.le_of_ble_eq_true rfl⟩) hS (fun q _ h => False.elim h) (fun q h => False.elim h) (fun rx u8 t8 H1 locs ht8 hvm8 hw hB hz1 hk1 hS => ?_)
    try dsimp only at hw
    have hP := dk_kept hP hk1
    generalize H1 = H at hP hS ⊢
    have hwx := hw
    refine lv_aload_n hx hb dL_law_147 rfl (lv_at hl 2 rfl) ?_
    refine lv_aload_n hx hb dL_law_148 rfl (lv_at hl 0 rfl) ?_
    refine lv_iload_n hx hb dL_law_149 rfl (lv_at hl 3 rfl) ?_
    refine lv_iconst (v := 1) hx hb dL_law_150 (by decide) ?_
    refine lv_iadd hx hb dL_law_151 ?_
    refine dk_asi (y := nI (i + 1)) (nI_add i 1) ?_
    refine dk_sld hx hb hX hbl hbA hS (j := i + 1) (by omega) (by omega) dL_law_152 ?_
    refine lv_aload_n hx hb dL_law_153 rfl (lv_at hl 0 rfl) ?_
    refine lv_iload_n hx hb dL_law_154 rfl (lv_at hl 3 rfl) ?_
    refine lv_iconst (v := 2) hx hb dL_law_155 (by decide) ?_
    refine lv_iadd hx hb dL_law_156 ?_
    refine dk_asi (y := nI (i + 2)) (nI_add i 2) ?_
    refine dk_sld hx hb hX hbl hbA hS (j := i + 2) (by omega) (by omega) dL_law_157 ?_
    refine lv_aload_n hx hb dL_law_158 rfl (lv_at hl 0 rfl) ?_
    refine lv_iload_n hx hb dL_law_159 rfl (lv_at hl 3 rfl) ?_
    refine lv_iconst (v := 3) hx hb dL_law_160 (by decide) ?_
    refine lv_iadd hx hb dL_law_161 ?_
    refine dk_asi (y := nI (i + 3)) (nI_add i 3) ?_
    refine dk_sld hx hb hX hbl hbA hS (j := i + 3) (by omega) (by omega) dL_law_162 ?_
    refine lv_if_eq (tgt := 170) hx hb dL_law_163 (by decide) (fun c_163 => ?_) (fun c_163 => ?_)
    · refine lv_iconst (v := 0) hx hb dL_law_170 (by decide) ?_
      have hPc := hP.sub (ws' := [(g0, .inr (1, [.long (lN T), .ref a1, .int (nI k), .ref a2, .ref a3, .int (nI n), .ref a4]))]) [7] rfl
      have hKc := hK.sub (tys' := []) [] rfl
      refine va_calli (va_runV (As := [.int (xs (i + 1)), .int (xs (i + 2)), .int 0]) (rest := [.int rx]) ⟨hx, hb, hml, hown, hts⟩ (cY_may l dC dI g0 a1 a2 a3 a4 T (by omega) (nI k) (nI n) (xs (i + 1)) (xs (i + 2)) 0) (cwV 3 hts gL_law_X1_may rfl rfl rfl (by decide +kernel) ⟨Nat.le_of_ble_eq_true rfl, Nat.le_of_ble_eq_true rfl⟩) (dk_rV hPc hKc (ci := 1) (q0 := 0) rfl rfl) rfl rfl hl.1 rfl (lv_room (Nat.le_of_ble_eq_true rfl)) dL_law_171 ⟨Nat.le_of_ble_eq_true rfl, Nat.le_of_ble_eq_true rfl⟩) hS (fun q _ h => False.elim h) (fun q h => False.elim h) (fun ry u8 t8 H1 locs ht8 hvm8 hw hB hz1 hk1 hS => ?_)
      try dsimp only at hw
      have hP := dk_kept hP hk1
      generalize H1 = H at hP hS ⊢
      have hwy := hw
      rw [v1] at hwx
      have req : rx = ry := dk_bool hwx hwy
      refine lv_icmp_eq (tgt := 368) hx hb dL_law_174 (by decide) (fun _ => ?_) (fun c9 => absurd req c9)
      exact kk d t n fo fw fc fn fm fl T k O mo mb tx (dk_Inv_mono (Nat.le_succ q) hI) H locs hP hD hS ls hl
    · exact absurd c_136 c_163
  · refine lv_iconst (v := 1) hx hb dL_law_139 (by decide) ?_
    refine lv_goto (tgt := 144) hx hb dL_law_140 (by decide) ?_
    have hPc := hP.sub (ws' := [(h0, .inr (0, [.int d, .int (nI t), .ref qo, .ref qw, .ref qc, .ref qn, .ref qm, .ref ql, .int (nI n)]))]) [0] rfl
    have hKc := hK.sub (tys' := []) [] rfl
    refine va_calli (va_runV (As := [.int (xs (i + 1)), .int (xs (i + 2)), .int 1]) (rest := []) ⟨hx, hb, hml, hown, hts⟩ (cX_may l dC dI h0 qo qw qc qn qm ql d (nI n) t ht9 (xs (i + 1)) (xs (i + 2)) 1) (cwV 3 hts gL_law_X0_may rfl rfl rfl (by decide +kernel) ⟨Nat.le_of_ble_eq_true rfl, Nat.le_of_ble_eq_true rfl⟩) (dk_rV hPc hKc (ci := 0) (q0 := 0) rfl rfl) rfl rfl hl.1 rfl (lv_room (Nat.le_of_ble_eq_true rfl)) dL_law_144 ⟨Nat.le_of_ble_eq_true rfl, Nat.le_of_ble_eq_true rfl⟩) hS (fun q _ h => False.elim h) (fun q h => False.elim h) (fun rx u8 t8 H1 locs ht8 hvm8 hw hB hz1 hk1 hS => ?_)
    try dsimp only at hw
    have hP := dk_kept hP hk1
    generalize H1 = H at hP hS ⊢
    have hwx := hw
    refine lv_aload_n hx hb dL_law_147 rfl (lv_at hl 2 rfl) ?_
    refine lv_aload_n hx hb dL_law_148 rfl (lv_at hl 0 rfl) ?_
    refine lv_iload_n hx hb dL_law_149 rfl (lv_at hl 3 rfl) ?_
    refine lv_iconst (v := 1) hx hb dL_law_150 (by decide) ?_
    refine lv_iadd hx hb dL_law_151 ?_
    refine dk_asi (y := nI (i + 1)) (nI_add i 1) ?_
    refine dk_sld hx hb hX hbl hbA hS (j := i + 1) (by omega) (by omega) dL_law_152 ?_
    refine lv_aload_n hx hb dL_law_153 rfl (lv_at hl 0 rfl) ?_
    refine lv_iload_n hx hb dL_law_154 rfl (lv_at hl 3 rfl) ?_
    refine lv_iconst (v := 2) hx hb dL_law_155 (by decide) ?_
    refine lv_iadd hx hb dL_law_156 ?_
    refine dk_asi (y := nI (i + 2)) (nI_add i 2) ?_
    refine dk_sld hx hb hX hbl hbA hS (j := i + 2) (by omega) (by omega) dL_law_157 ?_
    refine lv_aload_n hx hb dL_law_158 rfl (lv_at hl 0 rfl) ?_
    refine lv_iload_n hx hb dL_law_159 rfl (lv_at hl 3 rfl) ?_
    refine lv_iconst (v := 3) hx hb dL_law_160 (by decide) ?_
    refine lv_iadd hx hb dL_law_161 ?_
    refine dk_asi (y := nI (i + 3)) (nI_add i 3) ?_
    refine dk_sld hx hb hX hbl hbA hS (j := i + 3) (by omega) (by omega) dL_law_162 ?_
    refine lv_if_eq (tgt := 170) hx hb dL_law_163 (by decide) (fun c_163 => ?_) (fun c_163 => ?_)
    · exact absurd c_163 c_136
    · refine lv_iconst (v := 1) hx hb dL_law_166 (by decide) ?_
      refine lv_goto (tgt := 171) hx hb dL_law_167 (by decide) ?_
      have hPc := hP.sub (ws' := [(g0, .inr (1, [.long (lN T), .ref a1, .int (nI k), .ref a2, .ref a3, .int (nI n), .ref a4]))]) [7] rfl
      have hKc := hK.sub (tys' := []) [] rfl
      refine va_calli (va_runV (As := [.int (xs (i + 1)), .int (xs (i + 2)), .int 1]) (rest := [.int rx]) ⟨hx, hb, hml, hown, hts⟩ (cY_may l dC dI g0 a1 a2 a3 a4 T (by omega) (nI k) (nI n) (xs (i + 1)) (xs (i + 2)) 1) (cwV 3 hts gL_law_X1_may rfl rfl rfl (by decide +kernel) ⟨Nat.le_of_ble_eq_true rfl, Nat.le_of_ble_eq_true rfl⟩) (dk_rV hPc hKc (ci := 1) (q0 := 0) rfl rfl) rfl rfl hl.1 rfl (lv_room (Nat.le_of_ble_eq_true rfl)) dL_law_171 ⟨Nat.le_of_ble_eq_true rfl, Nat.le_of_ble_eq_true rfl⟩) hS (fun q _ h => False.elim h) (fun q h => False.elim h) (fun ry u8 t8 H1 locs ht8 hvm8 hw hB hz1 hk1 hS => ?_)
      try dsimp only at hw
      have hP := dk_kept hP hk1
      generalize H1 = H at hP hS ⊢
      have hwy := hw
      rw [v1] at hwx
      have req : rx = ry := dk_bool hwx hwy
      refine lv_icmp_eq (tgt := 368) hx hb dL_law_174 (by decide) (fun _ => ?_) (fun c9 => absurd req c9)
      exact kk d t n fo fw fc fn fm fl T k O mo mb tx (dk_Inv_mono (Nat.le_succ q) hI) H locs hP hD hS ls hl
set_option maxHeartbeats 4000000 in
set_option maxRecDepth 100000 in
/-- the law: look -/
theorem law_look {p : Program} {l : Launch} {e : Env} {s : State} {m : MethodId} {below : List Frame} {meth : Method} {c : Code} {dC : Nat → ClassId} {dI : Nat → Nat → Nat} {b L : Nat} {xs : Nat → Int32} {h0 qo qw qc qn qm ql g0 a1 a2 a3 a4 : Nat} {k1 k2 k3 k4 k5 k6 i1 i2 i3 i4 : ClassId} (hL : L ≤ 2048) (C0 : lw_At p s m meth c b L xs) (hK : va_K (dC, dI) vwCl [(k1, .long), (k2, .long), (k3, .long), (k4, .long), (k5, .long), (k6, .char), (i1, .long), (i2, .int), (i3, .long), (i4, .int)] s) (i q : Nat) (hi : i + 4 ≤ L) (hq : q ≤ 511) (d : Int32) (t n : Nat) (fo fw fc fn fm : Nat → Int64) (fl : Nat → Int32) (T k : Nat) (O : Nat → Int64) (mo : Nat → Int32) (mb : Nat → Int64) (tx : Nat → Int32) (hI : dk_Inv q d t n fo fw fc fn fm fl T k O mo mb tx) (H : Heap) (locs : List Loc) (hP : va_P (dC, dI) vwCl [(h0, .inr (0, [.int d, .int (nI t), .ref qo, .ref qw, .ref qc, .ref qn, .ref qm, .ref ql, .int (nI n)])), (qo, .inl (k1, 200, .inr (.inl fo))), (qw, .inl (k2, 200, .inr (.inl fw))), (qc, .inl (k3, 200, .inr (.inl fc))), (qn, .inl (k4, 200, .inr (.inl fn))), (qm, .inl (k5, 200, .inr (.inl fm))), (ql, .inl (k6, 104, .inl fl)), (g0, .inr (1, [.long (lN T), .ref a1, .int (nI k), .ref a2, .ref a3, .int (nI n), .ref a4])), (a1, .inl (i1, 200, .inr (.inl O))), (a2, .inl (i2, 520, .inl mo)), (a3, .inl (i3, 520, .inr (.inl mb))), (a4, .inl (i4, 120, .inl tx))] H) (hD : va_D (fun q : Nat => s.heap.size ≤ q) [(h0, .inr (0, [.int d, .int (nI t), .ref qo, .ref qw, .ref qc, .ref qn, .ref qm, .ref ql, .int (nI n)])), (qo, .inl (k1, 200, .inr (.inl fo))), (qw, .inl (k2, 200, .inr (.inl fw))), (qc, .inl (k3, 200, .inr (.inl fc))), (qn, .inl (k4, 200, .inr (.inl fn))), (qm, .inl (k5, 200, .inr (.inl fm))), (ql, .inl (k6, 104, .inl fl)), (g0, .inr (1, [.long (lN T), .ref a1, .int (nI k), .ref a2, .ref a3, .int (nI n), .ref a4])), (a1, .inl (i1, 200, .inr (.inl O))), (a2, .inl (i2, 520, .inl mo)), (a3, .inl (i3, 520, .inr (.inl mb))), (a4, .inl (i4, 120, .inl tx))]) (hS : va_S (fun q : Nat => s.heap.size ≤ q) s.heap H locs) (ls : Array Slot) (hl : lv_has ls 4 [(0, .ref b), (1, .ref h0), (2, .ref g0), (3, .int (nI i))]) (kk : ∀ (d : Int32) (t n : Nat) (fo fw fc fn fm : Nat → Int64) (fl : Nat → Int32) (T k : Nat) (O : Nat → Int64) (mo : Nat → Int32) (mb : Nat → Int64) (tx : Nat → Int32), dk_Inv (q + 1) d t n fo fw fc fn fm fl T k O mo mb tx → ∀ (H : Heap) (locs : List Loc), va_P (dC, dI) vwCl [(h0, .inr (0, [.int d, .int (nI t), .ref qo, .ref qw, .ref qc, .ref qn, .ref qm, .ref ql, .int (nI n)])), (qo, .inl (k1, 200, .inr (.inl fo))), (qw, .inl (k2, 200, .inr (.inl fw))), (qc, .inl (k3, 200, .inr (.inl fc))), (qn, .inl (k4, 200, .inr (.inl fn))), (qm, .inl (k5, 200, .inr (.inl fm))), (ql, .inl (k6, 104, .inl fl)), (g0, .inr (1, [.long (lN T), .ref a1, .int (nI k), .ref a2, .ref a3, .int (nI n), .ref a4])), (a1, .inl (i1, 200, .inr (.inl O))), (a2, .inl (i2, 520, .inl mo)), (a3, .inl (i3, 520, .inr (.inl mb))), (a4, .inl (i4, 120, .inl tx))] H → va_D (fun q : Nat => s.heap.size ≤ q) [(h0, .inr (0, [.int d, .int (nI t), .ref qo, .ref qw, .ref qc, .ref qn, .ref qm, .ref ql, .int (nI n)])), (qo, .inl (k1, 200, .inr (.inl fo))), (qw, .inl (k2, 200, .inr (.inl fw))), (qc, .inl (k3, 200, .inr (.inl fc))), (qn, .inl (k4, 200, .inr (.inl fn))), (qm, .inl (k5, 200, .inr (.inl fm))), (ql, .inl (k6, 104, .inl fl)), (g0, .inr (1, [.long (lN T), .ref a1, .int (nI k), .ref a2, .ref a3, .int (nI n), .ref a4])), (a1, .inl (i1, 200, .inr (.inl O))), (a2, .inl (i2, 520, .inl mo)), (a3, .inl (i3, 520, .inr (.inl mb))), (a4, .inl (i4, 120, .inl tx))] → va_S (fun q : Nat => s.heap.size ≤ q) s.heap H locs → ∀ ls : Array Slot, lv_has ls 4 [(0, .ref b), (1, .ref h0), (2, .ref g0), (3, .int (nI i))] → W p l e room_1 s m #[Value.ref b] below meth c H locs 12 2480 (lw_Z below #[Value.ref b] s) (F0 m 368 ls [])) : W p l e room_1 s m #[Value.ref b] below meth c H locs 12 2480 (lw_Z below #[Value.ref b] s) (F0 m 179 ls []) := by
  obtain ⟨hx, hb, hr, hml, hown0, hts0, hX, hbl, hlocks, hgv⟩ := C0
  have hts : ∀ w ∈ wsL_law, w.before #[Value.ref b] s = true := fun w h => hts0 w (wsL_law_in w h)
  have hown : s.vm.findClass RL = some m.cls := hown0
  have hA : ∀ q : Nat, s.heap.size ≤ q → (fun q : Nat => s.heap.size ≤ q) q := fun _ h => h
  have hbA : ¬ (fun q : Nat => s.heap.size ≤ q) b := Nat.not_le.mpr hbl
  obtain ⟨v1, v2, v3, v4, v5, v6, v7⟩ := id hI
  have ht9 : t < 1000 := by rw [v1]; exact Nat.mod_lt _ (by decide)
  have hT9 : T ≤ 51100000 := Nat.le_trans v3 (Nat.mul_le_mul_right 100000 hq)
  refine lv_aload_n hx hb dL_law_179 rfl (lv_at hl 1 rfl) ?_
  refine lv_aload_n hx hb dL_law_180 rfl (lv_at hl 0 rfl) ?_
  refine lv_iload_n hx hb dL_law_181 rfl (lv_at hl 3 rfl) ?_
  refine lv_iconst (v := 1) hx hb dL_law_182 (by decide) ?_
  refine lv_iadd hx hb dL_law_183 ?_
  refine dk_asi (y := nI (i + 1)) (nI_add i 1) ?_
  refine dk_sld hx hb hX hbl hbA hS (j := i + 1) (by omega) (by omega) dL_law_184 ?_
  have hPc := hP.sub (ws' := [(h0, .inr (0, [.int d, .int (nI t), .ref qo, .ref qw, .ref qc, .ref qn, .ref qm, .ref ql, .int (nI n)]))]) [0] rfl
  have hKc := hK.sub (tys' := []) [] rfl
  refine va_calli (va_runV (As := [.int (xs (i + 1))]) (rest := []) ⟨hx, hb, hml, hown, hts⟩ (cX_look l dC dI h0 qo qw qc qn qm ql d (nI n) t ht9 (xs (i + 1))) (cwV 1 hts gL_law_X0_look rfl rfl rfl (by decide +kernel) ⟨Nat.le_of_ble_eq_true rfl, Nat.le_of_ble_eq_true rfl⟩) (dk_rV hPc hKc (ci := 0) (q0 := 0) rfl rfl) rfl rfl hl.1 rfl (lv_room (Nat.le_of_ble_eq_true rfl)) dL_law_185 ⟨Nat.le_of_ble_eq_true rfl, Nat.le_of_ble_eq_true rfl⟩) hS (fun q _ h => False.elim h) (fun q h => False.elim h) (fun rx u8 t8 H1 locs ht8 hvm8 hw hB hz1 hk1 hS => ?_)
  try dsimp only at hw
  have hP := dk_kept hP hk1
  generalize H1 = H at hP hS ⊢
  have hwx := hw
  refine lv_aload_n hx hb dL_law_188 rfl (lv_at hl 2 rfl) ?_
  refine lv_aload_n hx hb dL_law_189 rfl (lv_at hl 0 rfl) ?_
  refine lv_iload_n hx hb dL_law_190 rfl (lv_at hl 3 rfl) ?_
  refine lv_iconst (v := 1) hx hb dL_law_191 (by decide) ?_
  refine lv_iadd hx hb dL_law_192 ?_
  refine dk_asi (y := nI (i + 1)) (nI_add i 1) ?_
  refine dk_sld hx hb hX hbl hbA hS (j := i + 1) (by omega) (by omega) dL_law_193 ?_
  have hPc := hP.sub (ws' := [(g0, .inr (1, [.long (lN T), .ref a1, .int (nI k), .ref a2, .ref a3, .int (nI n), .ref a4]))]) [7] rfl
  have hKc := hK.sub (tys' := []) [] rfl
  refine va_calli (va_runV (As := [.int (xs (i + 1))]) (rest := [.int rx]) ⟨hx, hb, hml, hown, hts⟩ (cY_look l dC dI g0 a1 a2 a3 a4 T (by omega) (nI k) (nI n) (xs (i + 1))) (cwV 1 hts gL_law_X1_look rfl rfl rfl (by decide +kernel) ⟨Nat.le_of_ble_eq_true rfl, Nat.le_of_ble_eq_true rfl⟩) (dk_rV hPc hKc (ci := 1) (q0 := 0) rfl rfl) rfl rfl hl.1 rfl (lv_room (Nat.le_of_ble_eq_true rfl)) dL_law_194 ⟨Nat.le_of_ble_eq_true rfl, Nat.le_of_ble_eq_true rfl⟩) hS (fun q _ h => False.elim h) (fun q h => False.elim h) (fun ry u8 t8 H1 locs ht8 hvm8 hw hB hz1 hk1 hS => ?_)
  try dsimp only at hw
  have hP := dk_kept hP hk1
  generalize H1 = H at hP hS ⊢
  have hwy := hw
  rw [v1, v2] at hwx
  have req : rx = ry := dk_look_eq hwx hwy
  refine lv_icmp_eq (tgt := 368) hx hb dL_law_197 (by decide) (fun _ => ?_) (fun c9 => absurd req c9)
  exact kk d t n fo fw fc fn fm fl T k O mo mb tx (dk_Inv_mono (Nat.le_succ q) hI) H locs hP hD hS ls hl
set_option maxHeartbeats 4000000 in
set_option maxRecDepth 100000 in
/-- the law: move -/
theorem law_move {p : Program} {l : Launch} {e : Env} {s : State} {m : MethodId} {below : List Frame} {meth : Method} {c : Code} {dC : Nat → ClassId} {dI : Nat → Nat → Nat} {b L : Nat} {xs : Nat → Int32} {h0 qo qw qc qn qm ql g0 a1 a2 a3 a4 : Nat} {k1 k2 k3 k4 k5 k6 i1 i2 i3 i4 : ClassId} (hL : L ≤ 2048) (C0 : lw_At p s m meth c b L xs) (hK : va_K (dC, dI) vwCl [(k1, .long), (k2, .long), (k3, .long), (k4, .long), (k5, .long), (k6, .char), (i1, .long), (i2, .int), (i3, .long), (i4, .int)] s) (i q : Nat) (hi : i + 4 ≤ L) (hq : q ≤ 511) (d : Int32) (t n : Nat) (fo fw fc fn fm : Nat → Int64) (fl : Nat → Int32) (T k : Nat) (O : Nat → Int64) (mo : Nat → Int32) (mb : Nat → Int64) (tx : Nat → Int32) (hI : dk_Inv q d t n fo fw fc fn fm fl T k O mo mb tx) (H : Heap) (locs : List Loc) (hP : va_P (dC, dI) vwCl [(h0, .inr (0, [.int d, .int (nI t), .ref qo, .ref qw, .ref qc, .ref qn, .ref qm, .ref ql, .int (nI n)])), (qo, .inl (k1, 200, .inr (.inl fo))), (qw, .inl (k2, 200, .inr (.inl fw))), (qc, .inl (k3, 200, .inr (.inl fc))), (qn, .inl (k4, 200, .inr (.inl fn))), (qm, .inl (k5, 200, .inr (.inl fm))), (ql, .inl (k6, 104, .inl fl)), (g0, .inr (1, [.long (lN T), .ref a1, .int (nI k), .ref a2, .ref a3, .int (nI n), .ref a4])), (a1, .inl (i1, 200, .inr (.inl O))), (a2, .inl (i2, 520, .inl mo)), (a3, .inl (i3, 520, .inr (.inl mb))), (a4, .inl (i4, 120, .inl tx))] H) (hD : va_D (fun q : Nat => s.heap.size ≤ q) [(h0, .inr (0, [.int d, .int (nI t), .ref qo, .ref qw, .ref qc, .ref qn, .ref qm, .ref ql, .int (nI n)])), (qo, .inl (k1, 200, .inr (.inl fo))), (qw, .inl (k2, 200, .inr (.inl fw))), (qc, .inl (k3, 200, .inr (.inl fc))), (qn, .inl (k4, 200, .inr (.inl fn))), (qm, .inl (k5, 200, .inr (.inl fm))), (ql, .inl (k6, 104, .inl fl)), (g0, .inr (1, [.long (lN T), .ref a1, .int (nI k), .ref a2, .ref a3, .int (nI n), .ref a4])), (a1, .inl (i1, 200, .inr (.inl O))), (a2, .inl (i2, 520, .inl mo)), (a3, .inl (i3, 520, .inr (.inl mb))), (a4, .inl (i4, 120, .inl tx))]) (hS : va_S (fun q : Nat => s.heap.size ≤ q) s.heap H locs) (ls : Array Slot) (hl : lv_has ls 4 [(0, .ref b), (1, .ref h0), (2, .ref g0), (3, .int (nI i))]) (kk : ∀ (d : Int32) (t n : Nat) (fo fw fc fn fm : Nat → Int64) (fl : Nat → Int32) (T k : Nat) (O : Nat → Int64) (mo : Nat → Int32) (mb : Nat → Int64) (tx : Nat → Int32), dk_Inv (q + 1) d t n fo fw fc fn fm fl T k O mo mb tx → ∀ (H : Heap) (locs : List Loc), va_P (dC, dI) vwCl [(h0, .inr (0, [.int d, .int (nI t), .ref qo, .ref qw, .ref qc, .ref qn, .ref qm, .ref ql, .int (nI n)])), (qo, .inl (k1, 200, .inr (.inl fo))), (qw, .inl (k2, 200, .inr (.inl fw))), (qc, .inl (k3, 200, .inr (.inl fc))), (qn, .inl (k4, 200, .inr (.inl fn))), (qm, .inl (k5, 200, .inr (.inl fm))), (ql, .inl (k6, 104, .inl fl)), (g0, .inr (1, [.long (lN T), .ref a1, .int (nI k), .ref a2, .ref a3, .int (nI n), .ref a4])), (a1, .inl (i1, 200, .inr (.inl O))), (a2, .inl (i2, 520, .inl mo)), (a3, .inl (i3, 520, .inr (.inl mb))), (a4, .inl (i4, 120, .inl tx))] H → va_D (fun q : Nat => s.heap.size ≤ q) [(h0, .inr (0, [.int d, .int (nI t), .ref qo, .ref qw, .ref qc, .ref qn, .ref qm, .ref ql, .int (nI n)])), (qo, .inl (k1, 200, .inr (.inl fo))), (qw, .inl (k2, 200, .inr (.inl fw))), (qc, .inl (k3, 200, .inr (.inl fc))), (qn, .inl (k4, 200, .inr (.inl fn))), (qm, .inl (k5, 200, .inr (.inl fm))), (ql, .inl (k6, 104, .inl fl)), (g0, .inr (1, [.long (lN T), .ref a1, .int (nI k), .ref a2, .ref a3, .int (nI n), .ref a4])), (a1, .inl (i1, 200, .inr (.inl O))), (a2, .inl (i2, 520, .inl mo)), (a3, .inl (i3, 520, .inr (.inl mb))), (a4, .inl (i4, 120, .inl tx))] → va_S (fun q : Nat => s.heap.size ≤ q) s.heap H locs → ∀ ls : Array Slot, lv_has ls 4 [(0, .ref b), (1, .ref h0), (2, .ref g0), (3, .int (nI i))] → W p l e room_1 s m #[Value.ref b] below meth c H locs 12 2480 (lw_Z below #[Value.ref b] s) (F0 m 368 ls [])) : W p l e room_1 s m #[Value.ref b] below meth c H locs 12 2480 (lw_Z below #[Value.ref b] s) (F0 m 202 ls []) := by
  obtain ⟨hx, hb, hr, hml, hown0, hts0, hX, hbl, hlocks, hgv⟩ := C0
  have hts : ∀ w ∈ wsL_law, w.before #[Value.ref b] s = true := fun w h => hts0 w (wsL_law_in w h)
  have hown : s.vm.findClass RL = some m.cls := hown0
  have hA : ∀ q : Nat, s.heap.size ≤ q → (fun q : Nat => s.heap.size ≤ q) q := fun _ h => h
  have hbA : ¬ (fun q : Nat => s.heap.size ≤ q) b := Nat.not_le.mpr hbl
  obtain ⟨v1, v2, v3, v4, v5, v6, v7⟩ := id hI
  have ht9 : t < 1000 := by rw [v1]; exact Nat.mod_lt _ (by decide)
  have hT9 : T ≤ 51100000 := Nat.le_trans v3 (Nat.mul_le_mul_right 100000 hq)
  refine lv_aload_n hx hb dL_law_202 rfl (lv_at hl 1 rfl) ?_
  refine lv_aload_n hx hb dL_law_203 rfl (lv_at hl 0 rfl) ?_
  refine lv_iload_n hx hb dL_law_204 rfl (lv_at hl 3 rfl) ?_
  refine lv_iconst (v := 1) hx hb dL_law_205 (by decide) ?_
  refine lv_iadd hx hb dL_law_206 ?_
  refine dk_asi (y := nI (i + 1)) (nI_add i 1) ?_
  refine dk_sld hx hb hX hbl hbA hS (j := i + 1) (by omega) (by omega) dL_law_207 ?_
  refine lv_aload_n hx hb dL_law_208 rfl (lv_at hl 0 rfl) ?_
  refine lv_iload_n hx hb dL_law_209 rfl (lv_at hl 3 rfl) ?_
  refine lv_iconst (v := 2) hx hb dL_law_210 (by decide) ?_
  refine lv_iadd hx hb dL_law_211 ?_
  refine dk_asi (y := nI (i + 2)) (nI_add i 2) ?_
  refine dk_sld hx hb hX hbl hbA hS (j := i + 2) (by omega) (by omega) dL_law_212 ?_
  refine lv_i2l (v := (xs (i + 2)).toInt64) hx hb dL_law_213 rfl ?_
  refine lv_bipush (v := nI 32) hx hb dL_law_214 (by decide) ?_
  refine lv_lshl (v := ((xs (i + 2)).toInt64) <<< ((nI 32).toInt64 &&& 63)) hx hb dL_law_216 rfl ?_
  refine lv_aload_n hx hb dL_law_217 rfl (lv_at hl 0 rfl) ?_
  refine lv_iload_n hx hb dL_law_218 rfl (lv_at hl 3 rfl) ?_
  refine lv_iconst (v := 3) hx hb dL_law_219 (by decide) ?_
  refine lv_iadd hx hb dL_law_220 ?_
  refine dk_asi (y := nI (i + 3)) (nI_add i 3) ?_
  refine dk_sld hx hb hX hbl hbA hS (j := i + 3) (by omega) (by omega) dL_law_221 ?_
  refine lv_i2l (v := (xs (i + 3)).toInt64) hx hb dL_law_222 rfl ?_
  refine lv_ldc2 (v := 4294967295) hx hb hown (hts (.constantLong RL 32 4294967295) (by decide +kernel)) dL_law_223 ?_
  refine lv_land hx hb dL_law_226 ?_
  refine lv_lor hx hb dL_law_227 ?_
  have hPc := hP.sub (ws' := [(h0, .inr (0, [.int d, .int (nI t), .ref qo, .ref qw, .ref qc, .ref qn, .ref qm, .ref ql, .int (nI n)])), (qw, .inl (k2, 200, .inr (.inl fw))), (qc, .inl (k3, 200, .inr (.inl fc))), (qn, .inl (k4, 200, .inr (.inl fn))), (qm, .inl (k5, 200, .inr (.inl fm)))]) [0, 2, 3, 4, 5] rfl
  have hDc := hD.sub (ws' := [(h0, .inr (0, [.int d, .int (nI t), .ref qo, .ref qw, .ref qc, .ref qn, .ref qm, .ref ql, .int (nI n)])), (qw, .inl (k2, 200, .inr (.inl fw))), (qc, .inl (k3, 200, .inr (.inl fc))), (qn, .inl (k4, 200, .inr (.inl fn))), (qm, .inl (k5, 200, .inr (.inl fm)))]) [0, 2, 3, 4, 5] (by decide) rfl
  have hFc := va_free (wc := [(h0, .inr (0, [.int d, .int (nI t), .ref qo, .ref qw, .ref qc, .ref qn, .ref qm, .ref ql, .int (nI n)])), (qw, .inl (k2, 200, .inr (.inl fw))), (qc, .inl (k3, 200, .inr (.inl fc))), (qn, .inl (k4, 200, .inr (.inl fn))), (qm, .inl (k5, 200, .inr (.inl fm)))]) hD hS hA [0, 2, 3, 4, 5] rfl
  have hKc := hK.sub (tys' := [(k2, .long), (k3, .long), (k4, .long), (k5, .long)]) [1, 2, 3, 4] rfl
  refine va_calli (va_runV (As := [.int (xs (i + 1)), .long ((((xs (i + 2)).toInt64) <<< ((nI 32).toInt64 &&& 63)) ||| (((xs (i + 3)).toInt64) &&& 4294967295))]) (rest := []) ⟨hx, hb, hml, hown, hts⟩ (cX_move l dC dI _ h0 qo qw qc qn qm ql k2 k3 k4 k5 d (nI n) (nI t) fw fc fn fm (xs (i + 1)) ((((xs (i + 2)).toInt64) <<< ((nI 32).toInt64 &&& 63)) ||| (((xs (i + 3)).toInt64) &&& 4294967295))) (cwV 2 hts gL_law_X0_move rfl rfl rfl (by decide +kernel) ⟨Nat.le_of_ble_eq_true rfl, Nat.le_of_ble_eq_true rfl⟩) (dk_wV hPc hKc hDc (ci := 0) (q0 := 0) rfl rfl) rfl rfl hl.1 rfl (lv_room (Nat.le_of_ble_eq_true rfl)) dL_law_228 ⟨Nat.le_of_ble_eq_true rfl, Nat.le_of_ble_eq_true rfl⟩) hS (fun q _ h => hFc q h) hFc (fun rx u8 t8 H1 locs ht8 hvm8 hw hB hz1 hk1 hS => ?_)
  try dsimp only at hw
  obtain ⟨gw, gc, gn, gm⟩ := u8
  try dsimp only at hw hB
  obtain ⟨hP1, hD1⟩ := hB
  rw [ht8] at hP1
  obtain ⟨hP, hD⟩ := va_join (wr := [(qo, .inl (k1, 200, .inr (.inl fo))), (ql, .inl (k6, 104, .inl fl)), (g0, .inr (1, [.long (lN T), .ref a1, .int (nI k), .ref a2, .ref a3, .int (nI n), .ref a4])), (a1, .inl (i1, 200, .inr (.inl O))), (a2, .inl (i2, 520, .inl mo)), (a3, .inl (i3, 520, .inr (.inl mb))), (a4, .inl (i4, 120, .inl tx))]) (w1 := [(h0, .inr (0, [.int d, .int (nI t), .ref qo, .ref qw, .ref qc, .ref qn, .ref qm, .ref ql, .int (nI n)])), (qw, .inl (k2, 200, .inr (.inl gw))), (qc, .inl (k3, 200, .inr (.inl gc))), (qn, .inl (k4, 200, .inr (.inl gn))), (qm, .inl (k5, 200, .inr (.inl gm)))]) hP hD [0, 2, 3, 4, 5] [1, 6, 7, 8, 9, 10, 11] rfl rfl (by decide) (by decide) hk1 hFc hP1 hD1
  generalize H1 = H at hP hS ⊢
  have hP := hP.sub (ws' := [(h0, .inr (0, [.int d, .int (nI t), .ref qo, .ref qw, .ref qc, .ref qn, .ref qm, .ref ql, .int (nI n)])), (qo, .inl (k1, 200, .inr (.inl fo))), (qw, .inl (k2, 200, .inr (.inl gw))), (qc, .inl (k3, 200, .inr (.inl gc))), (qn, .inl (k4, 200, .inr (.inl gn))), (qm, .inl (k5, 200, .inr (.inl gm))), (ql, .inl (k6, 104, .inl fl)), (g0, .inr (1, [.long (lN T), .ref a1, .int (nI k), .ref a2, .ref a3, .int (nI n), .ref a4])), (a1, .inl (i1, 200, .inr (.inl O))), (a2, .inl (i2, 520, .inl mo)), (a3, .inl (i3, 520, .inr (.inl mb))), (a4, .inl (i4, 120, .inl tx))]) [7, 0, 8, 9, 10, 11, 1, 2, 3, 4, 5, 6] rfl
  have hD := hD.sub (ws' := [(h0, .inr (0, [.int d, .int (nI t), .ref qo, .ref qw, .ref qc, .ref qn, .ref qm, .ref ql, .int (nI n)])), (qo, .inl (k1, 200, .inr (.inl fo))), (qw, .inl (k2, 200, .inr (.inl gw))), (qc, .inl (k3, 200, .inr (.inl gc))), (qn, .inl (k4, 200, .inr (.inl gn))), (qm, .inl (k5, 200, .inr (.inl gm))), (ql, .inl (k6, 104, .inl fl)), (g0, .inr (1, [.long (lN T), .ref a1, .int (nI k), .ref a2, .ref a3, .int (nI n), .ref a4])), (a1, .inl (i1, 200, .inr (.inl O))), (a2, .inl (i2, 520, .inl mo)), (a3, .inl (i3, 520, .inr (.inl mb))), (a4, .inl (i4, 120, .inl tx))]) [7, 0, 8, 9, 10, 11, 1, 2, 3, 4, 5, 6] (by decide) rfl
  have hP : va_P (dC, dI) vwCl [(h0, .inr (0, [.int d, .int (nI t), .ref qo, .ref qw, .ref qc, .ref qn, .ref qm, .ref ql, .int (nI n)])), (qo, .inl (k1, 200, .inr (.inl fo))), (qw, .inl (k2, 200, .inr (.inl gw))), (qc, .inl (k3, 200, .inr (.inl gc))), (qn, .inl (k4, 200, .inr (.inl gn))), (qm, .inl (k5, 200, .inr (.inl gm))), (ql, .inl (k6, 104, .inl fl)), (g0, .inr (1, [.long (lN T), .ref a1, .int (nI k), .ref a2, .ref a3, .int (nI n), .ref a4])), (a1, .inl (i1, 200, .inr (.inl O))), (a2, .inl (i2, 520, .inl mo)), (a3, .inl (i3, 520, .inr (.inl mb))), (a4, .inl (i4, 120, .inl tx))] H := hP
  have hD : va_D (fun q : Nat => s.heap.size ≤ q) [(h0, .inr (0, [.int d, .int (nI t), .ref qo, .ref qw, .ref qc, .ref qn, .ref qm, .ref ql, .int (nI n)])), (qo, .inl (k1, 200, .inr (.inl fo))), (qw, .inl (k2, 200, .inr (.inl gw))), (qc, .inl (k3, 200, .inr (.inl gc))), (qn, .inl (k4, 200, .inr (.inl gn))), (qm, .inl (k5, 200, .inr (.inl gm))), (ql, .inl (k6, 104, .inl fl)), (g0, .inr (1, [.long (lN T), .ref a1, .int (nI k), .ref a2, .ref a3, .int (nI n), .ref a4])), (a1, .inl (i1, 200, .inr (.inl O))), (a2, .inl (i2, 520, .inl mo)), (a3, .inl (i3, 520, .inr (.inl mb))), (a4, .inl (i4, 120, .inl tx))] := hD
  have hwx := hw
  refine lv_aload_n hx hb dL_law_231 rfl (lv_at hl 2 rfl) ?_
  refine lv_aload_n hx hb dL_law_232 rfl (lv_at hl 0 rfl) ?_
  refine lv_iload_n hx hb dL_law_233 rfl (lv_at hl 3 rfl) ?_
  refine lv_iconst (v := 1) hx hb dL_law_234 (by decide) ?_
  refine lv_iadd hx hb dL_law_235 ?_
  refine dk_asi (y := nI (i + 1)) (nI_add i 1) ?_
  refine dk_sld hx hb hX hbl hbA hS (j := i + 1) (by omega) (by omega) dL_law_236 ?_
  refine lv_aload_n hx hb dL_law_237 rfl (lv_at hl 0 rfl) ?_
  refine lv_iload_n hx hb dL_law_238 rfl (lv_at hl 3 rfl) ?_
  refine lv_iconst (v := 2) hx hb dL_law_239 (by decide) ?_
  refine lv_iadd hx hb dL_law_240 ?_
  refine dk_asi (y := nI (i + 2)) (nI_add i 2) ?_
  refine dk_sld hx hb hX hbl hbA hS (j := i + 2) (by omega) (by omega) dL_law_241 ?_
  refine lv_i2l (v := (xs (i + 2)).toInt64) hx hb dL_law_242 rfl ?_
  refine lv_bipush (v := nI 32) hx hb dL_law_243 (by decide) ?_
  refine lv_lshl (v := ((xs (i + 2)).toInt64) <<< ((nI 32).toInt64 &&& 63)) hx hb dL_law_245 rfl ?_
  refine lv_aload_n hx hb dL_law_246 rfl (lv_at hl 0 rfl) ?_
  refine lv_iload_n hx hb dL_law_247 rfl (lv_at hl 3 rfl) ?_
  refine lv_iconst (v := 3) hx hb dL_law_248 (by decide) ?_
  refine lv_iadd hx hb dL_law_249 ?_
  refine dk_asi (y := nI (i + 3)) (nI_add i 3) ?_
  refine dk_sld hx hb hX hbl hbA hS (j := i + 3) (by omega) (by omega) dL_law_250 ?_
  refine lv_i2l (v := (xs (i + 3)).toInt64) hx hb dL_law_251 rfl ?_
  refine lv_ldc2 (v := 4294967295) hx hb hown (hts (.constantLong RL 32 4294967295) (by decide +kernel)) dL_law_252 ?_
  refine lv_land hx hb dL_law_255 ?_
  refine lv_lor hx hb dL_law_256 ?_
  have hPc := hP.sub (ws' := [(g0, .inr (1, [.long (lN T), .ref a1, .int (nI k), .ref a2, .ref a3, .int (nI n), .ref a4])), (a1, .inl (i1, 200, .inr (.inl O))), (a2, .inl (i2, 520, .inl mo)), (a3, .inl (i3, 520, .inr (.inl mb)))]) [7, 8, 9, 10] rfl
  have hDc := hD.sub (ws' := [(g0, .inr (1, [.long (lN T), .ref a1, .int (nI k), .ref a2, .ref a3, .int (nI n), .ref a4])), (a1, .inl (i1, 200, .inr (.inl O))), (a2, .inl (i2, 520, .inl mo)), (a3, .inl (i3, 520, .inr (.inl mb)))]) [7, 8, 9, 10] (by decide) rfl
  have hFc := va_free (wc := [(g0, .inr (1, [.long (lN T), .ref a1, .int (nI k), .ref a2, .ref a3, .int (nI n), .ref a4])), (a1, .inl (i1, 200, .inr (.inl O))), (a2, .inl (i2, 520, .inl mo)), (a3, .inl (i3, 520, .inr (.inl mb)))]) hD hS hA [7, 8, 9, 10] rfl
  have hKc := hK.sub (tys' := [(i1, .long), (i2, .int), (i3, .long)]) [6, 7, 8] rfl
  refine va_calli (va_runV (As := [.int (xs (i + 1)), .long ((((xs (i + 2)).toInt64) <<< ((nI 32).toInt64 &&& 63)) ||| (((xs (i + 3)).toInt64) &&& 4294967295))]) (rest := [.int rx]) ⟨hx, hb, hml, hown, hts⟩ (cY_move l dC dI _ g0 a1 a2 a3 a4 i1 i2 i3 (lN T) k (by omega) (nI n) O mo mb (xs (i + 1)) ((((xs (i + 2)).toInt64) <<< ((nI 32).toInt64 &&& 63)) ||| (((xs (i + 3)).toInt64) &&& 4294967295))) (cwV 2 hts gL_law_X1_move rfl rfl rfl (by decide +kernel) ⟨Nat.le_of_ble_eq_true rfl, Nat.le_of_ble_eq_true rfl⟩) (dk_wV hPc hKc hDc (ci := 1) (q0 := 0) rfl rfl) rfl rfl hl.1 rfl (lv_room (Nat.le_of_ble_eq_true rfl)) dL_law_257 ⟨Nat.le_of_ble_eq_true rfl, Nat.le_of_ble_eq_true rfl⟩) hS (fun q _ h => hFc q h) hFc (fun ry u8 t8 H1 locs ht8 hvm8 hw hB hz1 hk1 hS => ?_)
  try dsimp only at hw
  obtain ⟨j2, mo2, mb2⟩ := u8
  try dsimp only at hw hB
  obtain ⟨hP1, hD1⟩ := hB
  rw [ht8] at hP1
  obtain ⟨hP, hD⟩ := va_join (wr := [(h0, .inr (0, [.int d, .int (nI t), .ref qo, .ref qw, .ref qc, .ref qn, .ref qm, .ref ql, .int (nI n)])), (qo, .inl (k1, 200, .inr (.inl fo))), (qw, .inl (k2, 200, .inr (.inl gw))), (qc, .inl (k3, 200, .inr (.inl gc))), (qn, .inl (k4, 200, .inr (.inl gn))), (qm, .inl (k5, 200, .inr (.inl gm))), (ql, .inl (k6, 104, .inl fl)), (a4, .inl (i4, 120, .inl tx))]) (w1 := [(g0, .inr (1, [.long (lN T), .ref a1, .int (nI j2), .ref a2, .ref a3, .int (nI n), .ref a4])), (a1, .inl (i1, 200, .inr (.inl O))), (a2, .inl (i2, 520, .inl mo2)), (a3, .inl (i3, 520, .inr (.inl mb2)))]) hP hD [7, 8, 9, 10] [0, 1, 2, 3, 4, 5, 6, 11] rfl rfl (by decide) (by decide) hk1 hFc hP1 hD1
  generalize H1 = H at hP hS ⊢
  have hP := hP.sub (ws' := [(h0, .inr (0, [.int d, .int (nI t), .ref qo, .ref qw, .ref qc, .ref qn, .ref qm, .ref ql, .int (nI n)])), (qo, .inl (k1, 200, .inr (.inl fo))), (qw, .inl (k2, 200, .inr (.inl gw))), (qc, .inl (k3, 200, .inr (.inl gc))), (qn, .inl (k4, 200, .inr (.inl gn))), (qm, .inl (k5, 200, .inr (.inl gm))), (ql, .inl (k6, 104, .inl fl)), (g0, .inr (1, [.long (lN T), .ref a1, .int (nI j2), .ref a2, .ref a3, .int (nI n), .ref a4])), (a1, .inl (i1, 200, .inr (.inl O))), (a2, .inl (i2, 520, .inl mo2)), (a3, .inl (i3, 520, .inr (.inl mb2))), (a4, .inl (i4, 120, .inl tx))]) [0, 1, 2, 3, 4, 5, 6, 8, 9, 10, 11, 7] rfl
  have hD := hD.sub (ws' := [(h0, .inr (0, [.int d, .int (nI t), .ref qo, .ref qw, .ref qc, .ref qn, .ref qm, .ref ql, .int (nI n)])), (qo, .inl (k1, 200, .inr (.inl fo))), (qw, .inl (k2, 200, .inr (.inl gw))), (qc, .inl (k3, 200, .inr (.inl gc))), (qn, .inl (k4, 200, .inr (.inl gn))), (qm, .inl (k5, 200, .inr (.inl gm))), (ql, .inl (k6, 104, .inl fl)), (g0, .inr (1, [.long (lN T), .ref a1, .int (nI j2), .ref a2, .ref a3, .int (nI n), .ref a4])), (a1, .inl (i1, 200, .inr (.inl O))), (a2, .inl (i2, 520, .inl mo2)), (a3, .inl (i3, 520, .inr (.inl mb2))), (a4, .inl (i4, 120, .inl tx))]) [0, 1, 2, 3, 4, 5, 6, 8, 9, 10, 11, 7] (by decide) rfl
  have hP : va_P (dC, dI) vwCl [(h0, .inr (0, [.int d, .int (nI t), .ref qo, .ref qw, .ref qc, .ref qn, .ref qm, .ref ql, .int (nI n)])), (qo, .inl (k1, 200, .inr (.inl fo))), (qw, .inl (k2, 200, .inr (.inl gw))), (qc, .inl (k3, 200, .inr (.inl gc))), (qn, .inl (k4, 200, .inr (.inl gn))), (qm, .inl (k5, 200, .inr (.inl gm))), (ql, .inl (k6, 104, .inl fl)), (g0, .inr (1, [.long (lN T), .ref a1, .int (nI j2), .ref a2, .ref a3, .int (nI n), .ref a4])), (a1, .inl (i1, 200, .inr (.inl O))), (a2, .inl (i2, 520, .inl mo2)), (a3, .inl (i3, 520, .inr (.inl mb2))), (a4, .inl (i4, 120, .inl tx))] H := hP
  have hD : va_D (fun q : Nat => s.heap.size ≤ q) [(h0, .inr (0, [.int d, .int (nI t), .ref qo, .ref qw, .ref qc, .ref qn, .ref qm, .ref ql, .int (nI n)])), (qo, .inl (k1, 200, .inr (.inl fo))), (qw, .inl (k2, 200, .inr (.inl gw))), (qc, .inl (k3, 200, .inr (.inl gc))), (qn, .inl (k4, 200, .inr (.inl gn))), (qm, .inl (k5, 200, .inr (.inl gm))), (ql, .inl (k6, 104, .inl fl)), (g0, .inr (1, [.long (lN T), .ref a1, .int (nI j2), .ref a2, .ref a3, .int (nI n), .ref a4])), (a1, .inl (i1, 200, .inr (.inl O))), (a2, .inl (i2, 520, .inl mo2)), (a3, .inl (i3, 520, .inr (.inl mb2))), (a4, .inl (i4, 120, .inl tx))] := hD
  have hwy := hw
  obtain ⟨req, hI2⟩ := dk_Inv_mv hI hwx hwy
  refine lv_icmp_eq (tgt := 368) hx hb dL_law_260 (by decide) (fun _ => ?_) (fun c9 => absurd req c9)
  exact kk d t n fo gw gc gn gm fl T j2 O mo2 mb2 tx hI2 H locs hP hD hS ls hl
end
section
set_option maxHeartbeats 4000000 in
set_option maxRecDepth 100000 in
/-- the law: row -/
theorem law_row {p : Program} {l : Launch} {e : Env} {s : State} {m : MethodId} {below : List Frame} {meth : Method} {c : Code} {dC : Nat → ClassId} {dI : Nat → Nat → Nat} {b L : Nat} {xs : Nat → Int32} {h0 qo qw qc qn qm ql g0 a1 a2 a3 a4 : Nat} {k1 k2 k3 k4 k5 k6 i1 i2 i3 i4 : ClassId} (hL : L ≤ 2048) (C0 : lw_At p s m meth c b L xs) (hK : va_K (dC, dI) vwCl [(k1, .long), (k2, .long), (k3, .long), (k4, .long), (k5, .long), (k6, .char), (i1, .long), (i2, .int), (i3, .long), (i4, .int)] s) (i q : Nat) (hi : i + 4 ≤ L) (hq : q ≤ 511) (d : Int32) (t n : Nat) (fo fw fc fn fm : Nat → Int64) (fl : Nat → Int32) (T k : Nat) (O : Nat → Int64) (mo : Nat → Int32) (mb : Nat → Int64) (tx : Nat → Int32) (hI : dk_Inv q d t n fo fw fc fn fm fl T k O mo mb tx) (H : Heap) (locs : List Loc) (hP : va_P (dC, dI) vwCl [(h0, .inr (0, [.int d, .int (nI t), .ref qo, .ref qw, .ref qc, .ref qn, .ref qm, .ref ql, .int (nI n)])), (qo, .inl (k1, 200, .inr (.inl fo))), (qw, .inl (k2, 200, .inr (.inl fw))), (qc, .inl (k3, 200, .inr (.inl fc))), (qn, .inl (k4, 200, .inr (.inl fn))), (qm, .inl (k5, 200, .inr (.inl fm))), (ql, .inl (k6, 104, .inl fl)), (g0, .inr (1, [.long (lN T), .ref a1, .int (nI k), .ref a2, .ref a3, .int (nI n), .ref a4])), (a1, .inl (i1, 200, .inr (.inl O))), (a2, .inl (i2, 520, .inl mo)), (a3, .inl (i3, 520, .inr (.inl mb))), (a4, .inl (i4, 120, .inl tx))] H) (hD : va_D (fun q : Nat => s.heap.size ≤ q) [(h0, .inr (0, [.int d, .int (nI t), .ref qo, .ref qw, .ref qc, .ref qn, .ref qm, .ref ql, .int (nI n)])), (qo, .inl (k1, 200, .inr (.inl fo))), (qw, .inl (k2, 200, .inr (.inl fw))), (qc, .inl (k3, 200, .inr (.inl fc))), (qn, .inl (k4, 200, .inr (.inl fn))), (qm, .inl (k5, 200, .inr (.inl fm))), (ql, .inl (k6, 104, .inl fl)), (g0, .inr (1, [.long (lN T), .ref a1, .int (nI k), .ref a2, .ref a3, .int (nI n), .ref a4])), (a1, .inl (i1, 200, .inr (.inl O))), (a2, .inl (i2, 520, .inl mo)), (a3, .inl (i3, 520, .inr (.inl mb))), (a4, .inl (i4, 120, .inl tx))]) (hS : va_S (fun q : Nat => s.heap.size ≤ q) s.heap H locs) (ls : Array Slot) (hl : lv_has ls 4 [(0, .ref b), (1, .ref h0), (2, .ref g0), (3, .int (nI i))]) (kk : ∀ (d : Int32) (t n : Nat) (fo fw fc fn fm : Nat → Int64) (fl : Nat → Int32) (T k : Nat) (O : Nat → Int64) (mo : Nat → Int32) (mb : Nat → Int64) (tx : Nat → Int32), dk_Inv (q + 1) d t n fo fw fc fn fm fl T k O mo mb tx → ∀ (H : Heap) (locs : List Loc), va_P (dC, dI) vwCl [(h0, .inr (0, [.int d, .int (nI t), .ref qo, .ref qw, .ref qc, .ref qn, .ref qm, .ref ql, .int (nI n)])), (qo, .inl (k1, 200, .inr (.inl fo))), (qw, .inl (k2, 200, .inr (.inl fw))), (qc, .inl (k3, 200, .inr (.inl fc))), (qn, .inl (k4, 200, .inr (.inl fn))), (qm, .inl (k5, 200, .inr (.inl fm))), (ql, .inl (k6, 104, .inl fl)), (g0, .inr (1, [.long (lN T), .ref a1, .int (nI k), .ref a2, .ref a3, .int (nI n), .ref a4])), (a1, .inl (i1, 200, .inr (.inl O))), (a2, .inl (i2, 520, .inl mo)), (a3, .inl (i3, 520, .inr (.inl mb))), (a4, .inl (i4, 120, .inl tx))] H → va_D (fun q : Nat => s.heap.size ≤ q) [(h0, .inr (0, [.int d, .int (nI t), .ref qo, .ref qw, .ref qc, .ref qn, .ref qm, .ref ql, .int (nI n)])), (qo, .inl (k1, 200, .inr (.inl fo))), (qw, .inl (k2, 200, .inr (.inl fw))), (qc, .inl (k3, 200, .inr (.inl fc))), (qn, .inl (k4, 200, .inr (.inl fn))), (qm, .inl (k5, 200, .inr (.inl fm))), (ql, .inl (k6, 104, .inl fl)), (g0, .inr (1, [.long (lN T), .ref a1, .int (nI k), .ref a2, .ref a3, .int (nI n), .ref a4])), (a1, .inl (i1, 200, .inr (.inl O))), (a2, .inl (i2, 520, .inl mo)), (a3, .inl (i3, 520, .inr (.inl mb))), (a4, .inl (i4, 120, .inl tx))] → va_S (fun q : Nat => s.heap.size ≤ q) s.heap H locs → ∀ ls : Array Slot, lv_has ls 4 [(0, .ref b), (1, .ref h0), (2, .ref g0), (3, .int (nI i))] → W p l e room_1 s m #[Value.ref b] below meth c H locs 12 2480 (lw_Z below #[Value.ref b] s) (F0 m 368 ls [])) : W p l e room_1 s m #[Value.ref b] below meth c H locs 12 2480 (lw_Z below #[Value.ref b] s) (F0 m 265 ls []) := by
  obtain ⟨hx, hb, hr, hml, hown0, hts0, hX, hbl, hlocks, hgv⟩ := C0
  have hts : ∀ w ∈ wsL_law, w.before #[Value.ref b] s = true := fun w h => hts0 w (wsL_law_in w h)
  have hown : s.vm.findClass RL = some m.cls := hown0
  have hA : ∀ q : Nat, s.heap.size ≤ q → (fun q : Nat => s.heap.size ≤ q) q := fun _ h => h
  have hbA : ¬ (fun q : Nat => s.heap.size ≤ q) b := Nat.not_le.mpr hbl
  obtain ⟨v1, v2, v3, v4, v5, v6, v7⟩ := id hI
  have ht9 : t < 1000 := by rw [v1]; exact Nat.mod_lt _ (by decide)
  have hT9 : T ≤ 51100000 := Nat.le_trans v3 (Nat.mul_le_mul_right 100000 hq)
  refine lv_aload_n hx hb dL_law_265 rfl (lv_at hl 1 rfl) ?_
  refine lv_aload_n hx hb dL_law_266 rfl (lv_at hl 0 rfl) ?_
  refine lv_iload_n hx hb dL_law_267 rfl (lv_at hl 3 rfl) ?_
  refine lv_iconst (v := 1) hx hb dL_law_268 (by decide) ?_
  refine lv_iadd hx hb dL_law_269 ?_
  refine dk_asi (y := nI (i + 1)) (nI_add i 1) ?_
  refine dk_sld hx hb hX hbl hbA hS (j := i + 1) (by omega) (by omega) dL_law_270 ?_
  refine lv_aload_n hx hb dL_law_271 rfl (lv_at hl 0 rfl) ?_
  refine lv_iload_n hx hb dL_law_272 rfl (lv_at hl 3 rfl) ?_
  refine lv_iconst (v := 2) hx hb dL_law_273 (by decide) ?_
  refine lv_iadd hx hb dL_law_274 ?_
  refine dk_asi (y := nI (i + 2)) (nI_add i 2) ?_
  refine dk_sld hx hb hX hbl hbA hS (j := i + 2) (by omega) (by omega) dL_law_275 ?_
  have hPc := hP.sub (ws' := [(h0, .inr (0, [.int d, .int (nI t), .ref qo, .ref qw, .ref qc, .ref qn, .ref qm, .ref ql, .int (nI n)])), (qo, .inl (k1, 200, .inr (.inl fo))), (qw, .inl (k2, 200, .inr (.inl fw))), (qc, .inl (k3, 200, .inr (.inl fc))), (qn, .inl (k4, 200, .inr (.inl fn))), (qm, .inl (k5, 200, .inr (.inl fm)))]) [0, 1, 2, 3, 4, 5] rfl
  have hKc := hK.sub (tys' := [(k1, .long), (k2, .long), (k3, .long), (k4, .long), (k5, .long)]) [0, 1, 2, 3, 4] rfl
  refine va_calll (va_runV (As := [.int (xs (i + 1)), .int (xs (i + 2))]) (rest := []) ⟨hx, hb, hml, hown, hts⟩ (cX_row l dC dI h0 qo qw qc qn qm ql k1 k2 k3 k4 k5 d (nI n) (nI t) fo fw fc fn fm (xs (i + 1)) (xs (i + 2))) (cwV 2 hts gL_law_X0_row rfl rfl rfl (by decide +kernel) ⟨Nat.le_of_ble_eq_true rfl, Nat.le_of_ble_eq_true rfl⟩) (dk_rV hPc hKc (ci := 0) (q0 := 0) rfl rfl) rfl rfl hl.1 rfl (lv_room (Nat.le_of_ble_eq_true rfl)) dL_law_276 ⟨Nat.le_of_ble_eq_true rfl, Nat.le_of_ble_eq_true rfl⟩) hS (fun q _ h => False.elim h) (fun q h => False.elim h) (fun rx u8 t8 H1 locs ht8 hvm8 hw hB hz1 hk1 hS => ?_)
  try dsimp only at hw
  have hP := dk_kept hP hk1
  generalize H1 = H at hP hS ⊢
  have hwx := hw
  refine lv_aload_n hx hb dL_law_279 rfl (lv_at hl 2 rfl) ?_
  refine lv_aload_n hx hb dL_law_280 rfl (lv_at hl 0 rfl) ?_
  refine lv_iload_n hx hb dL_law_281 rfl (lv_at hl 3 rfl) ?_
  refine lv_iconst (v := 1) hx hb dL_law_282 (by decide) ?_
  refine lv_iadd hx hb dL_law_283 ?_
  refine dk_asi (y := nI (i + 1)) (nI_add i 1) ?_
  refine dk_sld hx hb hX hbl hbA hS (j := i + 1) (by omega) (by omega) dL_law_284 ?_
  refine lv_aload_n hx hb dL_law_285 rfl (lv_at hl 0 rfl) ?_
  refine lv_iload_n hx hb dL_law_286 rfl (lv_at hl 3 rfl) ?_
  refine lv_iconst (v := 2) hx hb dL_law_287 (by decide) ?_
  refine lv_iadd hx hb dL_law_288 ?_
  refine dk_asi (y := nI (i + 2)) (nI_add i 2) ?_
  refine dk_sld hx hb hX hbl hbA hS (j := i + 2) (by omega) (by omega) dL_law_289 ?_
  have hPc := hP.sub (ws' := [(g0, .inr (1, [.long (lN T), .ref a1, .int (nI k), .ref a2, .ref a3, .int (nI n), .ref a4])), (a1, .inl (i1, 200, .inr (.inl O))), (a2, .inl (i2, 520, .inl mo)), (a3, .inl (i3, 520, .inr (.inl mb)))]) [7, 8, 9, 10] rfl
  have hKc := hK.sub (tys' := [(i1, .long), (i2, .int), (i3, .long)]) [6, 7, 8] rfl
  refine va_calll (va_runV (As := [.int (xs (i + 1)), .int (xs (i + 2))]) (rest := [.long rx]) ⟨hx, hb, hml, hown, hts⟩ (cY_row l dC dI g0 a1 a2 a3 a4 i1 i2 i3 (lN T) k (by omega) (nI n) O mo mb (xs (i + 1)) (xs (i + 2))) (cwV 2 hts gL_law_X1_row rfl rfl rfl (by decide +kernel) ⟨Nat.le_of_ble_eq_true rfl, Nat.le_of_ble_eq_true rfl⟩) (dk_rV hPc hKc (ci := 1) (q0 := 0) rfl rfl) rfl rfl hl.1 rfl (lv_room (Nat.le_of_ble_eq_true rfl)) dL_law_290 ⟨Nat.le_of_ble_eq_true rfl, Nat.le_of_ble_eq_true rfl⟩) hS (fun q _ h => False.elim h) (fun q h => False.elim h) (fun ry u8 t8 H1 locs ht8 hvm8 hw hB hz1 hk1 hS => ?_)
  try dsimp only at hw
  have hP := dk_kept hP hk1
  generalize H1 = H at hP hS ⊢
  have hwy := hw
  have req : rx = ry := dk_row_eq (fun j hj => (v7 j hj).1) hwx hwy
  refine W.lcmp hx hb dL_law_293 ?_
  refine lv_if_eq (tgt := 368) hx hb dL_law_294 (by decide) (fun _ => ?_) (fun c9 => absurd ((lg_cmp_eq _ _).mpr req) c9)
  exact kk d t n fo fw fc fn fm fl T k O mo mb tx (dk_Inv_mono (Nat.le_succ q) hI) H locs hP hD hS ls hl
set_option maxHeartbeats 4000000 in
set_option maxRecDepth 100000 in
/-- the law: isTold -/
theorem law_isTold {p : Program} {l : Launch} {e : Env} {s : State} {m : MethodId} {below : List Frame} {meth : Method} {c : Code} {dC : Nat → ClassId} {dI : Nat → Nat → Nat} {b L : Nat} {xs : Nat → Int32} {h0 qo qw qc qn qm ql g0 a1 a2 a3 a4 : Nat} {k1 k2 k3 k4 k5 k6 i1 i2 i3 i4 : ClassId} (hL : L ≤ 2048) (C0 : lw_At p s m meth c b L xs) (hK : va_K (dC, dI) vwCl [(k1, .long), (k2, .long), (k3, .long), (k4, .long), (k5, .long), (k6, .char), (i1, .long), (i2, .int), (i3, .long), (i4, .int)] s) (i q : Nat) (hi : i + 4 ≤ L) (hq : q ≤ 511) (d : Int32) (t n : Nat) (fo fw fc fn fm : Nat → Int64) (fl : Nat → Int32) (T k : Nat) (O : Nat → Int64) (mo : Nat → Int32) (mb : Nat → Int64) (tx : Nat → Int32) (hI : dk_Inv q d t n fo fw fc fn fm fl T k O mo mb tx) (H : Heap) (locs : List Loc) (hP : va_P (dC, dI) vwCl [(h0, .inr (0, [.int d, .int (nI t), .ref qo, .ref qw, .ref qc, .ref qn, .ref qm, .ref ql, .int (nI n)])), (qo, .inl (k1, 200, .inr (.inl fo))), (qw, .inl (k2, 200, .inr (.inl fw))), (qc, .inl (k3, 200, .inr (.inl fc))), (qn, .inl (k4, 200, .inr (.inl fn))), (qm, .inl (k5, 200, .inr (.inl fm))), (ql, .inl (k6, 104, .inl fl)), (g0, .inr (1, [.long (lN T), .ref a1, .int (nI k), .ref a2, .ref a3, .int (nI n), .ref a4])), (a1, .inl (i1, 200, .inr (.inl O))), (a2, .inl (i2, 520, .inl mo)), (a3, .inl (i3, 520, .inr (.inl mb))), (a4, .inl (i4, 120, .inl tx))] H) (hD : va_D (fun q : Nat => s.heap.size ≤ q) [(h0, .inr (0, [.int d, .int (nI t), .ref qo, .ref qw, .ref qc, .ref qn, .ref qm, .ref ql, .int (nI n)])), (qo, .inl (k1, 200, .inr (.inl fo))), (qw, .inl (k2, 200, .inr (.inl fw))), (qc, .inl (k3, 200, .inr (.inl fc))), (qn, .inl (k4, 200, .inr (.inl fn))), (qm, .inl (k5, 200, .inr (.inl fm))), (ql, .inl (k6, 104, .inl fl)), (g0, .inr (1, [.long (lN T), .ref a1, .int (nI k), .ref a2, .ref a3, .int (nI n), .ref a4])), (a1, .inl (i1, 200, .inr (.inl O))), (a2, .inl (i2, 520, .inl mo)), (a3, .inl (i3, 520, .inr (.inl mb))), (a4, .inl (i4, 120, .inl tx))]) (hS : va_S (fun q : Nat => s.heap.size ≤ q) s.heap H locs) (ls : Array Slot) (hl : lv_has ls 4 [(0, .ref b), (1, .ref h0), (2, .ref g0), (3, .int (nI i))]) (kk : ∀ (d : Int32) (t n : Nat) (fo fw fc fn fm : Nat → Int64) (fl : Nat → Int32) (T k : Nat) (O : Nat → Int64) (mo : Nat → Int32) (mb : Nat → Int64) (tx : Nat → Int32), dk_Inv (q + 1) d t n fo fw fc fn fm fl T k O mo mb tx → ∀ (H : Heap) (locs : List Loc), va_P (dC, dI) vwCl [(h0, .inr (0, [.int d, .int (nI t), .ref qo, .ref qw, .ref qc, .ref qn, .ref qm, .ref ql, .int (nI n)])), (qo, .inl (k1, 200, .inr (.inl fo))), (qw, .inl (k2, 200, .inr (.inl fw))), (qc, .inl (k3, 200, .inr (.inl fc))), (qn, .inl (k4, 200, .inr (.inl fn))), (qm, .inl (k5, 200, .inr (.inl fm))), (ql, .inl (k6, 104, .inl fl)), (g0, .inr (1, [.long (lN T), .ref a1, .int (nI k), .ref a2, .ref a3, .int (nI n), .ref a4])), (a1, .inl (i1, 200, .inr (.inl O))), (a2, .inl (i2, 520, .inl mo)), (a3, .inl (i3, 520, .inr (.inl mb))), (a4, .inl (i4, 120, .inl tx))] H → va_D (fun q : Nat => s.heap.size ≤ q) [(h0, .inr (0, [.int d, .int (nI t), .ref qo, .ref qw, .ref qc, .ref qn, .ref qm, .ref ql, .int (nI n)])), (qo, .inl (k1, 200, .inr (.inl fo))), (qw, .inl (k2, 200, .inr (.inl fw))), (qc, .inl (k3, 200, .inr (.inl fc))), (qn, .inl (k4, 200, .inr (.inl fn))), (qm, .inl (k5, 200, .inr (.inl fm))), (ql, .inl (k6, 104, .inl fl)), (g0, .inr (1, [.long (lN T), .ref a1, .int (nI k), .ref a2, .ref a3, .int (nI n), .ref a4])), (a1, .inl (i1, 200, .inr (.inl O))), (a2, .inl (i2, 520, .inl mo)), (a3, .inl (i3, 520, .inr (.inl mb))), (a4, .inl (i4, 120, .inl tx))] → va_S (fun q : Nat => s.heap.size ≤ q) s.heap H locs → ∀ ls : Array Slot, lv_has ls 4 [(0, .ref b), (1, .ref h0), (2, .ref g0), (3, .int (nI i))] → W p l e room_1 s m #[Value.ref b] below meth c H locs 12 2480 (lw_Z below #[Value.ref b] s) (F0 m 368 ls [])) : W p l e room_1 s m #[Value.ref b] below meth c H locs 12 2480 (lw_Z below #[Value.ref b] s) (F0 m 299 ls []) := by
  obtain ⟨hx, hb, hr, hml, hown0, hts0, hX, hbl, hlocks, hgv⟩ := C0
  have hts : ∀ w ∈ wsL_law, w.before #[Value.ref b] s = true := fun w h => hts0 w (wsL_law_in w h)
  have hown : s.vm.findClass RL = some m.cls := hown0
  have hA : ∀ q : Nat, s.heap.size ≤ q → (fun q : Nat => s.heap.size ≤ q) q := fun _ h => h
  have hbA : ¬ (fun q : Nat => s.heap.size ≤ q) b := Nat.not_le.mpr hbl
  obtain ⟨v1, v2, v3, v4, v5, v6, v7⟩ := id hI
  have ht9 : t < 1000 := by rw [v1]; exact Nat.mod_lt _ (by decide)
  have hT9 : T ≤ 51100000 := Nat.le_trans v3 (Nat.mul_le_mul_right 100000 hq)
  refine lv_aload_n hx hb dL_law_299 rfl (lv_at hl 1 rfl) ?_
  refine lv_aload_n hx hb dL_law_300 rfl (lv_at hl 0 rfl) ?_
  refine lv_iload_n hx hb dL_law_301 rfl (lv_at hl 3 rfl) ?_
  refine lv_iconst (v := 1) hx hb dL_law_302 (by decide) ?_
  refine lv_iadd hx hb dL_law_303 ?_
  refine dk_asi (y := nI (i + 1)) (nI_add i 1) ?_
  refine dk_sld hx hb hX hbl hbA hS (j := i + 1) (by omega) (by omega) dL_law_304 ?_
  have hPc := hP.sub (ws' := [(h0, .inr (0, [.int d, .int (nI t), .ref qo, .ref qw, .ref qc, .ref qn, .ref qm, .ref ql, .int (nI n)])), (qo, .inl (k1, 200, .inr (.inl fo))), (qw, .inl (k2, 200, .inr (.inl fw))), (qc, .inl (k3, 200, .inr (.inl fc))), (qn, .inl (k4, 200, .inr (.inl fn))), (qm, .inl (k5, 200, .inr (.inl fm)))]) [0, 1, 2, 3, 4, 5] rfl
  have hKc := hK.sub (tys' := [(k1, .long), (k2, .long), (k3, .long), (k4, .long), (k5, .long)]) [0, 1, 2, 3, 4] rfl
  refine va_calli (va_runV (As := [.int (xs (i + 1))]) (rest := []) ⟨hx, hb, hml, hown, hts⟩ (cX_isTold l dC dI h0 qo qw qc qn qm ql k1 k2 k3 k4 k5 d (nI n) (nI t) fo fw fc fn fm (xs (i + 1))) (cwV 1 hts gL_law_X0_isTold rfl rfl rfl (by decide +kernel) ⟨Nat.le_of_ble_eq_true rfl, Nat.le_of_ble_eq_true rfl⟩) (dk_rV hPc hKc (ci := 0) (q0 := 0) rfl rfl) rfl rfl hl.1 rfl (lv_room (Nat.le_of_ble_eq_true rfl)) dL_law_305 ⟨Nat.le_of_ble_eq_true rfl, Nat.le_of_ble_eq_true rfl⟩) hS (fun q _ h => False.elim h) (fun q h => False.elim h) (fun rx u8 t8 H1 locs ht8 hvm8 hw hB hz1 hk1 hS => ?_)
  try dsimp only at hw
  have hP := dk_kept hP hk1
  generalize H1 = H at hP hS ⊢
  have hwx := hw
  refine lv_aload_n hx hb dL_law_308 rfl (lv_at hl 2 rfl) ?_
  refine lv_aload_n hx hb dL_law_309 rfl (lv_at hl 0 rfl) ?_
  refine lv_iload_n hx hb dL_law_310 rfl (lv_at hl 3 rfl) ?_
  refine lv_iconst (v := 1) hx hb dL_law_311 (by decide) ?_
  refine lv_iadd hx hb dL_law_312 ?_
  refine dk_asi (y := nI (i + 1)) (nI_add i 1) ?_
  refine dk_sld hx hb hX hbl hbA hS (j := i + 1) (by omega) (by omega) dL_law_313 ?_
  have hPc := hP.sub (ws' := [(g0, .inr (1, [.long (lN T), .ref a1, .int (nI k), .ref a2, .ref a3, .int (nI n), .ref a4])), (a1, .inl (i1, 200, .inr (.inl O))), (a2, .inl (i2, 520, .inl mo)), (a3, .inl (i3, 520, .inr (.inl mb)))]) [7, 8, 9, 10] rfl
  have hKc := hK.sub (tys' := [(i1, .long), (i2, .int), (i3, .long)]) [6, 7, 8] rfl
  refine va_calli (va_runV (As := [.int (xs (i + 1))]) (rest := [.int rx]) ⟨hx, hb, hml, hown, hts⟩ (cY_isTold l dC dI g0 a1 a2 a3 a4 i1 i2 i3 (lN T) k (by omega) (nI n) O mo mb (xs (i + 1))) (cwV 1 hts gL_law_X1_isTold rfl rfl rfl (by decide +kernel) ⟨Nat.le_of_ble_eq_true rfl, Nat.le_of_ble_eq_true rfl⟩) (dk_rV hPc hKc (ci := 1) (q0 := 0) rfl rfl) rfl rfl hl.1 rfl (lv_room (Nat.le_of_ble_eq_true rfl)) dL_law_314 ⟨Nat.le_of_ble_eq_true rfl, Nat.le_of_ble_eq_true rfl⟩) hS (fun q _ h => False.elim h) (fun q h => False.elim h) (fun ry u8 t8 H1 locs ht8 hvm8 hw hB hz1 hk1 hS => ?_)
  try dsimp only at hw
  have hP := dk_kept hP hk1
  generalize H1 = H at hP hS ⊢
  have hwy := hw
  have hiff : ∀ j : Nat, j < 200 → ((¬ fo j = 0 ∨ ¬ fm j = 0) ↔ (¬ O j = 0 ∨ ¬ lN (dk_yn mo (nI j) k) ≤ 0)) := fun j hj => by
    obtain ⟨⟨e1, -, -, -, e5⟩, -⟩ := v7 j hj
    have hyn := dk_yn_le mo (nI j) k
    rw [e1, e5, dk_lN0 (by omega)]
  have req : rx = ry := dk_bool2 (dk_tld_congr hiff) hwx hwy
  refine lv_icmp_eq (tgt := 368) hx hb dL_law_317 (by decide) (fun _ => ?_) (fun c9 => absurd req c9)
  exact kk d t n fo fw fc fn fm fl T k O mo mb tx (dk_Inv_mono (Nat.le_succ q) hI) H locs hP hD hS ls hl
set_option maxHeartbeats 4000000 in
set_option maxRecDepth 100000 in
/-- the law: write -/
theorem law_write {p : Program} {l : Launch} {e : Env} {s : State} {m : MethodId} {below : List Frame} {meth : Method} {c : Code} {dC : Nat → ClassId} {dI : Nat → Nat → Nat} {b L : Nat} {xs : Nat → Int32} {h0 qo qw qc qn qm ql g0 a1 a2 a3 a4 : Nat} {k1 k2 k3 k4 k5 k6 i1 i2 i3 i4 : ClassId} (hL : L ≤ 2048) (C0 : lw_At p s m meth c b L xs) (hK : va_K (dC, dI) vwCl [(k1, .long), (k2, .long), (k3, .long), (k4, .long), (k5, .long), (k6, .char), (i1, .long), (i2, .int), (i3, .long), (i4, .int)] s) (i q : Nat) (hi : i + 4 ≤ L) (hq : q ≤ 511) (d : Int32) (t n : Nat) (fo fw fc fn fm : Nat → Int64) (fl : Nat → Int32) (T k : Nat) (O : Nat → Int64) (mo : Nat → Int32) (mb : Nat → Int64) (tx : Nat → Int32) (hI : dk_Inv q d t n fo fw fc fn fm fl T k O mo mb tx) (H : Heap) (locs : List Loc) (hP : va_P (dC, dI) vwCl [(h0, .inr (0, [.int d, .int (nI t), .ref qo, .ref qw, .ref qc, .ref qn, .ref qm, .ref ql, .int (nI n)])), (qo, .inl (k1, 200, .inr (.inl fo))), (qw, .inl (k2, 200, .inr (.inl fw))), (qc, .inl (k3, 200, .inr (.inl fc))), (qn, .inl (k4, 200, .inr (.inl fn))), (qm, .inl (k5, 200, .inr (.inl fm))), (ql, .inl (k6, 104, .inl fl)), (g0, .inr (1, [.long (lN T), .ref a1, .int (nI k), .ref a2, .ref a3, .int (nI n), .ref a4])), (a1, .inl (i1, 200, .inr (.inl O))), (a2, .inl (i2, 520, .inl mo)), (a3, .inl (i3, 520, .inr (.inl mb))), (a4, .inl (i4, 120, .inl tx))] H) (hD : va_D (fun q : Nat => s.heap.size ≤ q) [(h0, .inr (0, [.int d, .int (nI t), .ref qo, .ref qw, .ref qc, .ref qn, .ref qm, .ref ql, .int (nI n)])), (qo, .inl (k1, 200, .inr (.inl fo))), (qw, .inl (k2, 200, .inr (.inl fw))), (qc, .inl (k3, 200, .inr (.inl fc))), (qn, .inl (k4, 200, .inr (.inl fn))), (qm, .inl (k5, 200, .inr (.inl fm))), (ql, .inl (k6, 104, .inl fl)), (g0, .inr (1, [.long (lN T), .ref a1, .int (nI k), .ref a2, .ref a3, .int (nI n), .ref a4])), (a1, .inl (i1, 200, .inr (.inl O))), (a2, .inl (i2, 520, .inl mo)), (a3, .inl (i3, 520, .inr (.inl mb))), (a4, .inl (i4, 120, .inl tx))]) (hS : va_S (fun q : Nat => s.heap.size ≤ q) s.heap H locs) (ls : Array Slot) (hl : lv_has ls 4 [(0, .ref b), (1, .ref h0), (2, .ref g0), (3, .int (nI i))]) (kk : ∀ (d : Int32) (t n : Nat) (fo fw fc fn fm : Nat → Int64) (fl : Nat → Int32) (T k : Nat) (O : Nat → Int64) (mo : Nat → Int32) (mb : Nat → Int64) (tx : Nat → Int32), dk_Inv (q + 1) d t n fo fw fc fn fm fl T k O mo mb tx → ∀ (H : Heap) (locs : List Loc), va_P (dC, dI) vwCl [(h0, .inr (0, [.int d, .int (nI t), .ref qo, .ref qw, .ref qc, .ref qn, .ref qm, .ref ql, .int (nI n)])), (qo, .inl (k1, 200, .inr (.inl fo))), (qw, .inl (k2, 200, .inr (.inl fw))), (qc, .inl (k3, 200, .inr (.inl fc))), (qn, .inl (k4, 200, .inr (.inl fn))), (qm, .inl (k5, 200, .inr (.inl fm))), (ql, .inl (k6, 104, .inl fl)), (g0, .inr (1, [.long (lN T), .ref a1, .int (nI k), .ref a2, .ref a3, .int (nI n), .ref a4])), (a1, .inl (i1, 200, .inr (.inl O))), (a2, .inl (i2, 520, .inl mo)), (a3, .inl (i3, 520, .inr (.inl mb))), (a4, .inl (i4, 120, .inl tx))] H → va_D (fun q : Nat => s.heap.size ≤ q) [(h0, .inr (0, [.int d, .int (nI t), .ref qo, .ref qw, .ref qc, .ref qn, .ref qm, .ref ql, .int (nI n)])), (qo, .inl (k1, 200, .inr (.inl fo))), (qw, .inl (k2, 200, .inr (.inl fw))), (qc, .inl (k3, 200, .inr (.inl fc))), (qn, .inl (k4, 200, .inr (.inl fn))), (qm, .inl (k5, 200, .inr (.inl fm))), (ql, .inl (k6, 104, .inl fl)), (g0, .inr (1, [.long (lN T), .ref a1, .int (nI k), .ref a2, .ref a3, .int (nI n), .ref a4])), (a1, .inl (i1, 200, .inr (.inl O))), (a2, .inl (i2, 520, .inl mo)), (a3, .inl (i3, 520, .inr (.inl mb))), (a4, .inl (i4, 120, .inl tx))] → va_S (fun q : Nat => s.heap.size ≤ q) s.heap H locs → ∀ ls : Array Slot, lv_has ls 4 [(0, .ref b), (1, .ref h0), (2, .ref g0), (3, .int (nI i))] → W p l e room_1 s m #[Value.ref b] below meth c H locs 12 2480 (lw_Z below #[Value.ref b] s) (F0 m 368 ls [])) : W p l e room_1 s m #[Value.ref b] below meth c H locs 12 2480 (lw_Z below #[Value.ref b] s) (F0 m 322 ls []) := by
  obtain ⟨hx, hb, hr, hml, hown0, hts0, hX, hbl, hlocks, hgv⟩ := C0
  have hts : ∀ w ∈ wsL_law, w.before #[Value.ref b] s = true := fun w h => hts0 w (wsL_law_in w h)
  have hown : s.vm.findClass RL = some m.cls := hown0
  have hA : ∀ q : Nat, s.heap.size ≤ q → (fun q : Nat => s.heap.size ≤ q) q := fun _ h => h
  have hbA : ¬ (fun q : Nat => s.heap.size ≤ q) b := Nat.not_le.mpr hbl
  obtain ⟨v1, v2, v3, v4, v5, v6, v7⟩ := id hI
  have ht9 : t < 1000 := by rw [v1]; exact Nat.mod_lt _ (by decide)
  have hT9 : T ≤ 51100000 := Nat.le_trans v3 (Nat.mul_le_mul_right 100000 hq)
  have hbd : ∀ j : Nat, j < 200 → -9223372036854775808 < (fo j).toInt ∧ -9223372036854775808 < (fw j).toInt ∧ -9223372036854775808 < (fc j).toInt ∧ -9223372036854775808 < (fn j).toInt ∧ -9223372036854775808 < (fm j).toInt := fun j hj => by
    obtain ⟨⟨-, -, -, -, e5⟩, b1, b2, b3, b4⟩ := v7 j hj
    have hyn := dk_yn_le mo (nI j) k
    refine ⟨dk_in_lo b1, dk_in_lo b2, dk_in_lo b3, dk_in_lo b4, ?_⟩
    rw [e5, lN_toInt (by omega)]; omega
  refine lv_aload_n hx hb dL_law_322 rfl (lv_at hl 1 rfl) ?_
  refine lv_aload_n hx hb dL_law_323 rfl (lv_at hl 0 rfl) ?_
  refine lv_iload_n hx hb dL_law_324 rfl (lv_at hl 3 rfl) ?_
  refine lv_iconst (v := 1) hx hb dL_law_325 (by decide) ?_
  refine lv_iadd hx hb dL_law_326 ?_
  refine dk_asi (y := nI (i + 1)) (nI_add i 1) ?_
  refine dk_sld hx hb hX hbl hbA hS (j := i + 1) (by omega) (by omega) dL_law_327 ?_
  have hPc := hP.sub (ws' := [(h0, .inr (0, [.int d, .int (nI t), .ref qo, .ref qw, .ref qc, .ref qn, .ref qm, .ref ql, .int (nI n)])), (qo, .inl (k1, 200, .inr (.inl fo))), (qw, .inl (k2, 200, .inr (.inl fw))), (qc, .inl (k3, 200, .inr (.inl fc))), (qn, .inl (k4, 200, .inr (.inl fn))), (qm, .inl (k5, 200, .inr (.inl fm))), (ql, .inl (k6, 104, .inl fl))]) [0, 1, 2, 3, 4, 5, 6] rfl
  have hDc := hD.sub (ws' := [(h0, .inr (0, [.int d, .int (nI t), .ref qo, .ref qw, .ref qc, .ref qn, .ref qm, .ref ql, .int (nI n)])), (qo, .inl (k1, 200, .inr (.inl fo))), (qw, .inl (k2, 200, .inr (.inl fw))), (qc, .inl (k3, 200, .inr (.inl fc))), (qn, .inl (k4, 200, .inr (.inl fn))), (qm, .inl (k5, 200, .inr (.inl fm))), (ql, .inl (k6, 104, .inl fl))]) [0, 1, 2, 3, 4, 5, 6] (by decide) rfl
  have hFc := va_free (wc := [(h0, .inr (0, [.int d, .int (nI t), .ref qo, .ref qw, .ref qc, .ref qn, .ref qm, .ref ql, .int (nI n)])), (qo, .inl (k1, 200, .inr (.inl fo))), (qw, .inl (k2, 200, .inr (.inl fw))), (qc, .inl (k3, 200, .inr (.inl fc))), (qn, .inl (k4, 200, .inr (.inl fn))), (qm, .inl (k5, 200, .inr (.inl fm))), (ql, .inl (k6, 104, .inl fl))]) hD hS hA [0, 1, 2, 3, 4, 5, 6] rfl
  have hKc := hK.sub (tys' := [(k1, .long), (k2, .long), (k3, .long), (k4, .long), (k5, .long), (k6, .char)]) [0, 1, 2, 3, 4, 5] rfl
  refine va_calli (va_runV (As := [.int (xs (i + 1))]) (rest := []) ⟨hx, hb, hml, hown, hts⟩ (cX_write l dC dI _ h0 qo qw qc qn qm ql k1 k2 k3 k4 k5 k6 d (nI n) (nI t) fo fw fc fn fm fl hbd (xs (i + 1))) (cwV 1 hts gL_law_X0_write rfl rfl rfl (by decide +kernel) ⟨Nat.le_of_ble_eq_true rfl, Nat.le_of_ble_eq_true rfl⟩) (dk_wV hPc hKc hDc (ci := 0) (q0 := 0) rfl rfl) rfl rfl hl.1 rfl (lv_room (Nat.le_of_ble_eq_true rfl)) dL_law_328 ⟨Nat.le_of_ble_eq_true rfl, Nat.le_of_ble_eq_true rfl⟩) hS (fun q _ h => hFc q h) hFc (fun rx u8 t8 H1 locs ht8 hvm8 hw hB hz1 hk1 hS => ?_)
  try dsimp only at hw
  obtain ⟨ll2, gl⟩ := u8
  try dsimp only at hw hB
  obtain ⟨hP1, hD1⟩ := hB
  rw [ht8] at hP1
  obtain ⟨hP, hD⟩ := va_join (wr := [(g0, .inr (1, [.long (lN T), .ref a1, .int (nI k), .ref a2, .ref a3, .int (nI n), .ref a4])), (a1, .inl (i1, 200, .inr (.inl O))), (a2, .inl (i2, 520, .inl mo)), (a3, .inl (i3, 520, .inr (.inl mb))), (a4, .inl (i4, 120, .inl tx))]) (w1 := [(h0, .inr (0, [.int d, .int (nI t), .ref qo, .ref qw, .ref qc, .ref qn, .ref qm, .ref ql, .int ll2])), (qo, .inl (k1, 200, .inr (.inl fo))), (qw, .inl (k2, 200, .inr (.inl fw))), (qc, .inl (k3, 200, .inr (.inl fc))), (qn, .inl (k4, 200, .inr (.inl fn))), (qm, .inl (k5, 200, .inr (.inl fm))), (ql, .inl (k6, 104, .inl gl))]) hP hD [0, 1, 2, 3, 4, 5, 6] [7, 8, 9, 10, 11] rfl rfl (by decide) (by decide) hk1 hFc hP1 hD1
  generalize H1 = H at hP hS ⊢
  have hP := hP.sub (ws' := [(h0, .inr (0, [.int d, .int (nI t), .ref qo, .ref qw, .ref qc, .ref qn, .ref qm, .ref ql, .int ll2])), (qo, .inl (k1, 200, .inr (.inl fo))), (qw, .inl (k2, 200, .inr (.inl fw))), (qc, .inl (k3, 200, .inr (.inl fc))), (qn, .inl (k4, 200, .inr (.inl fn))), (qm, .inl (k5, 200, .inr (.inl fm))), (ql, .inl (k6, 104, .inl gl)), (g0, .inr (1, [.long (lN T), .ref a1, .int (nI k), .ref a2, .ref a3, .int (nI n), .ref a4])), (a1, .inl (i1, 200, .inr (.inl O))), (a2, .inl (i2, 520, .inl mo)), (a3, .inl (i3, 520, .inr (.inl mb))), (a4, .inl (i4, 120, .inl tx))]) [5, 6, 7, 8, 9, 10, 11, 0, 1, 2, 3, 4] rfl
  have hD := hD.sub (ws' := [(h0, .inr (0, [.int d, .int (nI t), .ref qo, .ref qw, .ref qc, .ref qn, .ref qm, .ref ql, .int ll2])), (qo, .inl (k1, 200, .inr (.inl fo))), (qw, .inl (k2, 200, .inr (.inl fw))), (qc, .inl (k3, 200, .inr (.inl fc))), (qn, .inl (k4, 200, .inr (.inl fn))), (qm, .inl (k5, 200, .inr (.inl fm))), (ql, .inl (k6, 104, .inl gl)), (g0, .inr (1, [.long (lN T), .ref a1, .int (nI k), .ref a2, .ref a3, .int (nI n), .ref a4])), (a1, .inl (i1, 200, .inr (.inl O))), (a2, .inl (i2, 520, .inl mo)), (a3, .inl (i3, 520, .inr (.inl mb))), (a4, .inl (i4, 120, .inl tx))]) [5, 6, 7, 8, 9, 10, 11, 0, 1, 2, 3, 4] (by decide) rfl
  have hP : va_P (dC, dI) vwCl [(h0, .inr (0, [.int d, .int (nI t), .ref qo, .ref qw, .ref qc, .ref qn, .ref qm, .ref ql, .int ll2])), (qo, .inl (k1, 200, .inr (.inl fo))), (qw, .inl (k2, 200, .inr (.inl fw))), (qc, .inl (k3, 200, .inr (.inl fc))), (qn, .inl (k4, 200, .inr (.inl fn))), (qm, .inl (k5, 200, .inr (.inl fm))), (ql, .inl (k6, 104, .inl gl)), (g0, .inr (1, [.long (lN T), .ref a1, .int (nI k), .ref a2, .ref a3, .int (nI n), .ref a4])), (a1, .inl (i1, 200, .inr (.inl O))), (a2, .inl (i2, 520, .inl mo)), (a3, .inl (i3, 520, .inr (.inl mb))), (a4, .inl (i4, 120, .inl tx))] H := hP
  have hD : va_D (fun q : Nat => s.heap.size ≤ q) [(h0, .inr (0, [.int d, .int (nI t), .ref qo, .ref qw, .ref qc, .ref qn, .ref qm, .ref ql, .int ll2])), (qo, .inl (k1, 200, .inr (.inl fo))), (qw, .inl (k2, 200, .inr (.inl fw))), (qc, .inl (k3, 200, .inr (.inl fc))), (qn, .inl (k4, 200, .inr (.inl fn))), (qm, .inl (k5, 200, .inr (.inl fm))), (ql, .inl (k6, 104, .inl gl)), (g0, .inr (1, [.long (lN T), .ref a1, .int (nI k), .ref a2, .ref a3, .int (nI n), .ref a4])), (a1, .inl (i1, 200, .inr (.inl O))), (a2, .inl (i2, 520, .inl mo)), (a3, .inl (i3, 520, .inr (.inl mb))), (a4, .inl (i4, 120, .inl tx))] := hD
  have hwx := hw
  refine lv_aload_n hx hb dL_law_331 rfl (lv_at hl 2 rfl) ?_
  refine lv_aload_n hx hb dL_law_332 rfl (lv_at hl 0 rfl) ?_
  refine lv_iload_n hx hb dL_law_333 rfl (lv_at hl 3 rfl) ?_
  refine lv_iconst (v := 1) hx hb dL_law_334 (by decide) ?_
  refine lv_iadd hx hb dL_law_335 ?_
  refine dk_asi (y := nI (i + 1)) (nI_add i 1) ?_
  refine dk_sld hx hb hX hbl hbA hS (j := i + 1) (by omega) (by omega) dL_law_336 ?_
  have hPc := hP.sub (ws' := [(g0, .inr (1, [.long (lN T), .ref a1, .int (nI k), .ref a2, .ref a3, .int (nI n), .ref a4])), (a1, .inl (i1, 200, .inr (.inl O))), (a2, .inl (i2, 520, .inl mo)), (a3, .inl (i3, 520, .inr (.inl mb))), (a4, .inl (i4, 120, .inl tx))]) [7, 8, 9, 10, 11] rfl
  have hDc := hD.sub (ws' := [(g0, .inr (1, [.long (lN T), .ref a1, .int (nI k), .ref a2, .ref a3, .int (nI n), .ref a4])), (a1, .inl (i1, 200, .inr (.inl O))), (a2, .inl (i2, 520, .inl mo)), (a3, .inl (i3, 520, .inr (.inl mb))), (a4, .inl (i4, 120, .inl tx))]) [7, 8, 9, 10, 11] (by decide) rfl
  have hFc := va_free (wc := [(g0, .inr (1, [.long (lN T), .ref a1, .int (nI k), .ref a2, .ref a3, .int (nI n), .ref a4])), (a1, .inl (i1, 200, .inr (.inl O))), (a2, .inl (i2, 520, .inl mo)), (a3, .inl (i3, 520, .inr (.inl mb))), (a4, .inl (i4, 120, .inl tx))]) hD hS hA [7, 8, 9, 10, 11] rfl
  have hKc := hK.sub (tys' := [(i1, .long), (i2, .int), (i3, .long), (i4, .int)]) [6, 7, 8, 9] rfl
  refine va_calli (va_runV (As := [.int (xs (i + 1))]) (rest := [.int rx]) ⟨hx, hb, hml, hown, hts⟩ (cY_write l dC dI _ g0 a1 a2 a3 a4 i1 i2 i3 i4 (lN T) k (by omega) (nI n) O mo mb tx (xs (i + 1))) (cwV 1 hts gL_law_X1_write rfl rfl rfl (by decide +kernel) ⟨Nat.le_of_ble_eq_true rfl, Nat.le_of_ble_eq_true rfl⟩) (dk_wV hPc hKc hDc (ci := 1) (q0 := 0) rfl rfl) rfl rfl hl.1 rfl (lv_room (Nat.le_of_ble_eq_true rfl)) dL_law_337 ⟨Nat.le_of_ble_eq_true rfl, Nat.le_of_ble_eq_true rfl⟩) hS (fun q _ h => hFc q h) hFc (fun ry u8 t8 H1 locs ht8 hvm8 hw hB hz1 hk1 hS => ?_)
  try dsimp only at hw
  obtain ⟨w2, tx2⟩ := u8
  try dsimp only at hw hB
  obtain ⟨hP1, hD1⟩ := hB
  rw [ht8] at hP1
  obtain ⟨hP, hD⟩ := va_join (wr := [(h0, .inr (0, [.int d, .int (nI t), .ref qo, .ref qw, .ref qc, .ref qn, .ref qm, .ref ql, .int ll2])), (qo, .inl (k1, 200, .inr (.inl fo))), (qw, .inl (k2, 200, .inr (.inl fw))), (qc, .inl (k3, 200, .inr (.inl fc))), (qn, .inl (k4, 200, .inr (.inl fn))), (qm, .inl (k5, 200, .inr (.inl fm))), (ql, .inl (k6, 104, .inl gl))]) (w1 := [(g0, .inr (1, [.long (lN T), .ref a1, .int (nI k), .ref a2, .ref a3, .int w2, .ref a4])), (a1, .inl (i1, 200, .inr (.inl O))), (a2, .inl (i2, 520, .inl mo)), (a3, .inl (i3, 520, .inr (.inl mb))), (a4, .inl (i4, 120, .inl tx2))]) hP hD [7, 8, 9, 10, 11] [0, 1, 2, 3, 4, 5, 6] rfl rfl (by decide) (by decide) hk1 hFc hP1 hD1
  generalize H1 = H at hP hS ⊢
  have hP : va_P (dC, dI) vwCl [(h0, .inr (0, [.int d, .int (nI t), .ref qo, .ref qw, .ref qc, .ref qn, .ref qm, .ref ql, .int ll2])), (qo, .inl (k1, 200, .inr (.inl fo))), (qw, .inl (k2, 200, .inr (.inl fw))), (qc, .inl (k3, 200, .inr (.inl fc))), (qn, .inl (k4, 200, .inr (.inl fn))), (qm, .inl (k5, 200, .inr (.inl fm))), (ql, .inl (k6, 104, .inl gl)), (g0, .inr (1, [.long (lN T), .ref a1, .int (nI k), .ref a2, .ref a3, .int w2, .ref a4])), (a1, .inl (i1, 200, .inr (.inl O))), (a2, .inl (i2, 520, .inl mo)), (a3, .inl (i3, 520, .inr (.inl mb))), (a4, .inl (i4, 120, .inl tx2))] H := hP
  have hD : va_D (fun q : Nat => s.heap.size ≤ q) [(h0, .inr (0, [.int d, .int (nI t), .ref qo, .ref qw, .ref qc, .ref qn, .ref qm, .ref ql, .int ll2])), (qo, .inl (k1, 200, .inr (.inl fo))), (qw, .inl (k2, 200, .inr (.inl fw))), (qc, .inl (k3, 200, .inr (.inl fc))), (qn, .inl (k4, 200, .inr (.inl fn))), (qm, .inl (k5, 200, .inr (.inl fm))), (ql, .inl (k6, 104, .inl gl)), (g0, .inr (1, [.long (lN T), .ref a1, .int (nI k), .ref a2, .ref a3, .int w2, .ref a4])), (a1, .inl (i1, 200, .inr (.inl O))), (a2, .inl (i2, 520, .inl mo)), (a3, .inl (i3, 520, .inr (.inl mb))), (a4, .inl (i4, 120, .inl tx2))] := hD
  have hwy := hw
  obtain ⟨req, n2, rfl, rfl, hI2⟩ := dk_Inv_wr hI hwx hwy
  refine lv_icmp_eq (tgt := 368) hx hb dL_law_340 (by decide) (fun _ => ?_) (fun c9 => absurd req c9)
  exact kk d t n2 fo fw fc fn fm gl T k O mo mb tx2 hI2 H locs hP hD hS ls hl
set_option maxHeartbeats 4000000 in
set_option maxRecDepth 100000 in
/-- the law: at -/
theorem law_at {p : Program} {l : Launch} {e : Env} {s : State} {m : MethodId} {below : List Frame} {meth : Method} {c : Code} {dC : Nat → ClassId} {dI : Nat → Nat → Nat} {b L : Nat} {xs : Nat → Int32} {h0 qo qw qc qn qm ql g0 a1 a2 a3 a4 : Nat} {k1 k2 k3 k4 k5 k6 i1 i2 i3 i4 : ClassId} (hL : L ≤ 2048) (C0 : lw_At p s m meth c b L xs) (hK : va_K (dC, dI) vwCl [(k1, .long), (k2, .long), (k3, .long), (k4, .long), (k5, .long), (k6, .char), (i1, .long), (i2, .int), (i3, .long), (i4, .int)] s) (i q : Nat) (hi : i + 4 ≤ L) (hq : q ≤ 511) (d : Int32) (t n : Nat) (fo fw fc fn fm : Nat → Int64) (fl : Nat → Int32) (T k : Nat) (O : Nat → Int64) (mo : Nat → Int32) (mb : Nat → Int64) (tx : Nat → Int32) (hI : dk_Inv q d t n fo fw fc fn fm fl T k O mo mb tx) (H : Heap) (locs : List Loc) (hP : va_P (dC, dI) vwCl [(h0, .inr (0, [.int d, .int (nI t), .ref qo, .ref qw, .ref qc, .ref qn, .ref qm, .ref ql, .int (nI n)])), (qo, .inl (k1, 200, .inr (.inl fo))), (qw, .inl (k2, 200, .inr (.inl fw))), (qc, .inl (k3, 200, .inr (.inl fc))), (qn, .inl (k4, 200, .inr (.inl fn))), (qm, .inl (k5, 200, .inr (.inl fm))), (ql, .inl (k6, 104, .inl fl)), (g0, .inr (1, [.long (lN T), .ref a1, .int (nI k), .ref a2, .ref a3, .int (nI n), .ref a4])), (a1, .inl (i1, 200, .inr (.inl O))), (a2, .inl (i2, 520, .inl mo)), (a3, .inl (i3, 520, .inr (.inl mb))), (a4, .inl (i4, 120, .inl tx))] H) (hD : va_D (fun q : Nat => s.heap.size ≤ q) [(h0, .inr (0, [.int d, .int (nI t), .ref qo, .ref qw, .ref qc, .ref qn, .ref qm, .ref ql, .int (nI n)])), (qo, .inl (k1, 200, .inr (.inl fo))), (qw, .inl (k2, 200, .inr (.inl fw))), (qc, .inl (k3, 200, .inr (.inl fc))), (qn, .inl (k4, 200, .inr (.inl fn))), (qm, .inl (k5, 200, .inr (.inl fm))), (ql, .inl (k6, 104, .inl fl)), (g0, .inr (1, [.long (lN T), .ref a1, .int (nI k), .ref a2, .ref a3, .int (nI n), .ref a4])), (a1, .inl (i1, 200, .inr (.inl O))), (a2, .inl (i2, 520, .inl mo)), (a3, .inl (i3, 520, .inr (.inl mb))), (a4, .inl (i4, 120, .inl tx))]) (hS : va_S (fun q : Nat => s.heap.size ≤ q) s.heap H locs) (ls : Array Slot) (hl : lv_has ls 4 [(0, .ref b), (1, .ref h0), (2, .ref g0), (3, .int (nI i))]) (kk : ∀ (d : Int32) (t n : Nat) (fo fw fc fn fm : Nat → Int64) (fl : Nat → Int32) (T k : Nat) (O : Nat → Int64) (mo : Nat → Int32) (mb : Nat → Int64) (tx : Nat → Int32), dk_Inv (q + 1) d t n fo fw fc fn fm fl T k O mo mb tx → ∀ (H : Heap) (locs : List Loc), va_P (dC, dI) vwCl [(h0, .inr (0, [.int d, .int (nI t), .ref qo, .ref qw, .ref qc, .ref qn, .ref qm, .ref ql, .int (nI n)])), (qo, .inl (k1, 200, .inr (.inl fo))), (qw, .inl (k2, 200, .inr (.inl fw))), (qc, .inl (k3, 200, .inr (.inl fc))), (qn, .inl (k4, 200, .inr (.inl fn))), (qm, .inl (k5, 200, .inr (.inl fm))), (ql, .inl (k6, 104, .inl fl)), (g0, .inr (1, [.long (lN T), .ref a1, .int (nI k), .ref a2, .ref a3, .int (nI n), .ref a4])), (a1, .inl (i1, 200, .inr (.inl O))), (a2, .inl (i2, 520, .inl mo)), (a3, .inl (i3, 520, .inr (.inl mb))), (a4, .inl (i4, 120, .inl tx))] H → va_D (fun q : Nat => s.heap.size ≤ q) [(h0, .inr (0, [.int d, .int (nI t), .ref qo, .ref qw, .ref qc, .ref qn, .ref qm, .ref ql, .int (nI n)])), (qo, .inl (k1, 200, .inr (.inl fo))), (qw, .inl (k2, 200, .inr (.inl fw))), (qc, .inl (k3, 200, .inr (.inl fc))), (qn, .inl (k4, 200, .inr (.inl fn))), (qm, .inl (k5, 200, .inr (.inl fm))), (ql, .inl (k6, 104, .inl fl)), (g0, .inr (1, [.long (lN T), .ref a1, .int (nI k), .ref a2, .ref a3, .int (nI n), .ref a4])), (a1, .inl (i1, 200, .inr (.inl O))), (a2, .inl (i2, 520, .inl mo)), (a3, .inl (i3, 520, .inr (.inl mb))), (a4, .inl (i4, 120, .inl tx))] → va_S (fun q : Nat => s.heap.size ≤ q) s.heap H locs → ∀ ls : Array Slot, lv_has ls 4 [(0, .ref b), (1, .ref h0), (2, .ref g0), (3, .int (nI i))] → W p l e room_1 s m #[Value.ref b] below meth c H locs 12 2480 (lw_Z below #[Value.ref b] s) (F0 m 368 ls [])) : W p l e room_1 s m #[Value.ref b] below meth c H locs 12 2480 (lw_Z below #[Value.ref b] s) (F0 m 345 ls []) := by
  obtain ⟨hx, hb, hr, hml, hown0, hts0, hX, hbl, hlocks, hgv⟩ := C0
  have hts : ∀ w ∈ wsL_law, w.before #[Value.ref b] s = true := fun w h => hts0 w (wsL_law_in w h)
  have hown : s.vm.findClass RL = some m.cls := hown0
  have hA : ∀ q : Nat, s.heap.size ≤ q → (fun q : Nat => s.heap.size ≤ q) q := fun _ h => h
  have hbA : ¬ (fun q : Nat => s.heap.size ≤ q) b := Nat.not_le.mpr hbl
  obtain ⟨v1, v2, v3, v4, v5, v6, v7⟩ := id hI
  have ht9 : t < 1000 := by rw [v1]; exact Nat.mod_lt _ (by decide)
  have hT9 : T ≤ 51100000 := Nat.le_trans v3 (Nat.mul_le_mul_right 100000 hq)
  refine lv_aload_n hx hb dL_law_345 rfl (lv_at hl 1 rfl) ?_
  refine lv_aload_n hx hb dL_law_346 rfl (lv_at hl 0 rfl) ?_
  refine lv_iload_n hx hb dL_law_347 rfl (lv_at hl 3 rfl) ?_
  refine lv_iconst (v := 1) hx hb dL_law_348 (by decide) ?_
  refine lv_iadd hx hb dL_law_349 ?_
  refine dk_asi (y := nI (i + 1)) (nI_add i 1) ?_
  refine dk_sld hx hb hX hbl hbA hS (j := i + 1) (by omega) (by omega) dL_law_350 ?_
  have hPc := hP.sub (ws' := [(h0, .inr (0, [.int d, .int (nI t), .ref qo, .ref qw, .ref qc, .ref qn, .ref qm, .ref ql, .int (nI n)])), (ql, .inl (k6, 104, .inl fl))]) [0, 6] rfl
  have hKc := hK.sub (tys' := [(k6, .char)]) [5] rfl
  refine va_calli (va_runV (As := [.int (xs (i + 1))]) (rest := []) ⟨hx, hb, hml, hown, hts⟩ (cX_at l dC dI h0 qo qw qc qn qm ql k6 d (nI t) n v5 fl (xs (i + 1))) (cwV 1 hts gL_law_X0_at rfl rfl rfl (by decide +kernel) ⟨Nat.le_of_ble_eq_true rfl, Nat.le_of_ble_eq_true rfl⟩) (dk_rV hPc hKc (ci := 0) (q0 := 0) rfl rfl) rfl rfl hl.1 rfl (lv_room (Nat.le_of_ble_eq_true rfl)) dL_law_351 ⟨Nat.le_of_ble_eq_true rfl, Nat.le_of_ble_eq_true rfl⟩) hS (fun q _ h => False.elim h) (fun q h => False.elim h) (fun rx u8 t8 H1 locs ht8 hvm8 hw hB hz1 hk1 hS => ?_)
  try dsimp only at hw
  have hP := dk_kept hP hk1
  generalize H1 = H at hP hS ⊢
  have hwx := hw
  refine lv_aload_n hx hb dL_law_354 rfl (lv_at hl 2 rfl) ?_
  refine lv_aload_n hx hb dL_law_355 rfl (lv_at hl 0 rfl) ?_
  refine lv_iload_n hx hb dL_law_356 rfl (lv_at hl 3 rfl) ?_
  refine lv_iconst (v := 1) hx hb dL_law_357 (by decide) ?_
  refine lv_iadd hx hb dL_law_358 ?_
  refine dk_asi (y := nI (i + 1)) (nI_add i 1) ?_
  refine dk_sld hx hb hX hbl hbA hS (j := i + 1) (by omega) (by omega) dL_law_359 ?_
  have hPc := hP.sub (ws' := [(g0, .inr (1, [.long (lN T), .ref a1, .int (nI k), .ref a2, .ref a3, .int (nI n), .ref a4])), (a4, .inl (i4, 120, .inl tx))]) [7, 11] rfl
  have hKc := hK.sub (tys' := [(i4, .int)]) [9] rfl
  refine va_calli (va_runV (As := [.int (xs (i + 1))]) (rest := [.int rx]) ⟨hx, hb, hml, hown, hts⟩ (cY_at l dC dI g0 a1 a2 a3 a4 i4 (lN T) (nI k) n v5 tx (xs (i + 1))) (cwV 1 hts gL_law_X1_at rfl rfl rfl (by decide +kernel) ⟨Nat.le_of_ble_eq_true rfl, Nat.le_of_ble_eq_true rfl⟩) (dk_rV hPc hKc (ci := 1) (q0 := 0) rfl rfl) rfl rfl hl.1 rfl (lv_room (Nat.le_of_ble_eq_true rfl)) dL_law_360 ⟨Nat.le_of_ble_eq_true rfl, Nat.le_of_ble_eq_true rfl⟩) hS (fun q _ h => False.elim h) (fun q h => False.elim h) (fun ry u8 t8 H1 locs ht8 hvm8 hw hB hz1 hk1 hS => ?_)
  try dsimp only at hw
  have hP := dk_kept hP hk1
  generalize H1 = H at hP hS ⊢
  have hwy := hw
  have req : rx = ry := dk_at_eq (by omega) v6 hwx hwy
  refine lv_icmp_eq (tgt := 368) hx hb dL_law_363 (by decide) (fun _ => ?_) (fun c9 => absurd req c9)
  exact kk d t n fo fw fc fn fm fl T k O mo mb tx (dk_Inv_mono (Nat.le_succ q) hI) H locs hP hD hS ls hl
end
section
theorem dk_lawc {L i : Nat} (hL : L ≤ 2048) (hi : i ≤ 2048) (h : ¬ (nI L - 4 : Int32) < nI i) : i + 4 ≤ L := by
  have a : (nI L - nI 4).toInt = (L : Int) - 4 := pk_sub_toInt (by omega) (by omega)
  have b : ¬ (nI L - nI 4) < nI i := h
  rw [Int32.lt_iff_toInt_lt, a, nI_toInt (by omega)] at b
  omega
set_option maxHeartbeats 4000000 in
set_option maxRecDepth 100000 in
/-- THE LAW'S LOOP: at its head, with q calls made, the class and the reference agree -/
theorem law_loop {p : Program} {l : Launch} {e : Env} {s : State} {m : MethodId} {below : List Frame} {meth : Method} {c : Code} {dC : Nat → ClassId} {dI : Nat → Nat → Nat} {b L : Nat} {xs : Nat → Int32} {h0 qo qw qc qn qm ql g0 a1 a2 a3 a4 : Nat} {k1 k2 k3 k4 k5 k6 i1 i2 i3 i4 : ClassId} (hL : L ≤ 2048) (C0 : lw_At p s m meth c b L xs) (hK : va_K (dC, dI) vwCl [(k1, .long), (k2, .long), (k3, .long), (k4, .long), (k5, .long), (k6, .char), (i1, .long), (i2, .int), (i3, .long), (i4, .int)] s) : ∀ (f i q : Nat), i = 4 * q → i ≤ 2048 → 2052 ≤ i + 4 * f → ∀ (d : Int32) (t n : Nat) (fo fw fc fn fm : Nat → Int64) (fl : Nat → Int32) (T k : Nat) (O : Nat → Int64) (mo : Nat → Int32) (mb : Nat → Int64) (tx : Nat → Int32), dk_Inv q d t n fo fw fc fn fm fl T k O mo mb tx → ∀ (H : Heap) (locs : List Loc), va_P (dC, dI) vwCl [(h0, .inr (0, [.int d, .int (nI t), .ref qo, .ref qw, .ref qc, .ref qn, .ref qm, .ref ql, .int (nI n)])), (qo, .inl (k1, 200, .inr (.inl fo))), (qw, .inl (k2, 200, .inr (.inl fw))), (qc, .inl (k3, 200, .inr (.inl fc))), (qn, .inl (k4, 200, .inr (.inl fn))), (qm, .inl (k5, 200, .inr (.inl fm))), (ql, .inl (k6, 104, .inl fl)), (g0, .inr (1, [.long (lN T), .ref a1, .int (nI k), .ref a2, .ref a3, .int (nI n), .ref a4])), (a1, .inl (i1, 200, .inr (.inl O))), (a2, .inl (i2, 520, .inl mo)), (a3, .inl (i3, 520, .inr (.inl mb))), (a4, .inl (i4, 120, .inl tx))] H → va_D (fun q : Nat => s.heap.size ≤ q) [(h0, .inr (0, [.int d, .int (nI t), .ref qo, .ref qw, .ref qc, .ref qn, .ref qm, .ref ql, .int (nI n)])), (qo, .inl (k1, 200, .inr (.inl fo))), (qw, .inl (k2, 200, .inr (.inl fw))), (qc, .inl (k3, 200, .inr (.inl fc))), (qn, .inl (k4, 200, .inr (.inl fn))), (qm, .inl (k5, 200, .inr (.inl fm))), (ql, .inl (k6, 104, .inl fl)), (g0, .inr (1, [.long (lN T), .ref a1, .int (nI k), .ref a2, .ref a3, .int (nI n), .ref a4])), (a1, .inl (i1, 200, .inr (.inl O))), (a2, .inl (i2, 520, .inl mo)), (a3, .inl (i3, 520, .inr (.inl mb))), (a4, .inl (i4, 120, .inl tx))] → va_S (fun q : Nat => s.heap.size ≤ q) s.heap H locs → ∀ ls : Array Slot, lv_has ls 4 [(0, .ref b), (1, .ref h0), (2, .ref g0), (3, .int (nI i))] → W p l e room_1 s m #[Value.ref b] below meth c H locs 12 2480 (lw_Z below #[Value.ref b] s) (F0 m 18 ls []) := by
  have C1 := C0
  obtain ⟨hx, hb, hr, hml, hown0, hts0, hX, hbl, hlocks, hgv⟩ := C0
  have hts : ∀ w ∈ wsL_law, w.before #[Value.ref b] s = true := fun w h => hts0 w (wsL_law_in w h)
  have hown : s.vm.findClass RL = some m.cls := hown0
  have hA : ∀ q : Nat, s.heap.size ≤ q → (fun q : Nat => s.heap.size ≤ q) q := fun _ h => h
  have hbA : ¬ (fun q : Nat => s.heap.size ≤ q) b := Nat.not_le.mpr hbl
  intro f
  induction f with
  | zero => intro i q hiq hi hf; exact absurd hf (by omega)
  | succ f ih =>
    intro i q hiq hi hf d t n fo fw fc fn fm fl T k O mo mb tx hI H locs hP hD hS ls hl
    refine lv_iload_n hx hb dL_law_18 rfl (lv_at hl 3 rfl) ?_
    refine lv_aload_n hx hb dL_law_19 rfl (lv_at hl 0 rfl) ?_
    refine va_slen hx hb hX hbl hbA hS dL_law_20 ?_
    refine lv_iconst (v := 4) hx hb dL_law_21 (by decide) ?_
    refine lv_isub hx hb dL_law_22 ?_
    refine dk_asi (y := nI L - 4) (rfl) ?_
    refine lv_icmp_gt (tgt := 374) hx hb dL_law_23 (by decide) (fun c_23 => ?_) (fun c_23 => ?_)
    · refine lv_iconst (v := 1) hx hb dL_law_374 (by decide) ?_
      refine va_forget (fun q hq => hS.2.2 q hq) ?_
      exact lw_ret hx hb hr hlocks dL_law_375
    · have hiL : i + 4 ≤ L := dk_lawc hL hi c_23
      have kk : ∀ (d : Int32) (t n : Nat) (fo fw fc fn fm : Nat → Int64) (fl : Nat → Int32) (T k : Nat) (O : Nat → Int64) (mo : Nat → Int32) (mb : Nat → Int64) (tx : Nat → Int32), dk_Inv (q + 1) d t n fo fw fc fn fm fl T k O mo mb tx → ∀ (H : Heap) (locs : List Loc), va_P (dC, dI) vwCl [(h0, .inr (0, [.int d, .int (nI t), .ref qo, .ref qw, .ref qc, .ref qn, .ref qm, .ref ql, .int (nI n)])), (qo, .inl (k1, 200, .inr (.inl fo))), (qw, .inl (k2, 200, .inr (.inl fw))), (qc, .inl (k3, 200, .inr (.inl fc))), (qn, .inl (k4, 200, .inr (.inl fn))), (qm, .inl (k5, 200, .inr (.inl fm))), (ql, .inl (k6, 104, .inl fl)), (g0, .inr (1, [.long (lN T), .ref a1, .int (nI k), .ref a2, .ref a3, .int (nI n), .ref a4])), (a1, .inl (i1, 200, .inr (.inl O))), (a2, .inl (i2, 520, .inl mo)), (a3, .inl (i3, 520, .inr (.inl mb))), (a4, .inl (i4, 120, .inl tx))] H → va_D (fun q : Nat => s.heap.size ≤ q) [(h0, .inr (0, [.int d, .int (nI t), .ref qo, .ref qw, .ref qc, .ref qn, .ref qm, .ref ql, .int (nI n)])), (qo, .inl (k1, 200, .inr (.inl fo))), (qw, .inl (k2, 200, .inr (.inl fw))), (qc, .inl (k3, 200, .inr (.inl fc))), (qn, .inl (k4, 200, .inr (.inl fn))), (qm, .inl (k5, 200, .inr (.inl fm))), (ql, .inl (k6, 104, .inl fl)), (g0, .inr (1, [.long (lN T), .ref a1, .int (nI k), .ref a2, .ref a3, .int (nI n), .ref a4])), (a1, .inl (i1, 200, .inr (.inl O))), (a2, .inl (i2, 520, .inl mo)), (a3, .inl (i3, 520, .inr (.inl mb))), (a4, .inl (i4, 120, .inl tx))] → va_S (fun q : Nat => s.heap.size ≤ q) s.heap H locs → ∀ ls : Array Slot, lv_has ls 4 [(0, .ref b), (1, .ref h0), (2, .ref g0), (3, .int (nI i))] → W p l e room_1 s m #[Value.ref b] below meth c H locs 12 2480 (lw_Z below #[Value.ref b] s) (F0 m 368 ls []) := by
        intro d t n fo fw fc fn fm fl T k O mo mb tx hI H locs hP hD hS ls hl
        refine lv_iinc (v := nI (i + 4)) (lv' := [(3, .int (nI (i + 4))), (0, .ref b), (1, .ref h0), (2, .ref g0)]) hx hb dL_law_368 hl (k := 3) rfl (by rw [show Int32.ofInt 4 = nI 4 from by decide]; exact nI_add i 4) (by decide) rfl (fun ls hl => ?_)
        refine lv_goto (tgt := 18) hx hb dL_law_371 (by decide) ?_
        exact ih (i + 4) (q + 1) (by omega) (by omega) (by omega) d t n fo fw fc fn fm fl T k O mo mb tx hI H locs hP hD hS ls (lv_sub hl [1, 2, 3, 0] rfl)
      refine lv_aload_n hx hb dL_law_26 rfl (lv_at hl 0 rfl) ?_
      refine lv_iload_n hx hb dL_law_27 rfl (lv_at hl 3 rfl) ?_
      refine dk_sld hx hb hX hbl hbA hS (j := i) (by omega) (by omega) dL_law_28 ?_
      refine lv_bipush (v := 15) hx hb dL_law_29 (by decide) ?_
      refine lv_iand hx hb dL_law_31 ?_
      obtain ⟨o, ho, eo⟩ := pk_andE (xs i) (m := 15) 4 (by decide)
      refine dk_asi eo ?_
      rcases (show o = 0 ∨ o = 1 ∨ o = 2 ∨ o = 3 ∨ o = 4 ∨ o = 5 ∨ o = 6 ∨ o = 7 ∨ o = 8 ∨ 9 ≤ o by omega) with rfl | rfl | rfl | rfl | rfl | rfl | rfl | rfl | rfl | h9
      · refine lv_tableIn (tgt := 84) (off := 52) hx hb dL_law_32 (by decide) (by decide) (by decide) (by decide) ?_
        exact law_pass hL C1 hK i q hiL (by omega) d t n fo fw fc fn fm fl T k O mo mb tx hI H locs hP hD hS ls hl kk
      · refine lv_tableIn (tgt := 97) (off := 65) hx hb dL_law_32 (by decide) (by decide) (by decide) (by decide) ?_
        exact law_skip hL C1 hK i q hiL (by omega) d t n fo fw fc fn fm fl T k O mo mb tx hI H locs hP hD hS ls hl kk
      · refine lv_tableIn (tgt := 120) (off := 88) hx hb dL_law_32 (by decide) (by decide) (by decide) (by decide) ?_
        exact law_may hL C1 hK i q hiL (by omega) d t n fo fw fc fn fm fl T k O mo mb tx hI H locs hP hD hS ls hl kk
      · refine lv_tableIn (tgt := 179) (off := 147) hx hb dL_law_32 (by decide) (by decide) (by decide) (by decide) ?_
        exact law_look hL C1 hK i q hiL (by omega) d t n fo fw fc fn fm fl T k O mo mb tx hI H locs hP hD hS ls hl kk
      · refine lv_tableIn (tgt := 202) (off := 170) hx hb dL_law_32 (by decide) (by decide) (by decide) (by decide) ?_
        exact law_move hL C1 hK i q hiL (by omega) d t n fo fw fc fn fm fl T k O mo mb tx hI H locs hP hD hS ls hl kk
      · refine lv_tableIn (tgt := 265) (off := 233) hx hb dL_law_32 (by decide) (by decide) (by decide) (by decide) ?_
        exact law_row hL C1 hK i q hiL (by omega) d t n fo fw fc fn fm fl T k O mo mb tx hI H locs hP hD hS ls hl kk
      · refine lv_tableIn (tgt := 299) (off := 267) hx hb dL_law_32 (by decide) (by decide) (by decide) (by decide) ?_
        exact law_isTold hL C1 hK i q hiL (by omega) d t n fo fw fc fn fm fl T k O mo mb tx hI H locs hP hD hS ls hl kk
      · refine lv_tableIn (tgt := 322) (off := 290) hx hb dL_law_32 (by decide) (by decide) (by decide) (by decide) ?_
        exact law_write hL C1 hK i q hiL (by omega) d t n fo fw fc fn fm fl T k O mo mb tx hI H locs hP hD hS ls hl kk
      · refine lv_tableIn (tgt := 345) (off := 313) hx hb dL_law_32 (by decide) (by decide) (by decide) (by decide) ?_
        exact law_at hL C1 hK i q hiL (by omega) d t n fo fw fc fn fm fl T k O mo mb tx hI H locs hP hD hS ls hl kk
      · refine lv_tableOut (tgt := 368) hx hb dL_law_32 (by right; rw [nI_toInt (by omega)]; omega) (by decide) ?_
        exact kk d t n fo fw fc fn fm fl T k O mo mb tx (dk_Inv_mono (Nat.le_succ q) hI) H locs hP hD hS ls hl
end
section
theorem dk_Inv0 : dk_Inv 0 0 0 0 (fun _ => 0) (fun _ => 0) (fun _ => 0) (fun _ => 0) (fun _ => 0) (fun _ => 0) 0 0 (fun _ => 0) (fun _ => 0) (fun _ => 0) (fun _ => 0) := by
  refine ⟨rfl, by decide, Nat.le_refl _, Nat.le_refl _, Nat.zero_le _, fun i h => absurd h (Nat.not_lt_zero _), fun j hj => ⟨⟨rfl, rfl, rfl, ?_, rfl⟩, dk_in0, dk_in0, dk_in0, dk_in0⟩⟩
  rw [dk_y3_0]
set_option maxHeartbeats 4000000 in
set_option maxRecDepth 100000 in
theorem whole_start {p : Program} {e : Env} {s : State} {m : MethodId} {below : List Frame} {meth : Method} {c : Code} (l : Launch) {b L : Nat} {xs : Nat → Int32} (hL : L ≤ 2048) (C0 : lw_At p s m meth c b L xs) : W p l e room_1 s m #[Value.ref b] below meth c s.heap [] 0 0 (lw_Z below #[Value.ref b] s) (entryFrame m ([Value.ref b] : List Value).toArray 4) := by
  have C1 := C0
  obtain ⟨hx, hb, hr, hml, hown0, hts0, hX, hbl, hlocks, hgv⟩ := C0
  have hts : ∀ w ∈ wsL_law, w.before #[Value.ref b] s = true := fun w h => hts0 w (wsL_law_in w h)
  have hown : s.vm.findClass RL = some m.cls := hown0
  have hA : ∀ q : Nat, s.heap.size ≤ q → (fun q : Nat => s.heap.size ≤ q) q := fun _ h => h
  have hbA : ¬ (fun q : Nat => s.heap.size ≤ q) b := Nat.not_le.mpr hbl
  obtain ⟨c0, iS0, hKn0⟩ := u_known (C := RX0) (T := TX0) (N := 9) (n := 9) hts0 inX0 (hts (.instantiable RX0 9) (by decide +kernel))
  obtain ⟨c1, iS1, hKn1⟩ := u_known (C := RX1) (T := TX1) (N := 7) (n := 7) hts0 inX1 (hts (.instantiable RX1 7) (by decide +kernel))
  obtain ⟨dC, dI, hKc0⟩ : ∃ (dC : Nat → ClassId) (dI : Nat → Nat → Nat), ∀ (k : Nat) (q : vw_C), vwCl[k]? = some q → u_Kn s q.1 q.2.1 q.2.2 (dC k) (dI k) := by
    refine ⟨fun k => if k = 0 then c0 else c1, fun k => if k = 0 then iS0 else iS1, ?_⟩
    intro k q hq
    match k, hq with
    | 0, hq => cases hq; exact hKn0
    | 1, hq => cases hq; exact hKn1
    | k + 2, hq => simp [vwCl] at hq
  have hS : va_S (fun q : Nat => s.heap.size ≤ q) s.heap s.heap [] := va_S.rf
  have hK : va_K (dC, dI) vwCl [] s := ⟨hKc0, fun k q h => by simp at h⟩
  have hP : va_P (dC, dI) vwCl [] s.heap := dk_P0
  have hD : va_D (fun q : Nat => s.heap.size ≤ q) [] := dk_D0
  have hl := lv_entry ([.ref b]) (n := 4) (Nat.le_of_ble_eq_true rfl)
  rw [lg_entry_eq]
  generalize (lg_sl ([.ref b]) ++ List.replicate (4 - (lg_sl ([.ref b])).length) Slot.unset).toArray = ls at hl ⊢
  have hl : lv_has ls 4 [(0, .ref b)] := hl
  refine va_new (ci := 0) (fs := [.int 0, .int 0, .null, .null, .null, .null, .null, .null, .int 0]) (C := RX0) (T := TX0) (N := 9) hx hb hts0 inX0 tyX0 tyX0_ok hown (hts (.classLink RL 7 RX0) (by decide +kernel)) (hts (.instantiable RX0 9) (by decide +kernel)) (hts (.initialized RX0) (by decide +kernel)) hK hP hD hS hA rfl (fun j hj => by rcases (show j = 0 ∨ j = 1 ∨ j = 2 ∨ j = 3 ∨ j = 4 ∨ j = 5 ∨ j = 6 ∨ j = 7 ∨ j = 8 by omega) with rfl | rfl | rfl | rfl | rfl | rfl | rfl | rfl | rfl <;> rfl) (Nat.le_of_ble_eq_true rfl) (Nat.le_of_ble_eq_true rfl) dL_law_0 (fun h0 H hP hD hS => ?_)
  have hP : va_P (dC, dI) vwCl [(h0, .inr (0, [.int 0, .int 0, .null, .null, .null, .null, .null, .null, .int 0]))] H := hP
  have hD : va_D (fun q : Nat => s.heap.size ≤ q) [(h0, .inr (0, [.int 0, .int 0, .null, .null, .null, .null, .null, .null, .int 0]))] := hD
  refine W.widen (k := 1) (n := 9) (by decide) (by decide) ?_
  refine lv_dup hx hb dL_law_3 rfl ?_
  have hPc := hP.sub (ws' := [(h0, .inr (0, [.int 0, .int 0, .null, .null, .null, .null, .null, .null, .int 0]))]) [0] rfl
  have hDc := hD.sub (ws' := [(h0, .inr (0, [.int 0, .int 0, .null, .null, .null, .null, .null, .null, .int 0]))]) [0] (by decide) rfl
  have hKc := hK.sub (tys' := []) [] rfl
  have hFc := va_free (wc := [(h0, .inr (0, [.int 0, .int 0, .null, .null, .null, .null, .null, .null, .int 0]))]) hD hS hA [0] rfl
  refine va_callv (va_runI (As := []) (rest := [.ref h0]) ⟨hx, hb, hml, hown, hts⟩ (cX_init l dC dI _ h0) (cwI 0 hts gL_law_X0_init rfl rfl rfl (hts (.initialized RX0) (by decide +kernel)) (hts (.methodLink RL 9 yX0_init) (by decide +kernel)) (hts (.instanceMethod yX0_init) (by decide +kernel)) rfl (by decide +kernel) ⟨Nat.le_of_ble_eq_true rfl, Nat.le_of_ble_eq_true rfl⟩) (dk_wS hPc hKc hDc) rfl rfl hl.1 rfl (lv_room (Nat.le_of_ble_eq_true rfl)) dL_law_4 ⟨Nat.le_of_ble_eq_true rfl, Nat.le_of_ble_eq_true rfl⟩) hS (fun q _ h => hFc q h) hFc (fun u8 t8 H1 locs ht8 hvm8 hw hB hz1 hk1 hS => ?_)
  obtain ⟨qo, qw, qc, qn, qm, ql, k1, k2, k3, k4, k5, k6⟩ := u8
  try dsimp only at hB
  obtain ⟨hP1, hK1, hD1⟩ := hB
  rw [ht8] at hP1
  have hK1 := va_K.moved hvm8.symm hK1
  obtain ⟨hP, hD⟩ := va_join (wr := []) (w1 := [(h0, .inr (0, [.int 0, .int 0, .ref qo, .ref qw, .ref qc, .ref qn, .ref qm, .ref ql, .int 0])), (qo, .inl (k1, 200, .inr (.inl (fun _ => 0)))), (qw, .inl (k2, 200, .inr (.inl (fun _ => 0)))), (qc, .inl (k3, 200, .inr (.inl (fun _ => 0)))), (qn, .inl (k4, 200, .inr (.inl (fun _ => 0)))), (qm, .inl (k5, 200, .inr (.inl (fun _ => 0)))), (ql, .inl (k6, 104, .inl (fun _ => 0)))]) hP hD [0] [] rfl rfl (by decide) (by decide) hk1 hFc hP1 hD1
  have hK := hK.app hK1
  generalize H1 = H at hP hS ⊢
  have hP : va_P (dC, dI) vwCl [(h0, .inr (0, [.int 0, .int 0, .ref qo, .ref qw, .ref qc, .ref qn, .ref qm, .ref ql, .int 0])), (qo, .inl (k1, 200, .inr (.inl (fun _ => 0)))), (qw, .inl (k2, 200, .inr (.inl (fun _ => 0)))), (qc, .inl (k3, 200, .inr (.inl (fun _ => 0)))), (qn, .inl (k4, 200, .inr (.inl (fun _ => 0)))), (qm, .inl (k5, 200, .inr (.inl (fun _ => 0)))), (ql, .inl (k6, 104, .inl (fun _ => 0)))] H := hP
  have hD : va_D (fun q : Nat => s.heap.size ≤ q) [(h0, .inr (0, [.int 0, .int 0, .ref qo, .ref qw, .ref qc, .ref qn, .ref qm, .ref ql, .int 0])), (qo, .inl (k1, 200, .inr (.inl (fun _ => 0)))), (qw, .inl (k2, 200, .inr (.inl (fun _ => 0)))), (qc, .inl (k3, 200, .inr (.inl (fun _ => 0)))), (qn, .inl (k4, 200, .inr (.inl (fun _ => 0)))), (qm, .inl (k5, 200, .inr (.inl (fun _ => 0)))), (ql, .inl (k6, 104, .inl (fun _ => 0)))] := hD
  have hK : va_K (dC, dI) vwCl [(k1, .long), (k2, .long), (k3, .long), (k4, .long), (k5, .long), (k6, .char)] s := hK
  refine W.widen (k := 7) (n := 1113) (by decide) (by decide) ?_
  refine lv_astore_n (lv' := [(1, .ref h0), (0, .ref b)]) hx hb dL_law_7 rfl hl (by decide) rfl (fun ls hl => ?_)
  refine va_new (ci := 1) (fs := [.long 0, .null, .int 0, .null, .null, .int 0, .null]) (C := RX1) (T := TX1) (N := 7) hx hb hts0 inX1 tyX1 tyX1_ok hown (hts (.classLink RL 10 RX1) (by decide +kernel)) (hts (.instantiable RX1 7) (by decide +kernel)) (hts (.initialized RX1) (by decide +kernel)) hK hP hD hS hA rfl (fun j hj => by rcases (show j = 0 ∨ j = 1 ∨ j = 2 ∨ j = 3 ∨ j = 4 ∨ j = 5 ∨ j = 6 by omega) with rfl | rfl | rfl | rfl | rfl | rfl | rfl <;> rfl) (Nat.le_of_ble_eq_true rfl) (Nat.le_of_ble_eq_true rfl) dL_law_8 (fun g0 H hP hD hS => ?_)
  have hP : va_P (dC, dI) vwCl [(h0, .inr (0, [.int 0, .int 0, .ref qo, .ref qw, .ref qc, .ref qn, .ref qm, .ref ql, .int 0])), (qo, .inl (k1, 200, .inr (.inl (fun _ => 0)))), (qw, .inl (k2, 200, .inr (.inl (fun _ => 0)))), (qc, .inl (k3, 200, .inr (.inl (fun _ => 0)))), (qn, .inl (k4, 200, .inr (.inl (fun _ => 0)))), (qm, .inl (k5, 200, .inr (.inl (fun _ => 0)))), (ql, .inl (k6, 104, .inl (fun _ => 0))), (g0, .inr (1, [.long 0, .null, .int 0, .null, .null, .int 0, .null]))] H := hP
  have hD : va_D (fun q : Nat => s.heap.size ≤ q) [(h0, .inr (0, [.int 0, .int 0, .ref qo, .ref qw, .ref qc, .ref qn, .ref qm, .ref ql, .int 0])), (qo, .inl (k1, 200, .inr (.inl (fun _ => 0)))), (qw, .inl (k2, 200, .inr (.inl (fun _ => 0)))), (qc, .inl (k3, 200, .inr (.inl (fun _ => 0)))), (qn, .inl (k4, 200, .inr (.inl (fun _ => 0)))), (qm, .inl (k5, 200, .inr (.inl (fun _ => 0)))), (ql, .inl (k6, 104, .inl (fun _ => 0))), (g0, .inr (1, [.long 0, .null, .int 0, .null, .null, .int 0, .null]))] := hD
  refine W.widen (k := 8) (n := 1120) (by decide) (by decide) ?_
  refine lv_dup hx hb dL_law_11 rfl ?_
  have hPc := hP.sub (ws' := [(g0, .inr (1, [.long 0, .null, .int 0, .null, .null, .int 0, .null]))]) [7] rfl
  have hDc := hD.sub (ws' := [(g0, .inr (1, [.long 0, .null, .int 0, .null, .null, .int 0, .null]))]) [7] (by decide) rfl
  have hKc := hK.sub (tys' := []) [] rfl
  have hFc := va_free (wc := [(g0, .inr (1, [.long 0, .null, .int 0, .null, .null, .int 0, .null]))]) hD hS hA [7] rfl
  refine va_callv (va_runI (As := []) (rest := [.ref g0]) ⟨hx, hb, hml, hown, hts⟩ (cY_init l dC dI _ g0) (cwI 0 hts gL_law_X1_init rfl rfl rfl (hts (.initialized RX1) (by decide +kernel)) (hts (.methodLink RL 12 yX1_init) (by decide +kernel)) (hts (.instanceMethod yX1_init) (by decide +kernel)) rfl (by decide +kernel) ⟨Nat.le_of_ble_eq_true rfl, Nat.le_of_ble_eq_true rfl⟩) (dk_wS hPc hKc hDc) rfl rfl hl.1 rfl (lv_room (Nat.le_of_ble_eq_true rfl)) dL_law_12 ⟨Nat.le_of_ble_eq_true rfl, Nat.le_of_ble_eq_true rfl⟩) hS (fun q _ h => hFc q h) hFc (fun u8 t8 H1 locs ht8 hvm8 hw hB hz1 hk1 hS => ?_)
  obtain ⟨a1, a2, a3, a4, i1, i2, i3, i4⟩ := u8
  try dsimp only at hB
  obtain ⟨hP1, hK1, hD1⟩ := hB
  rw [ht8] at hP1
  have hK1 := va_K.moved hvm8.symm hK1
  obtain ⟨hP, hD⟩ := va_join (wr := [(h0, .inr (0, [.int 0, .int 0, .ref qo, .ref qw, .ref qc, .ref qn, .ref qm, .ref ql, .int 0])), (qo, .inl (k1, 200, .inr (.inl (fun _ => 0)))), (qw, .inl (k2, 200, .inr (.inl (fun _ => 0)))), (qc, .inl (k3, 200, .inr (.inl (fun _ => 0)))), (qn, .inl (k4, 200, .inr (.inl (fun _ => 0)))), (qm, .inl (k5, 200, .inr (.inl (fun _ => 0)))), (ql, .inl (k6, 104, .inl (fun _ => 0)))]) (w1 := [(g0, .inr (1, [.long 0, .ref a1, .int 0, .ref a2, .ref a3, .int 0, .ref a4])), (a1, .inl (i1, 200, .inr (.inl (fun _ => 0)))), (a2, .inl (i2, 520, .inl (fun _ => 0))), (a3, .inl (i3, 520, .inr (.inl (fun _ => 0)))), (a4, .inl (i4, 120, .inl (fun _ => 0)))]) hP hD [7] [0, 1, 2, 3, 4, 5, 6] rfl rfl (by decide) (by decide) hk1 hFc hP1 hD1
  have hK := hK.app hK1
  generalize H1 = H at hP hS ⊢
  have hP : va_P (dC, dI) vwCl [(h0, .inr (0, [.int 0, .int 0, .ref qo, .ref qw, .ref qc, .ref qn, .ref qm, .ref ql, .int 0])), (qo, .inl (k1, 200, .inr (.inl (fun _ => 0)))), (qw, .inl (k2, 200, .inr (.inl (fun _ => 0)))), (qc, .inl (k3, 200, .inr (.inl (fun _ => 0)))), (qn, .inl (k4, 200, .inr (.inl (fun _ => 0)))), (qm, .inl (k5, 200, .inr (.inl (fun _ => 0)))), (ql, .inl (k6, 104, .inl (fun _ => 0))), (g0, .inr (1, [.long 0, .ref a1, .int 0, .ref a2, .ref a3, .int 0, .ref a4])), (a1, .inl (i1, 200, .inr (.inl (fun _ => 0)))), (a2, .inl (i2, 520, .inl (fun _ => 0))), (a3, .inl (i3, 520, .inr (.inl (fun _ => 0)))), (a4, .inl (i4, 120, .inl (fun _ => 0)))] H := hP
  have hD : va_D (fun q : Nat => s.heap.size ≤ q) [(h0, .inr (0, [.int 0, .int 0, .ref qo, .ref qw, .ref qc, .ref qn, .ref qm, .ref ql, .int 0])), (qo, .inl (k1, 200, .inr (.inl (fun _ => 0)))), (qw, .inl (k2, 200, .inr (.inl (fun _ => 0)))), (qc, .inl (k3, 200, .inr (.inl (fun _ => 0)))), (qn, .inl (k4, 200, .inr (.inl (fun _ => 0)))), (qm, .inl (k5, 200, .inr (.inl (fun _ => 0)))), (ql, .inl (k6, 104, .inl (fun _ => 0))), (g0, .inr (1, [.long 0, .ref a1, .int 0, .ref a2, .ref a3, .int 0, .ref a4])), (a1, .inl (i1, 200, .inr (.inl (fun _ => 0)))), (a2, .inl (i2, 520, .inl (fun _ => 0))), (a3, .inl (i3, 520, .inr (.inl (fun _ => 0)))), (a4, .inl (i4, 120, .inl (fun _ => 0)))] := hD
  have hK : va_K (dC, dI) vwCl [(k1, .long), (k2, .long), (k3, .long), (k4, .long), (k5, .long), (k6, .char), (i1, .long), (i2, .int), (i3, .long), (i4, .int)] s := hK
  refine W.widen (k := 12) (n := 2480) (by decide) (by decide) ?_
  refine lv_astore_n (lv' := [(2, .ref g0), (1, .ref h0), (0, .ref b)]) hx hb dL_law_15 rfl hl (by decide) rfl (fun ls hl => ?_)
  refine lv_iconst (v := nI 0) hx hb dL_law_16 (by decide) ?_
  refine lv_istore_n (lv' := [(3, .int (nI 0)), (2, .ref g0), (1, .ref h0), (0, .ref b)]) hx hb dL_law_17 rfl hl (by decide) rfl (fun ls hl => ?_)
  exact law_loop hL C1 hK 513 0 0 (by omega) (by omega) (by omega) 0 0 0 (fun _ => 0) (fun _ => 0) (fun _ => 0) (fun _ => 0) (fun _ => 0) (fun _ => 0) 0 0 (fun _ => 0) (fun _ => 0) (fun _ => 0) (fun _ => 0) dk_Inv0 H locs hP hD hS ls (lv_sub hl [3, 2, 1, 0] rfl)
-- ===== YOUR PART ENDS =====
set_option maxHeartbeats 4000000 in
theorem lw_walk (l : Launch) (b : Addr) (xs : List Int32) : MetFree l x (headSpec (Jvm.Cond.code x code maxLocals ret :: tables_1) room_1) (lw_P b xs) (fun _ _ _ _ _ => True) lw_Q := by
  refine MetFree.of_bodyS (code := code) (maxLocals := maxLocals) (ret := ret) (by decide) ?_ ?_
  · intro args s m h hn
    obtain ⟨meth, c, h1, h2, h3, h4, h5, h6, -, -⟩ := Cond.code_spec hn (atoms_spec (ws := Jvm.Cond.code x code maxLocals ret :: tables_1) h _ List.mem_cons_self)
    exact ⟨meth, c, h1, h2, h3, h4, h5, h6⟩
  · intro p e s m args below meth c s₁ B hml0 hP _
    obtain ⟨rfl, hx, hbd, hgv⟩ := hP
    obtain ⟨scr, harrAt, hlist, hof, hsmall⟩ := hx
    obtain ⟨hcb, hkn, -, -⟩ := State.arrayAt?_spec harrAt
    have hown : s.vm.findClass R_law = some m.cls := findClass_of_methodNamed B.named
    have hts0 : ∀ c ∈ (Jvm.Cond.code x code maxLocals ret :: tables_1), c.before #[Value.ref b] s = true := atoms_spec (ws := Jvm.Cond.code x code maxLocals ret :: tables_1) B.pre
    have hts : ∀ w ∈ lw_tbl, w.before #[Value.ref b] s = true := k2_hts_sels lw_privs (fun w hw => hts0 w (List.mem_cons_of_mem _ hw)) lw_privs_ok
    have hml : c.maxLocals = 4 := B.maxLocals_eq (hts0 _ List.mem_cons_self)
    have X₀ : Stand p l e room_1 s m #[Value.ref b] below meth c s₁ [] 0 0 := Stand.of_body B
    have hh0 : s₁.heap = s.heap := by rw [B.state]; rfl
    have hsz : scr.slots.size = xs.length := by rw [← Array.length_toList, hlist, List.length_map]
    have hval : ∀ j : Nat, j < xs.length → scr.slots[j]? = some (.int (xs.getD j 0)) := fun j hj => by
      rw [← Array.getElem?_toList, hlist]
      simp [hj]
    have hbl : b < s.heap.size := (Array.getElem?_eq_some_iff.mp hcb).1
    have hX : va_X b xs.length (fun j => xs.getD j 0) s s.heap := ⟨scr, hcb, hof, hkn, hsz, hval⟩
    have K : W p l e room_1 s m #[Value.ref b] below meth c s₁.heap [] 0 0 (lw_Z below #[Value.ref b] s) (entryFrame m ([Value.ref b] : List Value).toArray 4) := by
      rw [hh0]
      exact whole_start l hbd ⟨B.exec, B.bytes, B.returns, hml, hown, hts, hX, hbl, B.notSynchronized, hgv⟩
    obtain ⟨t, a1, o, b1, b2, b3⟩ := K s₁ rfl X₀
    exact ⟨t, o, a1, b1, b2, b3⟩
theorem lw_pre_spec {args : Array Value} {s : State} (h : (Jvm.Cond.and given_1 narrow_1).before args s = true) (hr : rest_1_c.before args s = true) : ∃ (b : Addr) (xs : List Int32), lw_P b xs args s := by
  have hs := flat_of_before _ h
  have hq := flat_of_before _ hr
  have hc : (Cond.count 1).before args s = true := hs _ (by decide +kernel)
  have harr : (Cond.arrayOf (.arg 0) .int).before args s = true := hs _ (by decide +kernel)
  have hle : (Cond.le (.length (.arg 0)) (.int 2048)).before args s = true := hs _ (by decide +kernel)
  have hlen : (Cond.isInt (.length (.arg 0))).before args s = true := hq _ (by decide +kernel)
  have hall : (Cond.all (.arg 0) (.isInt (.elem (.arg 0) (.index 0)))).before args s = true := hq _ (by decide +kernel)
  obtain ⟨b, xs, hb, hx⟩ := State.ints_of_pre rfl harr hlen hall
  have hsm : xs.length < 2 ^ 31 := hx.choose_spec.2.2.2
  have hev : (Term.length (.arg 0)).eval args s none [] s = some (.int xs.length.toInt32) := hx.length_eval hb
  have hv := Cond.le_ints hev (show (Term.int 2048).eval args s none [] s = some (.int 2048) from rfl)
  have hd : xs.length.toInt32 ≤ 2048 := by
    simpa [Cond.before, Cond.holds, hv] using hle
  have hN : xs.length ≤ 2048 := (Int32.ofNat_le_ofNat hsm (by decide)).mp (show Int32.ofNat xs.length ≤ Int32.ofNat 2048 from hd)
  exact ⟨b, xs, Cond.one_arg hc (show args[0]? = some (.ref b) from hb), hx, hN, h⟩
theorem lw_comes (l : Launch) : Comes l x (Jvm.Cond.code x code maxLocals ret :: tables_1) room_1 (fun tb e args s => Calls_1 tb e args s ∧ rest_1 tb e args s ∧ Pre_1 tb e args s)
    (fun _ _ args s o t => lw_Q args s o t) := by
  intro p e ha hc hk s m args below hf hfit hheap happ hpre
  obtain ⟨b, xs, hP⟩ := lw_pre_spec hpre.2.2 hpre.2.1
  obtain ⟨k, o, h1, h2, h3, hQ⟩ := lw_walk l b xs p e ha hc hk s m args below hf ((Spec.applies_iff_loose hf).mp happ).1 hP trivial
  exact ⟨k, o, h1, h2, h3, hQ⟩
theorem lw_frame {s t : State} {o : Outcome} {args : Array Value} (h : Framed s o t [] 12 2480) :
    Framed s o t (fieldLocs frame_1_writes args s ++ arrayLocs frame_1_arrays args s ++ staticLocs frame_1_statics s) 12 2480 := h
theorem lw_limb (L : Cond) (hL : ∀ (args : Array Value) (s t : State), L.after args s (.returned (some (.int 1))) t = true) :
    ArmFor flags0 classFile x code maxLocals ret World_1 tables_1 room_1 Calls_1 rest_1 Pre_1
      (fun tb e a s o t => postC L tb e a s o t ∧ Framed s o t (fieldLocs frame_1_writes a s ++ arrayLocs frame_1_arrays a s ++ staticLocs frame_1_statics s) 12 2480) := by
  intro l _ _ _ p e ha hc hk s m args below hf hfit hheap happ hpre
  obtain ⟨k, o, h1, h2, h3, rfl, hF⟩ := lw_comes l p e ha hc hk s m args below hf hfit hheap happ hpre
  exact ⟨k, _, h1, h2, h3, hL args s _, lw_frame hF⟩
theorem i_vc : Claimed_1_1 ∧ Claimed_1_2 := ⟨lw_limb limb_1_1 (fun args s t => by simp [limb_1_1, Cond.after, Cond.holds, Cond.value]), lw_limb limb_1_2 (fun args s t => Cond.after_iff.mpr (by
  first | (rw [show limb_1_2 = Cond.eq .result (.int 1) from rfl, Cond.eq_ints (x := 1) (y := 1) rfl rfl]; simp; done) | (simp [limb_1_2, Cond.value, Term.eval]; done)))⟩
end
