section
-- ===== PART A: goes FIRST, ahead of the names: the tables' words, and 'selects' of the private methods out of them =====
/-- a private method of a class that the tables say can be made, by its rows of tables_1 -/
def lw_okq (q : MethodName × Nat) : Prop := (q.1.cls ≠ "java/lang/invoke/MethodHandle" ∧ q.1.cls ≠ "java/lang/invoke/VarHandle") ∧ Cond.instantiable q.1.cls q.2 ∈ tables_1 ∧ Cond.privateMethod q.1 ∈ tables_1 ∧ Cond.instanceMethod q.1 ∈ tables_1
theorem lw_p0 : lw_okq (⟨"CanErrors", "find", "(I)LCanErrors$Node;"⟩, 3) := ⟨⟨by decide +kernel, by decide +kernel⟩, List.mem_of_getElem? (i := 6) (by decide +kernel), List.mem_of_getElem? (i := 94) (by decide +kernel), List.mem_of_getElem? (i := 95) (by decide +kernel)⟩
theorem lw_p1 : lw_okq (⟨"CanErrorsModel", "none", "(I)Z"⟩, 17) := ⟨⟨by decide +kernel, by decide +kernel⟩, List.mem_of_getElem? (i := 212) (by decide +kernel), List.mem_of_getElem? (i := 282) (by decide +kernel), List.mem_of_getElem? (i := 283) (by decide +kernel)⟩
theorem lw_p2 : lw_okq (⟨"CanErrorsModel", "happens", "(IIZ)V"⟩, 17) := ⟨⟨by decide +kernel, by decide +kernel⟩, List.mem_of_getElem? (i := 212) (by decide +kernel), List.mem_of_getElem? (i := 286) (by decide +kernel), List.mem_of_getElem? (i := 287) (by decide +kernel)⟩
theorem lw_p3 : lw_okq (⟨"CanErrorsModel", "more", "(IIZ)I"⟩, 17) := ⟨⟨by decide +kernel, by decide +kernel⟩, List.mem_of_getElem? (i := 212) (by decide +kernel), List.mem_of_getElem? (i := 290) (by decide +kernel), List.mem_of_getElem? (i := 291) (by decide +kernel)⟩
theorem lw_p4 : lw_okq (⟨"CanErrorsModel", "is", "(I)I"⟩, 17) := ⟨⟨by decide +kernel, by decide +kernel⟩, List.mem_of_getElem? (i := 212) (by decide +kernel), List.mem_of_getElem? (i := 294) (by decide +kernel), List.mem_of_getElem? (i := 295) (by decide +kernel)⟩
def lw_privs_1 : List (MethodName × Nat) := [(⟨"CanErrors", "find", "(I)LCanErrors$Node;"⟩, 3), (⟨"CanErrorsModel", "none", "(I)Z"⟩, 17), (⟨"CanErrorsModel", "happens", "(IIZ)V"⟩, 17), (⟨"CanErrorsModel", "more", "(IIZ)I"⟩, 17), (⟨"CanErrorsModel", "is", "(I)I"⟩, 17)]
theorem lw_r1 : ∀ q ∈ lw_privs_1, lw_okq q := List.forall_mem_cons.mpr ⟨lw_p0, List.forall_mem_cons.mpr ⟨lw_p1, List.forall_mem_cons.mpr ⟨lw_p2, List.forall_mem_cons.mpr ⟨lw_p3, List.forall_mem_cons.mpr ⟨lw_p4, fun _ h => absurd h List.not_mem_nil⟩⟩⟩⟩⟩
def lw_privs : List (MethodName × Nat) := lw_privs_1
def lw_tbl : List Cond := k2_sels lw_privs ++ tables_1
theorem lw_privs_ok : ∀ q ∈ lw_privs, lw_okq q := lw_r1
end
section
def R_N : String := "CanErrors$Node"
def R_X : String := "CanErrors"
def R_M : String := "CanErrorsModel"
def R_L : String := "CanErrorsLaw"
def F_N : u_T := fun k => match k with
  | 0 => ("CanErrors$Node", "sendingErrors", "I", false)
  | 1 => ("CanErrors$Node", "receivingErrors", "I", false)
  | 2 => ("CanErrors$Node", "off", "Z", false)
  | 3 => ("CanErrors$Node", "flagBits", "I", false)
  | 4 => ("CanErrors$Node", "waitBits", "I", false)
  | 5 => ("CanErrors$Node", "single", "Z", false)
  | 6 => ("CanErrors$Node", "framesGivenUp", "I", false)
  | 7 => ("CanErrors$Node", "listening", "Z", false)
  | 8 => ("CanErrors$Node", "wasSender", "Z", false)
  | 9 => ("CanErrors$Node", "goodFrames", "I", false)
  | 10 => ("CanErrors$Node", "offsInRow", "I", false)
  | 11 => ("CanErrors$Node", "asked", "Z", false)
  | 12 => ("CanErrors$Node", "firstAsked", "J", false)
  | 13 => ("CanErrors$Node", "let", "Z", false)
  | _ => ("CanErrors$Node", "rowsSeen", "I", false)
def t_N : Nat → FieldType := fun k => match k with
  | 0 => .int
  | 1 => .int
  | 2 => .boolean
  | 3 => .int
  | 4 => .int
  | 5 => .boolean
  | 6 => .int
  | 7 => .boolean
  | 8 => .boolean
  | 9 => .int
  | 10 => .int
  | 11 => .boolean
  | 12 => .long
  | 13 => .boolean
  | _ => .int
theorem n_N : ∀ a, a < 15 → ∀ b, b < 15 → a ≠ b → (F_N a).2.1 ≠ (F_N b).2.1 := by decide +kernel
theorem t_N_ok : ∀ k, k < 15 → parseFieldDescriptor (F_N k).2.2.1 = some (t_N k) := by decide +kernel
def F_X : u_T := fun k => match k with
  | 0 => ("CanErrors", "nodes", "[LCanErrors$Node;", true)
  | 1 => ("CanErrors", "nodeCount", "I", false)
  | _ => ("CanErrors", "latestTime", "J", false)
def t_X : Nat → FieldType := fun k => match k with
  | 0 => .array (.object "CanErrors$Node")
  | 1 => .int
  | _ => .long
theorem n_X : ∀ a, a < 3 → ∀ b, b < 3 → a ≠ b → (F_X a).2.1 ≠ (F_X b).2.1 := by decide +kernel
theorem t_X_ok : ∀ k, k < 3 → parseFieldDescriptor (F_X k).2.2.1 = some (t_X k) := by decide +kernel
def F_M : u_T := fun k => match k with
  | 0 => ("CanErrorsModel", "code", "I", false)
  | 1 => ("CanErrorsModel", "nodes", "I", false)
  | 2 => ("CanErrorsModel", "sends", "[I", true)
  | 3 => ("CanErrorsModel", "takes", "[I", true)
  | 4 => ("CanErrorsModel", "off", "[Z", true)
  | 5 => ("CanErrorsModel", "flag", "[I", true)
  | 6 => ("CanErrorsModel", "wait", "[I", true)
  | 7 => ("CanErrorsModel", "sender", "[Z", true)
  | 8 => ("CanErrorsModel", "single", "[Z", true)
  | 9 => ("CanErrorsModel", "given", "[I", true)
  | 10 => ("CanErrorsModel", "alone", "[Z", true)
  | 11 => ("CanErrorsModel", "asked", "[J", true)
  | 12 => ("CanErrorsModel", "let", "[Z", true)
  | 13 => ("CanErrorsModel", "rows", "[I", true)
  | 14 => ("CanErrorsModel", "inRow", "[I", true)
  | 15 => ("CanErrorsModel", "fine", "[I", true)
  | _ => ("CanErrorsModel", "latest", "J", false)
def t_M : Nat → FieldType := fun k => match k with
  | 0 => .int
  | 1 => .int
  | 2 => .array .int
  | 3 => .array .int
  | 4 => .array .boolean
  | 5 => .array .int
  | 6 => .array .int
  | 7 => .array .boolean
  | 8 => .array .boolean
  | 9 => .array .int
  | 10 => .array .boolean
  | 11 => .array .long
  | 12 => .array .boolean
  | 13 => .array .int
  | 14 => .array .int
  | 15 => .array .int
  | _ => .long
theorem n_M : ∀ a, a < 17 → ∀ b, b < 17 → a ≠ b → (F_M a).2.1 ≠ (F_M b).2.1 := by decide +kernel
theorem t_M_ok : ∀ k, k < 17 → parseFieldDescriptor (F_M k).2.2.1 = some (t_M k) := by decide +kernel
abbrev cls_ : List vw_C := [(R_N, F_N, 15), (R_X, F_X, 3), (R_M, F_M, 17)]
abbrev b_X_init : ByteArray := prog_1_method_1_code
def y_X_init : MethodName := ⟨R_X, "<init>", "()V"⟩
def cw_X_init : Cond := .code y_X_init b_X_init 1 none
abbrev b_X_node : ByteArray := prog_1_method_2_code
def y_X_node : MethodName := ⟨R_X, "node", "()I"⟩
def cw_X_node : Cond := .code y_X_node b_X_node 1 (some .int)
abbrev b_N_init : ByteArray := prog_2_method_1_code
def y_N_init : MethodName := ⟨R_N, "<init>", "()V"⟩
def cw_N_init : Cond := .code y_N_init b_N_init 1 none
abbrev b_X_event : ByteArray := prog_1_method_3_code
def y_X_event : MethodName := ⟨R_X, "event", "(IIZ)I"⟩
def cw_X_event : Cond := .code y_X_event b_X_event 5 (some .int)
abbrev b_X_find : ByteArray := prog_1_method_13_code
def y_X_find : MethodName := ⟨R_X, "find", "(I)LCanErrors$Node;"⟩
def cw_X_find : Cond := .code y_X_find b_X_find 2 (some (.object "CanErrors$Node"))
abbrev b_X_isKind : ByteArray := prog_1_method_14_code
def y_X_isKind : MethodName := ⟨R_X, "isKind", "(I)Z"⟩
def cw_X_isKind : Cond := .code y_X_isKind b_X_isKind 1 (some .boolean)
abbrev b_N_undergo : ByteArray := prog_2_method_4_code
def y_N_undergo : MethodName := ⟨R_N, "undergo", "(IZ)V"⟩
def cw_N_undergo : Cond := .code y_N_undergo b_N_undergo 4 none
abbrev b_N_countGoodFrames : ByteArray := prog_2_method_5_code
def y_N_countGoodFrames : MethodName := ⟨R_N, "countGoodFrames", "(I)V"⟩
def cw_N_countGoodFrames : Cond := .code y_N_countGoodFrames b_N_countGoodFrames 2 none
abbrev b_X_isError : ByteArray := prog_1_method_15_code
def y_X_isError : MethodName := ⟨R_X, "isError", "(I)Z"⟩
def cw_X_isError : Cond := .code y_X_isError b_X_isError 1 (some .boolean)
abbrev b_X_isAboutFlag : ByteArray := prog_1_method_16_code
def y_X_isAboutFlag : MethodName := ⟨R_X, "isAboutFlag", "(I)Z"⟩
def cw_X_isAboutFlag : Cond := .code y_X_isAboutFlag b_X_isAboutFlag 1 (some .boolean)
abbrev b_N_countErrors : ByteArray := prog_2_method_6_code
def y_N_countErrors : MethodName := ⟨R_N, "countErrors", "(IZ)V"⟩
def cw_N_countErrors : Cond := .code y_N_countErrors b_N_countErrors 3 none
abbrev b_N_lowerCounter : ByteArray := prog_2_method_7_code
def y_N_lowerCounter : MethodName := ⟨R_N, "lowerCounter", "(Z)V"⟩
def cw_N_lowerCounter : Cond := .code y_N_lowerCounter b_N_lowerCounter 2 none
abbrev b_N_senderPenalty : ByteArray := prog_2_method_8_code
def y_N_senderPenalty : MethodName := ⟨R_N, "senderPenalty", "(I)I"⟩
def cw_N_senderPenalty : Cond := .code y_N_senderPenalty b_N_senderPenalty 2 (some .int)
abbrev b_N_condition : ByteArray := prog_2_method_2_code
def y_N_condition : MethodName := ⟨R_N, "condition", "()I"⟩
def cw_N_condition : Cond := .code y_N_condition b_N_condition 2 (some .int)
abbrev b_N_receiverPenalty : ByteArray := prog_2_method_9_code
def y_N_receiverPenalty : MethodName := ⟨R_N, "receiverPenalty", "(I)I"⟩
def cw_N_receiverPenalty : Cond := .code y_N_receiverPenalty b_N_receiverPenalty 2 (some .int)
abbrev b_N_changeFlag : ByteArray := prog_2_method_10_code
def y_N_changeFlag : MethodName := ⟨R_N, "changeFlag", "(I)V"⟩
def cw_N_changeFlag : Cond := .code y_N_changeFlag b_N_changeFlag 3 none
abbrev b_N_goOff : ByteArray := prog_2_method_11_code
def y_N_goOff : MethodName := ⟨R_N, "goOff", "()V"⟩
def cw_N_goOff : Cond := .code y_N_goOff b_N_goOff 1 none
abbrev b_X_counter : ByteArray := prog_1_method_4_code
def y_X_counter : MethodName := ⟨R_X, "counter", "(IZ)I"⟩
def cw_X_counter : Cond := .code y_X_counter b_X_counter 4 (some .int)
abbrev b_X_state : ByteArray := prog_1_method_5_code
def y_X_state : MethodName := ⟨R_X, "state", "(I)I"⟩
def cw_X_state : Cond := .code y_X_state b_X_state 3 (some .int)
abbrev b_X_recover : ByteArray := prog_1_method_6_code
def y_X_recover : MethodName := ⟨R_X, "recover", "(II)I"⟩
def cw_X_recover : Cond := .code y_X_recover b_X_recover 4 (some .int)
abbrev b_N_countRows : ByteArray := prog_2_method_14_code
def y_N_countRows : MethodName := ⟨R_N, "countRows", "(I)V"⟩
def cw_N_countRows : Cond := .code y_N_countRows b_N_countRows 2 none
abbrev b_N_comeBack : ByteArray := prog_2_method_15_code
def y_N_comeBack : MethodName := ⟨R_N, "comeBack", "()V"⟩
def cw_N_comeBack : Cond := .code y_N_comeBack b_N_comeBack 1 none
abbrev b_X_flag : ByteArray := prog_1_method_7_code
def y_X_flag : MethodName := ⟨R_X, "flag", "(I)I"⟩
def cw_X_flag : Cond := .code y_X_flag b_X_flag 3 (some .int)
abbrev b_X_manager : ByteArray := prog_1_method_8_code
def y_X_manager : MethodName := ⟨R_X, "manager", "(IJ)I"⟩
def cw_X_manager : Cond := .code y_X_manager b_X_manager 5 (some .int)
abbrev b_N_mayComeBack : ByteArray := prog_2_method_12_code
def y_N_mayComeBack : MethodName := ⟨R_N, "mayComeBack", "(J)Z"⟩
def cw_N_mayComeBack : Cond := .code y_N_mayComeBack b_N_mayComeBack 3 (some .boolean)
abbrev b_N_delay : ByteArray := prog_2_method_13_code
def y_N_delay : MethodName := ⟨R_N, "delay", "()J"⟩
def cw_N_delay : Cond := .code y_N_delay b_N_delay 1 (some .long)
abbrev b_X_shot : ByteArray := prog_1_method_9_code
def y_X_shot : MethodName := ⟨R_X, "shot", "(IZ)I"⟩
def cw_X_shot : Cond := .code y_X_shot b_X_shot 4 (some .int)
abbrev b_X_listen : ByteArray := prog_1_method_10_code
def y_X_listen : MethodName := ⟨R_X, "listen", "(IZ)I"⟩
def cw_X_listen : Cond := .code y_X_listen b_X_listen 5 (some .int)
abbrev b_X_two : ByteArray := prog_1_method_11_code
def y_X_two : MethodName := ⟨R_X, "two", "(III)I"⟩
def cw_X_two : Cond := .code y_X_two b_X_two 5 (some .int)
abbrev b_N_undergoBoth : ByteArray := prog_2_method_3_code
def y_N_undergoBoth : MethodName := ⟨R_N, "undergoBoth", "(II)V"⟩
def cw_N_undergoBoth : Cond := .code y_N_undergoBoth b_N_undergoBoth 5 none
abbrev b_X_suspended : ByteArray := prog_1_method_12_code
def y_X_suspended : MethodName := ⟨R_X, "suspended", "(I)I"⟩
def cw_X_suspended : Cond := .code y_X_suspended b_X_suspended 3 (some .int)
abbrev b_M_init : ByteArray := prog_4_method_1_code
def y_M_init : MethodName := ⟨R_M, "<init>", "()V"⟩
def cw_M_init : Cond := .code y_M_init b_M_init 1 none
abbrev b_M_node : ByteArray := prog_4_method_4_code
def y_M_node : MethodName := ⟨R_M, "node", "()I"⟩
def cw_M_node : Cond := .code y_M_node b_M_node 1 (some .int)
abbrev b_M_event : ByteArray := prog_4_method_9_code
def y_M_event : MethodName := ⟨R_M, "event", "(IIZ)I"⟩
def cw_M_event : Cond := .code y_M_event b_M_event 4 (some .int)
abbrev b_M_none : ByteArray := prog_4_method_3_code
def y_M_none : MethodName := ⟨R_M, "none", "(I)Z"⟩
def cw_M_none : Cond := .code y_M_none b_M_none 2 (some .boolean)
abbrev b_M_happens : ByteArray := prog_4_method_8_code
def y_M_happens : MethodName := ⟨R_M, "happens", "(IIZ)V"⟩
def cw_M_happens : Cond := .code y_M_happens b_M_happens 5 none
abbrev b_M_more : ByteArray := prog_4_method_7_code
def y_M_more : MethodName := ⟨R_M, "more", "(IIZ)I"⟩
def cw_M_more : Cond := .code y_M_more b_M_more 4 (some .int)
abbrev b_M_is : ByteArray := prog_4_method_5_code
def y_M_is : MethodName := ⟨R_M, "is", "(I)I"⟩
def cw_M_is : Cond := .code y_M_is b_M_is 2 (some .int)
abbrev b_M_error : ByteArray := prog_4_method_6_code
def y_M_error : MethodName := ⟨R_M, "error", "(I)Z"⟩
def cw_M_error : Cond := .code y_M_error b_M_error 1 (some .boolean)
abbrev b_M_counter : ByteArray := prog_4_method_10_code
def y_M_counter : MethodName := ⟨R_M, "counter", "(IZ)I"⟩
def cw_M_counter : Cond := .code y_M_counter b_M_counter 3 (some .int)
abbrev b_M_state : ByteArray := prog_4_method_11_code
def y_M_state : MethodName := ⟨R_M, "state", "(I)I"⟩
def cw_M_state : Cond := .code y_M_state b_M_state 2 (some .int)
abbrev b_M_recover : ByteArray := prog_4_method_12_code
def y_M_recover : MethodName := ⟨R_M, "recover", "(II)I"⟩
def cw_M_recover : Cond := .code y_M_recover b_M_recover 3 (some .int)
abbrev b_M_flag : ByteArray := prog_4_method_13_code
def y_M_flag : MethodName := ⟨R_M, "flag", "(I)I"⟩
def cw_M_flag : Cond := .code y_M_flag b_M_flag 2 (some .int)
abbrev b_M_manager : ByteArray := prog_4_method_14_code
def y_M_manager : MethodName := ⟨R_M, "manager", "(IJ)I"⟩
def cw_M_manager : Cond := .code y_M_manager b_M_manager 6 (some .int)
abbrev b_M_shot : ByteArray := prog_4_method_15_code
def y_M_shot : MethodName := ⟨R_M, "shot", "(IZ)I"⟩
def cw_M_shot : Cond := .code y_M_shot b_M_shot 3 (some .int)
abbrev b_M_listen : ByteArray := prog_4_method_16_code
def y_M_listen : MethodName := ⟨R_M, "listen", "(IZ)I"⟩
def cw_M_listen : Cond := .code y_M_listen b_M_listen 4 (some .int)
abbrev b_M_two : ByteArray := prog_4_method_17_code
def y_M_two : MethodName := ⟨R_M, "two", "(III)I"⟩
def cw_M_two : Cond := .code y_M_two b_M_two 5 (some .int)
abbrev b_M_suspended : ByteArray := prog_4_method_18_code
def y_M_suspended : MethodName := ⟨R_M, "suspended", "(I)I"⟩
def cw_M_suspended : Cond := .code y_M_suspended b_M_suspended 2 (some .int)
def BIG_0 : List Cond := [.selects R_X y_X_find y_X_find, .selects R_M y_M_none y_M_none, .selects R_M y_M_happens y_M_happens, .selects R_M y_M_more y_M_more, .selects R_M y_M_is y_M_is, .initialized R_L, .initialized R_X, .initialized R_M, .initialized R_N, .initialized "java/lang/Math", .classLink R_L 7 R_X, .instantiable R_X 3, .methodLink R_L 9 y_X_init, .instanceMethod y_X_init, cw_X_init, .methodLink R_X 1 objectInit, .instanceMethod objectInit, .code objectInit ⟨#[0xb1]⟩ 1 none, .classLink R_X 9 R_N, .fieldLink R_X 11 "CanErrors" "nodes" "[LCanErrors$Node;", .fieldLink R_X 15 "CanErrors" "nodeCount" "I", .fieldLink R_X 19 "CanErrors" "latestTime" "J", .laysFinal R_X "CanErrors" "nodes" "[LCanErrors$Node;", .lays R_X "CanErrors" "nodeCount" "I", .lays R_X "CanErrors" "latestTime" "J", .methodLink R_L 13 y_X_node, .instanceMethod y_X_node, .selects R_X y_X_node y_X_node, cw_X_node, .instantiable R_N 15, .methodLink R_X 23 y_N_init, .instanceMethod y_N_init, cw_N_init, .methodLink R_N 3 objectInit, .fieldLink R_N 15 "CanErrors$Node" "sendingErrors" "I", .fieldLink R_X 47 "CanErrors$Node" "sendingErrors" "I", .fieldLink R_N 19 "CanErrors$Node" "receivingErrors" "I", .fieldLink R_X 50 "CanErrors$Node" "receivingErrors" "I", .fieldLink R_N 9 "CanErrors$Node" "off" "Z", .fieldLink R_X 32 "CanErrors$Node" "off" "Z", .fieldLink R_X 60 "CanErrors$Node" "flagBits" "I", .fieldLink R_N 91 "CanErrors$Node" "flagBits" "I", .fieldLink R_N 56 "CanErrors$Node" "waitBits" "I", .fieldLink R_X 86 "CanErrors$Node" "waitBits" "I", .fieldLink R_N 40 "CanErrors$Node" "single" "Z", .fieldLink R_X 67 "CanErrors$Node" "single" "Z", .fieldLink R_N 43 "CanErrors$Node" "framesGivenUp" "I", .fieldLink R_X 70 "CanErrors$Node" "framesGivenUp" "I"]
def BIG_1 : List Cond := [.fieldLink R_N 25 "CanErrors$Node" "listening" "Z", .fieldLink R_X 36 "CanErrors$Node" "listening" "Z", .fieldLink R_N 22 "CanErrors$Node" "wasSender" "Z", .fieldLink R_N 62 "CanErrors$Node" "goodFrames" "I", .fieldLink R_N 71 "CanErrors$Node" "offsInRow" "I", .fieldLink R_N 94 "CanErrors$Node" "asked" "Z", .fieldLink R_N 103 "CanErrors$Node" "firstAsked" "J", .fieldLink R_X 53 "CanErrors$Node" "let" "Z", .fieldLink R_N 97 "CanErrors$Node" "let" "Z", .fieldLink R_N 100 "CanErrors$Node" "rowsSeen" "I", .lays R_N "CanErrors$Node" "sendingErrors" "I", .lays R_N "CanErrors$Node" "receivingErrors" "I", .lays R_N "CanErrors$Node" "off" "Z", .lays R_N "CanErrors$Node" "flagBits" "I", .lays R_N "CanErrors$Node" "waitBits" "I", .lays R_N "CanErrors$Node" "single" "Z", .lays R_N "CanErrors$Node" "framesGivenUp" "I", .lays R_N "CanErrors$Node" "listening" "Z", .lays R_N "CanErrors$Node" "wasSender" "Z", .lays R_N "CanErrors$Node" "goodFrames" "I", .lays R_N "CanErrors$Node" "offsInRow" "I", .lays R_N "CanErrors$Node" "asked" "Z", .lays R_N "CanErrors$Node" "firstAsked" "J", .lays R_N "CanErrors$Node" "let" "Z", .lays R_N "CanErrors$Node" "rowsSeen" "I", .methodLink R_L 18 y_X_event, .instanceMethod y_X_event, .selects R_X y_X_event y_X_event, cw_X_event, .methodLink R_X 24 y_X_find, .instanceMethod y_X_find, cw_X_find, .methodLink R_X 28 y_X_isKind, .static y_X_isKind, cw_X_isKind, .methodLink R_X 39 y_N_undergo, .instanceMethod y_N_undergo, .selects R_N y_N_undergo y_N_undergo, cw_N_undergo, .methodLink R_N 36 y_N_countGoodFrames, .instanceMethod y_N_countGoodFrames, .selects R_N y_N_countGoodFrames y_N_countGoodFrames, cw_N_countGoodFrames, .static y_X_isError, cw_X_isError, .methodLink R_X 89 y_X_isAboutFlag, .static y_X_isAboutFlag, cw_X_isAboutFlag]
def BIG_2 : List Cond := [.methodLink R_N 65 Lib.Math.min.name, .static Lib.Math.min.name, .code Lib.Math.min.name Lib.Math.min.code 2 (some .int), .methodLink R_N 46 y_N_countErrors, .instanceMethod y_N_countErrors, .selects R_N y_N_countErrors y_N_countErrors, cw_N_countErrors, .methodLink R_N 74 y_N_lowerCounter, .instanceMethod y_N_lowerCounter, .selects R_N y_N_lowerCounter y_N_lowerCounter, cw_N_lowerCounter, .methodLink R_N 85 Lib.Math.max.name, .static Lib.Math.max.name, .code Lib.Math.max.name Lib.Math.max.code 2 (some .int), .methodLink R_N 78 y_N_senderPenalty, .instanceMethod y_N_senderPenalty, .selects R_N y_N_senderPenalty y_N_senderPenalty, cw_N_senderPenalty, .methodLink R_N 52 y_N_condition, .instanceMethod y_N_condition, .selects R_N y_N_condition y_N_condition, cw_N_condition, .methodLink R_N 82 y_N_receiverPenalty, .instanceMethod y_N_receiverPenalty, .selects R_N y_N_receiverPenalty y_N_receiverPenalty, cw_N_receiverPenalty, .methodLink R_N 49 y_N_changeFlag, .instanceMethod y_N_changeFlag, .selects R_N y_N_changeFlag y_N_changeFlag, cw_N_changeFlag, .methodLink R_N 59 y_N_goOff, .instanceMethod y_N_goOff, .selects R_N y_N_goOff y_N_goOff, cw_N_goOff, .methodLink R_X 43 y_N_condition, .methodLink R_L 23 y_X_counter, .instanceMethod y_X_counter, .selects R_X y_X_counter y_X_counter, cw_X_counter, .methodLink R_L 28 y_X_state, .instanceMethod y_X_state, .selects R_X y_X_state y_X_state, cw_X_state, .methodLink R_L 33 y_X_recover, .instanceMethod y_X_recover, .selects R_X y_X_recover y_X_recover, cw_X_recover, .methodLink R_X 56 y_N_countRows]
def BIG_3 : List Cond := [.instanceMethod y_N_countRows, .selects R_N y_N_countRows y_N_countRows, cw_N_countRows, .methodLink R_N 115 y_N_comeBack, .instanceMethod y_N_comeBack, .selects R_N y_N_comeBack y_N_comeBack, cw_N_comeBack, .methodLink R_L 38 y_X_flag, .instanceMethod y_X_flag, .selects R_X y_X_flag y_X_flag, cw_X_flag, .methodLink R_L 44 y_X_manager, .instanceMethod y_X_manager, .selects R_X y_X_manager y_X_manager, cw_X_manager, .methodLink R_X 63 y_N_mayComeBack, .instanceMethod y_N_mayComeBack, .selects R_N y_N_mayComeBack y_N_mayComeBack, cw_N_mayComeBack, .methodLink R_N 107 y_N_delay, .instanceMethod y_N_delay, .selects R_N y_N_delay y_N_delay, cw_N_delay, .constantLong R_N 111 100, .constantLong R_N 113 10, .methodLink R_L 49 y_X_shot, .instanceMethod y_X_shot, .selects R_X y_X_shot y_X_shot, cw_X_shot, .methodLink R_L 53 y_X_listen, .instanceMethod y_X_listen, .selects R_X y_X_listen y_X_listen, cw_X_listen, .methodLink R_L 57 y_X_two, .instanceMethod y_X_two, .selects R_X y_X_two y_X_two, cw_X_two, .methodLink R_X 73 Lib.Math.min.name, .methodLink R_X 79 Lib.Math.max.name, .methodLink R_X 82 y_N_undergoBoth, .instanceMethod y_N_undergoBoth, .selects R_N y_N_undergoBoth y_N_undergoBoth, cw_N_undergoBoth, .methodLink R_N 28 y_N_undergo, .methodLink R_L 62 y_X_suspended, .instanceMethod y_X_suspended, .selects R_X y_X_suspended y_X_suspended, cw_X_suspended]
def BIG_4 : List Cond := [.classLink R_L 10 R_M, .instantiable R_M 17, .methodLink R_L 12 y_M_init, .instanceMethod y_M_init, cw_M_init, .methodLink R_M 1 objectInit, .fieldLink R_M 54 "CanErrorsModel" "code" "I", .fieldLink R_M 58 "CanErrorsModel" "nodes" "I", .fieldLink R_M 7 "CanErrorsModel" "sends" "[I", .fieldLink R_M 13 "CanErrorsModel" "takes" "[I", .fieldLink R_M 16 "CanErrorsModel" "off" "[Z", .fieldLink R_M 20 "CanErrorsModel" "flag" "[I", .fieldLink R_M 23 "CanErrorsModel" "wait" "[I", .fieldLink R_M 26 "CanErrorsModel" "sender" "[Z", .fieldLink R_M 29 "CanErrorsModel" "single" "[Z", .fieldLink R_M 32 "CanErrorsModel" "given" "[I", .fieldLink R_M 35 "CanErrorsModel" "alone" "[Z", .fieldLink R_M 38 "CanErrorsModel" "asked" "[J", .fieldLink R_M 42 "CanErrorsModel" "let" "[Z", .fieldLink R_M 45 "CanErrorsModel" "rows" "[I", .fieldLink R_M 48 "CanErrorsModel" "inRow" "[I", .fieldLink R_M 51 "CanErrorsModel" "fine" "[I", .fieldLink R_M 82 "CanErrorsModel" "latest" "J", .lays R_M "CanErrorsModel" "code" "I", .lays R_M "CanErrorsModel" "nodes" "I", .laysFinal R_M "CanErrorsModel" "sends" "[I", .laysFinal R_M "CanErrorsModel" "takes" "[I", .laysFinal R_M "CanErrorsModel" "off" "[Z", .laysFinal R_M "CanErrorsModel" "flag" "[I", .laysFinal R_M "CanErrorsModel" "wait" "[I", .laysFinal R_M "CanErrorsModel" "sender" "[Z", .laysFinal R_M "CanErrorsModel" "single" "[Z", .laysFinal R_M "CanErrorsModel" "given" "[I", .laysFinal R_M "CanErrorsModel" "alone" "[Z", .laysFinal R_M "CanErrorsModel" "asked" "[J", .laysFinal R_M "CanErrorsModel" "let" "[Z", .laysFinal R_M "CanErrorsModel" "rows" "[I", .laysFinal R_M "CanErrorsModel" "inRow" "[I", .laysFinal R_M "CanErrorsModel" "fine" "[I", .lays R_M "CanErrorsModel" "latest" "J", .arrayClass .int, .arrayClass .boolean, .arrayClass .long, .methodLink R_L 17 y_M_node, .instanceMethod y_M_node, .selects R_M y_M_node y_M_node, cw_M_node, .constantLong R_M 61 (-1)]
def BIG_5 : List Cond := [.methodLink R_L 22 y_M_event, .instanceMethod y_M_event, .selects R_M y_M_event y_M_event, cw_M_event, .methodLink R_M 75 y_M_none, .instanceMethod y_M_none, cw_M_none, .methodLink R_M 78 y_M_happens, .instanceMethod y_M_happens, cw_M_happens, .methodLink R_M 67 y_M_more, .instanceMethod y_M_more, cw_M_more, .methodLink R_M 63 y_M_is, .instanceMethod y_M_is, cw_M_is, .methodLink R_M 71 y_M_error, .static y_M_error, cw_M_error, .methodLink R_L 27 y_M_counter, .instanceMethod y_M_counter, .selects R_M y_M_counter y_M_counter, cw_M_counter, .methodLink R_L 32 y_M_state, .instanceMethod y_M_state, .selects R_M y_M_state y_M_state, cw_M_state, .methodLink R_L 37 y_M_recover, .instanceMethod y_M_recover, .selects R_M y_M_recover y_M_recover, cw_M_recover, .methodLink R_L 41 y_M_flag, .instanceMethod y_M_flag, .selects R_M y_M_flag y_M_flag, cw_M_flag, .methodLink R_L 48 y_M_manager, .instanceMethod y_M_manager, .selects R_M y_M_manager y_M_manager, cw_M_manager, .constantLong R_M 86 100, .constantLong R_M 88 10, .methodLink R_L 52 y_M_shot, .instanceMethod y_M_shot, .selects R_M y_M_shot y_M_shot, cw_M_shot, .methodLink R_L 56 y_M_listen, .instanceMethod y_M_listen, .selects R_M y_M_listen y_M_listen]
def BIG_6 : List Cond := [cw_M_listen, .methodLink R_L 61 y_M_two, .instanceMethod y_M_two, .selects R_M y_M_two y_M_two, cw_M_two, .methodLink R_L 65 y_M_suspended, .instanceMethod y_M_suspended, .selects R_M y_M_suspended y_M_suspended, cw_M_suspended, .constantLong R_L 42 4294967295]
def BIG : List Cond := BIG_0 ++ (BIG_1 ++ (BIG_2 ++ (BIG_3 ++ (BIG_4 ++ (BIG_5 ++ (BIG_6))))))
theorem goodr {big : List Cond} (ws : List Cond) (ps : List Nat) (hp : ws = ps.filterMap (fun i => big[i]?)) (h : ws.all goodWord = true) : GoodIn big ws := by
  intro w hw
  have h1 := List.all_eq_true.mp h w hw
  rw [hp] at hw
  obtain ⟨i, -, hi⟩ := List.mem_filterMap.mp hw
  exact ⟨List.mem_of_getElem? hi, good_of_word h1⟩
theorem goodapp {big a b : List Cond} (ha : GoodIn big a) (hb : GoodIn big b) : GoodIn big (a ++ b) := fun w h => (List.mem_append.mp h).elim (ha w) (hb w)
set_option maxRecDepth 20000 in
theorem big_0 : GoodIn lw_tbl BIG_0 := goodr _ [0, 1, 2, 3, 4, 5, 6, 7, 8, 9, 10, 11, 12, 13, 14, 15, 16, 17, 18, 20, 21, 22, 23, 25, 27, 30, 31, 32, 33, 34, 35, 36, 37, 38, 39, 40, 41, 42, 43, 44, 45, 46, 47, 48, 49, 50, 51, 52] (by decide +kernel) (by decide +kernel)
set_option maxRecDepth 20000 in
theorem big_1 : GoodIn lw_tbl BIG_1 := goodr _ [53, 54, 55, 56, 57, 58, 59, 60, 61, 62, 63, 65, 67, 69, 71, 73, 75, 77, 79, 81, 83, 85, 87, 89, 91, 94, 95, 96, 97, 98, 100, 101, 102, 103, 104, 105, 106, 107, 108, 109, 110, 111, 112, 114, 115, 116, 117, 118] (by decide +kernel) (by decide +kernel)
set_option maxRecDepth 20000 in
theorem big_2 : GoodIn lw_tbl BIG_2 := goodr _ [119, 120, 121, 122, 123, 124, 125, 126, 127, 128, 129, 130, 131, 132, 133, 134, 135, 136, 137, 138, 139, 140, 141, 142, 143, 144, 146, 147, 148, 149, 150, 151, 152, 153, 154, 155, 156, 157, 158, 159, 160, 161, 162, 163, 164, 165, 166, 167] (by decide +kernel) (by decide +kernel)
set_option maxRecDepth 20000 in
theorem big_3 : GoodIn lw_tbl BIG_3 := goodr _ [168, 169, 170, 171, 172, 173, 174, 175, 176, 177, 178, 179, 180, 181, 182, 183, 184, 185, 186, 187, 188, 189, 190, 191, 192, 193, 194, 195, 196, 197, 198, 199, 200, 201, 202, 203, 204, 205, 206, 207, 208, 209, 210, 211, 212, 213, 214, 215] (by decide +kernel) (by decide +kernel)
set_option maxRecDepth 20000 in
theorem big_4 : GoodIn lw_tbl BIG_4 := goodr _ [216, 217, 218, 219, 220, 221, 222, 223, 224, 225, 226, 227, 228, 229, 230, 231, 232, 233, 234, 235, 236, 237, 238, 239, 241, 243, 245, 247, 249, 251, 253, 255, 257, 259, 261, 263, 265, 267, 269, 271, 274, 275, 276, 277, 278, 279, 280, 281] (by decide +kernel) (by decide +kernel)
set_option maxRecDepth 20000 in
theorem big_5 : GoodIn lw_tbl BIG_5 := goodr _ [282, 283, 284, 285, 286, 288, 289, 290, 292, 293, 294, 296, 297, 298, 300, 301, 302, 303, 304, 305, 306, 307, 308, 309, 310, 311, 312, 313, 314, 315, 316, 317, 318, 319, 320, 321, 322, 323, 324, 325, 326, 327, 328, 329, 330, 331, 332, 333] (by decide +kernel) (by decide +kernel)
set_option maxRecDepth 20000 in
theorem big_6 : GoodIn lw_tbl BIG_6 := goodr _ [334, 335, 336, 337, 338, 339, 340, 341, 342, 343] (by decide +kernel) (by decide +kernel)
theorem big_tbl : GoodIn lw_tbl BIG := (goodapp big_0 (goodapp big_1 (goodapp big_2 (goodapp big_3 (goodapp big_4 (goodapp big_5 big_6))))))
theorem inb_0 {w : Cond} (h : w ∈ BIG_0) : w ∈ BIG := (List.mem_append_left _ h)
theorem inb_1 {w : Cond} (h : w ∈ BIG_1) : w ∈ BIG := (List.mem_append_right _ (List.mem_append_left _ h))
theorem inb_2 {w : Cond} (h : w ∈ BIG_2) : w ∈ BIG := (List.mem_append_right _ (List.mem_append_right _ (List.mem_append_left _ h)))
theorem inb_3 {w : Cond} (h : w ∈ BIG_3) : w ∈ BIG := (List.mem_append_right _ (List.mem_append_right _ (List.mem_append_right _ (List.mem_append_left _ h))))
theorem inb_4 {w : Cond} (h : w ∈ BIG_4) : w ∈ BIG := (List.mem_append_right _ (List.mem_append_right _ (List.mem_append_right _ (List.mem_append_right _ (List.mem_append_left _ h)))))
theorem inb_5 {w : Cond} (h : w ∈ BIG_5) : w ∈ BIG := (List.mem_append_right _ (List.mem_append_right _ (List.mem_append_right _ (List.mem_append_right _ (List.mem_append_right _ (List.mem_append_left _ h))))))
theorem inb_6 {w : Cond} (h : w ∈ BIG_6) : w ∈ BIG := (List.mem_append_right _ (List.mem_append_right _ (List.mem_append_right _ (List.mem_append_right _ (List.mem_append_right _ (List.mem_append_right _ h))))))
theorem sel_X_find : Cond.selects R_X y_X_find y_X_find ∈ BIG := inb_0 (List.mem_of_getElem? (i := 0) rfl)
theorem sel_M_none : Cond.selects R_M y_M_none y_M_none ∈ BIG := inb_0 (List.mem_of_getElem? (i := 1) rfl)
theorem sel_M_happens : Cond.selects R_M y_M_happens y_M_happens ∈ BIG := inb_0 (List.mem_of_getElem? (i := 2) rfl)
theorem sel_M_more : Cond.selects R_M y_M_more y_M_more ∈ BIG := inb_0 (List.mem_of_getElem? (i := 3) rfl)
theorem sel_M_is : Cond.selects R_M y_M_is y_M_is ∈ BIG := inb_0 (List.mem_of_getElem? (i := 4) rfl)
theorem in_L : Cond.initialized R_L ∈ BIG := inb_0 (List.mem_of_getElem? (i := 5) rfl)
theorem in_X : Cond.initialized R_X ∈ BIG := inb_0 (List.mem_of_getElem? (i := 6) rfl)
theorem in_M : Cond.initialized R_M ∈ BIG := inb_0 (List.mem_of_getElem? (i := 7) rfl)
theorem in_N : Cond.initialized R_N ∈ BIG := inb_0 (List.mem_of_getElem? (i := 8) rfl)
theorem in_math : Cond.initialized "java/lang/Math" ∈ BIG := inb_0 (List.mem_of_getElem? (i := 9) rfl)
theorem cl_L_7 : Cond.classLink R_L 7 R_X ∈ BIG := inb_0 (List.mem_of_getElem? (i := 10) rfl)
theorem inst_X : Cond.instantiable R_X 3 ∈ BIG := inb_0 (List.mem_of_getElem? (i := 11) rfl)
theorem ml_L_9 : Cond.methodLink R_L 9 y_X_init ∈ BIG := inb_0 (List.mem_of_getElem? (i := 12) rfl)
theorem im_X_init : Cond.instanceMethod y_X_init ∈ BIG := inb_0 (List.mem_of_getElem? (i := 13) rfl)
theorem co_X_init : cw_X_init ∈ BIG := inb_0 (List.mem_of_getElem? (i := 14) rfl)
theorem ml_X_1 : Cond.methodLink R_X 1 objectInit ∈ BIG := inb_0 (List.mem_of_getElem? (i := 15) rfl)
theorem im_obj : Cond.instanceMethod objectInit ∈ BIG := inb_0 (List.mem_of_getElem? (i := 16) rfl)
theorem co_obj : Cond.code objectInit ⟨#[0xb1]⟩ 1 none ∈ BIG := inb_0 (List.mem_of_getElem? (i := 17) rfl)
theorem cl_X_9 : Cond.classLink R_X 9 R_N ∈ BIG := inb_0 (List.mem_of_getElem? (i := 18) rfl)
theorem fl_X_11 : Cond.fieldLink R_X 11 "CanErrors" "nodes" "[LCanErrors$Node;" ∈ BIG := inb_0 (List.mem_of_getElem? (i := 19) rfl)
theorem fl_X_15 : Cond.fieldLink R_X 15 "CanErrors" "nodeCount" "I" ∈ BIG := inb_0 (List.mem_of_getElem? (i := 20) rfl)
theorem fl_X_19 : Cond.fieldLink R_X 19 "CanErrors" "latestTime" "J" ∈ BIG := inb_0 (List.mem_of_getElem? (i := 21) rfl)
theorem ml_L_13 : Cond.methodLink R_L 13 y_X_node ∈ BIG := inb_0 (List.mem_of_getElem? (i := 25) rfl)
theorem im_X_node : Cond.instanceMethod y_X_node ∈ BIG := inb_0 (List.mem_of_getElem? (i := 26) rfl)
theorem sel_X_node : Cond.selects R_X y_X_node y_X_node ∈ BIG := inb_0 (List.mem_of_getElem? (i := 27) rfl)
theorem co_X_node : cw_X_node ∈ BIG := inb_0 (List.mem_of_getElem? (i := 28) rfl)
theorem inst_N : Cond.instantiable R_N 15 ∈ BIG := inb_0 (List.mem_of_getElem? (i := 29) rfl)
theorem ml_X_23 : Cond.methodLink R_X 23 y_N_init ∈ BIG := inb_0 (List.mem_of_getElem? (i := 30) rfl)
theorem im_N_init : Cond.instanceMethod y_N_init ∈ BIG := inb_0 (List.mem_of_getElem? (i := 31) rfl)
theorem co_N_init : cw_N_init ∈ BIG := inb_0 (List.mem_of_getElem? (i := 32) rfl)
theorem ml_N_3 : Cond.methodLink R_N 3 objectInit ∈ BIG := inb_0 (List.mem_of_getElem? (i := 33) rfl)
theorem fl_N_15 : Cond.fieldLink R_N 15 "CanErrors$Node" "sendingErrors" "I" ∈ BIG := inb_0 (List.mem_of_getElem? (i := 34) rfl)
theorem fl_X_47 : Cond.fieldLink R_X 47 "CanErrors$Node" "sendingErrors" "I" ∈ BIG := inb_0 (List.mem_of_getElem? (i := 35) rfl)
theorem fl_N_19 : Cond.fieldLink R_N 19 "CanErrors$Node" "receivingErrors" "I" ∈ BIG := inb_0 (List.mem_of_getElem? (i := 36) rfl)
theorem fl_X_50 : Cond.fieldLink R_X 50 "CanErrors$Node" "receivingErrors" "I" ∈ BIG := inb_0 (List.mem_of_getElem? (i := 37) rfl)
theorem fl_N_9 : Cond.fieldLink R_N 9 "CanErrors$Node" "off" "Z" ∈ BIG := inb_0 (List.mem_of_getElem? (i := 38) rfl)
theorem fl_X_32 : Cond.fieldLink R_X 32 "CanErrors$Node" "off" "Z" ∈ BIG := inb_0 (List.mem_of_getElem? (i := 39) rfl)
theorem fl_X_60 : Cond.fieldLink R_X 60 "CanErrors$Node" "flagBits" "I" ∈ BIG := inb_0 (List.mem_of_getElem? (i := 40) rfl)
theorem fl_N_91 : Cond.fieldLink R_N 91 "CanErrors$Node" "flagBits" "I" ∈ BIG := inb_0 (List.mem_of_getElem? (i := 41) rfl)
theorem fl_N_56 : Cond.fieldLink R_N 56 "CanErrors$Node" "waitBits" "I" ∈ BIG := inb_0 (List.mem_of_getElem? (i := 42) rfl)
theorem fl_X_86 : Cond.fieldLink R_X 86 "CanErrors$Node" "waitBits" "I" ∈ BIG := inb_0 (List.mem_of_getElem? (i := 43) rfl)
theorem fl_N_40 : Cond.fieldLink R_N 40 "CanErrors$Node" "single" "Z" ∈ BIG := inb_0 (List.mem_of_getElem? (i := 44) rfl)
theorem fl_X_67 : Cond.fieldLink R_X 67 "CanErrors$Node" "single" "Z" ∈ BIG := inb_0 (List.mem_of_getElem? (i := 45) rfl)
theorem fl_N_43 : Cond.fieldLink R_N 43 "CanErrors$Node" "framesGivenUp" "I" ∈ BIG := inb_0 (List.mem_of_getElem? (i := 46) rfl)
theorem fl_X_70 : Cond.fieldLink R_X 70 "CanErrors$Node" "framesGivenUp" "I" ∈ BIG := inb_0 (List.mem_of_getElem? (i := 47) rfl)
theorem fl_N_25 : Cond.fieldLink R_N 25 "CanErrors$Node" "listening" "Z" ∈ BIG := inb_1 (List.mem_of_getElem? (i := 0) rfl)
theorem fl_X_36 : Cond.fieldLink R_X 36 "CanErrors$Node" "listening" "Z" ∈ BIG := inb_1 (List.mem_of_getElem? (i := 1) rfl)
theorem fl_N_22 : Cond.fieldLink R_N 22 "CanErrors$Node" "wasSender" "Z" ∈ BIG := inb_1 (List.mem_of_getElem? (i := 2) rfl)
theorem fl_N_62 : Cond.fieldLink R_N 62 "CanErrors$Node" "goodFrames" "I" ∈ BIG := inb_1 (List.mem_of_getElem? (i := 3) rfl)
theorem fl_N_71 : Cond.fieldLink R_N 71 "CanErrors$Node" "offsInRow" "I" ∈ BIG := inb_1 (List.mem_of_getElem? (i := 4) rfl)
theorem fl_N_94 : Cond.fieldLink R_N 94 "CanErrors$Node" "asked" "Z" ∈ BIG := inb_1 (List.mem_of_getElem? (i := 5) rfl)
theorem fl_N_103 : Cond.fieldLink R_N 103 "CanErrors$Node" "firstAsked" "J" ∈ BIG := inb_1 (List.mem_of_getElem? (i := 6) rfl)
theorem fl_X_53 : Cond.fieldLink R_X 53 "CanErrors$Node" "let" "Z" ∈ BIG := inb_1 (List.mem_of_getElem? (i := 7) rfl)
theorem fl_N_97 : Cond.fieldLink R_N 97 "CanErrors$Node" "let" "Z" ∈ BIG := inb_1 (List.mem_of_getElem? (i := 8) rfl)
theorem fl_N_100 : Cond.fieldLink R_N 100 "CanErrors$Node" "rowsSeen" "I" ∈ BIG := inb_1 (List.mem_of_getElem? (i := 9) rfl)
theorem ml_L_18 : Cond.methodLink R_L 18 y_X_event ∈ BIG := inb_1 (List.mem_of_getElem? (i := 25) rfl)
theorem im_X_event : Cond.instanceMethod y_X_event ∈ BIG := inb_1 (List.mem_of_getElem? (i := 26) rfl)
theorem sel_X_event : Cond.selects R_X y_X_event y_X_event ∈ BIG := inb_1 (List.mem_of_getElem? (i := 27) rfl)
theorem co_X_event : cw_X_event ∈ BIG := inb_1 (List.mem_of_getElem? (i := 28) rfl)
theorem ml_X_24 : Cond.methodLink R_X 24 y_X_find ∈ BIG := inb_1 (List.mem_of_getElem? (i := 29) rfl)
theorem im_X_find : Cond.instanceMethod y_X_find ∈ BIG := inb_1 (List.mem_of_getElem? (i := 30) rfl)
theorem co_X_find : cw_X_find ∈ BIG := inb_1 (List.mem_of_getElem? (i := 31) rfl)
theorem ml_X_28 : Cond.methodLink R_X 28 y_X_isKind ∈ BIG := inb_1 (List.mem_of_getElem? (i := 32) rfl)
theorem sta_X_isKind : Cond.static y_X_isKind ∈ BIG := inb_1 (List.mem_of_getElem? (i := 33) rfl)
theorem co_X_isKind : cw_X_isKind ∈ BIG := inb_1 (List.mem_of_getElem? (i := 34) rfl)
theorem ml_X_39 : Cond.methodLink R_X 39 y_N_undergo ∈ BIG := inb_1 (List.mem_of_getElem? (i := 35) rfl)
theorem im_N_undergo : Cond.instanceMethod y_N_undergo ∈ BIG := inb_1 (List.mem_of_getElem? (i := 36) rfl)
theorem sel_N_undergo : Cond.selects R_N y_N_undergo y_N_undergo ∈ BIG := inb_1 (List.mem_of_getElem? (i := 37) rfl)
theorem co_N_undergo : cw_N_undergo ∈ BIG := inb_1 (List.mem_of_getElem? (i := 38) rfl)
theorem ml_N_36 : Cond.methodLink R_N 36 y_N_countGoodFrames ∈ BIG := inb_1 (List.mem_of_getElem? (i := 39) rfl)
theorem im_N_countGoodFrames : Cond.instanceMethod y_N_countGoodFrames ∈ BIG := inb_1 (List.mem_of_getElem? (i := 40) rfl)
theorem sel_N_countGoodFrames : Cond.selects R_N y_N_countGoodFrames y_N_countGoodFrames ∈ BIG := inb_1 (List.mem_of_getElem? (i := 41) rfl)
theorem co_N_countGoodFrames : cw_N_countGoodFrames ∈ BIG := inb_1 (List.mem_of_getElem? (i := 42) rfl)
theorem sta_X_isError : Cond.static y_X_isError ∈ BIG := inb_1 (List.mem_of_getElem? (i := 43) rfl)
theorem co_X_isError : cw_X_isError ∈ BIG := inb_1 (List.mem_of_getElem? (i := 44) rfl)
theorem ml_X_89 : Cond.methodLink R_X 89 y_X_isAboutFlag ∈ BIG := inb_1 (List.mem_of_getElem? (i := 45) rfl)
theorem sta_X_isAboutFlag : Cond.static y_X_isAboutFlag ∈ BIG := inb_1 (List.mem_of_getElem? (i := 46) rfl)
theorem co_X_isAboutFlag : cw_X_isAboutFlag ∈ BIG := inb_1 (List.mem_of_getElem? (i := 47) rfl)
theorem ml_N_65 : Cond.methodLink R_N 65 Lib.Math.min.name ∈ BIG := inb_2 (List.mem_of_getElem? (i := 0) rfl)
theorem st_math_min : Cond.static Lib.Math.min.name ∈ BIG := inb_2 (List.mem_of_getElem? (i := 1) rfl)
theorem co_math_min : Cond.code Lib.Math.min.name Lib.Math.min.code 2 (some .int) ∈ BIG := inb_2 (List.mem_of_getElem? (i := 2) rfl)
theorem ml_N_46 : Cond.methodLink R_N 46 y_N_countErrors ∈ BIG := inb_2 (List.mem_of_getElem? (i := 3) rfl)
theorem im_N_countErrors : Cond.instanceMethod y_N_countErrors ∈ BIG := inb_2 (List.mem_of_getElem? (i := 4) rfl)
theorem sel_N_countErrors : Cond.selects R_N y_N_countErrors y_N_countErrors ∈ BIG := inb_2 (List.mem_of_getElem? (i := 5) rfl)
theorem co_N_countErrors : cw_N_countErrors ∈ BIG := inb_2 (List.mem_of_getElem? (i := 6) rfl)
theorem ml_N_74 : Cond.methodLink R_N 74 y_N_lowerCounter ∈ BIG := inb_2 (List.mem_of_getElem? (i := 7) rfl)
theorem im_N_lowerCounter : Cond.instanceMethod y_N_lowerCounter ∈ BIG := inb_2 (List.mem_of_getElem? (i := 8) rfl)
theorem sel_N_lowerCounter : Cond.selects R_N y_N_lowerCounter y_N_lowerCounter ∈ BIG := inb_2 (List.mem_of_getElem? (i := 9) rfl)
theorem co_N_lowerCounter : cw_N_lowerCounter ∈ BIG := inb_2 (List.mem_of_getElem? (i := 10) rfl)
theorem ml_N_85 : Cond.methodLink R_N 85 Lib.Math.max.name ∈ BIG := inb_2 (List.mem_of_getElem? (i := 11) rfl)
theorem st_math_max : Cond.static Lib.Math.max.name ∈ BIG := inb_2 (List.mem_of_getElem? (i := 12) rfl)
theorem co_math_max : Cond.code Lib.Math.max.name Lib.Math.max.code 2 (some .int) ∈ BIG := inb_2 (List.mem_of_getElem? (i := 13) rfl)
theorem ml_N_78 : Cond.methodLink R_N 78 y_N_senderPenalty ∈ BIG := inb_2 (List.mem_of_getElem? (i := 14) rfl)
theorem im_N_senderPenalty : Cond.instanceMethod y_N_senderPenalty ∈ BIG := inb_2 (List.mem_of_getElem? (i := 15) rfl)
theorem sel_N_senderPenalty : Cond.selects R_N y_N_senderPenalty y_N_senderPenalty ∈ BIG := inb_2 (List.mem_of_getElem? (i := 16) rfl)
theorem co_N_senderPenalty : cw_N_senderPenalty ∈ BIG := inb_2 (List.mem_of_getElem? (i := 17) rfl)
theorem ml_N_52 : Cond.methodLink R_N 52 y_N_condition ∈ BIG := inb_2 (List.mem_of_getElem? (i := 18) rfl)
theorem im_N_condition : Cond.instanceMethod y_N_condition ∈ BIG := inb_2 (List.mem_of_getElem? (i := 19) rfl)
theorem sel_N_condition : Cond.selects R_N y_N_condition y_N_condition ∈ BIG := inb_2 (List.mem_of_getElem? (i := 20) rfl)
theorem co_N_condition : cw_N_condition ∈ BIG := inb_2 (List.mem_of_getElem? (i := 21) rfl)
theorem ml_N_82 : Cond.methodLink R_N 82 y_N_receiverPenalty ∈ BIG := inb_2 (List.mem_of_getElem? (i := 22) rfl)
theorem im_N_receiverPenalty : Cond.instanceMethod y_N_receiverPenalty ∈ BIG := inb_2 (List.mem_of_getElem? (i := 23) rfl)
theorem sel_N_receiverPenalty : Cond.selects R_N y_N_receiverPenalty y_N_receiverPenalty ∈ BIG := inb_2 (List.mem_of_getElem? (i := 24) rfl)
theorem co_N_receiverPenalty : cw_N_receiverPenalty ∈ BIG := inb_2 (List.mem_of_getElem? (i := 25) rfl)
theorem ml_N_49 : Cond.methodLink R_N 49 y_N_changeFlag ∈ BIG := inb_2 (List.mem_of_getElem? (i := 26) rfl)
theorem im_N_changeFlag : Cond.instanceMethod y_N_changeFlag ∈ BIG := inb_2 (List.mem_of_getElem? (i := 27) rfl)
theorem sel_N_changeFlag : Cond.selects R_N y_N_changeFlag y_N_changeFlag ∈ BIG := inb_2 (List.mem_of_getElem? (i := 28) rfl)
theorem co_N_changeFlag : cw_N_changeFlag ∈ BIG := inb_2 (List.mem_of_getElem? (i := 29) rfl)
theorem ml_N_59 : Cond.methodLink R_N 59 y_N_goOff ∈ BIG := inb_2 (List.mem_of_getElem? (i := 30) rfl)
theorem im_N_goOff : Cond.instanceMethod y_N_goOff ∈ BIG := inb_2 (List.mem_of_getElem? (i := 31) rfl)
theorem sel_N_goOff : Cond.selects R_N y_N_goOff y_N_goOff ∈ BIG := inb_2 (List.mem_of_getElem? (i := 32) rfl)
theorem co_N_goOff : cw_N_goOff ∈ BIG := inb_2 (List.mem_of_getElem? (i := 33) rfl)
theorem ml_X_43 : Cond.methodLink R_X 43 y_N_condition ∈ BIG := inb_2 (List.mem_of_getElem? (i := 34) rfl)
theorem ml_L_23 : Cond.methodLink R_L 23 y_X_counter ∈ BIG := inb_2 (List.mem_of_getElem? (i := 35) rfl)
theorem im_X_counter : Cond.instanceMethod y_X_counter ∈ BIG := inb_2 (List.mem_of_getElem? (i := 36) rfl)
theorem sel_X_counter : Cond.selects R_X y_X_counter y_X_counter ∈ BIG := inb_2 (List.mem_of_getElem? (i := 37) rfl)
theorem co_X_counter : cw_X_counter ∈ BIG := inb_2 (List.mem_of_getElem? (i := 38) rfl)
theorem ml_L_28 : Cond.methodLink R_L 28 y_X_state ∈ BIG := inb_2 (List.mem_of_getElem? (i := 39) rfl)
theorem im_X_state : Cond.instanceMethod y_X_state ∈ BIG := inb_2 (List.mem_of_getElem? (i := 40) rfl)
theorem sel_X_state : Cond.selects R_X y_X_state y_X_state ∈ BIG := inb_2 (List.mem_of_getElem? (i := 41) rfl)
theorem co_X_state : cw_X_state ∈ BIG := inb_2 (List.mem_of_getElem? (i := 42) rfl)
theorem ml_L_33 : Cond.methodLink R_L 33 y_X_recover ∈ BIG := inb_2 (List.mem_of_getElem? (i := 43) rfl)
theorem im_X_recover : Cond.instanceMethod y_X_recover ∈ BIG := inb_2 (List.mem_of_getElem? (i := 44) rfl)
theorem sel_X_recover : Cond.selects R_X y_X_recover y_X_recover ∈ BIG := inb_2 (List.mem_of_getElem? (i := 45) rfl)
theorem co_X_recover : cw_X_recover ∈ BIG := inb_2 (List.mem_of_getElem? (i := 46) rfl)
theorem ml_X_56 : Cond.methodLink R_X 56 y_N_countRows ∈ BIG := inb_2 (List.mem_of_getElem? (i := 47) rfl)
theorem im_N_countRows : Cond.instanceMethod y_N_countRows ∈ BIG := inb_3 (List.mem_of_getElem? (i := 0) rfl)
theorem sel_N_countRows : Cond.selects R_N y_N_countRows y_N_countRows ∈ BIG := inb_3 (List.mem_of_getElem? (i := 1) rfl)
theorem co_N_countRows : cw_N_countRows ∈ BIG := inb_3 (List.mem_of_getElem? (i := 2) rfl)
theorem ml_N_115 : Cond.methodLink R_N 115 y_N_comeBack ∈ BIG := inb_3 (List.mem_of_getElem? (i := 3) rfl)
theorem im_N_comeBack : Cond.instanceMethod y_N_comeBack ∈ BIG := inb_3 (List.mem_of_getElem? (i := 4) rfl)
theorem sel_N_comeBack : Cond.selects R_N y_N_comeBack y_N_comeBack ∈ BIG := inb_3 (List.mem_of_getElem? (i := 5) rfl)
theorem co_N_comeBack : cw_N_comeBack ∈ BIG := inb_3 (List.mem_of_getElem? (i := 6) rfl)
theorem ml_L_38 : Cond.methodLink R_L 38 y_X_flag ∈ BIG := inb_3 (List.mem_of_getElem? (i := 7) rfl)
theorem im_X_flag : Cond.instanceMethod y_X_flag ∈ BIG := inb_3 (List.mem_of_getElem? (i := 8) rfl)
theorem sel_X_flag : Cond.selects R_X y_X_flag y_X_flag ∈ BIG := inb_3 (List.mem_of_getElem? (i := 9) rfl)
theorem co_X_flag : cw_X_flag ∈ BIG := inb_3 (List.mem_of_getElem? (i := 10) rfl)
theorem ml_L_44 : Cond.methodLink R_L 44 y_X_manager ∈ BIG := inb_3 (List.mem_of_getElem? (i := 11) rfl)
theorem im_X_manager : Cond.instanceMethod y_X_manager ∈ BIG := inb_3 (List.mem_of_getElem? (i := 12) rfl)
theorem sel_X_manager : Cond.selects R_X y_X_manager y_X_manager ∈ BIG := inb_3 (List.mem_of_getElem? (i := 13) rfl)
theorem co_X_manager : cw_X_manager ∈ BIG := inb_3 (List.mem_of_getElem? (i := 14) rfl)
theorem ml_X_63 : Cond.methodLink R_X 63 y_N_mayComeBack ∈ BIG := inb_3 (List.mem_of_getElem? (i := 15) rfl)
theorem im_N_mayComeBack : Cond.instanceMethod y_N_mayComeBack ∈ BIG := inb_3 (List.mem_of_getElem? (i := 16) rfl)
theorem sel_N_mayComeBack : Cond.selects R_N y_N_mayComeBack y_N_mayComeBack ∈ BIG := inb_3 (List.mem_of_getElem? (i := 17) rfl)
theorem co_N_mayComeBack : cw_N_mayComeBack ∈ BIG := inb_3 (List.mem_of_getElem? (i := 18) rfl)
theorem ml_N_107 : Cond.methodLink R_N 107 y_N_delay ∈ BIG := inb_3 (List.mem_of_getElem? (i := 19) rfl)
theorem im_N_delay : Cond.instanceMethod y_N_delay ∈ BIG := inb_3 (List.mem_of_getElem? (i := 20) rfl)
theorem sel_N_delay : Cond.selects R_N y_N_delay y_N_delay ∈ BIG := inb_3 (List.mem_of_getElem? (i := 21) rfl)
theorem co_N_delay : cw_N_delay ∈ BIG := inb_3 (List.mem_of_getElem? (i := 22) rfl)
theorem k_N_111 : Cond.constantLong R_N 111 100 ∈ BIG := inb_3 (List.mem_of_getElem? (i := 23) rfl)
theorem k_N_113 : Cond.constantLong R_N 113 10 ∈ BIG := inb_3 (List.mem_of_getElem? (i := 24) rfl)
theorem ml_L_49 : Cond.methodLink R_L 49 y_X_shot ∈ BIG := inb_3 (List.mem_of_getElem? (i := 25) rfl)
theorem im_X_shot : Cond.instanceMethod y_X_shot ∈ BIG := inb_3 (List.mem_of_getElem? (i := 26) rfl)
theorem sel_X_shot : Cond.selects R_X y_X_shot y_X_shot ∈ BIG := inb_3 (List.mem_of_getElem? (i := 27) rfl)
theorem co_X_shot : cw_X_shot ∈ BIG := inb_3 (List.mem_of_getElem? (i := 28) rfl)
theorem ml_L_53 : Cond.methodLink R_L 53 y_X_listen ∈ BIG := inb_3 (List.mem_of_getElem? (i := 29) rfl)
theorem im_X_listen : Cond.instanceMethod y_X_listen ∈ BIG := inb_3 (List.mem_of_getElem? (i := 30) rfl)
theorem sel_X_listen : Cond.selects R_X y_X_listen y_X_listen ∈ BIG := inb_3 (List.mem_of_getElem? (i := 31) rfl)
theorem co_X_listen : cw_X_listen ∈ BIG := inb_3 (List.mem_of_getElem? (i := 32) rfl)
theorem ml_L_57 : Cond.methodLink R_L 57 y_X_two ∈ BIG := inb_3 (List.mem_of_getElem? (i := 33) rfl)
theorem im_X_two : Cond.instanceMethod y_X_two ∈ BIG := inb_3 (List.mem_of_getElem? (i := 34) rfl)
theorem sel_X_two : Cond.selects R_X y_X_two y_X_two ∈ BIG := inb_3 (List.mem_of_getElem? (i := 35) rfl)
theorem co_X_two : cw_X_two ∈ BIG := inb_3 (List.mem_of_getElem? (i := 36) rfl)
theorem ml_X_73 : Cond.methodLink R_X 73 Lib.Math.min.name ∈ BIG := inb_3 (List.mem_of_getElem? (i := 37) rfl)
theorem ml_X_79 : Cond.methodLink R_X 79 Lib.Math.max.name ∈ BIG := inb_3 (List.mem_of_getElem? (i := 38) rfl)
theorem ml_X_82 : Cond.methodLink R_X 82 y_N_undergoBoth ∈ BIG := inb_3 (List.mem_of_getElem? (i := 39) rfl)
theorem im_N_undergoBoth : Cond.instanceMethod y_N_undergoBoth ∈ BIG := inb_3 (List.mem_of_getElem? (i := 40) rfl)
theorem sel_N_undergoBoth : Cond.selects R_N y_N_undergoBoth y_N_undergoBoth ∈ BIG := inb_3 (List.mem_of_getElem? (i := 41) rfl)
theorem co_N_undergoBoth : cw_N_undergoBoth ∈ BIG := inb_3 (List.mem_of_getElem? (i := 42) rfl)
theorem ml_N_28 : Cond.methodLink R_N 28 y_N_undergo ∈ BIG := inb_3 (List.mem_of_getElem? (i := 43) rfl)
theorem ml_L_62 : Cond.methodLink R_L 62 y_X_suspended ∈ BIG := inb_3 (List.mem_of_getElem? (i := 44) rfl)
theorem im_X_suspended : Cond.instanceMethod y_X_suspended ∈ BIG := inb_3 (List.mem_of_getElem? (i := 45) rfl)
theorem sel_X_suspended : Cond.selects R_X y_X_suspended y_X_suspended ∈ BIG := inb_3 (List.mem_of_getElem? (i := 46) rfl)
theorem co_X_suspended : cw_X_suspended ∈ BIG := inb_3 (List.mem_of_getElem? (i := 47) rfl)
theorem cl_L_10 : Cond.classLink R_L 10 R_M ∈ BIG := inb_4 (List.mem_of_getElem? (i := 0) rfl)
theorem inst_M : Cond.instantiable R_M 17 ∈ BIG := inb_4 (List.mem_of_getElem? (i := 1) rfl)
theorem ml_L_12 : Cond.methodLink R_L 12 y_M_init ∈ BIG := inb_4 (List.mem_of_getElem? (i := 2) rfl)
theorem im_M_init : Cond.instanceMethod y_M_init ∈ BIG := inb_4 (List.mem_of_getElem? (i := 3) rfl)
theorem co_M_init : cw_M_init ∈ BIG := inb_4 (List.mem_of_getElem? (i := 4) rfl)
theorem ml_M_1 : Cond.methodLink R_M 1 objectInit ∈ BIG := inb_4 (List.mem_of_getElem? (i := 5) rfl)
theorem fl_M_54 : Cond.fieldLink R_M 54 "CanErrorsModel" "code" "I" ∈ BIG := inb_4 (List.mem_of_getElem? (i := 6) rfl)
theorem fl_M_58 : Cond.fieldLink R_M 58 "CanErrorsModel" "nodes" "I" ∈ BIG := inb_4 (List.mem_of_getElem? (i := 7) rfl)
theorem fl_M_7 : Cond.fieldLink R_M 7 "CanErrorsModel" "sends" "[I" ∈ BIG := inb_4 (List.mem_of_getElem? (i := 8) rfl)
theorem fl_M_13 : Cond.fieldLink R_M 13 "CanErrorsModel" "takes" "[I" ∈ BIG := inb_4 (List.mem_of_getElem? (i := 9) rfl)
theorem fl_M_16 : Cond.fieldLink R_M 16 "CanErrorsModel" "off" "[Z" ∈ BIG := inb_4 (List.mem_of_getElem? (i := 10) rfl)
theorem fl_M_20 : Cond.fieldLink R_M 20 "CanErrorsModel" "flag" "[I" ∈ BIG := inb_4 (List.mem_of_getElem? (i := 11) rfl)
theorem fl_M_23 : Cond.fieldLink R_M 23 "CanErrorsModel" "wait" "[I" ∈ BIG := inb_4 (List.mem_of_getElem? (i := 12) rfl)
theorem fl_M_26 : Cond.fieldLink R_M 26 "CanErrorsModel" "sender" "[Z" ∈ BIG := inb_4 (List.mem_of_getElem? (i := 13) rfl)
theorem fl_M_29 : Cond.fieldLink R_M 29 "CanErrorsModel" "single" "[Z" ∈ BIG := inb_4 (List.mem_of_getElem? (i := 14) rfl)
theorem fl_M_32 : Cond.fieldLink R_M 32 "CanErrorsModel" "given" "[I" ∈ BIG := inb_4 (List.mem_of_getElem? (i := 15) rfl)
theorem fl_M_35 : Cond.fieldLink R_M 35 "CanErrorsModel" "alone" "[Z" ∈ BIG := inb_4 (List.mem_of_getElem? (i := 16) rfl)
theorem fl_M_38 : Cond.fieldLink R_M 38 "CanErrorsModel" "asked" "[J" ∈ BIG := inb_4 (List.mem_of_getElem? (i := 17) rfl)
theorem fl_M_42 : Cond.fieldLink R_M 42 "CanErrorsModel" "let" "[Z" ∈ BIG := inb_4 (List.mem_of_getElem? (i := 18) rfl)
theorem fl_M_45 : Cond.fieldLink R_M 45 "CanErrorsModel" "rows" "[I" ∈ BIG := inb_4 (List.mem_of_getElem? (i := 19) rfl)
theorem fl_M_48 : Cond.fieldLink R_M 48 "CanErrorsModel" "inRow" "[I" ∈ BIG := inb_4 (List.mem_of_getElem? (i := 20) rfl)
theorem fl_M_51 : Cond.fieldLink R_M 51 "CanErrorsModel" "fine" "[I" ∈ BIG := inb_4 (List.mem_of_getElem? (i := 21) rfl)
theorem fl_M_82 : Cond.fieldLink R_M 82 "CanErrorsModel" "latest" "J" ∈ BIG := inb_4 (List.mem_of_getElem? (i := 22) rfl)
theorem ac_int : Cond.arrayClass .int ∈ BIG := inb_4 (List.mem_of_getElem? (i := 40) rfl)
theorem ac_boolean : Cond.arrayClass .boolean ∈ BIG := inb_4 (List.mem_of_getElem? (i := 41) rfl)
theorem ac_long : Cond.arrayClass .long ∈ BIG := inb_4 (List.mem_of_getElem? (i := 42) rfl)
theorem ml_L_17 : Cond.methodLink R_L 17 y_M_node ∈ BIG := inb_4 (List.mem_of_getElem? (i := 43) rfl)
theorem im_M_node : Cond.instanceMethod y_M_node ∈ BIG := inb_4 (List.mem_of_getElem? (i := 44) rfl)
theorem sel_M_node : Cond.selects R_M y_M_node y_M_node ∈ BIG := inb_4 (List.mem_of_getElem? (i := 45) rfl)
theorem co_M_node : cw_M_node ∈ BIG := inb_4 (List.mem_of_getElem? (i := 46) rfl)
theorem k_M_61 : Cond.constantLong R_M 61 (-1) ∈ BIG := inb_4 (List.mem_of_getElem? (i := 47) rfl)
theorem ml_L_22 : Cond.methodLink R_L 22 y_M_event ∈ BIG := inb_5 (List.mem_of_getElem? (i := 0) rfl)
theorem im_M_event : Cond.instanceMethod y_M_event ∈ BIG := inb_5 (List.mem_of_getElem? (i := 1) rfl)
theorem sel_M_event : Cond.selects R_M y_M_event y_M_event ∈ BIG := inb_5 (List.mem_of_getElem? (i := 2) rfl)
theorem co_M_event : cw_M_event ∈ BIG := inb_5 (List.mem_of_getElem? (i := 3) rfl)
theorem ml_M_75 : Cond.methodLink R_M 75 y_M_none ∈ BIG := inb_5 (List.mem_of_getElem? (i := 4) rfl)
theorem im_M_none : Cond.instanceMethod y_M_none ∈ BIG := inb_5 (List.mem_of_getElem? (i := 5) rfl)
theorem co_M_none : cw_M_none ∈ BIG := inb_5 (List.mem_of_getElem? (i := 6) rfl)
theorem ml_M_78 : Cond.methodLink R_M 78 y_M_happens ∈ BIG := inb_5 (List.mem_of_getElem? (i := 7) rfl)
theorem im_M_happens : Cond.instanceMethod y_M_happens ∈ BIG := inb_5 (List.mem_of_getElem? (i := 8) rfl)
theorem co_M_happens : cw_M_happens ∈ BIG := inb_5 (List.mem_of_getElem? (i := 9) rfl)
theorem ml_M_67 : Cond.methodLink R_M 67 y_M_more ∈ BIG := inb_5 (List.mem_of_getElem? (i := 10) rfl)
theorem im_M_more : Cond.instanceMethod y_M_more ∈ BIG := inb_5 (List.mem_of_getElem? (i := 11) rfl)
theorem co_M_more : cw_M_more ∈ BIG := inb_5 (List.mem_of_getElem? (i := 12) rfl)
theorem ml_M_63 : Cond.methodLink R_M 63 y_M_is ∈ BIG := inb_5 (List.mem_of_getElem? (i := 13) rfl)
theorem im_M_is : Cond.instanceMethod y_M_is ∈ BIG := inb_5 (List.mem_of_getElem? (i := 14) rfl)
theorem co_M_is : cw_M_is ∈ BIG := inb_5 (List.mem_of_getElem? (i := 15) rfl)
theorem ml_M_71 : Cond.methodLink R_M 71 y_M_error ∈ BIG := inb_5 (List.mem_of_getElem? (i := 16) rfl)
theorem sta_M_error : Cond.static y_M_error ∈ BIG := inb_5 (List.mem_of_getElem? (i := 17) rfl)
theorem co_M_error : cw_M_error ∈ BIG := inb_5 (List.mem_of_getElem? (i := 18) rfl)
theorem ml_L_27 : Cond.methodLink R_L 27 y_M_counter ∈ BIG := inb_5 (List.mem_of_getElem? (i := 19) rfl)
theorem im_M_counter : Cond.instanceMethod y_M_counter ∈ BIG := inb_5 (List.mem_of_getElem? (i := 20) rfl)
theorem sel_M_counter : Cond.selects R_M y_M_counter y_M_counter ∈ BIG := inb_5 (List.mem_of_getElem? (i := 21) rfl)
theorem co_M_counter : cw_M_counter ∈ BIG := inb_5 (List.mem_of_getElem? (i := 22) rfl)
theorem ml_L_32 : Cond.methodLink R_L 32 y_M_state ∈ BIG := inb_5 (List.mem_of_getElem? (i := 23) rfl)
theorem im_M_state : Cond.instanceMethod y_M_state ∈ BIG := inb_5 (List.mem_of_getElem? (i := 24) rfl)
theorem sel_M_state : Cond.selects R_M y_M_state y_M_state ∈ BIG := inb_5 (List.mem_of_getElem? (i := 25) rfl)
theorem co_M_state : cw_M_state ∈ BIG := inb_5 (List.mem_of_getElem? (i := 26) rfl)
theorem ml_L_37 : Cond.methodLink R_L 37 y_M_recover ∈ BIG := inb_5 (List.mem_of_getElem? (i := 27) rfl)
theorem im_M_recover : Cond.instanceMethod y_M_recover ∈ BIG := inb_5 (List.mem_of_getElem? (i := 28) rfl)
theorem sel_M_recover : Cond.selects R_M y_M_recover y_M_recover ∈ BIG := inb_5 (List.mem_of_getElem? (i := 29) rfl)
theorem co_M_recover : cw_M_recover ∈ BIG := inb_5 (List.mem_of_getElem? (i := 30) rfl)
theorem ml_L_41 : Cond.methodLink R_L 41 y_M_flag ∈ BIG := inb_5 (List.mem_of_getElem? (i := 31) rfl)
theorem im_M_flag : Cond.instanceMethod y_M_flag ∈ BIG := inb_5 (List.mem_of_getElem? (i := 32) rfl)
theorem sel_M_flag : Cond.selects R_M y_M_flag y_M_flag ∈ BIG := inb_5 (List.mem_of_getElem? (i := 33) rfl)
theorem co_M_flag : cw_M_flag ∈ BIG := inb_5 (List.mem_of_getElem? (i := 34) rfl)
theorem ml_L_48 : Cond.methodLink R_L 48 y_M_manager ∈ BIG := inb_5 (List.mem_of_getElem? (i := 35) rfl)
theorem im_M_manager : Cond.instanceMethod y_M_manager ∈ BIG := inb_5 (List.mem_of_getElem? (i := 36) rfl)
theorem sel_M_manager : Cond.selects R_M y_M_manager y_M_manager ∈ BIG := inb_5 (List.mem_of_getElem? (i := 37) rfl)
theorem co_M_manager : cw_M_manager ∈ BIG := inb_5 (List.mem_of_getElem? (i := 38) rfl)
theorem k_M_86 : Cond.constantLong R_M 86 100 ∈ BIG := inb_5 (List.mem_of_getElem? (i := 39) rfl)
theorem k_M_88 : Cond.constantLong R_M 88 10 ∈ BIG := inb_5 (List.mem_of_getElem? (i := 40) rfl)
theorem ml_L_52 : Cond.methodLink R_L 52 y_M_shot ∈ BIG := inb_5 (List.mem_of_getElem? (i := 41) rfl)
theorem im_M_shot : Cond.instanceMethod y_M_shot ∈ BIG := inb_5 (List.mem_of_getElem? (i := 42) rfl)
theorem sel_M_shot : Cond.selects R_M y_M_shot y_M_shot ∈ BIG := inb_5 (List.mem_of_getElem? (i := 43) rfl)
theorem co_M_shot : cw_M_shot ∈ BIG := inb_5 (List.mem_of_getElem? (i := 44) rfl)
theorem ml_L_56 : Cond.methodLink R_L 56 y_M_listen ∈ BIG := inb_5 (List.mem_of_getElem? (i := 45) rfl)
theorem im_M_listen : Cond.instanceMethod y_M_listen ∈ BIG := inb_5 (List.mem_of_getElem? (i := 46) rfl)
theorem sel_M_listen : Cond.selects R_M y_M_listen y_M_listen ∈ BIG := inb_5 (List.mem_of_getElem? (i := 47) rfl)
theorem co_M_listen : cw_M_listen ∈ BIG := inb_6 (List.mem_of_getElem? (i := 0) rfl)
theorem ml_L_61 : Cond.methodLink R_L 61 y_M_two ∈ BIG := inb_6 (List.mem_of_getElem? (i := 1) rfl)
theorem im_M_two : Cond.instanceMethod y_M_two ∈ BIG := inb_6 (List.mem_of_getElem? (i := 2) rfl)
theorem sel_M_two : Cond.selects R_M y_M_two y_M_two ∈ BIG := inb_6 (List.mem_of_getElem? (i := 3) rfl)
theorem co_M_two : cw_M_two ∈ BIG := inb_6 (List.mem_of_getElem? (i := 4) rfl)
theorem ml_L_65 : Cond.methodLink R_L 65 y_M_suspended ∈ BIG := inb_6 (List.mem_of_getElem? (i := 5) rfl)
theorem im_M_suspended : Cond.instanceMethod y_M_suspended ∈ BIG := inb_6 (List.mem_of_getElem? (i := 6) rfl)
theorem sel_M_suspended : Cond.selects R_M y_M_suspended y_M_suspended ∈ BIG := inb_6 (List.mem_of_getElem? (i := 7) rfl)
theorem co_M_suspended : cw_M_suspended ∈ BIG := inb_6 (List.mem_of_getElem? (i := 8) rfl)
theorem k_L_42 : Cond.constantLong R_L 42 4294967295 ∈ BIG := inb_6 (List.mem_of_getElem? (i := 9) rfl)
theorem uw_N : ∀ w ∈ u_ws R_N F_N 15, w ∈ BIG := by decide +kernel
theorem uw_X : ∀ w ∈ u_ws R_X F_X 3, w ∈ BIG := by decide +kernel
theorem uw_M : ∀ w ∈ u_ws R_M F_M 17, w ∈ BIG := by decide +kernel
abbrev rmk (d mc ms : Nat) : Room := { frames := d, cells := mc, slots := ms, locals := 30 * d }
def NK (U : State) : Prop := va_Nw (.methodLinkNest R_N 32 y_X_isError R_X) U ∧ va_Nw (.methodLinkNest R_N 88 y_X_isAboutFlag R_X) U ∧ va_AO R_N U
theorem NK.n_N_32 {U : State} (h : NK U) : va_Nw (.methodLinkNest R_N 32 y_X_isError R_X) U := h.1
theorem NK.n_N_88 {U : State} (h : NK U) : va_Nw (.methodLinkNest R_N 88 y_X_isAboutFlag R_X) U := h.2.1
theorem NK.ao {U : State} (h : NK U) : va_AO R_N U := h.2.2
theorem NK.warm {s U : State} (h : NK s) (hW : s.WarmedH U.vm) : NK U := ⟨va_Nw.warmM hW h.n_N_32, va_Nw.warmM hW h.n_N_88, va_AO.moved hW.alike h.ao⟩
theorem NK.same {u U : State} (e : u.vm = U.vm) (h : NK u) : NK U := ⟨va_Nw.same rfl e h.n_N_32, va_Nw.same rfl e h.n_N_88, va_AO.moved (by rw [e]; exact Vm.Alike.refl U.vm) h.ao⟩
end
section
theorem d_L_law_0 : decode code 0 = .ok (.new 7, 3) := by decide +kernel
theorem d_L_law_3 : decode code 3 = .ok (.dup, 1) := by decide +kernel
theorem d_L_law_4 : decode code 4 = .ok (.invokespecial 9, 3) := by decide +kernel
theorem d_L_law_7 : decode code 7 = .ok (.astore_n 1, 1) := by decide +kernel
theorem d_L_law_8 : decode code 8 = .ok (.new 10, 3) := by decide +kernel
theorem d_L_law_11 : decode code 11 = .ok (.dup, 1) := by decide +kernel
theorem d_L_law_12 : decode code 12 = .ok (.invokespecial 12, 3) := by decide +kernel
theorem d_L_law_15 : decode code 15 = .ok (.astore_n 2, 1) := by decide +kernel
theorem d_L_law_16 : decode code 16 = .ok (.iconst 0, 1) := by decide +kernel
theorem d_L_law_17 : decode code 17 = .ok (.istore_n 3, 1) := by decide +kernel
theorem d_L_law_18 : decode code 18 = .ok (.iload_n 3, 1) := by decide +kernel
theorem d_L_law_19 : decode code 19 = .ok (.aload_n 0, 1) := by decide +kernel
theorem d_L_law_20 : decode code 20 = .ok (.arraylength, 1) := by decide +kernel
theorem d_L_law_21 : decode code 21 = .ok (.iconst 4, 1) := by decide +kernel
theorem d_L_law_22 : decode code 22 = .ok (.isub, 1) := by decide +kernel
theorem d_L_law_23 : decode code 23 = .ok (.if_icmp .gt 502, 3) := by decide +kernel
theorem d_L_law_26 : decode code 26 = .ok (.aload_n 0, 1) := by decide +kernel
theorem d_L_law_27 : decode code 27 = .ok (.iload_n 3, 1) := by decide +kernel
theorem d_L_law_28 : decode code 28 = .ok (.iaload, 1) := by decide +kernel
theorem d_L_law_29 : decode code 29 = .ok (.bipush 15, 2) := by decide +kernel
theorem d_L_law_31 : decode code 31 = .ok (.iand, 1) := by decide +kernel
theorem d_L_law_32 : decode code 32 = .ok (.tableswitch 487 0 10 #[60, 73, 132, 181, 204, 237, 260, 323, 372, 421, 464], 60) := by decide +kernel
theorem d_L_law_92 : decode code 92 = .ok (.aload_n 1, 1) := by decide +kernel
theorem d_L_law_93 : decode code 93 = .ok (.invokevirtual 13, 3) := by decide +kernel
theorem d_L_law_96 : decode code 96 = .ok (.aload_n 2, 1) := by decide +kernel
theorem d_L_law_97 : decode code 97 = .ok (.invokevirtual 17, 3) := by decide +kernel
theorem d_L_law_100 : decode code 100 = .ok (.if_icmp .eq 419, 3) := by decide +kernel
theorem d_L_law_103 : decode code 103 = .ok (.iconst 0, 1) := by decide +kernel
theorem d_L_law_104 : decode code 104 = .ok (.ireturn, 1) := by decide +kernel
theorem d_L_law_105 : decode code 105 = .ok (.aload_n 1, 1) := by decide +kernel
theorem d_L_law_106 : decode code 106 = .ok (.aload_n 0, 1) := by decide +kernel
theorem d_L_law_107 : decode code 107 = .ok (.iload_n 3, 1) := by decide +kernel
theorem d_L_law_108 : decode code 108 = .ok (.iconst 1, 1) := by decide +kernel
theorem d_L_law_109 : decode code 109 = .ok (.iadd, 1) := by decide +kernel
theorem d_L_law_110 : decode code 110 = .ok (.iaload, 1) := by decide +kernel
theorem d_L_law_111 : decode code 111 = .ok (.aload_n 0, 1) := by decide +kernel
theorem d_L_law_112 : decode code 112 = .ok (.iload_n 3, 1) := by decide +kernel
theorem d_L_law_113 : decode code 113 = .ok (.iconst 2, 1) := by decide +kernel
theorem d_L_law_114 : decode code 114 = .ok (.iadd, 1) := by decide +kernel
theorem d_L_law_115 : decode code 115 = .ok (.iaload, 1) := by decide +kernel
theorem d_L_law_116 : decode code 116 = .ok (.aload_n 0, 1) := by decide +kernel
theorem d_L_law_117 : decode code 117 = .ok (.iload_n 3, 1) := by decide +kernel
theorem d_L_law_118 : decode code 118 = .ok (.iconst 3, 1) := by decide +kernel
theorem d_L_law_119 : decode code 119 = .ok (.iadd, 1) := by decide +kernel
theorem d_L_law_120 : decode code 120 = .ok (.iaload, 1) := by decide +kernel
theorem d_L_law_121 : decode code 121 = .ok (.ifCond .eq 7, 3) := by decide +kernel
theorem d_L_law_124 : decode code 124 = .ok (.iconst 1, 1) := by decide +kernel
theorem d_L_law_125 : decode code 125 = .ok (.goto 4, 3) := by decide +kernel
theorem d_L_law_128 : decode code 128 = .ok (.iconst 0, 1) := by decide +kernel
theorem d_L_law_129 : decode code 129 = .ok (.invokevirtual 18, 3) := by decide +kernel
theorem d_L_law_132 : decode code 132 = .ok (.aload_n 2, 1) := by decide +kernel
theorem d_L_law_133 : decode code 133 = .ok (.aload_n 0, 1) := by decide +kernel
theorem d_L_law_134 : decode code 134 = .ok (.iload_n 3, 1) := by decide +kernel
theorem d_L_law_135 : decode code 135 = .ok (.iconst 1, 1) := by decide +kernel
theorem d_L_law_136 : decode code 136 = .ok (.iadd, 1) := by decide +kernel
theorem d_L_law_137 : decode code 137 = .ok (.iaload, 1) := by decide +kernel
theorem d_L_law_138 : decode code 138 = .ok (.aload_n 0, 1) := by decide +kernel
theorem d_L_law_139 : decode code 139 = .ok (.iload_n 3, 1) := by decide +kernel
theorem d_L_law_140 : decode code 140 = .ok (.iconst 2, 1) := by decide +kernel
theorem d_L_law_141 : decode code 141 = .ok (.iadd, 1) := by decide +kernel
theorem d_L_law_142 : decode code 142 = .ok (.iaload, 1) := by decide +kernel
theorem d_L_law_143 : decode code 143 = .ok (.aload_n 0, 1) := by decide +kernel
theorem d_L_law_144 : decode code 144 = .ok (.iload_n 3, 1) := by decide +kernel
theorem d_L_law_145 : decode code 145 = .ok (.iconst 3, 1) := by decide +kernel
theorem d_L_law_146 : decode code 146 = .ok (.iadd, 1) := by decide +kernel
theorem d_L_law_147 : decode code 147 = .ok (.iaload, 1) := by decide +kernel
theorem d_L_law_148 : decode code 148 = .ok (.ifCond .eq 7, 3) := by decide +kernel
theorem d_L_law_151 : decode code 151 = .ok (.iconst 1, 1) := by decide +kernel
theorem d_L_law_152 : decode code 152 = .ok (.goto 4, 3) := by decide +kernel
theorem d_L_law_155 : decode code 155 = .ok (.iconst 0, 1) := by decide +kernel
theorem d_L_law_156 : decode code 156 = .ok (.invokevirtual 22, 3) := by decide +kernel
theorem d_L_law_159 : decode code 159 = .ok (.if_icmp .eq 360, 3) := by decide +kernel
theorem d_L_law_162 : decode code 162 = .ok (.iconst 0, 1) := by decide +kernel
theorem d_L_law_163 : decode code 163 = .ok (.ireturn, 1) := by decide +kernel
theorem d_L_law_164 : decode code 164 = .ok (.aload_n 1, 1) := by decide +kernel
theorem d_L_law_165 : decode code 165 = .ok (.aload_n 0, 1) := by decide +kernel
theorem d_L_law_166 : decode code 166 = .ok (.iload_n 3, 1) := by decide +kernel
theorem d_L_law_167 : decode code 167 = .ok (.iconst 1, 1) := by decide +kernel
theorem d_L_law_168 : decode code 168 = .ok (.iadd, 1) := by decide +kernel
theorem d_L_law_169 : decode code 169 = .ok (.iaload, 1) := by decide +kernel
theorem d_L_law_170 : decode code 170 = .ok (.aload_n 0, 1) := by decide +kernel
theorem d_L_law_171 : decode code 171 = .ok (.iload_n 3, 1) := by decide +kernel
theorem d_L_law_172 : decode code 172 = .ok (.iconst 2, 1) := by decide +kernel
theorem d_L_law_173 : decode code 173 = .ok (.iadd, 1) := by decide +kernel
theorem d_L_law_174 : decode code 174 = .ok (.iaload, 1) := by decide +kernel
theorem d_L_law_175 : decode code 175 = .ok (.ifCond .eq 7, 3) := by decide +kernel
theorem d_L_law_178 : decode code 178 = .ok (.iconst 1, 1) := by decide +kernel
theorem d_L_law_179 : decode code 179 = .ok (.goto 4, 3) := by decide +kernel
theorem d_L_law_182 : decode code 182 = .ok (.iconst 0, 1) := by decide +kernel
theorem d_L_law_183 : decode code 183 = .ok (.invokevirtual 23, 3) := by decide +kernel
theorem d_L_law_186 : decode code 186 = .ok (.aload_n 2, 1) := by decide +kernel
theorem d_L_law_187 : decode code 187 = .ok (.aload_n 0, 1) := by decide +kernel
theorem d_L_law_188 : decode code 188 = .ok (.iload_n 3, 1) := by decide +kernel
theorem d_L_law_189 : decode code 189 = .ok (.iconst 1, 1) := by decide +kernel
theorem d_L_law_190 : decode code 190 = .ok (.iadd, 1) := by decide +kernel
theorem d_L_law_191 : decode code 191 = .ok (.iaload, 1) := by decide +kernel
theorem d_L_law_192 : decode code 192 = .ok (.aload_n 0, 1) := by decide +kernel
theorem d_L_law_193 : decode code 193 = .ok (.iload_n 3, 1) := by decide +kernel
theorem d_L_law_194 : decode code 194 = .ok (.iconst 2, 1) := by decide +kernel
theorem d_L_law_195 : decode code 195 = .ok (.iadd, 1) := by decide +kernel
theorem d_L_law_196 : decode code 196 = .ok (.iaload, 1) := by decide +kernel
theorem d_L_law_197 : decode code 197 = .ok (.ifCond .eq 7, 3) := by decide +kernel
theorem d_L_law_200 : decode code 200 = .ok (.iconst 1, 1) := by decide +kernel
theorem d_L_law_201 : decode code 201 = .ok (.goto 4, 3) := by decide +kernel
theorem d_L_law_204 : decode code 204 = .ok (.iconst 0, 1) := by decide +kernel
theorem d_L_law_205 : decode code 205 = .ok (.invokevirtual 27, 3) := by decide +kernel
theorem d_L_law_208 : decode code 208 = .ok (.if_icmp .eq 311, 3) := by decide +kernel
theorem d_L_law_211 : decode code 211 = .ok (.iconst 0, 1) := by decide +kernel
theorem d_L_law_212 : decode code 212 = .ok (.ireturn, 1) := by decide +kernel
theorem d_L_law_213 : decode code 213 = .ok (.aload_n 1, 1) := by decide +kernel
theorem d_L_law_214 : decode code 214 = .ok (.aload_n 0, 1) := by decide +kernel
theorem d_L_law_215 : decode code 215 = .ok (.iload_n 3, 1) := by decide +kernel
theorem d_L_law_216 : decode code 216 = .ok (.iconst 1, 1) := by decide +kernel
theorem d_L_law_217 : decode code 217 = .ok (.iadd, 1) := by decide +kernel
theorem d_L_law_218 : decode code 218 = .ok (.iaload, 1) := by decide +kernel
theorem d_L_law_219 : decode code 219 = .ok (.invokevirtual 28, 3) := by decide +kernel
theorem d_L_law_222 : decode code 222 = .ok (.aload_n 2, 1) := by decide +kernel
theorem d_L_law_223 : decode code 223 = .ok (.aload_n 0, 1) := by decide +kernel
theorem d_L_law_224 : decode code 224 = .ok (.iload_n 3, 1) := by decide +kernel
theorem d_L_law_225 : decode code 225 = .ok (.iconst 1, 1) := by decide +kernel
theorem d_L_law_226 : decode code 226 = .ok (.iadd, 1) := by decide +kernel
theorem d_L_law_227 : decode code 227 = .ok (.iaload, 1) := by decide +kernel
theorem d_L_law_228 : decode code 228 = .ok (.invokevirtual 32, 3) := by decide +kernel
theorem d_L_law_231 : decode code 231 = .ok (.if_icmp .eq 288, 3) := by decide +kernel
theorem d_L_law_234 : decode code 234 = .ok (.iconst 0, 1) := by decide +kernel
theorem d_L_law_235 : decode code 235 = .ok (.ireturn, 1) := by decide +kernel
theorem d_L_law_236 : decode code 236 = .ok (.aload_n 1, 1) := by decide +kernel
theorem d_L_law_237 : decode code 237 = .ok (.aload_n 0, 1) := by decide +kernel
theorem d_L_law_238 : decode code 238 = .ok (.iload_n 3, 1) := by decide +kernel
theorem d_L_law_239 : decode code 239 = .ok (.iconst 1, 1) := by decide +kernel
theorem d_L_law_240 : decode code 240 = .ok (.iadd, 1) := by decide +kernel
theorem d_L_law_241 : decode code 241 = .ok (.iaload, 1) := by decide +kernel
theorem d_L_law_242 : decode code 242 = .ok (.aload_n 0, 1) := by decide +kernel
theorem d_L_law_243 : decode code 243 = .ok (.iload_n 3, 1) := by decide +kernel
theorem d_L_law_244 : decode code 244 = .ok (.iconst 2, 1) := by decide +kernel
theorem d_L_law_245 : decode code 245 = .ok (.iadd, 1) := by decide +kernel
theorem d_L_law_246 : decode code 246 = .ok (.iaload, 1) := by decide +kernel
theorem d_L_law_247 : decode code 247 = .ok (.invokevirtual 33, 3) := by decide +kernel
theorem d_L_law_250 : decode code 250 = .ok (.aload_n 2, 1) := by decide +kernel
theorem d_L_law_251 : decode code 251 = .ok (.aload_n 0, 1) := by decide +kernel
theorem d_L_law_252 : decode code 252 = .ok (.iload_n 3, 1) := by decide +kernel
theorem d_L_law_253 : decode code 253 = .ok (.iconst 1, 1) := by decide +kernel
theorem d_L_law_254 : decode code 254 = .ok (.iadd, 1) := by decide +kernel
theorem d_L_law_255 : decode code 255 = .ok (.iaload, 1) := by decide +kernel
theorem d_L_law_256 : decode code 256 = .ok (.aload_n 0, 1) := by decide +kernel
theorem d_L_law_257 : decode code 257 = .ok (.iload_n 3, 1) := by decide +kernel
theorem d_L_law_258 : decode code 258 = .ok (.iconst 2, 1) := by decide +kernel
theorem d_L_law_259 : decode code 259 = .ok (.iadd, 1) := by decide +kernel
theorem d_L_law_260 : decode code 260 = .ok (.iaload, 1) := by decide +kernel
theorem d_L_law_261 : decode code 261 = .ok (.invokevirtual 37, 3) := by decide +kernel
theorem d_L_law_264 : decode code 264 = .ok (.if_icmp .eq 255, 3) := by decide +kernel
theorem d_L_law_267 : decode code 267 = .ok (.iconst 0, 1) := by decide +kernel
theorem d_L_law_268 : decode code 268 = .ok (.ireturn, 1) := by decide +kernel
theorem d_L_law_269 : decode code 269 = .ok (.aload_n 1, 1) := by decide +kernel
theorem d_L_law_270 : decode code 270 = .ok (.aload_n 0, 1) := by decide +kernel
theorem d_L_law_271 : decode code 271 = .ok (.iload_n 3, 1) := by decide +kernel
theorem d_L_law_272 : decode code 272 = .ok (.iconst 1, 1) := by decide +kernel
theorem d_L_law_273 : decode code 273 = .ok (.iadd, 1) := by decide +kernel
theorem d_L_law_274 : decode code 274 = .ok (.iaload, 1) := by decide +kernel
theorem d_L_law_275 : decode code 275 = .ok (.invokevirtual 38, 3) := by decide +kernel
theorem d_L_law_278 : decode code 278 = .ok (.aload_n 2, 1) := by decide +kernel
theorem d_L_law_279 : decode code 279 = .ok (.aload_n 0, 1) := by decide +kernel
theorem d_L_law_280 : decode code 280 = .ok (.iload_n 3, 1) := by decide +kernel
theorem d_L_law_281 : decode code 281 = .ok (.iconst 1, 1) := by decide +kernel
theorem d_L_law_282 : decode code 282 = .ok (.iadd, 1) := by decide +kernel
theorem d_L_law_283 : decode code 283 = .ok (.iaload, 1) := by decide +kernel
theorem d_L_law_284 : decode code 284 = .ok (.invokevirtual 41, 3) := by decide +kernel
theorem d_L_law_287 : decode code 287 = .ok (.if_icmp .eq 232, 3) := by decide +kernel
theorem d_L_law_290 : decode code 290 = .ok (.iconst 0, 1) := by decide +kernel
theorem d_L_law_291 : decode code 291 = .ok (.ireturn, 1) := by decide +kernel
theorem d_L_law_292 : decode code 292 = .ok (.aload_n 1, 1) := by decide +kernel
theorem d_L_law_293 : decode code 293 = .ok (.aload_n 0, 1) := by decide +kernel
theorem d_L_law_294 : decode code 294 = .ok (.iload_n 3, 1) := by decide +kernel
theorem d_L_law_295 : decode code 295 = .ok (.iconst 1, 1) := by decide +kernel
theorem d_L_law_296 : decode code 296 = .ok (.iadd, 1) := by decide +kernel
theorem d_L_law_297 : decode code 297 = .ok (.iaload, 1) := by decide +kernel
theorem d_L_law_298 : decode code 298 = .ok (.aload_n 0, 1) := by decide +kernel
theorem d_L_law_299 : decode code 299 = .ok (.iload_n 3, 1) := by decide +kernel
theorem d_L_law_300 : decode code 300 = .ok (.iconst 2, 1) := by decide +kernel
theorem d_L_law_301 : decode code 301 = .ok (.iadd, 1) := by decide +kernel
theorem d_L_law_302 : decode code 302 = .ok (.iaload, 1) := by decide +kernel
theorem d_L_law_303 : decode code 303 = .ok (.i2l, 1) := by decide +kernel
theorem d_L_law_304 : decode code 304 = .ok (.bipush 32, 2) := by decide +kernel
theorem d_L_law_306 : decode code 306 = .ok (.lshl, 1) := by decide +kernel
theorem d_L_law_307 : decode code 307 = .ok (.aload_n 0, 1) := by decide +kernel
theorem d_L_law_308 : decode code 308 = .ok (.iload_n 3, 1) := by decide +kernel
theorem d_L_law_309 : decode code 309 = .ok (.iconst 3, 1) := by decide +kernel
theorem d_L_law_310 : decode code 310 = .ok (.iadd, 1) := by decide +kernel
theorem d_L_law_311 : decode code 311 = .ok (.iaload, 1) := by decide +kernel
theorem d_L_law_312 : decode code 312 = .ok (.i2l, 1) := by decide +kernel
theorem d_L_law_313 : decode code 313 = .ok (.ldc2_w 42, 3) := by decide +kernel
theorem d_L_law_316 : decode code 316 = .ok (.land, 1) := by decide +kernel
theorem d_L_law_317 : decode code 317 = .ok (.lor, 1) := by decide +kernel
theorem d_L_law_318 : decode code 318 = .ok (.invokevirtual 44, 3) := by decide +kernel
theorem d_L_law_321 : decode code 321 = .ok (.aload_n 2, 1) := by decide +kernel
theorem d_L_law_322 : decode code 322 = .ok (.aload_n 0, 1) := by decide +kernel
theorem d_L_law_323 : decode code 323 = .ok (.iload_n 3, 1) := by decide +kernel
theorem d_L_law_324 : decode code 324 = .ok (.iconst 1, 1) := by decide +kernel
theorem d_L_law_325 : decode code 325 = .ok (.iadd, 1) := by decide +kernel
theorem d_L_law_326 : decode code 326 = .ok (.iaload, 1) := by decide +kernel
theorem d_L_law_327 : decode code 327 = .ok (.aload_n 0, 1) := by decide +kernel
theorem d_L_law_328 : decode code 328 = .ok (.iload_n 3, 1) := by decide +kernel
theorem d_L_law_329 : decode code 329 = .ok (.iconst 2, 1) := by decide +kernel
theorem d_L_law_330 : decode code 330 = .ok (.iadd, 1) := by decide +kernel
theorem d_L_law_331 : decode code 331 = .ok (.iaload, 1) := by decide +kernel
theorem d_L_law_332 : decode code 332 = .ok (.i2l, 1) := by decide +kernel
theorem d_L_law_333 : decode code 333 = .ok (.bipush 32, 2) := by decide +kernel
theorem d_L_law_335 : decode code 335 = .ok (.lshl, 1) := by decide +kernel
theorem d_L_law_336 : decode code 336 = .ok (.aload_n 0, 1) := by decide +kernel
theorem d_L_law_337 : decode code 337 = .ok (.iload_n 3, 1) := by decide +kernel
theorem d_L_law_338 : decode code 338 = .ok (.iconst 3, 1) := by decide +kernel
theorem d_L_law_339 : decode code 339 = .ok (.iadd, 1) := by decide +kernel
theorem d_L_law_340 : decode code 340 = .ok (.iaload, 1) := by decide +kernel
theorem d_L_law_341 : decode code 341 = .ok (.i2l, 1) := by decide +kernel
theorem d_L_law_342 : decode code 342 = .ok (.ldc2_w 42, 3) := by decide +kernel
theorem d_L_law_345 : decode code 345 = .ok (.land, 1) := by decide +kernel
theorem d_L_law_346 : decode code 346 = .ok (.lor, 1) := by decide +kernel
theorem d_L_law_347 : decode code 347 = .ok (.invokevirtual 48, 3) := by decide +kernel
theorem d_L_law_350 : decode code 350 = .ok (.if_icmp .eq 169, 3) := by decide +kernel
theorem d_L_law_353 : decode code 353 = .ok (.iconst 0, 1) := by decide +kernel
theorem d_L_law_354 : decode code 354 = .ok (.ireturn, 1) := by decide +kernel
theorem d_L_law_355 : decode code 355 = .ok (.aload_n 1, 1) := by decide +kernel
theorem d_L_law_356 : decode code 356 = .ok (.aload_n 0, 1) := by decide +kernel
theorem d_L_law_357 : decode code 357 = .ok (.iload_n 3, 1) := by decide +kernel
theorem d_L_law_358 : decode code 358 = .ok (.iconst 1, 1) := by decide +kernel
theorem d_L_law_359 : decode code 359 = .ok (.iadd, 1) := by decide +kernel
theorem d_L_law_360 : decode code 360 = .ok (.iaload, 1) := by decide +kernel
theorem d_L_law_361 : decode code 361 = .ok (.aload_n 0, 1) := by decide +kernel
theorem d_L_law_362 : decode code 362 = .ok (.iload_n 3, 1) := by decide +kernel
theorem d_L_law_363 : decode code 363 = .ok (.iconst 2, 1) := by decide +kernel
theorem d_L_law_364 : decode code 364 = .ok (.iadd, 1) := by decide +kernel
theorem d_L_law_365 : decode code 365 = .ok (.iaload, 1) := by decide +kernel
theorem d_L_law_366 : decode code 366 = .ok (.ifCond .eq 7, 3) := by decide +kernel
theorem d_L_law_369 : decode code 369 = .ok (.iconst 1, 1) := by decide +kernel
theorem d_L_law_370 : decode code 370 = .ok (.goto 4, 3) := by decide +kernel
theorem d_L_law_373 : decode code 373 = .ok (.iconst 0, 1) := by decide +kernel
theorem d_L_law_374 : decode code 374 = .ok (.invokevirtual 49, 3) := by decide +kernel
theorem d_L_law_377 : decode code 377 = .ok (.aload_n 2, 1) := by decide +kernel
theorem d_L_law_378 : decode code 378 = .ok (.aload_n 0, 1) := by decide +kernel
theorem d_L_law_379 : decode code 379 = .ok (.iload_n 3, 1) := by decide +kernel
theorem d_L_law_380 : decode code 380 = .ok (.iconst 1, 1) := by decide +kernel
theorem d_L_law_381 : decode code 381 = .ok (.iadd, 1) := by decide +kernel
theorem d_L_law_382 : decode code 382 = .ok (.iaload, 1) := by decide +kernel
theorem d_L_law_383 : decode code 383 = .ok (.aload_n 0, 1) := by decide +kernel
theorem d_L_law_384 : decode code 384 = .ok (.iload_n 3, 1) := by decide +kernel
theorem d_L_law_385 : decode code 385 = .ok (.iconst 2, 1) := by decide +kernel
theorem d_L_law_386 : decode code 386 = .ok (.iadd, 1) := by decide +kernel
theorem d_L_law_387 : decode code 387 = .ok (.iaload, 1) := by decide +kernel
theorem d_L_law_388 : decode code 388 = .ok (.ifCond .eq 7, 3) := by decide +kernel
theorem d_L_law_391 : decode code 391 = .ok (.iconst 1, 1) := by decide +kernel
theorem d_L_law_392 : decode code 392 = .ok (.goto 4, 3) := by decide +kernel
theorem d_L_law_395 : decode code 395 = .ok (.iconst 0, 1) := by decide +kernel
theorem d_L_law_396 : decode code 396 = .ok (.invokevirtual 52, 3) := by decide +kernel
theorem d_L_law_399 : decode code 399 = .ok (.if_icmp .eq 120, 3) := by decide +kernel
theorem d_L_law_402 : decode code 402 = .ok (.iconst 0, 1) := by decide +kernel
theorem d_L_law_403 : decode code 403 = .ok (.ireturn, 1) := by decide +kernel
theorem d_L_law_404 : decode code 404 = .ok (.aload_n 1, 1) := by decide +kernel
theorem d_L_law_405 : decode code 405 = .ok (.aload_n 0, 1) := by decide +kernel
theorem d_L_law_406 : decode code 406 = .ok (.iload_n 3, 1) := by decide +kernel
theorem d_L_law_407 : decode code 407 = .ok (.iconst 1, 1) := by decide +kernel
theorem d_L_law_408 : decode code 408 = .ok (.iadd, 1) := by decide +kernel
theorem d_L_law_409 : decode code 409 = .ok (.iaload, 1) := by decide +kernel
theorem d_L_law_410 : decode code 410 = .ok (.aload_n 0, 1) := by decide +kernel
theorem d_L_law_411 : decode code 411 = .ok (.iload_n 3, 1) := by decide +kernel
theorem d_L_law_412 : decode code 412 = .ok (.iconst 2, 1) := by decide +kernel
theorem d_L_law_413 : decode code 413 = .ok (.iadd, 1) := by decide +kernel
theorem d_L_law_414 : decode code 414 = .ok (.iaload, 1) := by decide +kernel
theorem d_L_law_415 : decode code 415 = .ok (.ifCond .eq 7, 3) := by decide +kernel
theorem d_L_law_418 : decode code 418 = .ok (.iconst 1, 1) := by decide +kernel
theorem d_L_law_419 : decode code 419 = .ok (.goto 4, 3) := by decide +kernel
theorem d_L_law_422 : decode code 422 = .ok (.iconst 0, 1) := by decide +kernel
theorem d_L_law_423 : decode code 423 = .ok (.invokevirtual 53, 3) := by decide +kernel
theorem d_L_law_426 : decode code 426 = .ok (.aload_n 2, 1) := by decide +kernel
theorem d_L_law_427 : decode code 427 = .ok (.aload_n 0, 1) := by decide +kernel
theorem d_L_law_428 : decode code 428 = .ok (.iload_n 3, 1) := by decide +kernel
theorem d_L_law_429 : decode code 429 = .ok (.iconst 1, 1) := by decide +kernel
theorem d_L_law_430 : decode code 430 = .ok (.iadd, 1) := by decide +kernel
theorem d_L_law_431 : decode code 431 = .ok (.iaload, 1) := by decide +kernel
theorem d_L_law_432 : decode code 432 = .ok (.aload_n 0, 1) := by decide +kernel
theorem d_L_law_433 : decode code 433 = .ok (.iload_n 3, 1) := by decide +kernel
theorem d_L_law_434 : decode code 434 = .ok (.iconst 2, 1) := by decide +kernel
theorem d_L_law_435 : decode code 435 = .ok (.iadd, 1) := by decide +kernel
theorem d_L_law_436 : decode code 436 = .ok (.iaload, 1) := by decide +kernel
theorem d_L_law_437 : decode code 437 = .ok (.ifCond .eq 7, 3) := by decide +kernel
theorem d_L_law_440 : decode code 440 = .ok (.iconst 1, 1) := by decide +kernel
theorem d_L_law_441 : decode code 441 = .ok (.goto 4, 3) := by decide +kernel
theorem d_L_law_444 : decode code 444 = .ok (.iconst 0, 1) := by decide +kernel
theorem d_L_law_445 : decode code 445 = .ok (.invokevirtual 56, 3) := by decide +kernel
theorem d_L_law_448 : decode code 448 = .ok (.if_icmp .eq 71, 3) := by decide +kernel
theorem d_L_law_451 : decode code 451 = .ok (.iconst 0, 1) := by decide +kernel
theorem d_L_law_452 : decode code 452 = .ok (.ireturn, 1) := by decide +kernel
theorem d_L_law_453 : decode code 453 = .ok (.aload_n 1, 1) := by decide +kernel
theorem d_L_law_454 : decode code 454 = .ok (.aload_n 0, 1) := by decide +kernel
theorem d_L_law_455 : decode code 455 = .ok (.iload_n 3, 1) := by decide +kernel
theorem d_L_law_456 : decode code 456 = .ok (.iconst 1, 1) := by decide +kernel
theorem d_L_law_457 : decode code 457 = .ok (.iadd, 1) := by decide +kernel
theorem d_L_law_458 : decode code 458 = .ok (.iaload, 1) := by decide +kernel
theorem d_L_law_459 : decode code 459 = .ok (.aload_n 0, 1) := by decide +kernel
theorem d_L_law_460 : decode code 460 = .ok (.iload_n 3, 1) := by decide +kernel
theorem d_L_law_461 : decode code 461 = .ok (.iconst 2, 1) := by decide +kernel
theorem d_L_law_462 : decode code 462 = .ok (.iadd, 1) := by decide +kernel
theorem d_L_law_463 : decode code 463 = .ok (.iaload, 1) := by decide +kernel
theorem d_L_law_464 : decode code 464 = .ok (.aload_n 0, 1) := by decide +kernel
theorem d_L_law_465 : decode code 465 = .ok (.iload_n 3, 1) := by decide +kernel
theorem d_L_law_466 : decode code 466 = .ok (.iconst 3, 1) := by decide +kernel
theorem d_L_law_467 : decode code 467 = .ok (.iadd, 1) := by decide +kernel
theorem d_L_law_468 : decode code 468 = .ok (.iaload, 1) := by decide +kernel
theorem d_L_law_469 : decode code 469 = .ok (.invokevirtual 57, 3) := by decide +kernel
theorem d_L_law_472 : decode code 472 = .ok (.aload_n 2, 1) := by decide +kernel
theorem d_L_law_473 : decode code 473 = .ok (.aload_n 0, 1) := by decide +kernel
theorem d_L_law_474 : decode code 474 = .ok (.iload_n 3, 1) := by decide +kernel
theorem d_L_law_475 : decode code 475 = .ok (.iconst 1, 1) := by decide +kernel
theorem d_L_law_476 : decode code 476 = .ok (.iadd, 1) := by decide +kernel
theorem d_L_law_477 : decode code 477 = .ok (.iaload, 1) := by decide +kernel
theorem d_L_law_478 : decode code 478 = .ok (.aload_n 0, 1) := by decide +kernel
theorem d_L_law_479 : decode code 479 = .ok (.iload_n 3, 1) := by decide +kernel
theorem d_L_law_480 : decode code 480 = .ok (.iconst 2, 1) := by decide +kernel
theorem d_L_law_481 : decode code 481 = .ok (.iadd, 1) := by decide +kernel
theorem d_L_law_482 : decode code 482 = .ok (.iaload, 1) := by decide +kernel
theorem d_L_law_483 : decode code 483 = .ok (.aload_n 0, 1) := by decide +kernel
theorem d_L_law_484 : decode code 484 = .ok (.iload_n 3, 1) := by decide +kernel
theorem d_L_law_485 : decode code 485 = .ok (.iconst 3, 1) := by decide +kernel
theorem d_L_law_486 : decode code 486 = .ok (.iadd, 1) := by decide +kernel
theorem d_L_law_487 : decode code 487 = .ok (.iaload, 1) := by decide +kernel
theorem d_L_law_488 : decode code 488 = .ok (.invokevirtual 61, 3) := by decide +kernel
theorem d_L_law_491 : decode code 491 = .ok (.if_icmp .eq 28, 3) := by decide +kernel
theorem d_L_law_494 : decode code 494 = .ok (.iconst 0, 1) := by decide +kernel
theorem d_L_law_495 : decode code 495 = .ok (.ireturn, 1) := by decide +kernel
theorem d_L_law_496 : decode code 496 = .ok (.aload_n 1, 1) := by decide +kernel
theorem d_L_law_497 : decode code 497 = .ok (.aload_n 0, 1) := by decide +kernel
theorem d_L_law_498 : decode code 498 = .ok (.iload_n 3, 1) := by decide +kernel
theorem d_L_law_499 : decode code 499 = .ok (.iconst 1, 1) := by decide +kernel
theorem d_L_law_500 : decode code 500 = .ok (.iadd, 1) := by decide +kernel
theorem d_L_law_501 : decode code 501 = .ok (.iaload, 1) := by decide +kernel
theorem d_L_law_502 : decode code 502 = .ok (.invokevirtual 62, 3) := by decide +kernel
theorem d_L_law_505 : decode code 505 = .ok (.aload_n 2, 1) := by decide +kernel
theorem d_L_law_506 : decode code 506 = .ok (.aload_n 0, 1) := by decide +kernel
theorem d_L_law_507 : decode code 507 = .ok (.iload_n 3, 1) := by decide +kernel
theorem d_L_law_508 : decode code 508 = .ok (.iconst 1, 1) := by decide +kernel
theorem d_L_law_509 : decode code 509 = .ok (.iadd, 1) := by decide +kernel
theorem d_L_law_510 : decode code 510 = .ok (.iaload, 1) := by decide +kernel
theorem d_L_law_511 : decode code 511 = .ok (.invokevirtual 65, 3) := by decide +kernel
theorem d_L_law_514 : decode code 514 = .ok (.if_icmp .eq 5, 3) := by decide +kernel
theorem d_L_law_517 : decode code 517 = .ok (.iconst 0, 1) := by decide +kernel
theorem d_L_law_518 : decode code 518 = .ok (.ireturn, 1) := by decide +kernel
theorem d_L_law_519 : decode code 519 = .ok (.iinc 3 4, 3) := by decide +kernel
theorem d_L_law_522 : decode code 522 = .ok (.goto (-504), 3) := by decide +kernel
theorem d_L_law_525 : decode code 525 = .ok (.iconst 1, 1) := by decide +kernel
theorem d_L_law_526 : decode code 526 = .ok (.ireturn, 1) := by decide +kernel
end
section
theorem d_M_init_0 : decode b_M_init 0 = .ok (.aload_n 0, 1) := by decide +kernel
theorem d_M_init_1 : decode b_M_init 1 = .ok (.invokespecial 1, 3) := by decide +kernel
theorem d_M_init_4 : decode b_M_init 4 = .ok (.aload_n 0, 1) := by decide +kernel
theorem d_M_init_5 : decode b_M_init 5 = .ok (.bipush 101, 2) := by decide +kernel
theorem d_M_init_7 : decode b_M_init 7 = .ok (.newarray .int, 2) := by decide +kernel
theorem d_M_init_9 : decode b_M_init 9 = .ok (.putfield 7, 3) := by decide +kernel
theorem d_M_init_12 : decode b_M_init 12 = .ok (.aload_n 0, 1) := by decide +kernel
theorem d_M_init_13 : decode b_M_init 13 = .ok (.bipush 101, 2) := by decide +kernel
theorem d_M_init_15 : decode b_M_init 15 = .ok (.newarray .int, 2) := by decide +kernel
theorem d_M_init_17 : decode b_M_init 17 = .ok (.putfield 13, 3) := by decide +kernel
theorem d_M_init_20 : decode b_M_init 20 = .ok (.aload_n 0, 1) := by decide +kernel
theorem d_M_init_21 : decode b_M_init 21 = .ok (.bipush 101, 2) := by decide +kernel
theorem d_M_init_23 : decode b_M_init 23 = .ok (.newarray .boolean, 2) := by decide +kernel
theorem d_M_init_25 : decode b_M_init 25 = .ok (.putfield 16, 3) := by decide +kernel
theorem d_M_init_28 : decode b_M_init 28 = .ok (.aload_n 0, 1) := by decide +kernel
theorem d_M_init_29 : decode b_M_init 29 = .ok (.bipush 101, 2) := by decide +kernel
theorem d_M_init_31 : decode b_M_init 31 = .ok (.newarray .int, 2) := by decide +kernel
theorem d_M_init_33 : decode b_M_init 33 = .ok (.putfield 20, 3) := by decide +kernel
theorem d_M_init_36 : decode b_M_init 36 = .ok (.aload_n 0, 1) := by decide +kernel
theorem d_M_init_37 : decode b_M_init 37 = .ok (.bipush 101, 2) := by decide +kernel
theorem d_M_init_39 : decode b_M_init 39 = .ok (.newarray .int, 2) := by decide +kernel
theorem d_M_init_41 : decode b_M_init 41 = .ok (.putfield 23, 3) := by decide +kernel
theorem d_M_init_44 : decode b_M_init 44 = .ok (.aload_n 0, 1) := by decide +kernel
theorem d_M_init_45 : decode b_M_init 45 = .ok (.bipush 101, 2) := by decide +kernel
theorem d_M_init_47 : decode b_M_init 47 = .ok (.newarray .boolean, 2) := by decide +kernel
theorem d_M_init_49 : decode b_M_init 49 = .ok (.putfield 26, 3) := by decide +kernel
theorem d_M_init_52 : decode b_M_init 52 = .ok (.aload_n 0, 1) := by decide +kernel
theorem d_M_init_53 : decode b_M_init 53 = .ok (.bipush 101, 2) := by decide +kernel
theorem d_M_init_55 : decode b_M_init 55 = .ok (.newarray .boolean, 2) := by decide +kernel
theorem d_M_init_57 : decode b_M_init 57 = .ok (.putfield 29, 3) := by decide +kernel
theorem d_M_init_60 : decode b_M_init 60 = .ok (.aload_n 0, 1) := by decide +kernel
theorem d_M_init_61 : decode b_M_init 61 = .ok (.bipush 101, 2) := by decide +kernel
theorem d_M_init_63 : decode b_M_init 63 = .ok (.newarray .int, 2) := by decide +kernel
theorem d_M_init_65 : decode b_M_init 65 = .ok (.putfield 32, 3) := by decide +kernel
theorem d_M_init_68 : decode b_M_init 68 = .ok (.aload_n 0, 1) := by decide +kernel
theorem d_M_init_69 : decode b_M_init 69 = .ok (.bipush 101, 2) := by decide +kernel
theorem d_M_init_71 : decode b_M_init 71 = .ok (.newarray .boolean, 2) := by decide +kernel
theorem d_M_init_73 : decode b_M_init 73 = .ok (.putfield 35, 3) := by decide +kernel
theorem d_M_init_76 : decode b_M_init 76 = .ok (.aload_n 0, 1) := by decide +kernel
theorem d_M_init_77 : decode b_M_init 77 = .ok (.bipush 101, 2) := by decide +kernel
theorem d_M_init_79 : decode b_M_init 79 = .ok (.newarray .long, 2) := by decide +kernel
theorem d_M_init_81 : decode b_M_init 81 = .ok (.putfield 38, 3) := by decide +kernel
theorem d_M_init_84 : decode b_M_init 84 = .ok (.aload_n 0, 1) := by decide +kernel
theorem d_M_init_85 : decode b_M_init 85 = .ok (.bipush 101, 2) := by decide +kernel
theorem d_M_init_87 : decode b_M_init 87 = .ok (.newarray .boolean, 2) := by decide +kernel
theorem d_M_init_89 : decode b_M_init 89 = .ok (.putfield 42, 3) := by decide +kernel
theorem d_M_init_92 : decode b_M_init 92 = .ok (.aload_n 0, 1) := by decide +kernel
theorem d_M_init_93 : decode b_M_init 93 = .ok (.bipush 101, 2) := by decide +kernel
theorem d_M_init_95 : decode b_M_init 95 = .ok (.newarray .int, 2) := by decide +kernel
theorem d_M_init_97 : decode b_M_init 97 = .ok (.putfield 45, 3) := by decide +kernel
theorem d_M_init_100 : decode b_M_init 100 = .ok (.aload_n 0, 1) := by decide +kernel
theorem d_M_init_101 : decode b_M_init 101 = .ok (.bipush 101, 2) := by decide +kernel
theorem d_M_init_103 : decode b_M_init 103 = .ok (.newarray .int, 2) := by decide +kernel
theorem d_M_init_105 : decode b_M_init 105 = .ok (.putfield 48, 3) := by decide +kernel
theorem d_M_init_108 : decode b_M_init 108 = .ok (.aload_n 0, 1) := by decide +kernel
theorem d_M_init_109 : decode b_M_init 109 = .ok (.bipush 101, 2) := by decide +kernel
theorem d_M_init_111 : decode b_M_init 111 = .ok (.newarray .int, 2) := by decide +kernel
theorem d_M_init_113 : decode b_M_init 113 = .ok (.putfield 51, 3) := by decide +kernel
theorem d_M_init_116 : decode b_M_init 116 = .ok (.return_, 1) := by decide +kernel
theorem d_M_none_0 : decode b_M_none 0 = .ok (.aload_n 0, 1) := by decide +kernel
theorem d_M_none_1 : decode b_M_none 1 = .ok (.iconst 0, 1) := by decide +kernel
theorem d_M_none_2 : decode b_M_none 2 = .ok (.putfield 54, 3) := by decide +kernel
theorem d_M_none_5 : decode b_M_none 5 = .ok (.iload_n 1, 1) := by decide +kernel
theorem d_M_none_6 : decode b_M_none 6 = .ok (.iconst 1, 1) := by decide +kernel
theorem d_M_none_7 : decode b_M_none 7 = .ok (.if_icmp .lt 11, 3) := by decide +kernel
theorem d_M_none_10 : decode b_M_none 10 = .ok (.iload_n 1, 1) := by decide +kernel
theorem d_M_none_11 : decode b_M_none 11 = .ok (.aload_n 0, 1) := by decide +kernel
theorem d_M_none_12 : decode b_M_none 12 = .ok (.getfield 58, 3) := by decide +kernel
theorem d_M_none_15 : decode b_M_none 15 = .ok (.if_icmp .le 7, 3) := by decide +kernel
theorem d_M_none_18 : decode b_M_none 18 = .ok (.iconst 1, 1) := by decide +kernel
theorem d_M_none_19 : decode b_M_none 19 = .ok (.goto 4, 3) := by decide +kernel
theorem d_M_none_22 : decode b_M_none 22 = .ok (.iconst 0, 1) := by decide +kernel
theorem d_M_none_23 : decode b_M_none 23 = .ok (.ireturn, 1) := by decide +kernel
theorem d_M_node_0 : decode b_M_node 0 = .ok (.aload_n 0, 1) := by decide +kernel
theorem d_M_node_1 : decode b_M_node 1 = .ok (.iconst 0, 1) := by decide +kernel
theorem d_M_node_2 : decode b_M_node 2 = .ok (.putfield 54, 3) := by decide +kernel
theorem d_M_node_5 : decode b_M_node 5 = .ok (.aload_n 0, 1) := by decide +kernel
theorem d_M_node_6 : decode b_M_node 6 = .ok (.getfield 58, 3) := by decide +kernel
theorem d_M_node_9 : decode b_M_node 9 = .ok (.bipush 100, 2) := by decide +kernel
theorem d_M_node_11 : decode b_M_node 11 = .ok (.if_icmp .ne 6, 3) := by decide +kernel
theorem d_M_node_14 : decode b_M_node 14 = .ok (.bipush (-4), 2) := by decide +kernel
theorem d_M_node_16 : decode b_M_node 16 = .ok (.ireturn, 1) := by decide +kernel
theorem d_M_node_17 : decode b_M_node 17 = .ok (.aload_n 0, 1) := by decide +kernel
theorem d_M_node_18 : decode b_M_node 18 = .ok (.dup, 1) := by decide +kernel
theorem d_M_node_19 : decode b_M_node 19 = .ok (.getfield 58, 3) := by decide +kernel
theorem d_M_node_22 : decode b_M_node 22 = .ok (.iconst 1, 1) := by decide +kernel
theorem d_M_node_23 : decode b_M_node 23 = .ok (.iadd, 1) := by decide +kernel
theorem d_M_node_24 : decode b_M_node 24 = .ok (.putfield 58, 3) := by decide +kernel
theorem d_M_node_27 : decode b_M_node 27 = .ok (.aload_n 0, 1) := by decide +kernel
theorem d_M_node_28 : decode b_M_node 28 = .ok (.getfield 38, 3) := by decide +kernel
theorem d_M_node_31 : decode b_M_node 31 = .ok (.aload_n 0, 1) := by decide +kernel
theorem d_M_node_32 : decode b_M_node 32 = .ok (.getfield 58, 3) := by decide +kernel
theorem d_M_node_35 : decode b_M_node 35 = .ok (.ldc2_w 61, 3) := by decide +kernel
theorem d_M_node_38 : decode b_M_node 38 = .ok (.lastore, 1) := by decide +kernel
theorem d_M_node_39 : decode b_M_node 39 = .ok (.aload_n 0, 1) := by decide +kernel
theorem d_M_node_40 : decode b_M_node 40 = .ok (.getfield 58, 3) := by decide +kernel
theorem d_M_node_43 : decode b_M_node 43 = .ok (.ireturn, 1) := by decide +kernel
theorem d_M_is_0 : decode b_M_is 0 = .ok (.aload_n 0, 1) := by decide +kernel
theorem d_M_is_1 : decode b_M_is 1 = .ok (.getfield 16, 3) := by decide +kernel
theorem d_M_is_4 : decode b_M_is 4 = .ok (.iload_n 1, 1) := by decide +kernel
theorem d_M_is_5 : decode b_M_is 5 = .ok (.baload, 1) := by decide +kernel
theorem d_M_is_6 : decode b_M_is 6 = .ok (.ifCond .eq 5, 3) := by decide +kernel
theorem d_M_is_9 : decode b_M_is 9 = .ok (.iconst 2, 1) := by decide +kernel
theorem d_M_is_10 : decode b_M_is 10 = .ok (.ireturn, 1) := by decide +kernel
theorem d_M_is_11 : decode b_M_is 11 = .ok (.aload_n 0, 1) := by decide +kernel
theorem d_M_is_12 : decode b_M_is 12 = .ok (.getfield 7, 3) := by decide +kernel
theorem d_M_is_15 : decode b_M_is 15 = .ok (.iload_n 1, 1) := by decide +kernel
theorem d_M_is_16 : decode b_M_is 16 = .ok (.iaload, 1) := by decide +kernel
theorem d_M_is_17 : decode b_M_is 17 = .ok (.bipush 127, 2) := by decide +kernel
theorem d_M_is_19 : decode b_M_is 19 = .ok (.if_icmp .gt 14, 3) := by decide +kernel
theorem d_M_is_22 : decode b_M_is 22 = .ok (.aload_n 0, 1) := by decide +kernel
theorem d_M_is_23 : decode b_M_is 23 = .ok (.getfield 13, 3) := by decide +kernel
theorem d_M_is_26 : decode b_M_is 26 = .ok (.iload_n 1, 1) := by decide +kernel
theorem d_M_is_27 : decode b_M_is 27 = .ok (.iaload, 1) := by decide +kernel
theorem d_M_is_28 : decode b_M_is 28 = .ok (.bipush 127, 2) := by decide +kernel
theorem d_M_is_30 : decode b_M_is 30 = .ok (.if_icmp .le 7, 3) := by decide +kernel
theorem d_M_is_33 : decode b_M_is 33 = .ok (.iconst 1, 1) := by decide +kernel
theorem d_M_is_34 : decode b_M_is 34 = .ok (.goto 4, 3) := by decide +kernel
theorem d_M_is_37 : decode b_M_is 37 = .ok (.iconst 0, 1) := by decide +kernel
theorem d_M_is_38 : decode b_M_is 38 = .ok (.ireturn, 1) := by decide +kernel
theorem d_M_error_0 : decode b_M_error 0 = .ok (.iload_n 0, 1) := by decide +kernel
theorem d_M_error_1 : decode b_M_error 1 = .ok (.ifCond .le 9, 3) := by decide +kernel
theorem d_M_error_4 : decode b_M_error 4 = .ok (.iload_n 0, 1) := by decide +kernel
theorem d_M_error_5 : decode b_M_error 5 = .ok (.bipush 6, 2) := by decide +kernel
theorem d_M_error_7 : decode b_M_error 7 = .ok (.if_icmp .lt 9, 3) := by decide +kernel
theorem d_M_error_10 : decode b_M_error 10 = .ok (.iload_n 0, 1) := by decide +kernel
theorem d_M_error_11 : decode b_M_error 11 = .ok (.bipush 8, 2) := by decide +kernel
theorem d_M_error_13 : decode b_M_error 13 = .ok (.if_icmp .le 7, 3) := by decide +kernel
theorem d_M_error_16 : decode b_M_error 16 = .ok (.iconst 1, 1) := by decide +kernel
theorem d_M_error_17 : decode b_M_error 17 = .ok (.goto 4, 3) := by decide +kernel
theorem d_M_error_20 : decode b_M_error 20 = .ok (.iconst 0, 1) := by decide +kernel
theorem d_M_error_21 : decode b_M_error 21 = .ok (.ireturn, 1) := by decide +kernel
theorem d_M_more_0 : decode b_M_more 0 = .ok (.iload_n 2, 1) := by decide +kernel
theorem d_M_more_1 : decode b_M_more 1 = .ok (.ifCond .ne 5, 3) := by decide +kernel
theorem d_M_more_4 : decode b_M_more 4 = .ok (.iconst (-1), 1) := by decide +kernel
theorem d_M_more_5 : decode b_M_more 5 = .ok (.ireturn, 1) := by decide +kernel
theorem d_M_more_6 : decode b_M_more 6 = .ok (.iload_n 2, 1) := by decide +kernel
theorem d_M_more_7 : decode b_M_more 7 = .ok (.bipush 7, 2) := by decide +kernel
theorem d_M_more_9 : decode b_M_more 9 = .ok (.if_icmp .eq 9, 3) := by decide +kernel
theorem d_M_more_12 : decode b_M_more 12 = .ok (.iload_n 2, 1) := by decide +kernel
theorem d_M_more_13 : decode b_M_more 13 = .ok (.bipush 8, 2) := by decide +kernel
theorem d_M_more_15 : decode b_M_more 15 = .ok (.if_icmp .ne 6, 3) := by decide +kernel
theorem d_M_more_18 : decode b_M_more 18 = .ok (.bipush 8, 2) := by decide +kernel
theorem d_M_more_20 : decode b_M_more 20 = .ok (.ireturn, 1) := by decide +kernel
theorem d_M_more_21 : decode b_M_more 21 = .ok (.iload_n 3, 1) := by decide +kernel
theorem d_M_more_22 : decode b_M_more 22 = .ok (.ifCond .ne 16, 3) := by decide +kernel
theorem d_M_more_25 : decode b_M_more 25 = .ok (.iload_n 2, 1) := by decide +kernel
theorem d_M_more_26 : decode b_M_more 26 = .ok (.bipush 6, 2) := by decide +kernel
theorem d_M_more_28 : decode b_M_more 28 = .ok (.if_icmp .ne 8, 3) := by decide +kernel
theorem d_M_more_31 : decode b_M_more 31 = .ok (.bipush 8, 2) := by decide +kernel
theorem d_M_more_33 : decode b_M_more 33 = .ok (.goto 4, 3) := by decide +kernel
theorem d_M_more_36 : decode b_M_more 36 = .ok (.iconst 1, 1) := by decide +kernel
theorem d_M_more_37 : decode b_M_more 37 = .ok (.ireturn, 1) := by decide +kernel
theorem d_M_more_38 : decode b_M_more 38 = .ok (.iload_n 2, 1) := by decide +kernel
theorem d_M_more_39 : decode b_M_more 39 = .ok (.bipush 6, 2) := by decide +kernel
theorem d_M_more_41 : decode b_M_more 41 = .ok (.if_icmp .eq 9, 3) := by decide +kernel
theorem d_M_more_44 : decode b_M_more 44 = .ok (.iload_n 2, 1) := by decide +kernel
theorem d_M_more_45 : decode b_M_more 45 = .ok (.bipush 9, 2) := by decide +kernel
theorem d_M_more_47 : decode b_M_more 47 = .ok (.if_icmp .ne 5, 3) := by decide +kernel
theorem d_M_more_50 : decode b_M_more 50 = .ok (.iconst 0, 1) := by decide +kernel
theorem d_M_more_51 : decode b_M_more 51 = .ok (.ireturn, 1) := by decide +kernel
theorem d_M_more_52 : decode b_M_more 52 = .ok (.iload_n 2, 1) := by decide +kernel
theorem d_M_more_53 : decode b_M_more 53 = .ok (.iconst 5, 1) := by decide +kernel
theorem d_M_more_54 : decode b_M_more 54 = .ok (.if_icmp .ne 16, 3) := by decide +kernel
theorem d_M_more_57 : decode b_M_more 57 = .ok (.aload_n 0, 1) := by decide +kernel
theorem d_M_more_58 : decode b_M_more 58 = .ok (.iload_n 1, 1) := by decide +kernel
theorem d_M_more_59 : decode b_M_more 59 = .ok (.invokevirtual 63, 3) := by decide +kernel
theorem d_M_more_62 : decode b_M_more 62 = .ok (.iconst 1, 1) := by decide +kernel
theorem d_M_more_63 : decode b_M_more 63 = .ok (.if_icmp .ne 7, 3) := by decide +kernel
theorem d_M_more_66 : decode b_M_more 66 = .ok (.iconst 0, 1) := by decide +kernel
theorem d_M_more_67 : decode b_M_more 67 = .ok (.goto 5, 3) := by decide +kernel
theorem d_M_more_70 : decode b_M_more 70 = .ok (.bipush 8, 2) := by decide +kernel
theorem d_M_more_72 : decode b_M_more 72 = .ok (.ireturn, 1) := by decide +kernel
theorem d_M_happens_0 : decode b_M_happens 0 = .ok (.aload_n 0, 1) := by decide +kernel
theorem d_M_happens_1 : decode b_M_happens 1 = .ok (.getfield 35, 3) := by decide +kernel
theorem d_M_happens_4 : decode b_M_happens 4 = .ok (.iload_n 1, 1) := by decide +kernel
theorem d_M_happens_5 : decode b_M_happens 5 = .ok (.baload, 1) := by decide +kernel
theorem d_M_happens_6 : decode b_M_happens 6 = .ok (.ifCond .ne 168, 3) := by decide +kernel
theorem d_M_happens_9 : decode b_M_happens 9 = .ok (.iload_n 3, 1) := by decide +kernel
theorem d_M_happens_10 : decode b_M_happens 10 = .ok (.ifCond .eq 69, 3) := by decide +kernel
theorem d_M_happens_13 : decode b_M_happens 13 = .ok (.aload_n 0, 1) := by decide +kernel
theorem d_M_happens_14 : decode b_M_happens 14 = .ok (.getfield 7, 3) := by decide +kernel
theorem d_M_happens_17 : decode b_M_happens 17 = .ok (.iload_n 1, 1) := by decide +kernel
theorem d_M_happens_18 : decode b_M_happens 18 = .ok (.aload_n 0, 1) := by decide +kernel
theorem d_M_happens_19 : decode b_M_happens 19 = .ok (.getfield 7, 3) := by decide +kernel
theorem d_M_happens_22 : decode b_M_happens 22 = .ok (.iload_n 1, 1) := by decide +kernel
theorem d_M_happens_23 : decode b_M_happens 23 = .ok (.iaload, 1) := by decide +kernel
theorem d_M_happens_24 : decode b_M_happens 24 = .ok (.aload_n 0, 1) := by decide +kernel
theorem d_M_happens_25 : decode b_M_happens 25 = .ok (.iload_n 1, 1) := by decide +kernel
theorem d_M_happens_26 : decode b_M_happens 26 = .ok (.iload_n 2, 1) := by decide +kernel
theorem d_M_happens_27 : decode b_M_happens 27 = .ok (.iconst 1, 1) := by decide +kernel
theorem d_M_happens_28 : decode b_M_happens 28 = .ok (.invokevirtual 67, 3) := by decide +kernel
theorem d_M_happens_31 : decode b_M_happens 31 = .ok (.iadd, 1) := by decide +kernel
theorem d_M_happens_32 : decode b_M_happens 32 = .ok (.iastore, 1) := by decide +kernel
theorem d_M_happens_33 : decode b_M_happens 33 = .ok (.aload_n 0, 1) := by decide +kernel
theorem d_M_happens_34 : decode b_M_happens 34 = .ok (.getfield 7, 3) := by decide +kernel
theorem d_M_happens_37 : decode b_M_happens 37 = .ok (.iload_n 1, 1) := by decide +kernel
theorem d_M_happens_38 : decode b_M_happens 38 = .ok (.aload_n 0, 1) := by decide +kernel
theorem d_M_happens_39 : decode b_M_happens 39 = .ok (.getfield 7, 3) := by decide +kernel
theorem d_M_happens_42 : decode b_M_happens 42 = .ok (.iload_n 1, 1) := by decide +kernel
theorem d_M_happens_43 : decode b_M_happens 43 = .ok (.iaload, 1) := by decide +kernel
theorem d_M_happens_44 : decode b_M_happens 44 = .ok (.ifCond .ge 7, 3) := by decide +kernel
theorem d_M_happens_47 : decode b_M_happens 47 = .ok (.iconst 0, 1) := by decide +kernel
theorem d_M_happens_48 : decode b_M_happens 48 = .ok (.goto 27, 3) := by decide +kernel
theorem d_M_happens_51 : decode b_M_happens 51 = .ok (.aload_n 0, 1) := by decide +kernel
theorem d_M_happens_52 : decode b_M_happens 52 = .ok (.getfield 7, 3) := by decide +kernel
theorem d_M_happens_55 : decode b_M_happens 55 = .ok (.iload_n 1, 1) := by decide +kernel
theorem d_M_happens_56 : decode b_M_happens 56 = .ok (.iaload, 1) := by decide +kernel
theorem d_M_happens_57 : decode b_M_happens 57 = .ok (.sipush 256, 3) := by decide +kernel
theorem d_M_happens_60 : decode b_M_happens 60 = .ok (.if_icmp .le 9, 3) := by decide +kernel
theorem d_M_happens_63 : decode b_M_happens 63 = .ok (.sipush 256, 3) := by decide +kernel
theorem d_M_happens_66 : decode b_M_happens 66 = .ok (.goto 9, 3) := by decide +kernel
theorem d_M_happens_69 : decode b_M_happens 69 = .ok (.aload_n 0, 1) := by decide +kernel
theorem d_M_happens_70 : decode b_M_happens 70 = .ok (.getfield 7, 3) := by decide +kernel
theorem d_M_happens_73 : decode b_M_happens 73 = .ok (.iload_n 1, 1) := by decide +kernel
theorem d_M_happens_74 : decode b_M_happens 74 = .ok (.iaload, 1) := by decide +kernel
theorem d_M_happens_75 : decode b_M_happens 75 = .ok (.iastore, 1) := by decide +kernel
theorem d_M_happens_76 : decode b_M_happens 76 = .ok (.goto 98, 3) := by decide +kernel
theorem d_M_happens_79 : decode b_M_happens 79 = .ok (.iload_n 2, 1) := by decide +kernel
theorem d_M_happens_80 : decode b_M_happens 80 = .ok (.ifCond .ne 18, 3) := by decide +kernel
theorem d_M_happens_83 : decode b_M_happens 83 = .ok (.aload_n 0, 1) := by decide +kernel
theorem d_M_happens_84 : decode b_M_happens 84 = .ok (.getfield 13, 3) := by decide +kernel
theorem d_M_happens_87 : decode b_M_happens 87 = .ok (.iload_n 1, 1) := by decide +kernel
theorem d_M_happens_88 : decode b_M_happens 88 = .ok (.iaload, 1) := by decide +kernel
theorem d_M_happens_89 : decode b_M_happens 89 = .ok (.bipush 127, 2) := by decide +kernel
theorem d_M_happens_91 : decode b_M_happens 91 = .ok (.if_icmp .le 7, 3) := by decide +kernel
theorem d_M_happens_94 : decode b_M_happens 94 = .ok (.iconst 1, 1) := by decide +kernel
theorem d_M_happens_95 : decode b_M_happens 95 = .ok (.goto 4, 3) := by decide +kernel
theorem d_M_happens_98 : decode b_M_happens 98 = .ok (.iconst 0, 1) := by decide +kernel
theorem d_M_happens_99 : decode b_M_happens 99 = .ok (.istore 4, 2) := by decide +kernel
theorem d_M_happens_101 : decode b_M_happens 101 = .ok (.aload_n 0, 1) := by decide +kernel
theorem d_M_happens_102 : decode b_M_happens 102 = .ok (.getfield 13, 3) := by decide +kernel
theorem d_M_happens_105 : decode b_M_happens 105 = .ok (.iload_n 1, 1) := by decide +kernel
theorem d_M_happens_106 : decode b_M_happens 106 = .ok (.iload 4, 2) := by decide +kernel
theorem d_M_happens_108 : decode b_M_happens 108 = .ok (.ifCond .eq 8, 3) := by decide +kernel
theorem d_M_happens_111 : decode b_M_happens 111 = .ok (.bipush 119, 2) := by decide +kernel
theorem d_M_happens_113 : decode b_M_happens 113 = .ok (.goto 17, 3) := by decide +kernel
theorem d_M_happens_116 : decode b_M_happens 116 = .ok (.aload_n 0, 1) := by decide +kernel
theorem d_M_happens_117 : decode b_M_happens 117 = .ok (.getfield 13, 3) := by decide +kernel
theorem d_M_happens_120 : decode b_M_happens 120 = .ok (.iload_n 1, 1) := by decide +kernel
theorem d_M_happens_121 : decode b_M_happens 121 = .ok (.iaload, 1) := by decide +kernel
theorem d_M_happens_122 : decode b_M_happens 122 = .ok (.aload_n 0, 1) := by decide +kernel
theorem d_M_happens_123 : decode b_M_happens 123 = .ok (.iload_n 1, 1) := by decide +kernel
theorem d_M_happens_124 : decode b_M_happens 124 = .ok (.iload_n 2, 1) := by decide +kernel
theorem d_M_happens_125 : decode b_M_happens 125 = .ok (.iconst 0, 1) := by decide +kernel
theorem d_M_happens_126 : decode b_M_happens 126 = .ok (.invokevirtual 67, 3) := by decide +kernel
theorem d_M_happens_129 : decode b_M_happens 129 = .ok (.iadd, 1) := by decide +kernel
theorem d_M_happens_130 : decode b_M_happens 130 = .ok (.iastore, 1) := by decide +kernel
theorem d_M_happens_131 : decode b_M_happens 131 = .ok (.aload_n 0, 1) := by decide +kernel
theorem d_M_happens_132 : decode b_M_happens 132 = .ok (.getfield 13, 3) := by decide +kernel
theorem d_M_happens_135 : decode b_M_happens 135 = .ok (.iload_n 1, 1) := by decide +kernel
theorem d_M_happens_136 : decode b_M_happens 136 = .ok (.aload_n 0, 1) := by decide +kernel
theorem d_M_happens_137 : decode b_M_happens 137 = .ok (.getfield 13, 3) := by decide +kernel
theorem d_M_happens_140 : decode b_M_happens 140 = .ok (.iload_n 1, 1) := by decide +kernel
theorem d_M_happens_141 : decode b_M_happens 141 = .ok (.iaload, 1) := by decide +kernel
theorem d_M_happens_142 : decode b_M_happens 142 = .ok (.ifCond .ge 7, 3) := by decide +kernel
theorem d_M_happens_145 : decode b_M_happens 145 = .ok (.iconst 0, 1) := by decide +kernel
theorem d_M_happens_146 : decode b_M_happens 146 = .ok (.goto 27, 3) := by decide +kernel
theorem d_M_happens_149 : decode b_M_happens 149 = .ok (.aload_n 0, 1) := by decide +kernel
theorem d_M_happens_150 : decode b_M_happens 150 = .ok (.getfield 13, 3) := by decide +kernel
theorem d_M_happens_153 : decode b_M_happens 153 = .ok (.iload_n 1, 1) := by decide +kernel
theorem d_M_happens_154 : decode b_M_happens 154 = .ok (.iaload, 1) := by decide +kernel
theorem d_M_happens_155 : decode b_M_happens 155 = .ok (.sipush 255, 3) := by decide +kernel
theorem d_M_happens_158 : decode b_M_happens 158 = .ok (.if_icmp .le 9, 3) := by decide +kernel
theorem d_M_happens_161 : decode b_M_happens 161 = .ok (.sipush 255, 3) := by decide +kernel
theorem d_M_happens_164 : decode b_M_happens 164 = .ok (.goto 9, 3) := by decide +kernel
theorem d_M_happens_167 : decode b_M_happens 167 = .ok (.aload_n 0, 1) := by decide +kernel
theorem d_M_happens_168 : decode b_M_happens 168 = .ok (.getfield 13, 3) := by decide +kernel
theorem d_M_happens_171 : decode b_M_happens 171 = .ok (.iload_n 1, 1) := by decide +kernel
theorem d_M_happens_172 : decode b_M_happens 172 = .ok (.iaload, 1) := by decide +kernel
theorem d_M_happens_173 : decode b_M_happens 173 = .ok (.iastore, 1) := by decide +kernel
theorem d_M_happens_174 : decode b_M_happens 174 = .ok (.iload_n 2, 1) := by decide +kernel
theorem d_M_happens_175 : decode b_M_happens 175 = .ok (.ifCond .eq 12, 3) := by decide +kernel
theorem d_M_happens_178 : decode b_M_happens 178 = .ok (.aload_n 0, 1) := by decide +kernel
theorem d_M_happens_179 : decode b_M_happens 179 = .ok (.getfield 35, 3) := by decide +kernel
theorem d_M_happens_182 : decode b_M_happens 182 = .ok (.iload_n 1, 1) := by decide +kernel
theorem d_M_happens_183 : decode b_M_happens 183 = .ok (.baload, 1) := by decide +kernel
theorem d_M_happens_184 : decode b_M_happens 184 = .ok (.ifCond .eq 13, 3) := by decide +kernel
theorem d_M_happens_187 : decode b_M_happens 187 = .ok (.aload_n 0, 1) := by decide +kernel
theorem d_M_happens_188 : decode b_M_happens 188 = .ok (.getfield 20, 3) := by decide +kernel
theorem d_M_happens_191 : decode b_M_happens 191 = .ok (.iload_n 1, 1) := by decide +kernel
theorem d_M_happens_192 : decode b_M_happens 192 = .ok (.iconst 0, 1) := by decide +kernel
theorem d_M_happens_193 : decode b_M_happens 193 = .ok (.iastore, 1) := by decide +kernel
theorem d_M_happens_194 : decode b_M_happens 194 = .ok (.goto 86, 3) := by decide +kernel
theorem d_M_happens_197 : decode b_M_happens 197 = .ok (.iload_n 2, 1) := by decide +kernel
theorem d_M_happens_198 : decode b_M_happens 198 = .ok (.invokestatic 71, 3) := by decide +kernel
theorem d_M_happens_201 : decode b_M_happens 201 = .ok (.ifCond .eq 14, 3) := by decide +kernel
theorem d_M_happens_204 : decode b_M_happens 204 = .ok (.aload_n 0, 1) := by decide +kernel
theorem d_M_happens_205 : decode b_M_happens 205 = .ok (.getfield 20, 3) := by decide +kernel
theorem d_M_happens_208 : decode b_M_happens 208 = .ok (.iload_n 1, 1) := by decide +kernel
theorem d_M_happens_209 : decode b_M_happens 209 = .ok (.bipush 6, 2) := by decide +kernel
theorem d_M_happens_211 : decode b_M_happens 211 = .ok (.iastore, 1) := by decide +kernel
theorem d_M_happens_212 : decode b_M_happens 212 = .ok (.goto 68, 3) := by decide +kernel
theorem d_M_happens_215 : decode b_M_happens 215 = .ok (.aload_n 0, 1) := by decide +kernel
theorem d_M_happens_216 : decode b_M_happens 216 = .ok (.getfield 20, 3) := by decide +kernel
theorem d_M_happens_219 : decode b_M_happens 219 = .ok (.iload_n 1, 1) := by decide +kernel
theorem d_M_happens_220 : decode b_M_happens 220 = .ok (.iaload, 1) := by decide +kernel
theorem d_M_happens_221 : decode b_M_happens 221 = .ok (.ifCond .le 59, 3) := by decide +kernel
theorem d_M_happens_224 : decode b_M_happens 224 = .ok (.aload_n 0, 1) := by decide +kernel
theorem d_M_happens_225 : decode b_M_happens 225 = .ok (.getfield 20, 3) := by decide +kernel
theorem d_M_happens_228 : decode b_M_happens 228 = .ok (.iload_n 1, 1) := by decide +kernel
theorem d_M_happens_229 : decode b_M_happens 229 = .ok (.aload_n 0, 1) := by decide +kernel
theorem d_M_happens_230 : decode b_M_happens 230 = .ok (.getfield 20, 3) := by decide +kernel
theorem d_M_happens_233 : decode b_M_happens 233 = .ok (.iload_n 1, 1) := by decide +kernel
theorem d_M_happens_234 : decode b_M_happens 234 = .ok (.iaload, 1) := by decide +kernel
theorem d_M_happens_235 : decode b_M_happens 235 = .ok (.iload_n 2, 1) := by decide +kernel
theorem d_M_happens_236 : decode b_M_happens 236 = .ok (.bipush 8, 2) := by decide +kernel
theorem d_M_happens_238 : decode b_M_happens 238 = .ok (.if_icmp .ne 8, 3) := by decide +kernel
theorem d_M_happens_241 : decode b_M_happens 241 = .ok (.bipush 8, 2) := by decide +kernel
theorem d_M_happens_243 : decode b_M_happens 243 = .ok (.goto 4, 3) := by decide +kernel
theorem d_M_happens_246 : decode b_M_happens 246 = .ok (.iconst 1, 1) := by decide +kernel
theorem d_M_happens_247 : decode b_M_happens 247 = .ok (.iadd, 1) := by decide +kernel
theorem d_M_happens_248 : decode b_M_happens 248 = .ok (.sipush 10000, 3) := by decide +kernel
theorem d_M_happens_251 : decode b_M_happens 251 = .ok (.if_icmp .le 9, 3) := by decide +kernel
theorem d_M_happens_254 : decode b_M_happens 254 = .ok (.sipush 10000, 3) := by decide +kernel
theorem d_M_happens_257 : decode b_M_happens 257 = .ok (.goto 22, 3) := by decide +kernel
theorem d_M_happens_260 : decode b_M_happens 260 = .ok (.aload_n 0, 1) := by decide +kernel
theorem d_M_happens_261 : decode b_M_happens 261 = .ok (.getfield 20, 3) := by decide +kernel
theorem d_M_happens_264 : decode b_M_happens 264 = .ok (.iload_n 1, 1) := by decide +kernel
theorem d_M_happens_265 : decode b_M_happens 265 = .ok (.iaload, 1) := by decide +kernel
theorem d_M_happens_266 : decode b_M_happens 266 = .ok (.iload_n 2, 1) := by decide +kernel
theorem d_M_happens_267 : decode b_M_happens 267 = .ok (.bipush 8, 2) := by decide +kernel
theorem d_M_happens_269 : decode b_M_happens 269 = .ok (.if_icmp .ne 8, 3) := by decide +kernel
theorem d_M_happens_272 : decode b_M_happens 272 = .ok (.bipush 8, 2) := by decide +kernel
theorem d_M_happens_274 : decode b_M_happens 274 = .ok (.goto 4, 3) := by decide +kernel
theorem d_M_happens_277 : decode b_M_happens 277 = .ok (.iconst 1, 1) := by decide +kernel
theorem d_M_happens_278 : decode b_M_happens 278 = .ok (.iadd, 1) := by decide +kernel
theorem d_M_happens_279 : decode b_M_happens 279 = .ok (.iastore, 1) := by decide +kernel
theorem d_M_happens_280 : decode b_M_happens 280 = .ok (.aload_n 0, 1) := by decide +kernel
theorem d_M_happens_281 : decode b_M_happens 281 = .ok (.getfield 26, 3) := by decide +kernel
theorem d_M_happens_284 : decode b_M_happens 284 = .ok (.iload_n 1, 1) := by decide +kernel
theorem d_M_happens_285 : decode b_M_happens 285 = .ok (.iload_n 3, 1) := by decide +kernel
theorem d_M_happens_286 : decode b_M_happens 286 = .ok (.bastore, 1) := by decide +kernel
theorem d_M_happens_287 : decode b_M_happens 287 = .ok (.iload_n 2, 1) := by decide +kernel
theorem d_M_happens_288 : decode b_M_happens 288 = .ok (.invokestatic 71, 3) := by decide +kernel
theorem d_M_happens_291 : decode b_M_happens 291 = .ok (.ifCond .eq 26, 3) := by decide +kernel
theorem d_M_happens_294 : decode b_M_happens 294 = .ok (.iload_n 3, 1) := by decide +kernel
theorem d_M_happens_295 : decode b_M_happens 295 = .ok (.ifCond .eq 22, 3) := by decide +kernel
theorem d_M_happens_298 : decode b_M_happens 298 = .ok (.aload_n 0, 1) := by decide +kernel
theorem d_M_happens_299 : decode b_M_happens 299 = .ok (.getfield 29, 3) := by decide +kernel
theorem d_M_happens_302 : decode b_M_happens 302 = .ok (.iload_n 1, 1) := by decide +kernel
theorem d_M_happens_303 : decode b_M_happens 303 = .ok (.baload, 1) := by decide +kernel
theorem d_M_happens_304 : decode b_M_happens 304 = .ok (.ifCond .eq 13, 3) := by decide +kernel
theorem d_M_happens_307 : decode b_M_happens 307 = .ok (.aload_n 0, 1) := by decide +kernel
theorem d_M_happens_308 : decode b_M_happens 308 = .ok (.getfield 32, 3) := by decide +kernel
theorem d_M_happens_311 : decode b_M_happens 311 = .ok (.iload_n 1, 1) := by decide +kernel
theorem d_M_happens_312 : decode b_M_happens 312 = .ok (.dup2, 1) := by decide +kernel
theorem d_M_happens_313 : decode b_M_happens 313 = .ok (.iaload, 1) := by decide +kernel
theorem d_M_happens_314 : decode b_M_happens 314 = .ok (.iconst 1, 1) := by decide +kernel
theorem d_M_happens_315 : decode b_M_happens 315 = .ok (.iadd, 1) := by decide +kernel
theorem d_M_happens_316 : decode b_M_happens 316 = .ok (.iastore, 1) := by decide +kernel
theorem d_M_happens_317 : decode b_M_happens 317 = .ok (.aload_n 0, 1) := by decide +kernel
theorem d_M_happens_318 : decode b_M_happens 318 = .ok (.getfield 51, 3) := by decide +kernel
theorem d_M_happens_321 : decode b_M_happens 321 = .ok (.iload_n 1, 1) := by decide +kernel
theorem d_M_happens_322 : decode b_M_happens 322 = .ok (.iload_n 2, 1) := by decide +kernel
theorem d_M_happens_323 : decode b_M_happens 323 = .ok (.invokestatic 71, 3) := by decide +kernel
theorem d_M_happens_326 : decode b_M_happens 326 = .ok (.ifCond .eq 7, 3) := by decide +kernel
theorem d_M_happens_329 : decode b_M_happens 329 = .ok (.iconst 0, 1) := by decide +kernel
theorem d_M_happens_330 : decode b_M_happens 330 = .ok (.goto 24, 3) := by decide +kernel
theorem d_M_happens_333 : decode b_M_happens 333 = .ok (.iload_n 2, 1) := by decide +kernel
theorem d_M_happens_334 : decode b_M_happens 334 = .ok (.ifCond .ne 14, 3) := by decide +kernel
theorem d_M_happens_337 : decode b_M_happens 337 = .ok (.aload_n 0, 1) := by decide +kernel
theorem d_M_happens_338 : decode b_M_happens 338 = .ok (.getfield 51, 3) := by decide +kernel
theorem d_M_happens_341 : decode b_M_happens 341 = .ok (.iload_n 1, 1) := by decide +kernel
theorem d_M_happens_342 : decode b_M_happens 342 = .ok (.iaload, 1) := by decide +kernel
theorem d_M_happens_343 : decode b_M_happens 343 = .ok (.iconst 1, 1) := by decide +kernel
theorem d_M_happens_344 : decode b_M_happens 344 = .ok (.iadd, 1) := by decide +kernel
theorem d_M_happens_345 : decode b_M_happens 345 = .ok (.goto 9, 3) := by decide +kernel
theorem d_M_happens_348 : decode b_M_happens 348 = .ok (.aload_n 0, 1) := by decide +kernel
theorem d_M_happens_349 : decode b_M_happens 349 = .ok (.getfield 51, 3) := by decide +kernel
theorem d_M_happens_352 : decode b_M_happens 352 = .ok (.iload_n 1, 1) := by decide +kernel
theorem d_M_happens_353 : decode b_M_happens 353 = .ok (.iaload, 1) := by decide +kernel
theorem d_M_happens_354 : decode b_M_happens 354 = .ok (.iastore, 1) := by decide +kernel
theorem d_M_happens_355 : decode b_M_happens 355 = .ok (.aload_n 0, 1) := by decide +kernel
theorem d_M_happens_356 : decode b_M_happens 356 = .ok (.getfield 51, 3) := by decide +kernel
theorem d_M_happens_359 : decode b_M_happens 359 = .ok (.iload_n 1, 1) := by decide +kernel
theorem d_M_happens_360 : decode b_M_happens 360 = .ok (.iaload, 1) := by decide +kernel
theorem d_M_happens_361 : decode b_M_happens 361 = .ok (.bipush 100, 2) := by decide +kernel
theorem d_M_happens_363 : decode b_M_happens 363 = .ok (.if_icmp .ne 17, 3) := by decide +kernel
theorem d_M_happens_366 : decode b_M_happens 366 = .ok (.aload_n 0, 1) := by decide +kernel
theorem d_M_happens_367 : decode b_M_happens 367 = .ok (.getfield 51, 3) := by decide +kernel
theorem d_M_happens_370 : decode b_M_happens 370 = .ok (.iload_n 1, 1) := by decide +kernel
theorem d_M_happens_371 : decode b_M_happens 371 = .ok (.iconst 0, 1) := by decide +kernel
theorem d_M_happens_372 : decode b_M_happens 372 = .ok (.iastore, 1) := by decide +kernel
theorem d_M_happens_373 : decode b_M_happens 373 = .ok (.aload_n 0, 1) := by decide +kernel
theorem d_M_happens_374 : decode b_M_happens 374 = .ok (.getfield 48, 3) := by decide +kernel
theorem d_M_happens_377 : decode b_M_happens 377 = .ok (.iload_n 1, 1) := by decide +kernel
theorem d_M_happens_378 : decode b_M_happens 378 = .ok (.iconst 0, 1) := by decide +kernel
theorem d_M_happens_379 : decode b_M_happens 379 = .ok (.iastore, 1) := by decide +kernel
theorem d_M_happens_380 : decode b_M_happens 380 = .ok (.aload_n 0, 1) := by decide +kernel
theorem d_M_happens_381 : decode b_M_happens 381 = .ok (.getfield 7, 3) := by decide +kernel
theorem d_M_happens_384 : decode b_M_happens 384 = .ok (.iload_n 1, 1) := by decide +kernel
theorem d_M_happens_385 : decode b_M_happens 385 = .ok (.iaload, 1) := by decide +kernel
theorem d_M_happens_386 : decode b_M_happens 386 = .ok (.sipush 256, 3) := by decide +kernel
theorem d_M_happens_389 : decode b_M_happens 389 = .ok (.if_icmp .ne 57, 3) := by decide +kernel
theorem d_M_happens_392 : decode b_M_happens 392 = .ok (.aload_n 0, 1) := by decide +kernel
theorem d_M_happens_393 : decode b_M_happens 393 = .ok (.getfield 16, 3) := by decide +kernel
theorem d_M_happens_396 : decode b_M_happens 396 = .ok (.iload_n 1, 1) := by decide +kernel
theorem d_M_happens_397 : decode b_M_happens 397 = .ok (.iconst 1, 1) := by decide +kernel
theorem d_M_happens_398 : decode b_M_happens 398 = .ok (.bastore, 1) := by decide +kernel
theorem d_M_happens_399 : decode b_M_happens 399 = .ok (.aload_n 0, 1) := by decide +kernel
theorem d_M_happens_400 : decode b_M_happens 400 = .ok (.getfield 20, 3) := by decide +kernel
theorem d_M_happens_403 : decode b_M_happens 403 = .ok (.iload_n 1, 1) := by decide +kernel
theorem d_M_happens_404 : decode b_M_happens 404 = .ok (.iconst 0, 1) := by decide +kernel
theorem d_M_happens_405 : decode b_M_happens 405 = .ok (.iastore, 1) := by decide +kernel
theorem d_M_happens_406 : decode b_M_happens 406 = .ok (.aload_n 0, 1) := by decide +kernel
theorem d_M_happens_407 : decode b_M_happens 407 = .ok (.getfield 38, 3) := by decide +kernel
theorem d_M_happens_410 : decode b_M_happens 410 = .ok (.iload_n 1, 1) := by decide +kernel
theorem d_M_happens_411 : decode b_M_happens 411 = .ok (.ldc2_w 61, 3) := by decide +kernel
theorem d_M_happens_414 : decode b_M_happens 414 = .ok (.lastore, 1) := by decide +kernel
theorem d_M_happens_415 : decode b_M_happens 415 = .ok (.aload_n 0, 1) := by decide +kernel
theorem d_M_happens_416 : decode b_M_happens 416 = .ok (.getfield 42, 3) := by decide +kernel
theorem d_M_happens_419 : decode b_M_happens 419 = .ok (.iload_n 1, 1) := by decide +kernel
theorem d_M_happens_420 : decode b_M_happens 420 = .ok (.iconst 0, 1) := by decide +kernel
theorem d_M_happens_421 : decode b_M_happens 421 = .ok (.bastore, 1) := by decide +kernel
theorem d_M_happens_422 : decode b_M_happens 422 = .ok (.aload_n 0, 1) := by decide +kernel
theorem d_M_happens_423 : decode b_M_happens 423 = .ok (.getfield 45, 3) := by decide +kernel
theorem d_M_happens_426 : decode b_M_happens 426 = .ok (.iload_n 1, 1) := by decide +kernel
theorem d_M_happens_427 : decode b_M_happens 427 = .ok (.iconst 0, 1) := by decide +kernel
theorem d_M_happens_428 : decode b_M_happens 428 = .ok (.iastore, 1) := by decide +kernel
theorem d_M_happens_429 : decode b_M_happens 429 = .ok (.aload_n 0, 1) := by decide +kernel
theorem d_M_happens_430 : decode b_M_happens 430 = .ok (.getfield 51, 3) := by decide +kernel
theorem d_M_happens_433 : decode b_M_happens 433 = .ok (.iload_n 1, 1) := by decide +kernel
theorem d_M_happens_434 : decode b_M_happens 434 = .ok (.iconst 0, 1) := by decide +kernel
theorem d_M_happens_435 : decode b_M_happens 435 = .ok (.iastore, 1) := by decide +kernel
theorem d_M_happens_436 : decode b_M_happens 436 = .ok (.aload_n 0, 1) := by decide +kernel
theorem d_M_happens_437 : decode b_M_happens 437 = .ok (.getfield 48, 3) := by decide +kernel
theorem d_M_happens_440 : decode b_M_happens 440 = .ok (.iload_n 1, 1) := by decide +kernel
theorem d_M_happens_441 : decode b_M_happens 441 = .ok (.dup2, 1) := by decide +kernel
theorem d_M_happens_442 : decode b_M_happens 442 = .ok (.iaload, 1) := by decide +kernel
theorem d_M_happens_443 : decode b_M_happens 443 = .ok (.iconst 1, 1) := by decide +kernel
theorem d_M_happens_444 : decode b_M_happens 444 = .ok (.iadd, 1) := by decide +kernel
theorem d_M_happens_445 : decode b_M_happens 445 = .ok (.iastore, 1) := by decide +kernel
theorem d_M_happens_446 : decode b_M_happens 446 = .ok (.aload_n 0, 1) := by decide +kernel
theorem d_M_happens_447 : decode b_M_happens 447 = .ok (.getfield 23, 3) := by decide +kernel
theorem d_M_happens_450 : decode b_M_happens 450 = .ok (.iload_n 1, 1) := by decide +kernel
theorem d_M_happens_451 : decode b_M_happens 451 = .ok (.iload_n 3, 1) := by decide +kernel
theorem d_M_happens_452 : decode b_M_happens 452 = .ok (.ifCond .eq 17, 3) := by decide +kernel
theorem d_M_happens_455 : decode b_M_happens 455 = .ok (.aload_n 0, 1) := by decide +kernel
theorem d_M_happens_456 : decode b_M_happens 456 = .ok (.iload_n 1, 1) := by decide +kernel
theorem d_M_happens_457 : decode b_M_happens 457 = .ok (.invokevirtual 63, 3) := by decide +kernel
theorem d_M_happens_460 : decode b_M_happens 460 = .ok (.iconst 1, 1) := by decide +kernel
theorem d_M_happens_461 : decode b_M_happens 461 = .ok (.if_icmp .ne 8, 3) := by decide +kernel
theorem d_M_happens_464 : decode b_M_happens 464 = .ok (.bipush 11, 2) := by decide +kernel
theorem d_M_happens_466 : decode b_M_happens 466 = .ok (.goto 4, 3) := by decide +kernel
theorem d_M_happens_469 : decode b_M_happens 469 = .ok (.iconst 3, 1) := by decide +kernel
theorem d_M_happens_470 : decode b_M_happens 470 = .ok (.iastore, 1) := by decide +kernel
theorem d_M_happens_471 : decode b_M_happens 471 = .ok (.return_, 1) := by decide +kernel
theorem d_M_event_0 : decode b_M_event 0 = .ok (.aload_n 0, 1) := by decide +kernel
theorem d_M_event_1 : decode b_M_event 1 = .ok (.iload_n 1, 1) := by decide +kernel
theorem d_M_event_2 : decode b_M_event 2 = .ok (.invokevirtual 75, 3) := by decide +kernel
theorem d_M_event_5 : decode b_M_event 5 = .ok (.ifCond .eq 5, 3) := by decide +kernel
theorem d_M_event_8 : decode b_M_event 8 = .ok (.iconst (-1), 1) := by decide +kernel
theorem d_M_event_9 : decode b_M_event 9 = .ok (.ireturn, 1) := by decide +kernel
theorem d_M_event_10 : decode b_M_event 10 = .ok (.iload_n 2, 1) := by decide +kernel
theorem d_M_event_11 : decode b_M_event 11 = .ok (.ifCond .lt 9, 3) := by decide +kernel
theorem d_M_event_14 : decode b_M_event 14 = .ok (.iload_n 2, 1) := by decide +kernel
theorem d_M_event_15 : decode b_M_event 15 = .ok (.bipush 10, 2) := by decide +kernel
theorem d_M_event_17 : decode b_M_event 17 = .ok (.if_icmp .le 6, 3) := by decide +kernel
theorem d_M_event_20 : decode b_M_event 20 = .ok (.bipush (-2), 2) := by decide +kernel
theorem d_M_event_22 : decode b_M_event 22 = .ok (.ireturn, 1) := by decide +kernel
theorem d_M_event_23 : decode b_M_event 23 = .ok (.aload_n 0, 1) := by decide +kernel
theorem d_M_event_24 : decode b_M_event 24 = .ok (.getfield 16, 3) := by decide +kernel
theorem d_M_event_27 : decode b_M_event 27 = .ok (.iload_n 1, 1) := by decide +kernel
theorem d_M_event_28 : decode b_M_event 28 = .ok (.baload, 1) := by decide +kernel
theorem d_M_event_29 : decode b_M_event 29 = .ok (.ifCond .ne 16, 3) := by decide +kernel
theorem d_M_event_32 : decode b_M_event 32 = .ok (.aload_n 0, 1) := by decide +kernel
theorem d_M_event_33 : decode b_M_event 33 = .ok (.getfield 35, 3) := by decide +kernel
theorem d_M_event_36 : decode b_M_event 36 = .ok (.iload_n 1, 1) := by decide +kernel
theorem d_M_event_37 : decode b_M_event 37 = .ok (.baload, 1) := by decide +kernel
theorem d_M_event_38 : decode b_M_event 38 = .ok (.ifCond .eq 10, 3) := by decide +kernel
theorem d_M_event_41 : decode b_M_event 41 = .ok (.iload_n 3, 1) := by decide +kernel
theorem d_M_event_42 : decode b_M_event 42 = .ok (.ifCond .eq 6, 3) := by decide +kernel
theorem d_M_event_45 : decode b_M_event 45 = .ok (.bipush (-3), 2) := by decide +kernel
theorem d_M_event_47 : decode b_M_event 47 = .ok (.ireturn, 1) := by decide +kernel
theorem d_M_event_48 : decode b_M_event 48 = .ok (.aload_n 0, 1) := by decide +kernel
theorem d_M_event_49 : decode b_M_event 49 = .ok (.iload_n 1, 1) := by decide +kernel
theorem d_M_event_50 : decode b_M_event 50 = .ok (.iload_n 2, 1) := by decide +kernel
theorem d_M_event_51 : decode b_M_event 51 = .ok (.iload_n 3, 1) := by decide +kernel
theorem d_M_event_52 : decode b_M_event 52 = .ok (.invokevirtual 78, 3) := by decide +kernel
theorem d_M_event_55 : decode b_M_event 55 = .ok (.aload_n 0, 1) := by decide +kernel
theorem d_M_event_56 : decode b_M_event 56 = .ok (.iload_n 1, 1) := by decide +kernel
theorem d_M_event_57 : decode b_M_event 57 = .ok (.invokevirtual 63, 3) := by decide +kernel
theorem d_M_event_60 : decode b_M_event 60 = .ok (.ireturn, 1) := by decide +kernel
theorem d_M_counter_0 : decode b_M_counter 0 = .ok (.aload_n 0, 1) := by decide +kernel
theorem d_M_counter_1 : decode b_M_counter 1 = .ok (.iload_n 1, 1) := by decide +kernel
theorem d_M_counter_2 : decode b_M_counter 2 = .ok (.invokevirtual 75, 3) := by decide +kernel
theorem d_M_counter_5 : decode b_M_counter 5 = .ok (.ifCond .eq 5, 3) := by decide +kernel
theorem d_M_counter_8 : decode b_M_counter 8 = .ok (.iconst (-1), 1) := by decide +kernel
theorem d_M_counter_9 : decode b_M_counter 9 = .ok (.ireturn, 1) := by decide +kernel
theorem d_M_counter_10 : decode b_M_counter 10 = .ok (.iload_n 2, 1) := by decide +kernel
theorem d_M_counter_11 : decode b_M_counter 11 = .ok (.ifCond .eq 12, 3) := by decide +kernel
theorem d_M_counter_14 : decode b_M_counter 14 = .ok (.aload_n 0, 1) := by decide +kernel
theorem d_M_counter_15 : decode b_M_counter 15 = .ok (.getfield 7, 3) := by decide +kernel
theorem d_M_counter_18 : decode b_M_counter 18 = .ok (.iload_n 1, 1) := by decide +kernel
theorem d_M_counter_19 : decode b_M_counter 19 = .ok (.iaload, 1) := by decide +kernel
theorem d_M_counter_20 : decode b_M_counter 20 = .ok (.goto 9, 3) := by decide +kernel
theorem d_M_counter_23 : decode b_M_counter 23 = .ok (.aload_n 0, 1) := by decide +kernel
theorem d_M_counter_24 : decode b_M_counter 24 = .ok (.getfield 13, 3) := by decide +kernel
theorem d_M_counter_27 : decode b_M_counter 27 = .ok (.iload_n 1, 1) := by decide +kernel
theorem d_M_counter_28 : decode b_M_counter 28 = .ok (.iaload, 1) := by decide +kernel
theorem d_M_counter_29 : decode b_M_counter 29 = .ok (.ireturn, 1) := by decide +kernel
theorem d_M_state_0 : decode b_M_state 0 = .ok (.aload_n 0, 1) := by decide +kernel
theorem d_M_state_1 : decode b_M_state 1 = .ok (.iload_n 1, 1) := by decide +kernel
theorem d_M_state_2 : decode b_M_state 2 = .ok (.invokevirtual 75, 3) := by decide +kernel
theorem d_M_state_5 : decode b_M_state 5 = .ok (.ifCond .eq 7, 3) := by decide +kernel
theorem d_M_state_8 : decode b_M_state 8 = .ok (.iconst (-1), 1) := by decide +kernel
theorem d_M_state_9 : decode b_M_state 9 = .ok (.goto 8, 3) := by decide +kernel
theorem d_M_state_12 : decode b_M_state 12 = .ok (.aload_n 0, 1) := by decide +kernel
theorem d_M_state_13 : decode b_M_state 13 = .ok (.iload_n 1, 1) := by decide +kernel
theorem d_M_state_14 : decode b_M_state 14 = .ok (.invokevirtual 63, 3) := by decide +kernel
theorem d_M_state_17 : decode b_M_state 17 = .ok (.ireturn, 1) := by decide +kernel
theorem d_M_recover_0 : decode b_M_recover 0 = .ok (.aload_n 0, 1) := by decide +kernel
theorem d_M_recover_1 : decode b_M_recover 1 = .ok (.iload_n 1, 1) := by decide +kernel
theorem d_M_recover_2 : decode b_M_recover 2 = .ok (.invokevirtual 75, 3) := by decide +kernel
theorem d_M_recover_5 : decode b_M_recover 5 = .ok (.ifCond .eq 5, 3) := by decide +kernel
theorem d_M_recover_8 : decode b_M_recover 8 = .ok (.iconst (-1), 1) := by decide +kernel
theorem d_M_recover_9 : decode b_M_recover 9 = .ok (.ireturn, 1) := by decide +kernel
theorem d_M_recover_10 : decode b_M_recover 10 = .ok (.iload_n 2, 1) := by decide +kernel
theorem d_M_recover_11 : decode b_M_recover 11 = .ok (.iconst 1, 1) := by decide +kernel
theorem d_M_recover_12 : decode b_M_recover 12 = .ok (.if_icmp .ge 6, 3) := by decide +kernel
theorem d_M_recover_15 : decode b_M_recover 15 = .ok (.bipush (-2), 2) := by decide +kernel
theorem d_M_recover_17 : decode b_M_recover 17 = .ok (.ireturn, 1) := by decide +kernel
theorem d_M_recover_18 : decode b_M_recover 18 = .ok (.aload_n 0, 1) := by decide +kernel
theorem d_M_recover_19 : decode b_M_recover 19 = .ok (.getfield 16, 3) := by decide +kernel
theorem d_M_recover_22 : decode b_M_recover 22 = .ok (.iload_n 1, 1) := by decide +kernel
theorem d_M_recover_23 : decode b_M_recover 23 = .ok (.baload, 1) := by decide +kernel
theorem d_M_recover_24 : decode b_M_recover 24 = .ok (.ifCond .eq 12, 3) := by decide +kernel
theorem d_M_recover_27 : decode b_M_recover 27 = .ok (.aload_n 0, 1) := by decide +kernel
theorem d_M_recover_28 : decode b_M_recover 28 = .ok (.getfield 42, 3) := by decide +kernel
theorem d_M_recover_31 : decode b_M_recover 31 = .ok (.iload_n 1, 1) := by decide +kernel
theorem d_M_recover_32 : decode b_M_recover 32 = .ok (.baload, 1) := by decide +kernel
theorem d_M_recover_33 : decode b_M_recover 33 = .ok (.ifCond .ne 6, 3) := by decide +kernel
theorem d_M_recover_36 : decode b_M_recover 36 = .ok (.bipush (-3), 2) := by decide +kernel
theorem d_M_recover_38 : decode b_M_recover 38 = .ok (.ireturn, 1) := by decide +kernel
theorem d_M_recover_39 : decode b_M_recover 39 = .ok (.aload_n 0, 1) := by decide +kernel
theorem d_M_recover_40 : decode b_M_recover 40 = .ok (.getfield 45, 3) := by decide +kernel
theorem d_M_recover_43 : decode b_M_recover 43 = .ok (.iload_n 1, 1) := by decide +kernel
theorem d_M_recover_44 : decode b_M_recover 44 = .ok (.iload_n 2, 1) := by decide +kernel
theorem d_M_recover_45 : decode b_M_recover 45 = .ok (.sipush 128, 3) := by decide +kernel
theorem d_M_recover_48 : decode b_M_recover 48 = .ok (.aload_n 0, 1) := by decide +kernel
theorem d_M_recover_49 : decode b_M_recover 49 = .ok (.getfield 45, 3) := by decide +kernel
theorem d_M_recover_52 : decode b_M_recover 52 = .ok (.iload_n 1, 1) := by decide +kernel
theorem d_M_recover_53 : decode b_M_recover 53 = .ok (.iaload, 1) := by decide +kernel
theorem d_M_recover_54 : decode b_M_recover 54 = .ok (.isub, 1) := by decide +kernel
theorem d_M_recover_55 : decode b_M_recover 55 = .ok (.if_icmp .le 9, 3) := by decide +kernel
theorem d_M_recover_58 : decode b_M_recover 58 = .ok (.sipush 128, 3) := by decide +kernel
theorem d_M_recover_61 : decode b_M_recover 61 = .ok (.goto 11, 3) := by decide +kernel
theorem d_M_recover_64 : decode b_M_recover 64 = .ok (.aload_n 0, 1) := by decide +kernel
theorem d_M_recover_65 : decode b_M_recover 65 = .ok (.getfield 45, 3) := by decide +kernel
theorem d_M_recover_68 : decode b_M_recover 68 = .ok (.iload_n 1, 1) := by decide +kernel
theorem d_M_recover_69 : decode b_M_recover 69 = .ok (.iaload, 1) := by decide +kernel
theorem d_M_recover_70 : decode b_M_recover 70 = .ok (.iload_n 2, 1) := by decide +kernel
theorem d_M_recover_71 : decode b_M_recover 71 = .ok (.iadd, 1) := by decide +kernel
theorem d_M_recover_72 : decode b_M_recover 72 = .ok (.iastore, 1) := by decide +kernel
theorem d_M_recover_73 : decode b_M_recover 73 = .ok (.aload_n 0, 1) := by decide +kernel
theorem d_M_recover_74 : decode b_M_recover 74 = .ok (.getfield 45, 3) := by decide +kernel
theorem d_M_recover_77 : decode b_M_recover 77 = .ok (.iload_n 1, 1) := by decide +kernel
theorem d_M_recover_78 : decode b_M_recover 78 = .ok (.iaload, 1) := by decide +kernel
theorem d_M_recover_79 : decode b_M_recover 79 = .ok (.sipush 128, 3) := by decide +kernel
theorem d_M_recover_82 : decode b_M_recover 82 = .ok (.if_icmp .ne 38, 3) := by decide +kernel
theorem d_M_recover_85 : decode b_M_recover 85 = .ok (.aload_n 0, 1) := by decide +kernel
theorem d_M_recover_86 : decode b_M_recover 86 = .ok (.getfield 16, 3) := by decide +kernel
theorem d_M_recover_89 : decode b_M_recover 89 = .ok (.iload_n 1, 1) := by decide +kernel
theorem d_M_recover_90 : decode b_M_recover 90 = .ok (.iconst 0, 1) := by decide +kernel
theorem d_M_recover_91 : decode b_M_recover 91 = .ok (.bastore, 1) := by decide +kernel
theorem d_M_recover_92 : decode b_M_recover 92 = .ok (.aload_n 0, 1) := by decide +kernel
theorem d_M_recover_93 : decode b_M_recover 93 = .ok (.getfield 7, 3) := by decide +kernel
theorem d_M_recover_96 : decode b_M_recover 96 = .ok (.iload_n 1, 1) := by decide +kernel
theorem d_M_recover_97 : decode b_M_recover 97 = .ok (.iconst 0, 1) := by decide +kernel
theorem d_M_recover_98 : decode b_M_recover 98 = .ok (.iastore, 1) := by decide +kernel
theorem d_M_recover_99 : decode b_M_recover 99 = .ok (.aload_n 0, 1) := by decide +kernel
theorem d_M_recover_100 : decode b_M_recover 100 = .ok (.getfield 13, 3) := by decide +kernel
theorem d_M_recover_103 : decode b_M_recover 103 = .ok (.iload_n 1, 1) := by decide +kernel
theorem d_M_recover_104 : decode b_M_recover 104 = .ok (.iconst 0, 1) := by decide +kernel
theorem d_M_recover_105 : decode b_M_recover 105 = .ok (.iastore, 1) := by decide +kernel
theorem d_M_recover_106 : decode b_M_recover 106 = .ok (.aload_n 0, 1) := by decide +kernel
theorem d_M_recover_107 : decode b_M_recover 107 = .ok (.getfield 20, 3) := by decide +kernel
theorem d_M_recover_110 : decode b_M_recover 110 = .ok (.iload_n 1, 1) := by decide +kernel
theorem d_M_recover_111 : decode b_M_recover 111 = .ok (.iconst 0, 1) := by decide +kernel
theorem d_M_recover_112 : decode b_M_recover 112 = .ok (.iastore, 1) := by decide +kernel
theorem d_M_recover_113 : decode b_M_recover 113 = .ok (.aload_n 0, 1) := by decide +kernel
theorem d_M_recover_114 : decode b_M_recover 114 = .ok (.getfield 23, 3) := by decide +kernel
theorem d_M_recover_117 : decode b_M_recover 117 = .ok (.iload_n 1, 1) := by decide +kernel
theorem d_M_recover_118 : decode b_M_recover 118 = .ok (.iconst 0, 1) := by decide +kernel
theorem d_M_recover_119 : decode b_M_recover 119 = .ok (.iastore, 1) := by decide +kernel
theorem d_M_recover_120 : decode b_M_recover 120 = .ok (.aload_n 0, 1) := by decide +kernel
theorem d_M_recover_121 : decode b_M_recover 121 = .ok (.iload_n 1, 1) := by decide +kernel
theorem d_M_recover_122 : decode b_M_recover 122 = .ok (.invokevirtual 63, 3) := by decide +kernel
theorem d_M_recover_125 : decode b_M_recover 125 = .ok (.ireturn, 1) := by decide +kernel
theorem d_M_flag_0 : decode b_M_flag 0 = .ok (.aload_n 0, 1) := by decide +kernel
theorem d_M_flag_1 : decode b_M_flag 1 = .ok (.iload_n 1, 1) := by decide +kernel
theorem d_M_flag_2 : decode b_M_flag 2 = .ok (.invokevirtual 75, 3) := by decide +kernel
theorem d_M_flag_5 : decode b_M_flag 5 = .ok (.ifCond .eq 7, 3) := by decide +kernel
theorem d_M_flag_8 : decode b_M_flag 8 = .ok (.iconst (-1), 1) := by decide +kernel
theorem d_M_flag_9 : decode b_M_flag 9 = .ok (.goto 9, 3) := by decide +kernel
theorem d_M_flag_12 : decode b_M_flag 12 = .ok (.aload_n 0, 1) := by decide +kernel
theorem d_M_flag_13 : decode b_M_flag 13 = .ok (.getfield 20, 3) := by decide +kernel
theorem d_M_flag_16 : decode b_M_flag 16 = .ok (.iload_n 1, 1) := by decide +kernel
theorem d_M_flag_17 : decode b_M_flag 17 = .ok (.iaload, 1) := by decide +kernel
theorem d_M_flag_18 : decode b_M_flag 18 = .ok (.ireturn, 1) := by decide +kernel
theorem d_M_manager_0 : decode b_M_manager 0 = .ok (.aload_n 0, 1) := by decide +kernel
theorem d_M_manager_1 : decode b_M_manager 1 = .ok (.iload_n 1, 1) := by decide +kernel
theorem d_M_manager_2 : decode b_M_manager 2 = .ok (.invokevirtual 75, 3) := by decide +kernel
theorem d_M_manager_5 : decode b_M_manager 5 = .ok (.ifCond .eq 5, 3) := by decide +kernel
theorem d_M_manager_8 : decode b_M_manager 8 = .ok (.iconst (-1), 1) := by decide +kernel
theorem d_M_manager_9 : decode b_M_manager 9 = .ok (.ireturn, 1) := by decide +kernel
theorem d_M_manager_10 : decode b_M_manager 10 = .ok (.lload_n 2, 1) := by decide +kernel
theorem d_M_manager_11 : decode b_M_manager 11 = .ok (.lconst 0, 1) := by decide +kernel
theorem d_M_manager_12 : decode b_M_manager 12 = .ok (.lcmp, 1) := by decide +kernel
theorem d_M_manager_13 : decode b_M_manager 13 = .ok (.ifCond .lt 12, 3) := by decide +kernel
theorem d_M_manager_16 : decode b_M_manager 16 = .ok (.lload_n 2, 1) := by decide +kernel
theorem d_M_manager_17 : decode b_M_manager 17 = .ok (.aload_n 0, 1) := by decide +kernel
theorem d_M_manager_18 : decode b_M_manager 18 = .ok (.getfield 82, 3) := by decide +kernel
theorem d_M_manager_21 : decode b_M_manager 21 = .ok (.lcmp, 1) := by decide +kernel
theorem d_M_manager_22 : decode b_M_manager 22 = .ok (.ifCond .ge 6, 3) := by decide +kernel
theorem d_M_manager_25 : decode b_M_manager 25 = .ok (.bipush (-2), 2) := by decide +kernel
theorem d_M_manager_27 : decode b_M_manager 27 = .ok (.ireturn, 1) := by decide +kernel
theorem d_M_manager_28 : decode b_M_manager 28 = .ok (.aload_n 0, 1) := by decide +kernel
theorem d_M_manager_29 : decode b_M_manager 29 = .ok (.lload_n 2, 1) := by decide +kernel
theorem d_M_manager_30 : decode b_M_manager 30 = .ok (.putfield 82, 3) := by decide +kernel
theorem d_M_manager_33 : decode b_M_manager 33 = .ok (.aload_n 0, 1) := by decide +kernel
theorem d_M_manager_34 : decode b_M_manager 34 = .ok (.getfield 16, 3) := by decide +kernel
theorem d_M_manager_37 : decode b_M_manager 37 = .ok (.iload_n 1, 1) := by decide +kernel
theorem d_M_manager_38 : decode b_M_manager 38 = .ok (.baload, 1) := by decide +kernel
theorem d_M_manager_39 : decode b_M_manager 39 = .ok (.ifCond .ne 5, 3) := by decide +kernel
theorem d_M_manager_42 : decode b_M_manager 42 = .ok (.iconst 1, 1) := by decide +kernel
theorem d_M_manager_43 : decode b_M_manager 43 = .ok (.ireturn, 1) := by decide +kernel
theorem d_M_manager_44 : decode b_M_manager 44 = .ok (.aload_n 0, 1) := by decide +kernel
theorem d_M_manager_45 : decode b_M_manager 45 = .ok (.getfield 38, 3) := by decide +kernel
theorem d_M_manager_48 : decode b_M_manager 48 = .ok (.iload_n 1, 1) := by decide +kernel
theorem d_M_manager_49 : decode b_M_manager 49 = .ok (.aload_n 0, 1) := by decide +kernel
theorem d_M_manager_50 : decode b_M_manager 50 = .ok (.getfield 38, 3) := by decide +kernel
theorem d_M_manager_53 : decode b_M_manager 53 = .ok (.iload_n 1, 1) := by decide +kernel
theorem d_M_manager_54 : decode b_M_manager 54 = .ok (.laload, 1) := by decide +kernel
theorem d_M_manager_55 : decode b_M_manager 55 = .ok (.lconst 0, 1) := by decide +kernel
theorem d_M_manager_56 : decode b_M_manager 56 = .ok (.lcmp, 1) := by decide +kernel
theorem d_M_manager_57 : decode b_M_manager 57 = .ok (.ifCond .ge 7, 3) := by decide +kernel
theorem d_M_manager_60 : decode b_M_manager 60 = .ok (.lload_n 2, 1) := by decide +kernel
theorem d_M_manager_61 : decode b_M_manager 61 = .ok (.goto 9, 3) := by decide +kernel
theorem d_M_manager_64 : decode b_M_manager 64 = .ok (.aload_n 0, 1) := by decide +kernel
theorem d_M_manager_65 : decode b_M_manager 65 = .ok (.getfield 38, 3) := by decide +kernel
theorem d_M_manager_68 : decode b_M_manager 68 = .ok (.iload_n 1, 1) := by decide +kernel
theorem d_M_manager_69 : decode b_M_manager 69 = .ok (.laload, 1) := by decide +kernel
theorem d_M_manager_70 : decode b_M_manager 70 = .ok (.lastore, 1) := by decide +kernel
theorem d_M_manager_71 : decode b_M_manager 71 = .ok (.lload_n 2, 1) := by decide +kernel
theorem d_M_manager_72 : decode b_M_manager 72 = .ok (.aload_n 0, 1) := by decide +kernel
theorem d_M_manager_73 : decode b_M_manager 73 = .ok (.getfield 38, 3) := by decide +kernel
theorem d_M_manager_76 : decode b_M_manager 76 = .ok (.iload_n 1, 1) := by decide +kernel
theorem d_M_manager_77 : decode b_M_manager 77 = .ok (.laload, 1) := by decide +kernel
theorem d_M_manager_78 : decode b_M_manager 78 = .ok (.lsub, 1) := by decide +kernel
theorem d_M_manager_79 : decode b_M_manager 79 = .ok (.lstore 4, 2) := by decide +kernel
theorem d_M_manager_81 : decode b_M_manager 81 = .ok (.aload_n 0, 1) := by decide +kernel
theorem d_M_manager_82 : decode b_M_manager 82 = .ok (.getfield 42, 3) := by decide +kernel
theorem d_M_manager_85 : decode b_M_manager 85 = .ok (.iload_n 1, 1) := by decide +kernel
theorem d_M_manager_86 : decode b_M_manager 86 = .ok (.aload_n 0, 1) := by decide +kernel
theorem d_M_manager_87 : decode b_M_manager 87 = .ok (.getfield 42, 3) := by decide +kernel
theorem d_M_manager_90 : decode b_M_manager 90 = .ok (.iload_n 1, 1) := by decide +kernel
theorem d_M_manager_91 : decode b_M_manager 91 = .ok (.baload, 1) := by decide +kernel
theorem d_M_manager_92 : decode b_M_manager 92 = .ok (.ifCond .ne 32, 3) := by decide +kernel
theorem d_M_manager_95 : decode b_M_manager 95 = .ok (.lload 4, 2) := by decide +kernel
theorem d_M_manager_97 : decode b_M_manager 97 = .ok (.ldc2_w 86, 3) := by decide +kernel
theorem d_M_manager_100 : decode b_M_manager 100 = .ok (.lcmp, 1) := by decide +kernel
theorem d_M_manager_101 : decode b_M_manager 101 = .ok (.ifCond .ge 23, 3) := by decide +kernel
theorem d_M_manager_104 : decode b_M_manager 104 = .ok (.lload 4, 2) := by decide +kernel
theorem d_M_manager_106 : decode b_M_manager 106 = .ok (.ldc2_w 88, 3) := by decide +kernel
theorem d_M_manager_109 : decode b_M_manager 109 = .ok (.lcmp, 1) := by decide +kernel
theorem d_M_manager_110 : decode b_M_manager 110 = .ok (.ifCond .lt 18, 3) := by decide +kernel
theorem d_M_manager_113 : decode b_M_manager 113 = .ok (.aload_n 0, 1) := by decide +kernel
theorem d_M_manager_114 : decode b_M_manager 114 = .ok (.getfield 48, 3) := by decide +kernel
theorem d_M_manager_117 : decode b_M_manager 117 = .ok (.iload_n 1, 1) := by decide +kernel
theorem d_M_manager_118 : decode b_M_manager 118 = .ok (.iaload, 1) := by decide +kernel
theorem d_M_manager_119 : decode b_M_manager 119 = .ok (.bipush 6, 2) := by decide +kernel
theorem d_M_manager_121 : decode b_M_manager 121 = .ok (.if_icmp .ge 7, 3) := by decide +kernel
theorem d_M_manager_124 : decode b_M_manager 124 = .ok (.iconst 1, 1) := by decide +kernel
theorem d_M_manager_125 : decode b_M_manager 125 = .ok (.goto 4, 3) := by decide +kernel
theorem d_M_manager_128 : decode b_M_manager 128 = .ok (.iconst 0, 1) := by decide +kernel
theorem d_M_manager_129 : decode b_M_manager 129 = .ok (.bastore, 1) := by decide +kernel
theorem d_M_manager_130 : decode b_M_manager 130 = .ok (.aload_n 0, 1) := by decide +kernel
theorem d_M_manager_131 : decode b_M_manager 131 = .ok (.getfield 42, 3) := by decide +kernel
theorem d_M_manager_134 : decode b_M_manager 134 = .ok (.iload_n 1, 1) := by decide +kernel
theorem d_M_manager_135 : decode b_M_manager 135 = .ok (.baload, 1) := by decide +kernel
theorem d_M_manager_136 : decode b_M_manager 136 = .ok (.ifCond .eq 7, 3) := by decide +kernel
theorem d_M_manager_139 : decode b_M_manager 139 = .ok (.iconst 1, 1) := by decide +kernel
theorem d_M_manager_140 : decode b_M_manager 140 = .ok (.goto 4, 3) := by decide +kernel
theorem d_M_manager_143 : decode b_M_manager 143 = .ok (.iconst 0, 1) := by decide +kernel
theorem d_M_manager_144 : decode b_M_manager 144 = .ok (.ireturn, 1) := by decide +kernel
theorem d_M_shot_0 : decode b_M_shot 0 = .ok (.aload_n 0, 1) := by decide +kernel
theorem d_M_shot_1 : decode b_M_shot 1 = .ok (.iload_n 1, 1) := by decide +kernel
theorem d_M_shot_2 : decode b_M_shot 2 = .ok (.invokevirtual 75, 3) := by decide +kernel
theorem d_M_shot_5 : decode b_M_shot 5 = .ok (.ifCond .eq 5, 3) := by decide +kernel
theorem d_M_shot_8 : decode b_M_shot 8 = .ok (.iconst (-1), 1) := by decide +kernel
theorem d_M_shot_9 : decode b_M_shot 9 = .ok (.ireturn, 1) := by decide +kernel
theorem d_M_shot_10 : decode b_M_shot 10 = .ok (.aload_n 0, 1) := by decide +kernel
theorem d_M_shot_11 : decode b_M_shot 11 = .ok (.getfield 29, 3) := by decide +kernel
theorem d_M_shot_14 : decode b_M_shot 14 = .ok (.iload_n 1, 1) := by decide +kernel
theorem d_M_shot_15 : decode b_M_shot 15 = .ok (.iload_n 2, 1) := by decide +kernel
theorem d_M_shot_16 : decode b_M_shot 16 = .ok (.bastore, 1) := by decide +kernel
theorem d_M_shot_17 : decode b_M_shot 17 = .ok (.aload_n 0, 1) := by decide +kernel
theorem d_M_shot_18 : decode b_M_shot 18 = .ok (.getfield 32, 3) := by decide +kernel
theorem d_M_shot_21 : decode b_M_shot 21 = .ok (.iload_n 1, 1) := by decide +kernel
theorem d_M_shot_22 : decode b_M_shot 22 = .ok (.iaload, 1) := by decide +kernel
theorem d_M_shot_23 : decode b_M_shot 23 = .ok (.ireturn, 1) := by decide +kernel
theorem d_M_listen_0 : decode b_M_listen 0 = .ok (.aload_n 0, 1) := by decide +kernel
theorem d_M_listen_1 : decode b_M_listen 1 = .ok (.iload_n 1, 1) := by decide +kernel
theorem d_M_listen_2 : decode b_M_listen 2 = .ok (.invokevirtual 75, 3) := by decide +kernel
theorem d_M_listen_5 : decode b_M_listen 5 = .ok (.ifCond .eq 5, 3) := by decide +kernel
theorem d_M_listen_8 : decode b_M_listen 8 = .ok (.iconst (-1), 1) := by decide +kernel
theorem d_M_listen_9 : decode b_M_listen 9 = .ok (.ireturn, 1) := by decide +kernel
theorem d_M_listen_10 : decode b_M_listen 10 = .ok (.aload_n 0, 1) := by decide +kernel
theorem d_M_listen_11 : decode b_M_listen 11 = .ok (.getfield 16, 3) := by decide +kernel
theorem d_M_listen_14 : decode b_M_listen 14 = .ok (.iload_n 1, 1) := by decide +kernel
theorem d_M_listen_15 : decode b_M_listen 15 = .ok (.baload, 1) := by decide +kernel
theorem d_M_listen_16 : decode b_M_listen 16 = .ok (.ifCond .eq 6, 3) := by decide +kernel
theorem d_M_listen_19 : decode b_M_listen 19 = .ok (.bipush (-3), 2) := by decide +kernel
theorem d_M_listen_21 : decode b_M_listen 21 = .ok (.ireturn, 1) := by decide +kernel
theorem d_M_listen_22 : decode b_M_listen 22 = .ok (.aload_n 0, 1) := by decide +kernel
theorem d_M_listen_23 : decode b_M_listen 23 = .ok (.getfield 35, 3) := by decide +kernel
theorem d_M_listen_26 : decode b_M_listen 26 = .ok (.iload_n 1, 1) := by decide +kernel
theorem d_M_listen_27 : decode b_M_listen 27 = .ok (.baload, 1) := by decide +kernel
theorem d_M_listen_28 : decode b_M_listen 28 = .ok (.iload_n 2, 1) := by decide +kernel
theorem d_M_listen_29 : decode b_M_listen 29 = .ok (.if_icmp .ne 7, 3) := by decide +kernel
theorem d_M_listen_32 : decode b_M_listen 32 = .ok (.iconst 0, 1) := by decide +kernel
theorem d_M_listen_33 : decode b_M_listen 33 = .ok (.goto 4, 3) := by decide +kernel
theorem d_M_listen_36 : decode b_M_listen 36 = .ok (.iconst 1, 1) := by decide +kernel
theorem d_M_listen_37 : decode b_M_listen 37 = .ok (.istore_n 3, 1) := by decide +kernel
theorem d_M_listen_38 : decode b_M_listen 38 = .ok (.aload_n 0, 1) := by decide +kernel
theorem d_M_listen_39 : decode b_M_listen 39 = .ok (.getfield 35, 3) := by decide +kernel
theorem d_M_listen_42 : decode b_M_listen 42 = .ok (.iload_n 1, 1) := by decide +kernel
theorem d_M_listen_43 : decode b_M_listen 43 = .ok (.iload_n 2, 1) := by decide +kernel
theorem d_M_listen_44 : decode b_M_listen 44 = .ok (.bastore, 1) := by decide +kernel
theorem d_M_listen_45 : decode b_M_listen 45 = .ok (.aload_n 0, 1) := by decide +kernel
theorem d_M_listen_46 : decode b_M_listen 46 = .ok (.getfield 20, 3) := by decide +kernel
theorem d_M_listen_49 : decode b_M_listen 49 = .ok (.iload_n 1, 1) := by decide +kernel
theorem d_M_listen_50 : decode b_M_listen 50 = .ok (.iconst 0, 1) := by decide +kernel
theorem d_M_listen_51 : decode b_M_listen 51 = .ok (.iastore, 1) := by decide +kernel
theorem d_M_listen_52 : decode b_M_listen 52 = .ok (.iload_n 3, 1) := by decide +kernel
theorem d_M_listen_53 : decode b_M_listen 53 = .ok (.ireturn, 1) := by decide +kernel
theorem d_M_two_0 : decode b_M_two 0 = .ok (.aload_n 0, 1) := by decide +kernel
theorem d_M_two_1 : decode b_M_two 1 = .ok (.iload_n 1, 1) := by decide +kernel
theorem d_M_two_2 : decode b_M_two 2 = .ok (.invokevirtual 75, 3) := by decide +kernel
theorem d_M_two_5 : decode b_M_two 5 = .ok (.ifCond .eq 5, 3) := by decide +kernel
theorem d_M_two_8 : decode b_M_two 8 = .ok (.iconst (-1), 1) := by decide +kernel
theorem d_M_two_9 : decode b_M_two 9 = .ok (.ireturn, 1) := by decide +kernel
theorem d_M_two_10 : decode b_M_two 10 = .ok (.iload_n 2, 1) := by decide +kernel
theorem d_M_two_11 : decode b_M_two 11 = .ok (.iconst 1, 1) := by decide +kernel
theorem d_M_two_12 : decode b_M_two 12 = .ok (.if_icmp .lt 20, 3) := by decide +kernel
theorem d_M_two_15 : decode b_M_two 15 = .ok (.iload_n 2, 1) := by decide +kernel
theorem d_M_two_16 : decode b_M_two 16 = .ok (.bipush 10, 2) := by decide +kernel
theorem d_M_two_18 : decode b_M_two 18 = .ok (.if_icmp .gt 14, 3) := by decide +kernel
theorem d_M_two_21 : decode b_M_two 21 = .ok (.iload_n 3, 1) := by decide +kernel
theorem d_M_two_22 : decode b_M_two 22 = .ok (.iconst 1, 1) := by decide +kernel
theorem d_M_two_23 : decode b_M_two 23 = .ok (.if_icmp .lt 9, 3) := by decide +kernel
theorem d_M_two_26 : decode b_M_two 26 = .ok (.iload_n 3, 1) := by decide +kernel
theorem d_M_two_27 : decode b_M_two 27 = .ok (.bipush 10, 2) := by decide +kernel
theorem d_M_two_29 : decode b_M_two 29 = .ok (.if_icmp .le 6, 3) := by decide +kernel
theorem d_M_two_32 : decode b_M_two 32 = .ok (.bipush (-2), 2) := by decide +kernel
theorem d_M_two_34 : decode b_M_two 34 = .ok (.ireturn, 1) := by decide +kernel
theorem d_M_two_35 : decode b_M_two 35 = .ok (.aload_n 0, 1) := by decide +kernel
theorem d_M_two_36 : decode b_M_two 36 = .ok (.getfield 16, 3) := by decide +kernel
theorem d_M_two_39 : decode b_M_two 39 = .ok (.iload_n 1, 1) := by decide +kernel
theorem d_M_two_40 : decode b_M_two 40 = .ok (.baload, 1) := by decide +kernel
theorem d_M_two_41 : decode b_M_two 41 = .ok (.ifCond .eq 6, 3) := by decide +kernel
theorem d_M_two_44 : decode b_M_two 44 = .ok (.bipush (-3), 2) := by decide +kernel
theorem d_M_two_46 : decode b_M_two 46 = .ok (.ireturn, 1) := by decide +kernel
theorem d_M_two_47 : decode b_M_two 47 = .ok (.aload_n 0, 1) := by decide +kernel
theorem d_M_two_48 : decode b_M_two 48 = .ok (.getfield 26, 3) := by decide +kernel
theorem d_M_two_51 : decode b_M_two 51 = .ok (.iload_n 1, 1) := by decide +kernel
theorem d_M_two_52 : decode b_M_two 52 = .ok (.baload, 1) := by decide +kernel
theorem d_M_two_53 : decode b_M_two 53 = .ok (.ifCond .eq 16, 3) := by decide +kernel
theorem d_M_two_56 : decode b_M_two 56 = .ok (.aload_n 0, 1) := by decide +kernel
theorem d_M_two_57 : decode b_M_two 57 = .ok (.getfield 35, 3) := by decide +kernel
theorem d_M_two_60 : decode b_M_two 60 = .ok (.iload_n 1, 1) := by decide +kernel
theorem d_M_two_61 : decode b_M_two 61 = .ok (.baload, 1) := by decide +kernel
theorem d_M_two_62 : decode b_M_two 62 = .ok (.ifCond .ne 7, 3) := by decide +kernel
theorem d_M_two_65 : decode b_M_two 65 = .ok (.iconst 1, 1) := by decide +kernel
theorem d_M_two_66 : decode b_M_two 66 = .ok (.goto 4, 3) := by decide +kernel
theorem d_M_two_69 : decode b_M_two 69 = .ok (.iconst 0, 1) := by decide +kernel
theorem d_M_two_70 : decode b_M_two 70 = .ok (.istore 4, 2) := by decide +kernel
theorem d_M_two_72 : decode b_M_two 72 = .ok (.aload_n 0, 1) := by decide +kernel
theorem d_M_two_73 : decode b_M_two 73 = .ok (.iload_n 1, 1) := by decide +kernel
theorem d_M_two_74 : decode b_M_two 74 = .ok (.iload_n 2, 1) := by decide +kernel
theorem d_M_two_75 : decode b_M_two 75 = .ok (.iload_n 3, 1) := by decide +kernel
theorem d_M_two_76 : decode b_M_two 76 = .ok (.if_icmp .ge 7, 3) := by decide +kernel
theorem d_M_two_79 : decode b_M_two 79 = .ok (.iload_n 2, 1) := by decide +kernel
theorem d_M_two_80 : decode b_M_two 80 = .ok (.goto 4, 3) := by decide +kernel
theorem d_M_two_83 : decode b_M_two 83 = .ok (.iload_n 3, 1) := by decide +kernel
theorem d_M_two_84 : decode b_M_two 84 = .ok (.iload 4, 2) := by decide +kernel
theorem d_M_two_86 : decode b_M_two 86 = .ok (.invokevirtual 78, 3) := by decide +kernel
theorem d_M_two_89 : decode b_M_two 89 = .ok (.aload_n 0, 1) := by decide +kernel
theorem d_M_two_90 : decode b_M_two 90 = .ok (.getfield 16, 3) := by decide +kernel
theorem d_M_two_93 : decode b_M_two 93 = .ok (.iload_n 1, 1) := by decide +kernel
theorem d_M_two_94 : decode b_M_two 94 = .ok (.baload, 1) := by decide +kernel
theorem d_M_two_95 : decode b_M_two 95 = .ok (.ifCond .ne 34, 3) := by decide +kernel
theorem d_M_two_98 : decode b_M_two 98 = .ok (.iload_n 2, 1) := by decide +kernel
theorem d_M_two_99 : decode b_M_two 99 = .ok (.invokestatic 71, 3) := by decide +kernel
theorem d_M_two_102 : decode b_M_two 102 = .ok (.ifCond .eq 10, 3) := by decide +kernel
theorem d_M_two_105 : decode b_M_two 105 = .ok (.iload_n 3, 1) := by decide +kernel
theorem d_M_two_106 : decode b_M_two 106 = .ok (.invokestatic 71, 3) := by decide +kernel
theorem d_M_two_109 : decode b_M_two 109 = .ok (.ifCond .ne 20, 3) := by decide +kernel
theorem d_M_two_112 : decode b_M_two 112 = .ok (.aload_n 0, 1) := by decide +kernel
theorem d_M_two_113 : decode b_M_two 113 = .ok (.iload_n 1, 1) := by decide +kernel
theorem d_M_two_114 : decode b_M_two 114 = .ok (.iload_n 2, 1) := by decide +kernel
theorem d_M_two_115 : decode b_M_two 115 = .ok (.iload_n 3, 1) := by decide +kernel
theorem d_M_two_116 : decode b_M_two 116 = .ok (.if_icmp .ge 7, 3) := by decide +kernel
theorem d_M_two_119 : decode b_M_two 119 = .ok (.iload_n 3, 1) := by decide +kernel
theorem d_M_two_120 : decode b_M_two 120 = .ok (.goto 4, 3) := by decide +kernel
theorem d_M_two_123 : decode b_M_two 123 = .ok (.iload_n 2, 1) := by decide +kernel
theorem d_M_two_124 : decode b_M_two 124 = .ok (.iload 4, 2) := by decide +kernel
theorem d_M_two_126 : decode b_M_two 126 = .ok (.invokevirtual 78, 3) := by decide +kernel
theorem d_M_two_129 : decode b_M_two 129 = .ok (.aload_n 0, 1) := by decide +kernel
theorem d_M_two_130 : decode b_M_two 130 = .ok (.iload_n 1, 1) := by decide +kernel
theorem d_M_two_131 : decode b_M_two 131 = .ok (.invokevirtual 63, 3) := by decide +kernel
theorem d_M_two_134 : decode b_M_two 134 = .ok (.ireturn, 1) := by decide +kernel
theorem d_M_suspended_0 : decode b_M_suspended 0 = .ok (.aload_n 0, 1) := by decide +kernel
theorem d_M_suspended_1 : decode b_M_suspended 1 = .ok (.iload_n 1, 1) := by decide +kernel
theorem d_M_suspended_2 : decode b_M_suspended 2 = .ok (.invokevirtual 75, 3) := by decide +kernel
theorem d_M_suspended_5 : decode b_M_suspended 5 = .ok (.ifCond .eq 5, 3) := by decide +kernel
theorem d_M_suspended_8 : decode b_M_suspended 8 = .ok (.iconst (-1), 1) := by decide +kernel
theorem d_M_suspended_9 : decode b_M_suspended 9 = .ok (.ireturn, 1) := by decide +kernel
theorem d_M_suspended_10 : decode b_M_suspended 10 = .ok (.aload_n 0, 1) := by decide +kernel
theorem d_M_suspended_11 : decode b_M_suspended 11 = .ok (.getfield 16, 3) := by decide +kernel
theorem d_M_suspended_14 : decode b_M_suspended 14 = .ok (.iload_n 1, 1) := by decide +kernel
theorem d_M_suspended_15 : decode b_M_suspended 15 = .ok (.baload, 1) := by decide +kernel
theorem d_M_suspended_16 : decode b_M_suspended 16 = .ok (.ifCond .eq 8, 3) := by decide +kernel
theorem d_M_suspended_19 : decode b_M_suspended 19 = .ok (.bipush (-3), 2) := by decide +kernel
theorem d_M_suspended_21 : decode b_M_suspended 21 = .ok (.goto 9, 3) := by decide +kernel
theorem d_M_suspended_24 : decode b_M_suspended 24 = .ok (.aload_n 0, 1) := by decide +kernel
theorem d_M_suspended_25 : decode b_M_suspended 25 = .ok (.getfield 23, 3) := by decide +kernel
theorem d_M_suspended_28 : decode b_M_suspended 28 = .ok (.iload_n 1, 1) := by decide +kernel
theorem d_M_suspended_29 : decode b_M_suspended 29 = .ok (.iaload, 1) := by decide +kernel
theorem d_M_suspended_30 : decode b_M_suspended 30 = .ok (.ireturn, 1) := by decide +kernel
end
section
theorem d_N_init_0 : decode b_N_init 0 = .ok (.aload_n 0, 1) := by decide +kernel
theorem d_N_init_1 : decode b_N_init 1 = .ok (.invokespecial 3, 3) := by decide +kernel
theorem d_N_init_4 : decode b_N_init 4 = .ok (.return_, 1) := by decide +kernel
theorem d_N_condition_0 : decode b_N_condition 0 = .ok (.aload_n 0, 1) := by decide +kernel
theorem d_N_condition_1 : decode b_N_condition 1 = .ok (.getfield 9, 3) := by decide +kernel
theorem d_N_condition_4 : decode b_N_condition 4 = .ok (.ifCond .eq 5, 3) := by decide +kernel
theorem d_N_condition_7 : decode b_N_condition 7 = .ok (.iconst 2, 1) := by decide +kernel
theorem d_N_condition_8 : decode b_N_condition 8 = .ok (.ireturn, 1) := by decide +kernel
theorem d_N_condition_9 : decode b_N_condition 9 = .ok (.aload_n 0, 1) := by decide +kernel
theorem d_N_condition_10 : decode b_N_condition 10 = .ok (.getfield 15, 3) := by decide +kernel
theorem d_N_condition_13 : decode b_N_condition 13 = .ok (.bipush 127, 2) := by decide +kernel
theorem d_N_condition_15 : decode b_N_condition 15 = .ok (.if_icmp .gt 12, 3) := by decide +kernel
theorem d_N_condition_18 : decode b_N_condition 18 = .ok (.aload_n 0, 1) := by decide +kernel
theorem d_N_condition_19 : decode b_N_condition 19 = .ok (.getfield 19, 3) := by decide +kernel
theorem d_N_condition_22 : decode b_N_condition 22 = .ok (.bipush 127, 2) := by decide +kernel
theorem d_N_condition_24 : decode b_N_condition 24 = .ok (.if_icmp .le 7, 3) := by decide +kernel
theorem d_N_condition_27 : decode b_N_condition 27 = .ok (.iconst 1, 1) := by decide +kernel
theorem d_N_condition_28 : decode b_N_condition 28 = .ok (.goto 4, 3) := by decide +kernel
theorem d_N_condition_31 : decode b_N_condition 31 = .ok (.iconst 0, 1) := by decide +kernel
theorem d_N_condition_32 : decode b_N_condition 32 = .ok (.istore_n 1, 1) := by decide +kernel
theorem d_N_condition_33 : decode b_N_condition 33 = .ok (.iload_n 1, 1) := by decide +kernel
theorem d_N_condition_34 : decode b_N_condition 34 = .ok (.ifCond .eq 7, 3) := by decide +kernel
theorem d_N_condition_37 : decode b_N_condition 37 = .ok (.iconst 1, 1) := by decide +kernel
theorem d_N_condition_38 : decode b_N_condition 38 = .ok (.goto 4, 3) := by decide +kernel
theorem d_N_condition_41 : decode b_N_condition 41 = .ok (.iconst 0, 1) := by decide +kernel
theorem d_N_condition_42 : decode b_N_condition 42 = .ok (.ireturn, 1) := by decide +kernel
theorem d_N_undergoBoth_0 : decode b_N_undergoBoth 0 = .ok (.aload_n 0, 1) := by decide +kernel
theorem d_N_undergoBoth_1 : decode b_N_undergoBoth 1 = .ok (.getfield 22, 3) := by decide +kernel
theorem d_N_undergoBoth_4 : decode b_N_undergoBoth 4 = .ok (.ifCond .eq 14, 3) := by decide +kernel
theorem d_N_undergoBoth_7 : decode b_N_undergoBoth 7 = .ok (.aload_n 0, 1) := by decide +kernel
theorem d_N_undergoBoth_8 : decode b_N_undergoBoth 8 = .ok (.getfield 25, 3) := by decide +kernel
theorem d_N_undergoBoth_11 : decode b_N_undergoBoth 11 = .ok (.ifCond .ne 7, 3) := by decide +kernel
theorem d_N_undergoBoth_14 : decode b_N_undergoBoth 14 = .ok (.iconst 1, 1) := by decide +kernel
theorem d_N_undergoBoth_15 : decode b_N_undergoBoth 15 = .ok (.goto 4, 3) := by decide +kernel
theorem d_N_undergoBoth_18 : decode b_N_undergoBoth 18 = .ok (.iconst 0, 1) := by decide +kernel
theorem d_N_undergoBoth_19 : decode b_N_undergoBoth 19 = .ok (.istore_n 3, 1) := by decide +kernel
theorem d_N_undergoBoth_20 : decode b_N_undergoBoth 20 = .ok (.aload_n 0, 1) := by decide +kernel
theorem d_N_undergoBoth_21 : decode b_N_undergoBoth 21 = .ok (.iload_n 1, 1) := by decide +kernel
theorem d_N_undergoBoth_22 : decode b_N_undergoBoth 22 = .ok (.iload_n 3, 1) := by decide +kernel
theorem d_N_undergoBoth_23 : decode b_N_undergoBoth 23 = .ok (.invokevirtual 28, 3) := by decide +kernel
theorem d_N_undergoBoth_26 : decode b_N_undergoBoth 26 = .ok (.iload_n 1, 1) := by decide +kernel
theorem d_N_undergoBoth_27 : decode b_N_undergoBoth 27 = .ok (.invokestatic 32, 3) := by decide +kernel
theorem d_N_undergoBoth_30 : decode b_N_undergoBoth 30 = .ok (.ifCond .eq 10, 3) := by decide +kernel
theorem d_N_undergoBoth_33 : decode b_N_undergoBoth 33 = .ok (.iload_n 2, 1) := by decide +kernel
theorem d_N_undergoBoth_34 : decode b_N_undergoBoth 34 = .ok (.invokestatic 32, 3) := by decide +kernel
theorem d_N_undergoBoth_37 : decode b_N_undergoBoth 37 = .ok (.ifCond .ne 7, 3) := by decide +kernel
theorem d_N_undergoBoth_40 : decode b_N_undergoBoth 40 = .ok (.iconst 1, 1) := by decide +kernel
theorem d_N_undergoBoth_41 : decode b_N_undergoBoth 41 = .ok (.goto 4, 3) := by decide +kernel
theorem d_N_undergoBoth_44 : decode b_N_undergoBoth 44 = .ok (.iconst 0, 1) := by decide +kernel
theorem d_N_undergoBoth_45 : decode b_N_undergoBoth 45 = .ok (.istore 4, 2) := by decide +kernel
theorem d_N_undergoBoth_47 : decode b_N_undergoBoth 47 = .ok (.iload 4, 2) := by decide +kernel
theorem d_N_undergoBoth_49 : decode b_N_undergoBoth 49 = .ok (.ifCond .eq 16, 3) := by decide +kernel
theorem d_N_undergoBoth_52 : decode b_N_undergoBoth 52 = .ok (.aload_n 0, 1) := by decide +kernel
theorem d_N_undergoBoth_53 : decode b_N_undergoBoth 53 = .ok (.getfield 9, 3) := by decide +kernel
theorem d_N_undergoBoth_56 : decode b_N_undergoBoth 56 = .ok (.ifCond .ne 9, 3) := by decide +kernel
theorem d_N_undergoBoth_59 : decode b_N_undergoBoth 59 = .ok (.aload_n 0, 1) := by decide +kernel
theorem d_N_undergoBoth_60 : decode b_N_undergoBoth 60 = .ok (.iload_n 2, 1) := by decide +kernel
theorem d_N_undergoBoth_61 : decode b_N_undergoBoth 61 = .ok (.iload_n 3, 1) := by decide +kernel
theorem d_N_undergoBoth_62 : decode b_N_undergoBoth 62 = .ok (.invokevirtual 28, 3) := by decide +kernel
theorem d_N_undergoBoth_65 : decode b_N_undergoBoth 65 = .ok (.return_, 1) := by decide +kernel
theorem d_N_undergo_0 : decode b_N_undergo 0 = .ok (.aload_n 0, 1) := by decide +kernel
theorem d_N_undergo_1 : decode b_N_undergo 1 = .ok (.iload_n 2, 1) := by decide +kernel
theorem d_N_undergo_2 : decode b_N_undergo 2 = .ok (.putfield 22, 3) := by decide +kernel
theorem d_N_undergo_5 : decode b_N_undergo 5 = .ok (.aload_n 0, 1) := by decide +kernel
theorem d_N_undergo_6 : decode b_N_undergo 6 = .ok (.iload_n 1, 1) := by decide +kernel
theorem d_N_undergo_7 : decode b_N_undergo 7 = .ok (.invokevirtual 36, 3) := by decide +kernel
theorem d_N_undergo_10 : decode b_N_undergo 10 = .ok (.aload_n 0, 1) := by decide +kernel
theorem d_N_undergo_11 : decode b_N_undergo 11 = .ok (.getfield 40, 3) := by decide +kernel
theorem d_N_undergo_14 : decode b_N_undergo 14 = .ok (.ifCond .eq 24, 3) := by decide +kernel
theorem d_N_undergo_17 : decode b_N_undergo 17 = .ok (.iload_n 2, 1) := by decide +kernel
theorem d_N_undergo_18 : decode b_N_undergo 18 = .ok (.ifCond .eq 20, 3) := by decide +kernel
theorem d_N_undergo_21 : decode b_N_undergo 21 = .ok (.iload_n 1, 1) := by decide +kernel
theorem d_N_undergo_22 : decode b_N_undergo 22 = .ok (.invokestatic 32, 3) := by decide +kernel
theorem d_N_undergo_25 : decode b_N_undergo 25 = .ok (.ifCond .eq 13, 3) := by decide +kernel
theorem d_N_undergo_28 : decode b_N_undergo 28 = .ok (.aload_n 0, 1) := by decide +kernel
theorem d_N_undergo_29 : decode b_N_undergo 29 = .ok (.dup, 1) := by decide +kernel
theorem d_N_undergo_30 : decode b_N_undergo 30 = .ok (.getfield 43, 3) := by decide +kernel
theorem d_N_undergo_33 : decode b_N_undergo 33 = .ok (.iconst 1, 1) := by decide +kernel
theorem d_N_undergo_34 : decode b_N_undergo 34 = .ok (.iadd, 1) := by decide +kernel
theorem d_N_undergo_35 : decode b_N_undergo 35 = .ok (.putfield 43, 3) := by decide +kernel
theorem d_N_undergo_38 : decode b_N_undergo 38 = .ok (.aload_n 0, 1) := by decide +kernel
theorem d_N_undergo_39 : decode b_N_undergo 39 = .ok (.getfield 25, 3) := by decide +kernel
theorem d_N_undergo_42 : decode b_N_undergo 42 = .ok (.ifCond .ne 14, 3) := by decide +kernel
theorem d_N_undergo_45 : decode b_N_undergo 45 = .ok (.aload_n 0, 1) := by decide +kernel
theorem d_N_undergo_46 : decode b_N_undergo 46 = .ok (.iload_n 1, 1) := by decide +kernel
theorem d_N_undergo_47 : decode b_N_undergo 47 = .ok (.iload_n 2, 1) := by decide +kernel
theorem d_N_undergo_48 : decode b_N_undergo 48 = .ok (.invokevirtual 46, 3) := by decide +kernel
theorem d_N_undergo_51 : decode b_N_undergo 51 = .ok (.aload_n 0, 1) := by decide +kernel
theorem d_N_undergo_52 : decode b_N_undergo 52 = .ok (.iload_n 1, 1) := by decide +kernel
theorem d_N_undergo_53 : decode b_N_undergo 53 = .ok (.invokevirtual 49, 3) := by decide +kernel
theorem d_N_undergo_56 : decode b_N_undergo 56 = .ok (.iload_n 2, 1) := by decide +kernel
theorem d_N_undergo_57 : decode b_N_undergo 57 = .ok (.ifCond .eq 15, 3) := by decide +kernel
theorem d_N_undergo_60 : decode b_N_undergo 60 = .ok (.aload_n 0, 1) := by decide +kernel
theorem d_N_undergo_61 : decode b_N_undergo 61 = .ok (.invokevirtual 52, 3) := by decide +kernel
theorem d_N_undergo_64 : decode b_N_undergo 64 = .ok (.iconst 1, 1) := by decide +kernel
theorem d_N_undergo_65 : decode b_N_undergo 65 = .ok (.if_icmp .ne 7, 3) := by decide +kernel
theorem d_N_undergo_68 : decode b_N_undergo 68 = .ok (.iconst 1, 1) := by decide +kernel
theorem d_N_undergo_69 : decode b_N_undergo 69 = .ok (.goto 4, 3) := by decide +kernel
theorem d_N_undergo_72 : decode b_N_undergo 72 = .ok (.iconst 0, 1) := by decide +kernel
theorem d_N_undergo_73 : decode b_N_undergo 73 = .ok (.istore_n 3, 1) := by decide +kernel
theorem d_N_undergo_74 : decode b_N_undergo 74 = .ok (.aload_n 0, 1) := by decide +kernel
theorem d_N_undergo_75 : decode b_N_undergo 75 = .ok (.iload_n 3, 1) := by decide +kernel
theorem d_N_undergo_76 : decode b_N_undergo 76 = .ok (.ifCond .eq 8, 3) := by decide +kernel
theorem d_N_undergo_79 : decode b_N_undergo 79 = .ok (.bipush 11, 2) := by decide +kernel
theorem d_N_undergo_81 : decode b_N_undergo 81 = .ok (.goto 4, 3) := by decide +kernel
theorem d_N_undergo_84 : decode b_N_undergo 84 = .ok (.iconst 3, 1) := by decide +kernel
theorem d_N_undergo_85 : decode b_N_undergo 85 = .ok (.putfield 56, 3) := by decide +kernel
theorem d_N_undergo_88 : decode b_N_undergo 88 = .ok (.aload_n 0, 1) := by decide +kernel
theorem d_N_undergo_89 : decode b_N_undergo 89 = .ok (.getfield 15, 3) := by decide +kernel
theorem d_N_undergo_92 : decode b_N_undergo 92 = .ok (.sipush 256, 3) := by decide +kernel
theorem d_N_undergo_95 : decode b_N_undergo 95 = .ok (.if_icmp .lt 7, 3) := by decide +kernel
theorem d_N_undergo_98 : decode b_N_undergo 98 = .ok (.aload_n 0, 1) := by decide +kernel
theorem d_N_undergo_99 : decode b_N_undergo 99 = .ok (.invokevirtual 59, 3) := by decide +kernel
theorem d_N_undergo_102 : decode b_N_undergo 102 = .ok (.return_, 1) := by decide +kernel
theorem d_N_countGoodFrames_0 : decode b_N_countGoodFrames 0 = .ok (.iload_n 1, 1) := by decide +kernel
theorem d_N_countGoodFrames_1 : decode b_N_countGoodFrames 1 = .ok (.invokestatic 32, 3) := by decide +kernel
theorem d_N_countGoodFrames_4 : decode b_N_countGoodFrames 4 = .ok (.ifCond .eq 11, 3) := by decide +kernel
theorem d_N_countGoodFrames_7 : decode b_N_countGoodFrames 7 = .ok (.aload_n 0, 1) := by decide +kernel
theorem d_N_countGoodFrames_8 : decode b_N_countGoodFrames 8 = .ok (.iconst 0, 1) := by decide +kernel
theorem d_N_countGoodFrames_9 : decode b_N_countGoodFrames 9 = .ok (.putfield 62, 3) := by decide +kernel
theorem d_N_countGoodFrames_12 : decode b_N_countGoodFrames 12 = .ok (.goto 22, 3) := by decide +kernel
theorem d_N_countGoodFrames_15 : decode b_N_countGoodFrames 15 = .ok (.iload_n 1, 1) := by decide +kernel
theorem d_N_countGoodFrames_16 : decode b_N_countGoodFrames 16 = .ok (.ifCond .ne 18, 3) := by decide +kernel
theorem d_N_countGoodFrames_19 : decode b_N_countGoodFrames 19 = .ok (.aload_n 0, 1) := by decide +kernel
theorem d_N_countGoodFrames_20 : decode b_N_countGoodFrames 20 = .ok (.aload_n 0, 1) := by decide +kernel
theorem d_N_countGoodFrames_21 : decode b_N_countGoodFrames 21 = .ok (.getfield 62, 3) := by decide +kernel
theorem d_N_countGoodFrames_24 : decode b_N_countGoodFrames 24 = .ok (.iconst 1, 1) := by decide +kernel
theorem d_N_countGoodFrames_25 : decode b_N_countGoodFrames 25 = .ok (.iadd, 1) := by decide +kernel
theorem d_N_countGoodFrames_26 : decode b_N_countGoodFrames 26 = .ok (.bipush 100, 2) := by decide +kernel
theorem d_N_countGoodFrames_28 : decode b_N_countGoodFrames 28 = .ok (.invokestatic 65, 3) := by decide +kernel
theorem d_N_countGoodFrames_31 : decode b_N_countGoodFrames 31 = .ok (.putfield 62, 3) := by decide +kernel
theorem d_N_countGoodFrames_34 : decode b_N_countGoodFrames 34 = .ok (.aload_n 0, 1) := by decide +kernel
theorem d_N_countGoodFrames_35 : decode b_N_countGoodFrames 35 = .ok (.getfield 62, 3) := by decide +kernel
theorem d_N_countGoodFrames_38 : decode b_N_countGoodFrames 38 = .ok (.bipush 100, 2) := by decide +kernel
theorem d_N_countGoodFrames_40 : decode b_N_countGoodFrames 40 = .ok (.if_icmp .lt 8, 3) := by decide +kernel
theorem d_N_countGoodFrames_43 : decode b_N_countGoodFrames 43 = .ok (.aload_n 0, 1) := by decide +kernel
theorem d_N_countGoodFrames_44 : decode b_N_countGoodFrames 44 = .ok (.iconst 0, 1) := by decide +kernel
theorem d_N_countGoodFrames_45 : decode b_N_countGoodFrames 45 = .ok (.putfield 71, 3) := by decide +kernel
theorem d_N_countGoodFrames_48 : decode b_N_countGoodFrames 48 = .ok (.return_, 1) := by decide +kernel
theorem d_N_countErrors_0 : decode b_N_countErrors 0 = .ok (.iload_n 1, 1) := by decide +kernel
theorem d_N_countErrors_1 : decode b_N_countErrors 1 = .ok (.ifCond .ne 11, 3) := by decide +kernel
theorem d_N_countErrors_4 : decode b_N_countErrors 4 = .ok (.aload_n 0, 1) := by decide +kernel
theorem d_N_countErrors_5 : decode b_N_countErrors 5 = .ok (.iload_n 2, 1) := by decide +kernel
theorem d_N_countErrors_6 : decode b_N_countErrors 6 = .ok (.invokevirtual 74, 3) := by decide +kernel
theorem d_N_countErrors_9 : decode b_N_countErrors 9 = .ok (.goto 50, 3) := by decide +kernel
theorem d_N_countErrors_12 : decode b_N_countErrors 12 = .ok (.iload_n 2, 1) := by decide +kernel
theorem d_N_countErrors_13 : decode b_N_countErrors 13 = .ok (.ifCond .eq 26, 3) := by decide +kernel
theorem d_N_countErrors_16 : decode b_N_countErrors 16 = .ok (.aload_n 0, 1) := by decide +kernel
theorem d_N_countErrors_17 : decode b_N_countErrors 17 = .ok (.aload_n 0, 1) := by decide +kernel
theorem d_N_countErrors_18 : decode b_N_countErrors 18 = .ok (.getfield 15, 3) := by decide +kernel
theorem d_N_countErrors_21 : decode b_N_countErrors 21 = .ok (.aload_n 0, 1) := by decide +kernel
theorem d_N_countErrors_22 : decode b_N_countErrors 22 = .ok (.iload_n 1, 1) := by decide +kernel
theorem d_N_countErrors_23 : decode b_N_countErrors 23 = .ok (.invokevirtual 78, 3) := by decide +kernel
theorem d_N_countErrors_26 : decode b_N_countErrors 26 = .ok (.iadd, 1) := by decide +kernel
theorem d_N_countErrors_27 : decode b_N_countErrors 27 = .ok (.sipush 256, 3) := by decide +kernel
theorem d_N_countErrors_30 : decode b_N_countErrors 30 = .ok (.invokestatic 65, 3) := by decide +kernel
theorem d_N_countErrors_33 : decode b_N_countErrors 33 = .ok (.putfield 15, 3) := by decide +kernel
theorem d_N_countErrors_36 : decode b_N_countErrors 36 = .ok (.goto 23, 3) := by decide +kernel
theorem d_N_countErrors_39 : decode b_N_countErrors 39 = .ok (.aload_n 0, 1) := by decide +kernel
theorem d_N_countErrors_40 : decode b_N_countErrors 40 = .ok (.aload_n 0, 1) := by decide +kernel
theorem d_N_countErrors_41 : decode b_N_countErrors 41 = .ok (.getfield 19, 3) := by decide +kernel
theorem d_N_countErrors_44 : decode b_N_countErrors 44 = .ok (.aload_n 0, 1) := by decide +kernel
theorem d_N_countErrors_45 : decode b_N_countErrors 45 = .ok (.iload_n 1, 1) := by decide +kernel
theorem d_N_countErrors_46 : decode b_N_countErrors 46 = .ok (.invokevirtual 82, 3) := by decide +kernel
theorem d_N_countErrors_49 : decode b_N_countErrors 49 = .ok (.iadd, 1) := by decide +kernel
theorem d_N_countErrors_50 : decode b_N_countErrors 50 = .ok (.sipush 255, 3) := by decide +kernel
theorem d_N_countErrors_53 : decode b_N_countErrors 53 = .ok (.invokestatic 65, 3) := by decide +kernel
theorem d_N_countErrors_56 : decode b_N_countErrors 56 = .ok (.putfield 19, 3) := by decide +kernel
theorem d_N_countErrors_59 : decode b_N_countErrors 59 = .ok (.return_, 1) := by decide +kernel
theorem d_N_lowerCounter_0 : decode b_N_lowerCounter 0 = .ok (.iload_n 1, 1) := by decide +kernel
theorem d_N_lowerCounter_1 : decode b_N_lowerCounter 1 = .ok (.ifCond .eq 20, 3) := by decide +kernel
theorem d_N_lowerCounter_4 : decode b_N_lowerCounter 4 = .ok (.aload_n 0, 1) := by decide +kernel
theorem d_N_lowerCounter_5 : decode b_N_lowerCounter 5 = .ok (.aload_n 0, 1) := by decide +kernel
theorem d_N_lowerCounter_6 : decode b_N_lowerCounter 6 = .ok (.getfield 15, 3) := by decide +kernel
theorem d_N_lowerCounter_9 : decode b_N_lowerCounter 9 = .ok (.iconst 1, 1) := by decide +kernel
theorem d_N_lowerCounter_10 : decode b_N_lowerCounter 10 = .ok (.isub, 1) := by decide +kernel
theorem d_N_lowerCounter_11 : decode b_N_lowerCounter 11 = .ok (.iconst 0, 1) := by decide +kernel
theorem d_N_lowerCounter_12 : decode b_N_lowerCounter 12 = .ok (.invokestatic 85, 3) := by decide +kernel
theorem d_N_lowerCounter_15 : decode b_N_lowerCounter 15 = .ok (.putfield 15, 3) := by decide +kernel
theorem d_N_lowerCounter_18 : decode b_N_lowerCounter 18 = .ok (.goto 35, 3) := by decide +kernel
theorem d_N_lowerCounter_21 : decode b_N_lowerCounter 21 = .ok (.aload_n 0, 1) := by decide +kernel
theorem d_N_lowerCounter_22 : decode b_N_lowerCounter 22 = .ok (.getfield 19, 3) := by decide +kernel
theorem d_N_lowerCounter_25 : decode b_N_lowerCounter 25 = .ok (.bipush 127, 2) := by decide +kernel
theorem d_N_lowerCounter_27 : decode b_N_lowerCounter 27 = .ok (.if_icmp .le 12, 3) := by decide +kernel
theorem d_N_lowerCounter_30 : decode b_N_lowerCounter 30 = .ok (.aload_n 0, 1) := by decide +kernel
theorem d_N_lowerCounter_31 : decode b_N_lowerCounter 31 = .ok (.bipush 119, 2) := by decide +kernel
theorem d_N_lowerCounter_33 : decode b_N_lowerCounter 33 = .ok (.putfield 19, 3) := by decide +kernel
theorem d_N_lowerCounter_36 : decode b_N_lowerCounter 36 = .ok (.goto 17, 3) := by decide +kernel
theorem d_N_lowerCounter_39 : decode b_N_lowerCounter 39 = .ok (.aload_n 0, 1) := by decide +kernel
theorem d_N_lowerCounter_40 : decode b_N_lowerCounter 40 = .ok (.aload_n 0, 1) := by decide +kernel
theorem d_N_lowerCounter_41 : decode b_N_lowerCounter 41 = .ok (.getfield 19, 3) := by decide +kernel
theorem d_N_lowerCounter_44 : decode b_N_lowerCounter 44 = .ok (.iconst 1, 1) := by decide +kernel
theorem d_N_lowerCounter_45 : decode b_N_lowerCounter 45 = .ok (.isub, 1) := by decide +kernel
theorem d_N_lowerCounter_46 : decode b_N_lowerCounter 46 = .ok (.iconst 0, 1) := by decide +kernel
theorem d_N_lowerCounter_47 : decode b_N_lowerCounter 47 = .ok (.invokestatic 85, 3) := by decide +kernel
theorem d_N_lowerCounter_50 : decode b_N_lowerCounter 50 = .ok (.putfield 19, 3) := by decide +kernel
theorem d_N_lowerCounter_53 : decode b_N_lowerCounter 53 = .ok (.return_, 1) := by decide +kernel
theorem d_N_senderPenalty_0 : decode b_N_senderPenalty 0 = .ok (.iload_n 1, 1) := by decide +kernel
theorem d_N_senderPenalty_1 : decode b_N_senderPenalty 1 = .ok (.bipush 6, 2) := by decide +kernel
theorem d_N_senderPenalty_3 : decode b_N_senderPenalty 3 = .ok (.if_icmp .eq 9, 3) := by decide +kernel
theorem d_N_senderPenalty_6 : decode b_N_senderPenalty 6 = .ok (.iload_n 1, 1) := by decide +kernel
theorem d_N_senderPenalty_7 : decode b_N_senderPenalty 7 = .ok (.bipush 9, 2) := by decide +kernel
theorem d_N_senderPenalty_9 : decode b_N_senderPenalty 9 = .ok (.if_icmp .ne 5, 3) := by decide +kernel
theorem d_N_senderPenalty_12 : decode b_N_senderPenalty 12 = .ok (.iconst 0, 1) := by decide +kernel
theorem d_N_senderPenalty_13 : decode b_N_senderPenalty 13 = .ok (.ireturn, 1) := by decide +kernel
theorem d_N_senderPenalty_14 : decode b_N_senderPenalty 14 = .ok (.iload_n 1, 1) := by decide +kernel
theorem d_N_senderPenalty_15 : decode b_N_senderPenalty 15 = .ok (.iconst 5, 1) := by decide +kernel
theorem d_N_senderPenalty_16 : decode b_N_senderPenalty 16 = .ok (.if_icmp .ne 13, 3) := by decide +kernel
theorem d_N_senderPenalty_19 : decode b_N_senderPenalty 19 = .ok (.aload_n 0, 1) := by decide +kernel
theorem d_N_senderPenalty_20 : decode b_N_senderPenalty 20 = .ok (.invokevirtual 52, 3) := by decide +kernel
theorem d_N_senderPenalty_23 : decode b_N_senderPenalty 23 = .ok (.iconst 1, 1) := by decide +kernel
theorem d_N_senderPenalty_24 : decode b_N_senderPenalty 24 = .ok (.if_icmp .ne 5, 3) := by decide +kernel
theorem d_N_senderPenalty_27 : decode b_N_senderPenalty 27 = .ok (.iconst 0, 1) := by decide +kernel
theorem d_N_senderPenalty_28 : decode b_N_senderPenalty 28 = .ok (.ireturn, 1) := by decide +kernel
theorem d_N_senderPenalty_29 : decode b_N_senderPenalty 29 = .ok (.bipush 8, 2) := by decide +kernel
theorem d_N_senderPenalty_31 : decode b_N_senderPenalty 31 = .ok (.ireturn, 1) := by decide +kernel
theorem d_N_receiverPenalty_0 : decode b_N_receiverPenalty 0 = .ok (.iload_n 1, 1) := by decide +kernel
theorem d_N_receiverPenalty_1 : decode b_N_receiverPenalty 1 = .ok (.invokestatic 88, 3) := by decide +kernel
theorem d_N_receiverPenalty_4 : decode b_N_receiverPenalty 4 = .ok (.ifCond .eq 8, 3) := by decide +kernel
theorem d_N_receiverPenalty_7 : decode b_N_receiverPenalty 7 = .ok (.bipush 8, 2) := by decide +kernel
theorem d_N_receiverPenalty_9 : decode b_N_receiverPenalty 9 = .ok (.goto 4, 3) := by decide +kernel
theorem d_N_receiverPenalty_12 : decode b_N_receiverPenalty 12 = .ok (.iconst 1, 1) := by decide +kernel
theorem d_N_receiverPenalty_13 : decode b_N_receiverPenalty 13 = .ok (.ireturn, 1) := by decide +kernel
theorem d_N_changeFlag_0 : decode b_N_changeFlag 0 = .ok (.iload_n 1, 1) := by decide +kernel
theorem d_N_changeFlag_1 : decode b_N_changeFlag 1 = .ok (.ifCond .ne 11, 3) := by decide +kernel
theorem d_N_changeFlag_4 : decode b_N_changeFlag 4 = .ok (.aload_n 0, 1) := by decide +kernel
theorem d_N_changeFlag_5 : decode b_N_changeFlag 5 = .ok (.iconst 0, 1) := by decide +kernel
theorem d_N_changeFlag_6 : decode b_N_changeFlag 6 = .ok (.putfield 91, 3) := by decide +kernel
theorem d_N_changeFlag_9 : decode b_N_changeFlag 9 = .ok (.goto 55, 3) := by decide +kernel
theorem d_N_changeFlag_12 : decode b_N_changeFlag 12 = .ok (.iload_n 1, 1) := by decide +kernel
theorem d_N_changeFlag_13 : decode b_N_changeFlag 13 = .ok (.invokestatic 32, 3) := by decide +kernel
theorem d_N_changeFlag_16 : decode b_N_changeFlag 16 = .ok (.ifCond .eq 12, 3) := by decide +kernel
theorem d_N_changeFlag_19 : decode b_N_changeFlag 19 = .ok (.aload_n 0, 1) := by decide +kernel
theorem d_N_changeFlag_20 : decode b_N_changeFlag 20 = .ok (.bipush 6, 2) := by decide +kernel
theorem d_N_changeFlag_22 : decode b_N_changeFlag 22 = .ok (.putfield 91, 3) := by decide +kernel
theorem d_N_changeFlag_25 : decode b_N_changeFlag 25 = .ok (.goto 39, 3) := by decide +kernel
theorem d_N_changeFlag_28 : decode b_N_changeFlag 28 = .ok (.aload_n 0, 1) := by decide +kernel
theorem d_N_changeFlag_29 : decode b_N_changeFlag 29 = .ok (.getfield 91, 3) := by decide +kernel
theorem d_N_changeFlag_32 : decode b_N_changeFlag 32 = .ok (.ifCond .le 32, 3) := by decide +kernel
theorem d_N_changeFlag_35 : decode b_N_changeFlag 35 = .ok (.iload_n 1, 1) := by decide +kernel
theorem d_N_changeFlag_36 : decode b_N_changeFlag 36 = .ok (.bipush 8, 2) := by decide +kernel
theorem d_N_changeFlag_38 : decode b_N_changeFlag 38 = .ok (.if_icmp .ne 8, 3) := by decide +kernel
theorem d_N_changeFlag_41 : decode b_N_changeFlag 41 = .ok (.bipush 8, 2) := by decide +kernel
theorem d_N_changeFlag_43 : decode b_N_changeFlag 43 = .ok (.goto 4, 3) := by decide +kernel
theorem d_N_changeFlag_46 : decode b_N_changeFlag 46 = .ok (.iconst 1, 1) := by decide +kernel
theorem d_N_changeFlag_47 : decode b_N_changeFlag 47 = .ok (.istore_n 2, 1) := by decide +kernel
theorem d_N_changeFlag_48 : decode b_N_changeFlag 48 = .ok (.aload_n 0, 1) := by decide +kernel
theorem d_N_changeFlag_49 : decode b_N_changeFlag 49 = .ok (.aload_n 0, 1) := by decide +kernel
theorem d_N_changeFlag_50 : decode b_N_changeFlag 50 = .ok (.getfield 91, 3) := by decide +kernel
theorem d_N_changeFlag_53 : decode b_N_changeFlag 53 = .ok (.iload_n 2, 1) := by decide +kernel
theorem d_N_changeFlag_54 : decode b_N_changeFlag 54 = .ok (.iadd, 1) := by decide +kernel
theorem d_N_changeFlag_55 : decode b_N_changeFlag 55 = .ok (.sipush 10000, 3) := by decide +kernel
theorem d_N_changeFlag_58 : decode b_N_changeFlag 58 = .ok (.invokestatic 65, 3) := by decide +kernel
theorem d_N_changeFlag_61 : decode b_N_changeFlag 61 = .ok (.putfield 91, 3) := by decide +kernel
theorem d_N_changeFlag_64 : decode b_N_changeFlag 64 = .ok (.return_, 1) := by decide +kernel
theorem d_N_goOff_0 : decode b_N_goOff 0 = .ok (.aload_n 0, 1) := by decide +kernel
theorem d_N_goOff_1 : decode b_N_goOff 1 = .ok (.iconst 1, 1) := by decide +kernel
theorem d_N_goOff_2 : decode b_N_goOff 2 = .ok (.putfield 9, 3) := by decide +kernel
theorem d_N_goOff_5 : decode b_N_goOff 5 = .ok (.aload_n 0, 1) := by decide +kernel
theorem d_N_goOff_6 : decode b_N_goOff 6 = .ok (.dup, 1) := by decide +kernel
theorem d_N_goOff_7 : decode b_N_goOff 7 = .ok (.getfield 71, 3) := by decide +kernel
theorem d_N_goOff_10 : decode b_N_goOff 10 = .ok (.iconst 1, 1) := by decide +kernel
theorem d_N_goOff_11 : decode b_N_goOff 11 = .ok (.iadd, 1) := by decide +kernel
theorem d_N_goOff_12 : decode b_N_goOff 12 = .ok (.putfield 71, 3) := by decide +kernel
theorem d_N_goOff_15 : decode b_N_goOff 15 = .ok (.aload_n 0, 1) := by decide +kernel
theorem d_N_goOff_16 : decode b_N_goOff 16 = .ok (.iconst 0, 1) := by decide +kernel
theorem d_N_goOff_17 : decode b_N_goOff 17 = .ok (.putfield 62, 3) := by decide +kernel
theorem d_N_goOff_20 : decode b_N_goOff 20 = .ok (.aload_n 0, 1) := by decide +kernel
theorem d_N_goOff_21 : decode b_N_goOff 21 = .ok (.iconst 0, 1) := by decide +kernel
theorem d_N_goOff_22 : decode b_N_goOff 22 = .ok (.putfield 91, 3) := by decide +kernel
theorem d_N_goOff_25 : decode b_N_goOff 25 = .ok (.aload_n 0, 1) := by decide +kernel
theorem d_N_goOff_26 : decode b_N_goOff 26 = .ok (.iconst 0, 1) := by decide +kernel
theorem d_N_goOff_27 : decode b_N_goOff 27 = .ok (.putfield 94, 3) := by decide +kernel
theorem d_N_goOff_30 : decode b_N_goOff 30 = .ok (.aload_n 0, 1) := by decide +kernel
theorem d_N_goOff_31 : decode b_N_goOff 31 = .ok (.iconst 0, 1) := by decide +kernel
theorem d_N_goOff_32 : decode b_N_goOff 32 = .ok (.putfield 97, 3) := by decide +kernel
theorem d_N_goOff_35 : decode b_N_goOff 35 = .ok (.aload_n 0, 1) := by decide +kernel
theorem d_N_goOff_36 : decode b_N_goOff 36 = .ok (.iconst 0, 1) := by decide +kernel
theorem d_N_goOff_37 : decode b_N_goOff 37 = .ok (.putfield 100, 3) := by decide +kernel
theorem d_N_goOff_40 : decode b_N_goOff 40 = .ok (.return_, 1) := by decide +kernel
theorem d_N_mayComeBack_0 : decode b_N_mayComeBack 0 = .ok (.aload_n 0, 1) := by decide +kernel
theorem d_N_mayComeBack_1 : decode b_N_mayComeBack 1 = .ok (.getfield 9, 3) := by decide +kernel
theorem d_N_mayComeBack_4 : decode b_N_mayComeBack 4 = .ok (.ifCond .ne 5, 3) := by decide +kernel
theorem d_N_mayComeBack_7 : decode b_N_mayComeBack 7 = .ok (.iconst 1, 1) := by decide +kernel
theorem d_N_mayComeBack_8 : decode b_N_mayComeBack 8 = .ok (.ireturn, 1) := by decide +kernel
theorem d_N_mayComeBack_9 : decode b_N_mayComeBack 9 = .ok (.aload_n 0, 1) := by decide +kernel
theorem d_N_mayComeBack_10 : decode b_N_mayComeBack 10 = .ok (.getfield 94, 3) := by decide +kernel
theorem d_N_mayComeBack_13 : decode b_N_mayComeBack 13 = .ok (.ifCond .ne 15, 3) := by decide +kernel
theorem d_N_mayComeBack_16 : decode b_N_mayComeBack 16 = .ok (.aload_n 0, 1) := by decide +kernel
theorem d_N_mayComeBack_17 : decode b_N_mayComeBack 17 = .ok (.iconst 1, 1) := by decide +kernel
theorem d_N_mayComeBack_18 : decode b_N_mayComeBack 18 = .ok (.putfield 94, 3) := by decide +kernel
theorem d_N_mayComeBack_21 : decode b_N_mayComeBack 21 = .ok (.aload_n 0, 1) := by decide +kernel
theorem d_N_mayComeBack_22 : decode b_N_mayComeBack 22 = .ok (.lload_n 1, 1) := by decide +kernel
theorem d_N_mayComeBack_23 : decode b_N_mayComeBack 23 = .ok (.putfield 103, 3) := by decide +kernel
theorem d_N_mayComeBack_26 : decode b_N_mayComeBack 26 = .ok (.iconst 0, 1) := by decide +kernel
theorem d_N_mayComeBack_27 : decode b_N_mayComeBack 27 = .ok (.ireturn, 1) := by decide +kernel
theorem d_N_mayComeBack_28 : decode b_N_mayComeBack 28 = .ok (.lload_n 1, 1) := by decide +kernel
theorem d_N_mayComeBack_29 : decode b_N_mayComeBack 29 = .ok (.aload_n 0, 1) := by decide +kernel
theorem d_N_mayComeBack_30 : decode b_N_mayComeBack 30 = .ok (.getfield 103, 3) := by decide +kernel
theorem d_N_mayComeBack_33 : decode b_N_mayComeBack 33 = .ok (.lsub, 1) := by decide +kernel
theorem d_N_mayComeBack_34 : decode b_N_mayComeBack 34 = .ok (.aload_n 0, 1) := by decide +kernel
theorem d_N_mayComeBack_35 : decode b_N_mayComeBack 35 = .ok (.invokevirtual 107, 3) := by decide +kernel
theorem d_N_mayComeBack_38 : decode b_N_mayComeBack 38 = .ok (.lcmp, 1) := by decide +kernel
theorem d_N_mayComeBack_39 : decode b_N_mayComeBack 39 = .ok (.ifCond .lt 8, 3) := by decide +kernel
theorem d_N_mayComeBack_42 : decode b_N_mayComeBack 42 = .ok (.aload_n 0, 1) := by decide +kernel
theorem d_N_mayComeBack_43 : decode b_N_mayComeBack 43 = .ok (.iconst 1, 1) := by decide +kernel
theorem d_N_mayComeBack_44 : decode b_N_mayComeBack 44 = .ok (.putfield 97, 3) := by decide +kernel
theorem d_N_mayComeBack_47 : decode b_N_mayComeBack 47 = .ok (.aload_n 0, 1) := by decide +kernel
theorem d_N_mayComeBack_48 : decode b_N_mayComeBack 48 = .ok (.getfield 97, 3) := by decide +kernel
theorem d_N_mayComeBack_51 : decode b_N_mayComeBack 51 = .ok (.ireturn, 1) := by decide +kernel
theorem d_N_delay_0 : decode b_N_delay 0 = .ok (.aload_n 0, 1) := by decide +kernel
theorem d_N_delay_1 : decode b_N_delay 1 = .ok (.getfield 71, 3) := by decide +kernel
theorem d_N_delay_4 : decode b_N_delay 4 = .ok (.iconst 5, 1) := by decide +kernel
theorem d_N_delay_5 : decode b_N_delay 5 = .ok (.if_icmp .le 9, 3) := by decide +kernel
theorem d_N_delay_8 : decode b_N_delay 8 = .ok (.ldc2_w 111, 3) := by decide +kernel
theorem d_N_delay_11 : decode b_N_delay 11 = .ok (.goto 6, 3) := by decide +kernel
theorem d_N_delay_14 : decode b_N_delay 14 = .ok (.ldc2_w 113, 3) := by decide +kernel
theorem d_N_delay_17 : decode b_N_delay 17 = .ok (.lreturn, 1) := by decide +kernel
theorem d_N_countRows_0 : decode b_N_countRows 0 = .ok (.iload_n 1, 1) := by decide +kernel
theorem d_N_countRows_1 : decode b_N_countRows 1 = .ok (.sipush 128, 3) := by decide +kernel
theorem d_N_countRows_4 : decode b_N_countRows 4 = .ok (.aload_n 0, 1) := by decide +kernel
theorem d_N_countRows_5 : decode b_N_countRows 5 = .ok (.getfield 100, 3) := by decide +kernel
theorem d_N_countRows_8 : decode b_N_countRows 8 = .ok (.isub, 1) := by decide +kernel
theorem d_N_countRows_9 : decode b_N_countRows 9 = .ok (.if_icmp .lt 10, 3) := by decide +kernel
theorem d_N_countRows_12 : decode b_N_countRows 12 = .ok (.aload_n 0, 1) := by decide +kernel
theorem d_N_countRows_13 : decode b_N_countRows 13 = .ok (.invokevirtual 115, 3) := by decide +kernel
theorem d_N_countRows_16 : decode b_N_countRows 16 = .ok (.goto 13, 3) := by decide +kernel
theorem d_N_countRows_19 : decode b_N_countRows 19 = .ok (.aload_n 0, 1) := by decide +kernel
theorem d_N_countRows_20 : decode b_N_countRows 20 = .ok (.dup, 1) := by decide +kernel
theorem d_N_countRows_21 : decode b_N_countRows 21 = .ok (.getfield 100, 3) := by decide +kernel
theorem d_N_countRows_24 : decode b_N_countRows 24 = .ok (.iload_n 1, 1) := by decide +kernel
theorem d_N_countRows_25 : decode b_N_countRows 25 = .ok (.iadd, 1) := by decide +kernel
theorem d_N_countRows_26 : decode b_N_countRows 26 = .ok (.putfield 100, 3) := by decide +kernel
theorem d_N_countRows_29 : decode b_N_countRows 29 = .ok (.return_, 1) := by decide +kernel
theorem d_N_comeBack_0 : decode b_N_comeBack 0 = .ok (.aload_n 0, 1) := by decide +kernel
theorem d_N_comeBack_1 : decode b_N_comeBack 1 = .ok (.iconst 0, 1) := by decide +kernel
theorem d_N_comeBack_2 : decode b_N_comeBack 2 = .ok (.putfield 9, 3) := by decide +kernel
theorem d_N_comeBack_5 : decode b_N_comeBack 5 = .ok (.aload_n 0, 1) := by decide +kernel
theorem d_N_comeBack_6 : decode b_N_comeBack 6 = .ok (.iconst 0, 1) := by decide +kernel
theorem d_N_comeBack_7 : decode b_N_comeBack 7 = .ok (.putfield 15, 3) := by decide +kernel
theorem d_N_comeBack_10 : decode b_N_comeBack 10 = .ok (.aload_n 0, 1) := by decide +kernel
theorem d_N_comeBack_11 : decode b_N_comeBack 11 = .ok (.iconst 0, 1) := by decide +kernel
theorem d_N_comeBack_12 : decode b_N_comeBack 12 = .ok (.putfield 19, 3) := by decide +kernel
theorem d_N_comeBack_15 : decode b_N_comeBack 15 = .ok (.aload_n 0, 1) := by decide +kernel
theorem d_N_comeBack_16 : decode b_N_comeBack 16 = .ok (.iconst 0, 1) := by decide +kernel
theorem d_N_comeBack_17 : decode b_N_comeBack 17 = .ok (.putfield 91, 3) := by decide +kernel
theorem d_N_comeBack_20 : decode b_N_comeBack 20 = .ok (.aload_n 0, 1) := by decide +kernel
theorem d_N_comeBack_21 : decode b_N_comeBack 21 = .ok (.iconst 0, 1) := by decide +kernel
theorem d_N_comeBack_22 : decode b_N_comeBack 22 = .ok (.putfield 56, 3) := by decide +kernel
theorem d_N_comeBack_25 : decode b_N_comeBack 25 = .ok (.return_, 1) := by decide +kernel
end
section
theorem d_X_init_0 : decode b_X_init 0 = .ok (.aload_n 0, 1) := by decide +kernel
theorem d_X_init_1 : decode b_X_init 1 = .ok (.invokespecial 1, 3) := by decide +kernel
theorem d_X_init_4 : decode b_X_init 4 = .ok (.aload_n 0, 1) := by decide +kernel
theorem d_X_init_5 : decode b_X_init 5 = .ok (.bipush 100, 2) := by decide +kernel
theorem d_X_init_7 : decode b_X_init 7 = .ok (.anewarray 9, 3) := by decide +kernel
theorem d_X_init_10 : decode b_X_init 10 = .ok (.putfield 11, 3) := by decide +kernel
theorem d_X_init_13 : decode b_X_init 13 = .ok (.aload_n 0, 1) := by decide +kernel
theorem d_X_init_14 : decode b_X_init 14 = .ok (.iconst 0, 1) := by decide +kernel
theorem d_X_init_15 : decode b_X_init 15 = .ok (.putfield 15, 3) := by decide +kernel
theorem d_X_init_18 : decode b_X_init 18 = .ok (.aload_n 0, 1) := by decide +kernel
theorem d_X_init_19 : decode b_X_init 19 = .ok (.lconst 0, 1) := by decide +kernel
theorem d_X_init_20 : decode b_X_init 20 = .ok (.putfield 19, 3) := by decide +kernel
theorem d_X_init_23 : decode b_X_init 23 = .ok (.return_, 1) := by decide +kernel
theorem d_X_node_0 : decode b_X_node 0 = .ok (.aload_n 0, 1) := by decide +kernel
theorem d_X_node_1 : decode b_X_node 1 = .ok (.getfield 15, 3) := by decide +kernel
theorem d_X_node_4 : decode b_X_node 4 = .ok (.aload_n 0, 1) := by decide +kernel
theorem d_X_node_5 : decode b_X_node 5 = .ok (.getfield 11, 3) := by decide +kernel
theorem d_X_node_8 : decode b_X_node 8 = .ok (.arraylength, 1) := by decide +kernel
theorem d_X_node_9 : decode b_X_node 9 = .ok (.if_icmp .lt 6, 3) := by decide +kernel
theorem d_X_node_12 : decode b_X_node 12 = .ok (.bipush (-4), 2) := by decide +kernel
theorem d_X_node_14 : decode b_X_node 14 = .ok (.ireturn, 1) := by decide +kernel
theorem d_X_node_15 : decode b_X_node 15 = .ok (.aload_n 0, 1) := by decide +kernel
theorem d_X_node_16 : decode b_X_node 16 = .ok (.getfield 11, 3) := by decide +kernel
theorem d_X_node_19 : decode b_X_node 19 = .ok (.aload_n 0, 1) := by decide +kernel
theorem d_X_node_20 : decode b_X_node 20 = .ok (.getfield 15, 3) := by decide +kernel
theorem d_X_node_23 : decode b_X_node 23 = .ok (.new 9, 3) := by decide +kernel
theorem d_X_node_26 : decode b_X_node 26 = .ok (.dup, 1) := by decide +kernel
theorem d_X_node_27 : decode b_X_node 27 = .ok (.invokespecial 23, 3) := by decide +kernel
theorem d_X_node_30 : decode b_X_node 30 = .ok (.aastore, 1) := by decide +kernel
theorem d_X_node_31 : decode b_X_node 31 = .ok (.aload_n 0, 1) := by decide +kernel
theorem d_X_node_32 : decode b_X_node 32 = .ok (.dup, 1) := by decide +kernel
theorem d_X_node_33 : decode b_X_node 33 = .ok (.getfield 15, 3) := by decide +kernel
theorem d_X_node_36 : decode b_X_node 36 = .ok (.iconst 1, 1) := by decide +kernel
theorem d_X_node_37 : decode b_X_node 37 = .ok (.iadd, 1) := by decide +kernel
theorem d_X_node_38 : decode b_X_node 38 = .ok (.putfield 15, 3) := by decide +kernel
theorem d_X_node_41 : decode b_X_node 41 = .ok (.aload_n 0, 1) := by decide +kernel
theorem d_X_node_42 : decode b_X_node 42 = .ok (.getfield 15, 3) := by decide +kernel
theorem d_X_node_45 : decode b_X_node 45 = .ok (.ireturn, 1) := by decide +kernel
theorem d_X_event_0 : decode b_X_event 0 = .ok (.aload_n 0, 1) := by decide +kernel
theorem d_X_event_1 : decode b_X_event 1 = .ok (.iload_n 1, 1) := by decide +kernel
theorem d_X_event_2 : decode b_X_event 2 = .ok (.invokevirtual 24, 3) := by decide +kernel
theorem d_X_event_5 : decode b_X_event 5 = .ok (.astore 4, 2) := by decide +kernel
theorem d_X_event_7 : decode b_X_event 7 = .ok (.aload 4, 2) := by decide +kernel
theorem d_X_event_9 : decode b_X_event 9 = .ok (.ifnonnull 5, 3) := by decide +kernel
theorem d_X_event_12 : decode b_X_event 12 = .ok (.iconst (-1), 1) := by decide +kernel
theorem d_X_event_13 : decode b_X_event 13 = .ok (.ireturn, 1) := by decide +kernel
theorem d_X_event_14 : decode b_X_event 14 = .ok (.iload_n 2, 1) := by decide +kernel
theorem d_X_event_15 : decode b_X_event 15 = .ok (.invokestatic 28, 3) := by decide +kernel
theorem d_X_event_18 : decode b_X_event 18 = .ok (.ifCond .ne 6, 3) := by decide +kernel
theorem d_X_event_21 : decode b_X_event 21 = .ok (.bipush (-2), 2) := by decide +kernel
theorem d_X_event_23 : decode b_X_event 23 = .ok (.ireturn, 1) := by decide +kernel
theorem d_X_event_24 : decode b_X_event 24 = .ok (.aload 4, 2) := by decide +kernel
theorem d_X_event_26 : decode b_X_event 26 = .ok (.getfield 32, 3) := by decide +kernel
theorem d_X_event_29 : decode b_X_event 29 = .ok (.ifCond .ne 15, 3) := by decide +kernel
theorem d_X_event_32 : decode b_X_event 32 = .ok (.aload 4, 2) := by decide +kernel
theorem d_X_event_34 : decode b_X_event 34 = .ok (.getfield 36, 3) := by decide +kernel
theorem d_X_event_37 : decode b_X_event 37 = .ok (.ifCond .eq 10, 3) := by decide +kernel
theorem d_X_event_40 : decode b_X_event 40 = .ok (.iload_n 3, 1) := by decide +kernel
theorem d_X_event_41 : decode b_X_event 41 = .ok (.ifCond .eq 6, 3) := by decide +kernel
theorem d_X_event_44 : decode b_X_event 44 = .ok (.bipush (-3), 2) := by decide +kernel
theorem d_X_event_46 : decode b_X_event 46 = .ok (.ireturn, 1) := by decide +kernel
theorem d_X_event_47 : decode b_X_event 47 = .ok (.aload 4, 2) := by decide +kernel
theorem d_X_event_49 : decode b_X_event 49 = .ok (.iload_n 2, 1) := by decide +kernel
theorem d_X_event_50 : decode b_X_event 50 = .ok (.iload_n 3, 1) := by decide +kernel
theorem d_X_event_51 : decode b_X_event 51 = .ok (.invokevirtual 39, 3) := by decide +kernel
theorem d_X_event_54 : decode b_X_event 54 = .ok (.aload 4, 2) := by decide +kernel
theorem d_X_event_56 : decode b_X_event 56 = .ok (.invokevirtual 43, 3) := by decide +kernel
theorem d_X_event_59 : decode b_X_event 59 = .ok (.ireturn, 1) := by decide +kernel
theorem d_X_counter_0 : decode b_X_counter 0 = .ok (.aload_n 0, 1) := by decide +kernel
theorem d_X_counter_1 : decode b_X_counter 1 = .ok (.iload_n 1, 1) := by decide +kernel
theorem d_X_counter_2 : decode b_X_counter 2 = .ok (.invokevirtual 24, 3) := by decide +kernel
theorem d_X_counter_5 : decode b_X_counter 5 = .ok (.astore_n 3, 1) := by decide +kernel
theorem d_X_counter_6 : decode b_X_counter 6 = .ok (.aload_n 3, 1) := by decide +kernel
theorem d_X_counter_7 : decode b_X_counter 7 = .ok (.ifnonnull 5, 3) := by decide +kernel
theorem d_X_counter_10 : decode b_X_counter 10 = .ok (.iconst (-1), 1) := by decide +kernel
theorem d_X_counter_11 : decode b_X_counter 11 = .ok (.ireturn, 1) := by decide +kernel
theorem d_X_counter_12 : decode b_X_counter 12 = .ok (.iload_n 2, 1) := by decide +kernel
theorem d_X_counter_13 : decode b_X_counter 13 = .ok (.ifCond .eq 10, 3) := by decide +kernel
theorem d_X_counter_16 : decode b_X_counter 16 = .ok (.aload_n 3, 1) := by decide +kernel
theorem d_X_counter_17 : decode b_X_counter 17 = .ok (.getfield 47, 3) := by decide +kernel
theorem d_X_counter_20 : decode b_X_counter 20 = .ok (.goto 7, 3) := by decide +kernel
theorem d_X_counter_23 : decode b_X_counter 23 = .ok (.aload_n 3, 1) := by decide +kernel
theorem d_X_counter_24 : decode b_X_counter 24 = .ok (.getfield 50, 3) := by decide +kernel
theorem d_X_counter_27 : decode b_X_counter 27 = .ok (.ireturn, 1) := by decide +kernel
theorem d_X_state_0 : decode b_X_state 0 = .ok (.aload_n 0, 1) := by decide +kernel
theorem d_X_state_1 : decode b_X_state 1 = .ok (.iload_n 1, 1) := by decide +kernel
theorem d_X_state_2 : decode b_X_state 2 = .ok (.invokevirtual 24, 3) := by decide +kernel
theorem d_X_state_5 : decode b_X_state 5 = .ok (.astore_n 2, 1) := by decide +kernel
theorem d_X_state_6 : decode b_X_state 6 = .ok (.aload_n 2, 1) := by decide +kernel
theorem d_X_state_7 : decode b_X_state 7 = .ok (.ifnonnull 5, 3) := by decide +kernel
theorem d_X_state_10 : decode b_X_state 10 = .ok (.iconst (-1), 1) := by decide +kernel
theorem d_X_state_11 : decode b_X_state 11 = .ok (.ireturn, 1) := by decide +kernel
theorem d_X_state_12 : decode b_X_state 12 = .ok (.aload_n 2, 1) := by decide +kernel
theorem d_X_state_13 : decode b_X_state 13 = .ok (.invokevirtual 43, 3) := by decide +kernel
theorem d_X_state_16 : decode b_X_state 16 = .ok (.ireturn, 1) := by decide +kernel
theorem d_X_recover_0 : decode b_X_recover 0 = .ok (.aload_n 0, 1) := by decide +kernel
theorem d_X_recover_1 : decode b_X_recover 1 = .ok (.iload_n 1, 1) := by decide +kernel
theorem d_X_recover_2 : decode b_X_recover 2 = .ok (.invokevirtual 24, 3) := by decide +kernel
theorem d_X_recover_5 : decode b_X_recover 5 = .ok (.astore_n 3, 1) := by decide +kernel
theorem d_X_recover_6 : decode b_X_recover 6 = .ok (.aload_n 3, 1) := by decide +kernel
theorem d_X_recover_7 : decode b_X_recover 7 = .ok (.ifnonnull 5, 3) := by decide +kernel
theorem d_X_recover_10 : decode b_X_recover 10 = .ok (.iconst (-1), 1) := by decide +kernel
theorem d_X_recover_11 : decode b_X_recover 11 = .ok (.ireturn, 1) := by decide +kernel
theorem d_X_recover_12 : decode b_X_recover 12 = .ok (.iload_n 2, 1) := by decide +kernel
theorem d_X_recover_13 : decode b_X_recover 13 = .ok (.iconst 1, 1) := by decide +kernel
theorem d_X_recover_14 : decode b_X_recover 14 = .ok (.if_icmp .ge 6, 3) := by decide +kernel
theorem d_X_recover_17 : decode b_X_recover 17 = .ok (.bipush (-2), 2) := by decide +kernel
theorem d_X_recover_19 : decode b_X_recover 19 = .ok (.ireturn, 1) := by decide +kernel
theorem d_X_recover_20 : decode b_X_recover 20 = .ok (.aload_n 3, 1) := by decide +kernel
theorem d_X_recover_21 : decode b_X_recover 21 = .ok (.getfield 32, 3) := by decide +kernel
theorem d_X_recover_24 : decode b_X_recover 24 = .ok (.ifCond .eq 10, 3) := by decide +kernel
theorem d_X_recover_27 : decode b_X_recover 27 = .ok (.aload_n 3, 1) := by decide +kernel
theorem d_X_recover_28 : decode b_X_recover 28 = .ok (.getfield 53, 3) := by decide +kernel
theorem d_X_recover_31 : decode b_X_recover 31 = .ok (.ifCond .ne 6, 3) := by decide +kernel
theorem d_X_recover_34 : decode b_X_recover 34 = .ok (.bipush (-3), 2) := by decide +kernel
theorem d_X_recover_36 : decode b_X_recover 36 = .ok (.ireturn, 1) := by decide +kernel
theorem d_X_recover_37 : decode b_X_recover 37 = .ok (.aload_n 3, 1) := by decide +kernel
theorem d_X_recover_38 : decode b_X_recover 38 = .ok (.iload_n 2, 1) := by decide +kernel
theorem d_X_recover_39 : decode b_X_recover 39 = .ok (.invokevirtual 56, 3) := by decide +kernel
theorem d_X_recover_42 : decode b_X_recover 42 = .ok (.aload_n 3, 1) := by decide +kernel
theorem d_X_recover_43 : decode b_X_recover 43 = .ok (.invokevirtual 43, 3) := by decide +kernel
theorem d_X_recover_46 : decode b_X_recover 46 = .ok (.ireturn, 1) := by decide +kernel
theorem d_X_flag_0 : decode b_X_flag 0 = .ok (.aload_n 0, 1) := by decide +kernel
theorem d_X_flag_1 : decode b_X_flag 1 = .ok (.iload_n 1, 1) := by decide +kernel
theorem d_X_flag_2 : decode b_X_flag 2 = .ok (.invokevirtual 24, 3) := by decide +kernel
theorem d_X_flag_5 : decode b_X_flag 5 = .ok (.astore_n 2, 1) := by decide +kernel
theorem d_X_flag_6 : decode b_X_flag 6 = .ok (.aload_n 2, 1) := by decide +kernel
theorem d_X_flag_7 : decode b_X_flag 7 = .ok (.ifnonnull 5, 3) := by decide +kernel
theorem d_X_flag_10 : decode b_X_flag 10 = .ok (.iconst (-1), 1) := by decide +kernel
theorem d_X_flag_11 : decode b_X_flag 11 = .ok (.ireturn, 1) := by decide +kernel
theorem d_X_flag_12 : decode b_X_flag 12 = .ok (.aload_n 2, 1) := by decide +kernel
theorem d_X_flag_13 : decode b_X_flag 13 = .ok (.getfield 60, 3) := by decide +kernel
theorem d_X_flag_16 : decode b_X_flag 16 = .ok (.ireturn, 1) := by decide +kernel
theorem d_X_manager_0 : decode b_X_manager 0 = .ok (.aload_n 0, 1) := by decide +kernel
theorem d_X_manager_1 : decode b_X_manager 1 = .ok (.iload_n 1, 1) := by decide +kernel
theorem d_X_manager_2 : decode b_X_manager 2 = .ok (.invokevirtual 24, 3) := by decide +kernel
theorem d_X_manager_5 : decode b_X_manager 5 = .ok (.astore 4, 2) := by decide +kernel
theorem d_X_manager_7 : decode b_X_manager 7 = .ok (.aload 4, 2) := by decide +kernel
theorem d_X_manager_9 : decode b_X_manager 9 = .ok (.ifnonnull 5, 3) := by decide +kernel
theorem d_X_manager_12 : decode b_X_manager 12 = .ok (.iconst (-1), 1) := by decide +kernel
theorem d_X_manager_13 : decode b_X_manager 13 = .ok (.ireturn, 1) := by decide +kernel
theorem d_X_manager_14 : decode b_X_manager 14 = .ok (.lload_n 2, 1) := by decide +kernel
theorem d_X_manager_15 : decode b_X_manager 15 = .ok (.aload_n 0, 1) := by decide +kernel
theorem d_X_manager_16 : decode b_X_manager 16 = .ok (.getfield 19, 3) := by decide +kernel
theorem d_X_manager_19 : decode b_X_manager 19 = .ok (.lcmp, 1) := by decide +kernel
theorem d_X_manager_20 : decode b_X_manager 20 = .ok (.ifCond .ge 6, 3) := by decide +kernel
theorem d_X_manager_23 : decode b_X_manager 23 = .ok (.bipush (-2), 2) := by decide +kernel
theorem d_X_manager_25 : decode b_X_manager 25 = .ok (.ireturn, 1) := by decide +kernel
theorem d_X_manager_26 : decode b_X_manager 26 = .ok (.aload_n 0, 1) := by decide +kernel
theorem d_X_manager_27 : decode b_X_manager 27 = .ok (.lload_n 2, 1) := by decide +kernel
theorem d_X_manager_28 : decode b_X_manager 28 = .ok (.putfield 19, 3) := by decide +kernel
theorem d_X_manager_31 : decode b_X_manager 31 = .ok (.aload 4, 2) := by decide +kernel
theorem d_X_manager_33 : decode b_X_manager 33 = .ok (.lload_n 2, 1) := by decide +kernel
theorem d_X_manager_34 : decode b_X_manager 34 = .ok (.invokevirtual 63, 3) := by decide +kernel
theorem d_X_manager_37 : decode b_X_manager 37 = .ok (.ifCond .eq 7, 3) := by decide +kernel
theorem d_X_manager_40 : decode b_X_manager 40 = .ok (.iconst 1, 1) := by decide +kernel
theorem d_X_manager_41 : decode b_X_manager 41 = .ok (.goto 4, 3) := by decide +kernel
theorem d_X_manager_44 : decode b_X_manager 44 = .ok (.iconst 0, 1) := by decide +kernel
theorem d_X_manager_45 : decode b_X_manager 45 = .ok (.ireturn, 1) := by decide +kernel
theorem d_X_shot_0 : decode b_X_shot 0 = .ok (.aload_n 0, 1) := by decide +kernel
theorem d_X_shot_1 : decode b_X_shot 1 = .ok (.iload_n 1, 1) := by decide +kernel
theorem d_X_shot_2 : decode b_X_shot 2 = .ok (.invokevirtual 24, 3) := by decide +kernel
theorem d_X_shot_5 : decode b_X_shot 5 = .ok (.astore_n 3, 1) := by decide +kernel
theorem d_X_shot_6 : decode b_X_shot 6 = .ok (.aload_n 3, 1) := by decide +kernel
theorem d_X_shot_7 : decode b_X_shot 7 = .ok (.ifnonnull 5, 3) := by decide +kernel
theorem d_X_shot_10 : decode b_X_shot 10 = .ok (.iconst (-1), 1) := by decide +kernel
theorem d_X_shot_11 : decode b_X_shot 11 = .ok (.ireturn, 1) := by decide +kernel
theorem d_X_shot_12 : decode b_X_shot 12 = .ok (.aload_n 3, 1) := by decide +kernel
theorem d_X_shot_13 : decode b_X_shot 13 = .ok (.iload_n 2, 1) := by decide +kernel
theorem d_X_shot_14 : decode b_X_shot 14 = .ok (.putfield 67, 3) := by decide +kernel
theorem d_X_shot_17 : decode b_X_shot 17 = .ok (.aload_n 3, 1) := by decide +kernel
theorem d_X_shot_18 : decode b_X_shot 18 = .ok (.getfield 70, 3) := by decide +kernel
theorem d_X_shot_21 : decode b_X_shot 21 = .ok (.ireturn, 1) := by decide +kernel
theorem d_X_listen_0 : decode b_X_listen 0 = .ok (.aload_n 0, 1) := by decide +kernel
theorem d_X_listen_1 : decode b_X_listen 1 = .ok (.iload_n 1, 1) := by decide +kernel
theorem d_X_listen_2 : decode b_X_listen 2 = .ok (.invokevirtual 24, 3) := by decide +kernel
theorem d_X_listen_5 : decode b_X_listen 5 = .ok (.astore_n 3, 1) := by decide +kernel
theorem d_X_listen_6 : decode b_X_listen 6 = .ok (.aload_n 3, 1) := by decide +kernel
theorem d_X_listen_7 : decode b_X_listen 7 = .ok (.ifnonnull 5, 3) := by decide +kernel
theorem d_X_listen_10 : decode b_X_listen 10 = .ok (.iconst (-1), 1) := by decide +kernel
theorem d_X_listen_11 : decode b_X_listen 11 = .ok (.ireturn, 1) := by decide +kernel
theorem d_X_listen_12 : decode b_X_listen 12 = .ok (.aload_n 3, 1) := by decide +kernel
theorem d_X_listen_13 : decode b_X_listen 13 = .ok (.getfield 32, 3) := by decide +kernel
theorem d_X_listen_16 : decode b_X_listen 16 = .ok (.ifCond .eq 6, 3) := by decide +kernel
theorem d_X_listen_19 : decode b_X_listen 19 = .ok (.bipush (-3), 2) := by decide +kernel
theorem d_X_listen_21 : decode b_X_listen 21 = .ok (.ireturn, 1) := by decide +kernel
theorem d_X_listen_22 : decode b_X_listen 22 = .ok (.aload_n 3, 1) := by decide +kernel
theorem d_X_listen_23 : decode b_X_listen 23 = .ok (.getfield 36, 3) := by decide +kernel
theorem d_X_listen_26 : decode b_X_listen 26 = .ok (.iload_n 2, 1) := by decide +kernel
theorem d_X_listen_27 : decode b_X_listen 27 = .ok (.if_icmp .eq 7, 3) := by decide +kernel
theorem d_X_listen_30 : decode b_X_listen 30 = .ok (.iconst 1, 1) := by decide +kernel
theorem d_X_listen_31 : decode b_X_listen 31 = .ok (.goto 4, 3) := by decide +kernel
theorem d_X_listen_34 : decode b_X_listen 34 = .ok (.iconst 0, 1) := by decide +kernel
theorem d_X_listen_35 : decode b_X_listen 35 = .ok (.istore 4, 2) := by decide +kernel
theorem d_X_listen_37 : decode b_X_listen 37 = .ok (.aload_n 3, 1) := by decide +kernel
theorem d_X_listen_38 : decode b_X_listen 38 = .ok (.iload_n 2, 1) := by decide +kernel
theorem d_X_listen_39 : decode b_X_listen 39 = .ok (.putfield 36, 3) := by decide +kernel
theorem d_X_listen_42 : decode b_X_listen 42 = .ok (.aload_n 3, 1) := by decide +kernel
theorem d_X_listen_43 : decode b_X_listen 43 = .ok (.iconst 0, 1) := by decide +kernel
theorem d_X_listen_44 : decode b_X_listen 44 = .ok (.putfield 60, 3) := by decide +kernel
theorem d_X_listen_47 : decode b_X_listen 47 = .ok (.iload 4, 2) := by decide +kernel
theorem d_X_listen_49 : decode b_X_listen 49 = .ok (.ifCond .eq 7, 3) := by decide +kernel
theorem d_X_listen_52 : decode b_X_listen 52 = .ok (.iconst 1, 1) := by decide +kernel
theorem d_X_listen_53 : decode b_X_listen 53 = .ok (.goto 4, 3) := by decide +kernel
theorem d_X_listen_56 : decode b_X_listen 56 = .ok (.iconst 0, 1) := by decide +kernel
theorem d_X_listen_57 : decode b_X_listen 57 = .ok (.ireturn, 1) := by decide +kernel
theorem d_X_two_0 : decode b_X_two 0 = .ok (.aload_n 0, 1) := by decide +kernel
theorem d_X_two_1 : decode b_X_two 1 = .ok (.iload_n 1, 1) := by decide +kernel
theorem d_X_two_2 : decode b_X_two 2 = .ok (.invokevirtual 24, 3) := by decide +kernel
theorem d_X_two_5 : decode b_X_two 5 = .ok (.astore 4, 2) := by decide +kernel
theorem d_X_two_7 : decode b_X_two 7 = .ok (.aload 4, 2) := by decide +kernel
theorem d_X_two_9 : decode b_X_two 9 = .ok (.ifnonnull 5, 3) := by decide +kernel
theorem d_X_two_12 : decode b_X_two 12 = .ok (.iconst (-1), 1) := by decide +kernel
theorem d_X_two_13 : decode b_X_two 13 = .ok (.ireturn, 1) := by decide +kernel
theorem d_X_two_14 : decode b_X_two 14 = .ok (.iload_n 2, 1) := by decide +kernel
theorem d_X_two_15 : decode b_X_two 15 = .ok (.invokestatic 28, 3) := by decide +kernel
theorem d_X_two_18 : decode b_X_two 18 = .ok (.ifCond .eq 18, 3) := by decide +kernel
theorem d_X_two_21 : decode b_X_two 21 = .ok (.iload_n 3, 1) := by decide +kernel
theorem d_X_two_22 : decode b_X_two 22 = .ok (.invokestatic 28, 3) := by decide +kernel
theorem d_X_two_25 : decode b_X_two 25 = .ok (.ifCond .eq 11, 3) := by decide +kernel
theorem d_X_two_28 : decode b_X_two 28 = .ok (.iload_n 2, 1) := by decide +kernel
theorem d_X_two_29 : decode b_X_two 29 = .ok (.ifCond .eq 7, 3) := by decide +kernel
theorem d_X_two_32 : decode b_X_two 32 = .ok (.iload_n 3, 1) := by decide +kernel
theorem d_X_two_33 : decode b_X_two 33 = .ok (.ifCond .ne 6, 3) := by decide +kernel
theorem d_X_two_36 : decode b_X_two 36 = .ok (.bipush (-2), 2) := by decide +kernel
theorem d_X_two_38 : decode b_X_two 38 = .ok (.ireturn, 1) := by decide +kernel
theorem d_X_two_39 : decode b_X_two 39 = .ok (.aload 4, 2) := by decide +kernel
theorem d_X_two_41 : decode b_X_two 41 = .ok (.getfield 32, 3) := by decide +kernel
theorem d_X_two_44 : decode b_X_two 44 = .ok (.ifCond .eq 6, 3) := by decide +kernel
theorem d_X_two_47 : decode b_X_two 47 = .ok (.bipush (-3), 2) := by decide +kernel
theorem d_X_two_49 : decode b_X_two 49 = .ok (.ireturn, 1) := by decide +kernel
theorem d_X_two_50 : decode b_X_two 50 = .ok (.aload 4, 2) := by decide +kernel
theorem d_X_two_52 : decode b_X_two 52 = .ok (.iload_n 2, 1) := by decide +kernel
theorem d_X_two_53 : decode b_X_two 53 = .ok (.iload_n 3, 1) := by decide +kernel
theorem d_X_two_54 : decode b_X_two 54 = .ok (.invokestatic 73, 3) := by decide +kernel
theorem d_X_two_57 : decode b_X_two 57 = .ok (.iload_n 2, 1) := by decide +kernel
theorem d_X_two_58 : decode b_X_two 58 = .ok (.iload_n 3, 1) := by decide +kernel
theorem d_X_two_59 : decode b_X_two 59 = .ok (.invokestatic 79, 3) := by decide +kernel
theorem d_X_two_62 : decode b_X_two 62 = .ok (.invokevirtual 82, 3) := by decide +kernel
theorem d_X_two_65 : decode b_X_two 65 = .ok (.aload 4, 2) := by decide +kernel
theorem d_X_two_67 : decode b_X_two 67 = .ok (.invokevirtual 43, 3) := by decide +kernel
theorem d_X_two_70 : decode b_X_two 70 = .ok (.ireturn, 1) := by decide +kernel
theorem d_X_suspended_0 : decode b_X_suspended 0 = .ok (.aload_n 0, 1) := by decide +kernel
theorem d_X_suspended_1 : decode b_X_suspended 1 = .ok (.iload_n 1, 1) := by decide +kernel
theorem d_X_suspended_2 : decode b_X_suspended 2 = .ok (.invokevirtual 24, 3) := by decide +kernel
theorem d_X_suspended_5 : decode b_X_suspended 5 = .ok (.astore_n 2, 1) := by decide +kernel
theorem d_X_suspended_6 : decode b_X_suspended 6 = .ok (.aload_n 2, 1) := by decide +kernel
theorem d_X_suspended_7 : decode b_X_suspended 7 = .ok (.ifnonnull 5, 3) := by decide +kernel
theorem d_X_suspended_10 : decode b_X_suspended 10 = .ok (.iconst (-1), 1) := by decide +kernel
theorem d_X_suspended_11 : decode b_X_suspended 11 = .ok (.ireturn, 1) := by decide +kernel
theorem d_X_suspended_12 : decode b_X_suspended 12 = .ok (.aload_n 2, 1) := by decide +kernel
theorem d_X_suspended_13 : decode b_X_suspended 13 = .ok (.getfield 32, 3) := by decide +kernel
theorem d_X_suspended_16 : decode b_X_suspended 16 = .ok (.ifCond .eq 6, 3) := by decide +kernel
theorem d_X_suspended_19 : decode b_X_suspended 19 = .ok (.bipush (-3), 2) := by decide +kernel
theorem d_X_suspended_21 : decode b_X_suspended 21 = .ok (.ireturn, 1) := by decide +kernel
theorem d_X_suspended_22 : decode b_X_suspended 22 = .ok (.aload_n 2, 1) := by decide +kernel
theorem d_X_suspended_23 : decode b_X_suspended 23 = .ok (.getfield 86, 3) := by decide +kernel
theorem d_X_suspended_26 : decode b_X_suspended 26 = .ok (.ireturn, 1) := by decide +kernel
theorem d_X_find_0 : decode b_X_find 0 = .ok (.iload_n 1, 1) := by decide +kernel
theorem d_X_find_1 : decode b_X_find 1 = .ok (.iconst 1, 1) := by decide +kernel
theorem d_X_find_2 : decode b_X_find 2 = .ok (.if_icmp .lt 20, 3) := by decide +kernel
theorem d_X_find_5 : decode b_X_find 5 = .ok (.iload_n 1, 1) := by decide +kernel
theorem d_X_find_6 : decode b_X_find 6 = .ok (.aload_n 0, 1) := by decide +kernel
theorem d_X_find_7 : decode b_X_find 7 = .ok (.getfield 15, 3) := by decide +kernel
theorem d_X_find_10 : decode b_X_find 10 = .ok (.if_icmp .gt 12, 3) := by decide +kernel
theorem d_X_find_13 : decode b_X_find 13 = .ok (.iload_n 1, 1) := by decide +kernel
theorem d_X_find_14 : decode b_X_find 14 = .ok (.aload_n 0, 1) := by decide +kernel
theorem d_X_find_15 : decode b_X_find 15 = .ok (.getfield 11, 3) := by decide +kernel
theorem d_X_find_18 : decode b_X_find 18 = .ok (.arraylength, 1) := by decide +kernel
theorem d_X_find_19 : decode b_X_find 19 = .ok (.if_icmp .le 5, 3) := by decide +kernel
theorem d_X_find_22 : decode b_X_find 22 = .ok (.aconst_null, 1) := by decide +kernel
theorem d_X_find_23 : decode b_X_find 23 = .ok (.areturn, 1) := by decide +kernel
theorem d_X_find_24 : decode b_X_find 24 = .ok (.aload_n 0, 1) := by decide +kernel
theorem d_X_find_25 : decode b_X_find 25 = .ok (.getfield 11, 3) := by decide +kernel
theorem d_X_find_28 : decode b_X_find 28 = .ok (.iload_n 1, 1) := by decide +kernel
theorem d_X_find_29 : decode b_X_find 29 = .ok (.iconst 1, 1) := by decide +kernel
theorem d_X_find_30 : decode b_X_find 30 = .ok (.isub, 1) := by decide +kernel
theorem d_X_find_31 : decode b_X_find 31 = .ok (.aaload, 1) := by decide +kernel
theorem d_X_find_32 : decode b_X_find 32 = .ok (.areturn, 1) := by decide +kernel
theorem d_X_isKind_0 : decode b_X_isKind 0 = .ok (.iload_n 0, 1) := by decide +kernel
theorem d_X_isKind_1 : decode b_X_isKind 1 = .ok (.ifCond .lt 13, 3) := by decide +kernel
theorem d_X_isKind_4 : decode b_X_isKind 4 = .ok (.iload_n 0, 1) := by decide +kernel
theorem d_X_isKind_5 : decode b_X_isKind 5 = .ok (.bipush 10, 2) := by decide +kernel
theorem d_X_isKind_7 : decode b_X_isKind 7 = .ok (.if_icmp .gt 7, 3) := by decide +kernel
theorem d_X_isKind_10 : decode b_X_isKind 10 = .ok (.iconst 1, 1) := by decide +kernel
theorem d_X_isKind_11 : decode b_X_isKind 11 = .ok (.goto 4, 3) := by decide +kernel
theorem d_X_isKind_14 : decode b_X_isKind 14 = .ok (.iconst 0, 1) := by decide +kernel
theorem d_X_isKind_15 : decode b_X_isKind 15 = .ok (.ireturn, 1) := by decide +kernel
theorem d_X_isError_0 : decode b_X_isError 0 = .ok (.iload_n 0, 1) := by decide +kernel
theorem d_X_isError_1 : decode b_X_isError 1 = .ok (.invokestatic 28, 3) := by decide +kernel
theorem d_X_isError_4 : decode b_X_isError 4 = .ok (.ifCond .eq 18, 3) := by decide +kernel
theorem d_X_isError_7 : decode b_X_isError 7 = .ok (.iload_n 0, 1) := by decide +kernel
theorem d_X_isError_8 : decode b_X_isError 8 = .ok (.ifCond .eq 14, 3) := by decide +kernel
theorem d_X_isError_11 : decode b_X_isError 11 = .ok (.iload_n 0, 1) := by decide +kernel
theorem d_X_isError_12 : decode b_X_isError 12 = .ok (.invokestatic 89, 3) := by decide +kernel
theorem d_X_isError_15 : decode b_X_isError 15 = .ok (.ifCond .ne 7, 3) := by decide +kernel
theorem d_X_isError_18 : decode b_X_isError 18 = .ok (.iconst 1, 1) := by decide +kernel
theorem d_X_isError_19 : decode b_X_isError 19 = .ok (.goto 4, 3) := by decide +kernel
theorem d_X_isError_22 : decode b_X_isError 22 = .ok (.iconst 0, 1) := by decide +kernel
theorem d_X_isError_23 : decode b_X_isError 23 = .ok (.ireturn, 1) := by decide +kernel
theorem d_X_isAboutFlag_0 : decode b_X_isAboutFlag 0 = .ok (.iload_n 0, 1) := by decide +kernel
theorem d_X_isAboutFlag_1 : decode b_X_isAboutFlag 1 = .ok (.bipush 6, 2) := by decide +kernel
theorem d_X_isAboutFlag_3 : decode b_X_isAboutFlag 3 = .ok (.if_icmp .eq 15, 3) := by decide +kernel
theorem d_X_isAboutFlag_6 : decode b_X_isAboutFlag 6 = .ok (.iload_n 0, 1) := by decide +kernel
theorem d_X_isAboutFlag_7 : decode b_X_isAboutFlag 7 = .ok (.bipush 7, 2) := by decide +kernel
theorem d_X_isAboutFlag_9 : decode b_X_isAboutFlag 9 = .ok (.if_icmp .eq 9, 3) := by decide +kernel
theorem d_X_isAboutFlag_12 : decode b_X_isAboutFlag 12 = .ok (.iload_n 0, 1) := by decide +kernel
theorem d_X_isAboutFlag_13 : decode b_X_isAboutFlag 13 = .ok (.bipush 8, 2) := by decide +kernel
theorem d_X_isAboutFlag_15 : decode b_X_isAboutFlag 15 = .ok (.if_icmp .ne 7, 3) := by decide +kernel
theorem d_X_isAboutFlag_18 : decode b_X_isAboutFlag 18 = .ok (.iconst 1, 1) := by decide +kernel
theorem d_X_isAboutFlag_19 : decode b_X_isAboutFlag 19 = .ok (.goto 4, 3) := by decide +kernel
theorem d_X_isAboutFlag_22 : decode b_X_isAboutFlag 22 = .ok (.iconst 0, 1) := by decide +kernel
theorem d_X_isAboutFlag_23 : decode b_X_isAboutFlag 23 = .ok (.ireturn, 1) := by decide +kernel
end
section
-- general rows of mine: worlds of one cell, a cell put back into a list of cells, two worlds side by side
theorem nb0 : narrow .boolean (.int 0) = .int 0 := by decide
theorem nb1 : narrow .boolean (.int 1) = .int 1 := by decide
theorem fb0 : fits .boolean (.int 0) = true := by decide
theorem fb1 : fits .boolean (.int 1) = true := by decide
theorem nbp {p : Int32} (h : p = 0 ∨ p = 1) : narrow .boolean (.int p) = .int p := by
  rcases h with rfl | rfl
  · exact nb0
  · exact nb1
theorem fbp {p : Int32} (h : p = 0 ∨ p = 1) : fits .boolean (.int p) = true := by
  rcases h with rfl | rfl
  · exact fb0
  · exact fb1
theorem one_ix {q0 q : Nat × va_E} {k : Nat} (h : ([q0] : va_W)[k]? = some q) : k = 0 ∧ q = q0 := by
  cases k with
  | zero => exact ⟨rfl, (Option.some.inj h).symm⟩
  | succ k => simp at h
theorem nD {h0 : Nat} {e : va_E} : va_D (fun q : Nat => q = h0) [(h0, e)] :=
  ⟨fun i j p q hi hj _ => (one_ix hi).1.trans (one_ix hj).1.symm, fun k q hk => by rw [(one_ix hk).2]⟩
theorem sg {ws : va_W} {k : Nat} {x y : Nat × va_E} (h : ws[k]? = some x) : (ws.set k y)[k]? = some y :=
  List.getElem?_set_self (List.getElem?_eq_some_iff.mp h).1
theorem sn {ws : va_W} {k j : Nat} {x y : Nat × va_E} (hne : j ≠ k) (h : ws[j]? = some x) : (ws.set k y)[j]? = some x := by
  rw [List.getElem?_set_ne (Ne.symm hne)]; exact h
theorem ss {ws : va_W} {k : Nat} {x : Nat × va_E} (h : ws[k]? = some x) : ws.set k x = ws := by
  apply List.ext_getElem?
  intro j
  by_cases hj : j = k
  · subst hj; rw [sg h, h]
  · rw [List.getElem?_set_ne (Ne.symm hj)]
/-- which place of a list with one place changed holds what -/
theorem si {ws : va_W} {k j : Nat} {y q : Nat × va_E} (h : (ws.set k y)[j]? = some q) : (j = k ∧ q = y) ∨ (j ≠ k ∧ ws[j]? = some q) := by
  by_cases hj : j = k
  · subst hj
    have hl : j < ws.length := by
      have := (List.getElem?_eq_some_iff.mp h).1
      rwa [List.length_set] at this
    rw [List.getElem?_set_self hl] at h
    exact Or.inl ⟨rfl, (Option.some.inj h).symm⟩
  · rw [List.getElem?_set_ne (Ne.symm hj)] at h
    exact Or.inr ⟨hj, h⟩
/-- behind a call that had one cell of the list alone -/
theorem pcall {A0 : Nat → Prop} {D : va_G} {cl : List vw_C} {ws : va_W} {H H1 : Heap} {k a : Nat} {e e2 : va_E} (hP : va_P D cl ws H) (hD : va_D A0 ws) (hk : ws[k]? = some (a, e))
    (ho : ∀ q : Nat, q < H.size → ¬ q = a → H1[q]? = H[q]?) (h1 : va_P D cl [(a, e2)] H1) : va_P D cl (ws.set k (a, e2)) H1 ∧ va_D A0 (ws.set k (a, e2)) := by
  refine ⟨fun j q hj => ?_, fun i j p q hi hj hpq => ?_, fun j q hj => ?_⟩
  · rcases si hj with ⟨-, rfl⟩ | ⟨hne, hj⟩
    · exact h1 0 _ rfl
    · refine (hP j q hj).kept (ho q.1 ((hP j q hj).lt) (fun ha => hne ?_))
      exact hD.1 j k q (a, e) hj hk ha
  · rcases si hi with ⟨h2, rfl⟩ | ⟨hi1, hi⟩ <;> rcases si hj with ⟨h3, rfl⟩ | ⟨hj1, hj⟩
    · exact h2.trans h3.symm
    · exact absurd (hD.1 k j (a, e) q hk hj hpq).symm hj1
    · exact absurd (hD.1 i k p (a, e) hi hk hpq) hi1
    · exact hD.1 i j p q hi hj hpq
  · rcases si hj with ⟨-, rfl⟩ | ⟨-, hj⟩
    · exact hD.2 k (a, e) hk
    · exact hD.2 j q hj
/-- two worlds that have no cell in common -/
def apart (wx wm : va_W) : Prop := ∀ (i j : Nat) (p q : Nat × va_E), wx[i]? = some p → wm[j]? = some q → p.1 ≠ q.1
theorem apart.symm {wx wm : va_W} (h : apart wx wm) : apart wm wx := fun i j p q hp hq e => h j i q p hq hp e.symm
/-- behind a call that had the one world: the other one stands as it was -/
theorem twoc {A0 : Nat → Prop} {D : va_G} {cl : List vw_C} {wx wm w1 : va_W} {H H1 : Heap} (hPm : va_P D cl wm H) (hne : apart wx wm)
    (hk : ∀ q : Nat, q < H.size → ¬ va_A wx H.size q → H1[q]? = H[q]?) (hF : ∀ q, va_A wx H.size q → A0 q) (hD1 : va_D (va_A wx H.size) w1) : va_P D cl wm H1 ∧ va_D A0 w1 ∧ apart w1 wm := by
  have out : ∀ (j : Nat) (q : Nat × va_E), wm[j]? = some q → q.1 < H.size ∧ ¬ va_A wx H.size q.1 := by
    intro j q hj
    have hl := (hPm j q hj).lt
    refine ⟨hl, fun h => ?_⟩
    rcases h with ⟨k, e, h⟩ | h
    · exact hne k j (q.1, e) q h hj rfl
    · omega
  refine ⟨fun j q hj => (hPm j q hj).kept (hk q.1 (out j q hj).1 (out j q hj).2), hD1.weaken (fun k q _ h => hF q.1 h), fun i j p q hi hj e => ?_⟩
  exact (out j q hj).2 (by rw [← e]; exact hD1.2 i p hi)
/-- what a call may change lies in the caller's own -/
theorem freew {A0 : Nat → Prop} {ws : va_W} {H0 H : Heap} {locs : List Loc} (hD : va_D A0 ws) (hS : va_S A0 H0 H locs) (hA : ∀ q, H0.size ≤ q → A0 q) : ∀ q, va_A ws H.size q → A0 q := by
  intro q h
  rcases h with ⟨k, e, h⟩ | h
  · exact hD.2 k (q, e) h
  · exact hA q (Nat.le_trans hS.1 h)
section PRE
variable {s : State} {H : Heap} {D : va_G} {cl : List vw_C} {ws : va_W} {tys : List (ClassId × FieldType)} {As : List Value} {C : String} {b : Addr}
theorem preN (hN : NK s) : PreS s H (va_Pc As (fun U => NK U)) As := ⟨fun a U g mk q => ⟨q.1, NK.same (u := U) (U := U.calling g mk a) rfl q.2⟩, fun U _ hW => ⟨rfl, hN.warm hW⟩⟩
theorem blindW {av : List Value} : FrameBlind (va_Pc av (fun U => va_P D cl ws U.heap ∧ va_K D cl tys U ∧ NK U)) := fun a U g mk q => ⟨q.1, q.2.1, va_K.moved (u := U) (U := U.calling g mk a) (Vm.Alike.refl U.vm) q.2.2.1, NK.same (u := U) (U := U.calling g mk a) rfl q.2.2.2⟩
theorem preV (hP : va_P D cl ws H) (hK : va_K D cl tys s) (hN : NK s) (hr : ∃ cell : Cell, H[b]? = some cell ∧ cell.vm.isStatics = false ∧ s.vm.findClass C = some cell.cls) : PreV s H C b (va_Pc (.ref b :: As) (fun U => va_P D cl ws U.heap ∧ va_K D cl tys U ∧ NK U)) As :=
  ⟨blindW, hr, fun U hU hW => ⟨rfl, by rw [hU]; exact hP, va_K.moved hW.alike hK, hN.warm hW⟩⟩
theorem preI (hP : va_P D cl ws H) (hK : va_K D cl tys s) (hN : NK s) : PreS s H (va_Pc As (fun U => va_P D cl ws U.heap ∧ va_K D cl tys U ∧ NK U)) As :=
  ⟨blindW, fun U hU hW => ⟨rfl, by rw [hU]; exact hP, va_K.moved hW.alike hK, hN.warm hW⟩⟩
theorem blindZ {av : List Value} {sz : Nat} : FrameBlind (va_Pc av (fun U => U.heap.size = sz ∧ va_P D cl ws U.heap ∧ va_K D cl tys U ∧ NK U)) := fun a U g mk q => ⟨q.1, q.2.1, q.2.2.1, va_K.moved (u := U) (U := U.calling g mk a) (Vm.Alike.refl U.vm) q.2.2.2.1, NK.same (u := U) (U := U.calling g mk a) rfl q.2.2.2.2⟩
theorem preVZ (hP : va_P D cl ws H) (hK : va_K D cl tys s) (hN : NK s) (hr : ∃ cell : Cell, H[b]? = some cell ∧ cell.vm.isStatics = false ∧ s.vm.findClass C = some cell.cls) : PreV s H C b (va_Pc (.ref b :: As) (fun U => U.heap.size = H.size ∧ va_P D cl ws U.heap ∧ va_K D cl tys U ∧ NK U)) As :=
  ⟨blindZ, hr, fun U hU hW => ⟨rfl, by rw [hU], by rw [hU]; exact hP, va_K.moved hW.alike hK, hN.warm hW⟩⟩
theorem preIZ (hP : va_P D cl ws H) (hK : va_K D cl tys s) (hN : NK s) : PreS s H (va_Pc As (fun U => U.heap.size = H.size ∧ va_P D cl ws U.heap ∧ va_K D cl tys U ∧ NK U)) As :=
  ⟨blindZ, fun U hU hW => ⟨rfl, by rw [hU], by rw [hU]; exact hP, va_K.moved hW.alike hK, hN.warm hW⟩⟩
end PRE
-- words: all that any method needs stands in ONE list, BIG
theorem gdw {cw : Cond} (h : cw ∈ BIG) : GoodIn BIG (cw :: BIG) := fun w hw => by
  rcases List.mem_cons.mp hw with rfl | hw
  · exact ⟨h, (big_tbl _ h).2⟩
  · exact ⟨hw, (big_tbl _ hw).2⟩
theorem gvw {cw : Cond} {own C : String} {idx : Nat} {y : MethodName} (h : cw ∈ BIG) (h1 : Cond.methodLink own idx y ∈ BIG) (h2 : Cond.instanceMethod y ∈ BIG) (h3 : Cond.selects C y y ∈ BIG) (h4 : Cond.initialized C ∈ BIG) : GoodIn BIG (wsV own idx C y (cw :: BIG)) := fun w hw => by
  unfold wsV at hw
  rcases List.mem_append.mp hw with hw | hw
  · have : w ∈ BIG := by
      simp only [List.mem_cons, List.not_mem_nil, or_false] at hw
      rcases hw with rfl | rfl | rfl | rfl <;> assumption
    exact ⟨this, (big_tbl _ this).2⟩
  · exact gdw h w hw
theorem gsw {cw : Cond} {own : String} {idx : Nat} {y : MethodName} (h : cw ∈ BIG) (h1 : Cond.methodLink own idx y ∈ BIG) (h2 : Cond.static y ∈ BIG) (h4 : Cond.initialized own ∈ BIG) : GoodIn BIG (wsS own idx y (cw :: BIG)) := fun w hw => by
  unfold wsS at hw
  rcases List.mem_append.mp hw with hw | hw
  · have : w ∈ BIG := by
      simp only [List.mem_cons, List.not_mem_nil, or_false] at hw
      rcases hw with rfl | rfl | rfl <;> assumption
    exact ⟨this, (big_tbl _ this).2⟩
  · exact gdw h w hw
/-- the law's own words hold BIG -/
theorem gvL {cw : Cond} {own C : String} {idx : Nat} {y : MethodName} (h : cw ∈ BIG) (h1 : Cond.methodLink own idx y ∈ BIG) (h2 : Cond.instanceMethod y ∈ BIG) (h3 : Cond.selects C y y ∈ BIG) (h4 : Cond.initialized C ∈ BIG) : GoodIn lw_tbl (wsV own idx C y (cw :: BIG)) := fun w hw => big_tbl w (gvw h h1 h2 h3 h4 w hw).1
theorem g_N_28 : GoodIn BIG (wsV R_N 28 R_N y_N_undergo (cw_N_undergo :: BIG)) := gvw co_N_undergo ml_N_28 im_N_undergo sel_N_undergo in_N
theorem g_N_36 : GoodIn BIG (wsV R_N 36 R_N y_N_countGoodFrames (cw_N_countGoodFrames :: BIG)) := gvw co_N_countGoodFrames ml_N_36 im_N_countGoodFrames sel_N_countGoodFrames in_N
theorem g_N_46 : GoodIn BIG (wsV R_N 46 R_N y_N_countErrors (cw_N_countErrors :: BIG)) := gvw co_N_countErrors ml_N_46 im_N_countErrors sel_N_countErrors in_N
theorem g_N_49 : GoodIn BIG (wsV R_N 49 R_N y_N_changeFlag (cw_N_changeFlag :: BIG)) := gvw co_N_changeFlag ml_N_49 im_N_changeFlag sel_N_changeFlag in_N
theorem g_N_52 : GoodIn BIG (wsV R_N 52 R_N y_N_condition (cw_N_condition :: BIG)) := gvw co_N_condition ml_N_52 im_N_condition sel_N_condition in_N
theorem g_N_59 : GoodIn BIG (wsV R_N 59 R_N y_N_goOff (cw_N_goOff :: BIG)) := gvw co_N_goOff ml_N_59 im_N_goOff sel_N_goOff in_N
theorem g_N_74 : GoodIn BIG (wsV R_N 74 R_N y_N_lowerCounter (cw_N_lowerCounter :: BIG)) := gvw co_N_lowerCounter ml_N_74 im_N_lowerCounter sel_N_lowerCounter in_N
theorem g_N_78 : GoodIn BIG (wsV R_N 78 R_N y_N_senderPenalty (cw_N_senderPenalty :: BIG)) := gvw co_N_senderPenalty ml_N_78 im_N_senderPenalty sel_N_senderPenalty in_N
theorem g_N_82 : GoodIn BIG (wsV R_N 82 R_N y_N_receiverPenalty (cw_N_receiverPenalty :: BIG)) := gvw co_N_receiverPenalty ml_N_82 im_N_receiverPenalty sel_N_receiverPenalty in_N
theorem g_N_107 : GoodIn BIG (wsV R_N 107 R_N y_N_delay (cw_N_delay :: BIG)) := gvw co_N_delay ml_N_107 im_N_delay sel_N_delay in_N
theorem g_N_115 : GoodIn BIG (wsV R_N 115 R_N y_N_comeBack (cw_N_comeBack :: BIG)) := gvw co_N_comeBack ml_N_115 im_N_comeBack sel_N_comeBack in_N
theorem g_X_24 : GoodIn BIG (wsV R_X 24 R_X y_X_find (cw_X_find :: BIG)) := gvw co_X_find ml_X_24 im_X_find sel_X_find in_X
theorem g_X_28 : GoodIn BIG (wsS R_X 28 y_X_isKind (cw_X_isKind :: BIG)) := gsw co_X_isKind ml_X_28 sta_X_isKind in_X
theorem g_X_39 : GoodIn BIG (wsV R_X 39 R_N y_N_undergo (cw_N_undergo :: BIG)) := gvw co_N_undergo ml_X_39 im_N_undergo sel_N_undergo in_N
theorem g_X_43 : GoodIn BIG (wsV R_X 43 R_N y_N_condition (cw_N_condition :: BIG)) := gvw co_N_condition ml_X_43 im_N_condition sel_N_condition in_N
theorem g_X_56 : GoodIn BIG (wsV R_X 56 R_N y_N_countRows (cw_N_countRows :: BIG)) := gvw co_N_countRows ml_X_56 im_N_countRows sel_N_countRows in_N
theorem g_X_63 : GoodIn BIG (wsV R_X 63 R_N y_N_mayComeBack (cw_N_mayComeBack :: BIG)) := gvw co_N_mayComeBack ml_X_63 im_N_mayComeBack sel_N_mayComeBack in_N
theorem g_X_82 : GoodIn BIG (wsV R_X 82 R_N y_N_undergoBoth (cw_N_undergoBoth :: BIG)) := gvw co_N_undergoBoth ml_X_82 im_N_undergoBoth sel_N_undergoBoth in_N
theorem g_X_89 : GoodIn BIG (wsS R_X 89 y_X_isAboutFlag (cw_X_isAboutFlag :: BIG)) := gsw co_X_isAboutFlag ml_X_89 sta_X_isAboutFlag in_X
theorem g_M_63 : GoodIn BIG (wsV R_M 63 R_M y_M_is (cw_M_is :: BIG)) := gvw co_M_is ml_M_63 im_M_is sel_M_is in_M
theorem g_M_67 : GoodIn BIG (wsV R_M 67 R_M y_M_more (cw_M_more :: BIG)) := gvw co_M_more ml_M_67 im_M_more sel_M_more in_M
theorem g_M_71 : GoodIn BIG (wsS R_M 71 y_M_error (cw_M_error :: BIG)) := gsw co_M_error ml_M_71 sta_M_error in_M
theorem g_M_75 : GoodIn BIG (wsV R_M 75 R_M y_M_none (cw_M_none :: BIG)) := gvw co_M_none ml_M_75 im_M_none sel_M_none in_M
theorem g_M_78 : GoodIn BIG (wsV R_M 78 R_M y_M_happens (cw_M_happens :: BIG)) := gvw co_M_happens ml_M_78 im_M_happens sel_M_happens in_M
theorem gL_13 : GoodIn lw_tbl (wsV R_L 13 R_X y_X_node (cw_X_node :: BIG)) := gvL co_X_node ml_L_13 im_X_node sel_X_node in_X
theorem gL_17 : GoodIn lw_tbl (wsV R_L 17 R_M y_M_node (cw_M_node :: BIG)) := gvL co_M_node ml_L_17 im_M_node sel_M_node in_M
theorem gL_18 : GoodIn lw_tbl (wsV R_L 18 R_X y_X_event (cw_X_event :: BIG)) := gvL co_X_event ml_L_18 im_X_event sel_X_event in_X
theorem gL_22 : GoodIn lw_tbl (wsV R_L 22 R_M y_M_event (cw_M_event :: BIG)) := gvL co_M_event ml_L_22 im_M_event sel_M_event in_M
theorem gL_23 : GoodIn lw_tbl (wsV R_L 23 R_X y_X_counter (cw_X_counter :: BIG)) := gvL co_X_counter ml_L_23 im_X_counter sel_X_counter in_X
theorem gL_27 : GoodIn lw_tbl (wsV R_L 27 R_M y_M_counter (cw_M_counter :: BIG)) := gvL co_M_counter ml_L_27 im_M_counter sel_M_counter in_M
theorem gL_28 : GoodIn lw_tbl (wsV R_L 28 R_X y_X_state (cw_X_state :: BIG)) := gvL co_X_state ml_L_28 im_X_state sel_X_state in_X
theorem gL_32 : GoodIn lw_tbl (wsV R_L 32 R_M y_M_state (cw_M_state :: BIG)) := gvL co_M_state ml_L_32 im_M_state sel_M_state in_M
theorem gL_33 : GoodIn lw_tbl (wsV R_L 33 R_X y_X_recover (cw_X_recover :: BIG)) := gvL co_X_recover ml_L_33 im_X_recover sel_X_recover in_X
theorem gL_37 : GoodIn lw_tbl (wsV R_L 37 R_M y_M_recover (cw_M_recover :: BIG)) := gvL co_M_recover ml_L_37 im_M_recover sel_M_recover in_M
theorem gL_38 : GoodIn lw_tbl (wsV R_L 38 R_X y_X_flag (cw_X_flag :: BIG)) := gvL co_X_flag ml_L_38 im_X_flag sel_X_flag in_X
theorem gL_41 : GoodIn lw_tbl (wsV R_L 41 R_M y_M_flag (cw_M_flag :: BIG)) := gvL co_M_flag ml_L_41 im_M_flag sel_M_flag in_M
theorem gL_44 : GoodIn lw_tbl (wsV R_L 44 R_X y_X_manager (cw_X_manager :: BIG)) := gvL co_X_manager ml_L_44 im_X_manager sel_X_manager in_X
theorem gL_48 : GoodIn lw_tbl (wsV R_L 48 R_M y_M_manager (cw_M_manager :: BIG)) := gvL co_M_manager ml_L_48 im_M_manager sel_M_manager in_M
theorem gL_49 : GoodIn lw_tbl (wsV R_L 49 R_X y_X_shot (cw_X_shot :: BIG)) := gvL co_X_shot ml_L_49 im_X_shot sel_X_shot in_X
theorem gL_52 : GoodIn lw_tbl (wsV R_L 52 R_M y_M_shot (cw_M_shot :: BIG)) := gvL co_M_shot ml_L_52 im_M_shot sel_M_shot in_M
theorem gL_53 : GoodIn lw_tbl (wsV R_L 53 R_X y_X_listen (cw_X_listen :: BIG)) := gvL co_X_listen ml_L_53 im_X_listen sel_X_listen in_X
theorem gL_56 : GoodIn lw_tbl (wsV R_L 56 R_M y_M_listen (cw_M_listen :: BIG)) := gvL co_M_listen ml_L_56 im_M_listen sel_M_listen in_M
theorem gL_57 : GoodIn lw_tbl (wsV R_L 57 R_X y_X_two (cw_X_two :: BIG)) := gvL co_X_two ml_L_57 im_X_two sel_X_two in_X
theorem gL_61 : GoodIn lw_tbl (wsV R_L 61 R_M y_M_two (cw_M_two :: BIG)) := gvL co_M_two ml_L_61 im_M_two sel_M_two in_M
theorem gL_62 : GoodIn lw_tbl (wsV R_L 62 R_X y_X_suspended (cw_X_suspended :: BIG)) := gvL co_X_suspended ml_L_62 im_X_suspended sel_X_suspended in_X
theorem gL_65 : GoodIn lw_tbl (wsV R_L 65 R_M y_M_suspended (cw_M_suspended :: BIG)) := gvL co_M_suspended ml_L_65 im_M_suspended sel_M_suspended in_M
theorem gd_X_init : GoodIn BIG (cw_X_init :: BIG) := gdw co_X_init
theorem gd_X_node : GoodIn BIG (cw_X_node :: BIG) := gdw co_X_node
theorem gd_N_init : GoodIn BIG (cw_N_init :: BIG) := gdw co_N_init
theorem gd_X_event : GoodIn BIG (cw_X_event :: BIG) := gdw co_X_event
theorem gd_X_find : GoodIn BIG (cw_X_find :: BIG) := gdw co_X_find
theorem gd_X_isKind : GoodIn BIG (cw_X_isKind :: BIG) := gdw co_X_isKind
theorem gd_N_undergo : GoodIn BIG (cw_N_undergo :: BIG) := gdw co_N_undergo
theorem gd_N_countGoodFrames : GoodIn BIG (cw_N_countGoodFrames :: BIG) := gdw co_N_countGoodFrames
theorem gd_X_isError : GoodIn BIG (cw_X_isError :: BIG) := gdw co_X_isError
theorem gd_X_isAboutFlag : GoodIn BIG (cw_X_isAboutFlag :: BIG) := gdw co_X_isAboutFlag
theorem gd_N_countErrors : GoodIn BIG (cw_N_countErrors :: BIG) := gdw co_N_countErrors
theorem gd_N_lowerCounter : GoodIn BIG (cw_N_lowerCounter :: BIG) := gdw co_N_lowerCounter
theorem gd_N_senderPenalty : GoodIn BIG (cw_N_senderPenalty :: BIG) := gdw co_N_senderPenalty
theorem gd_N_condition : GoodIn BIG (cw_N_condition :: BIG) := gdw co_N_condition
theorem gd_N_receiverPenalty : GoodIn BIG (cw_N_receiverPenalty :: BIG) := gdw co_N_receiverPenalty
theorem gd_N_changeFlag : GoodIn BIG (cw_N_changeFlag :: BIG) := gdw co_N_changeFlag
theorem gd_N_goOff : GoodIn BIG (cw_N_goOff :: BIG) := gdw co_N_goOff
theorem gd_X_counter : GoodIn BIG (cw_X_counter :: BIG) := gdw co_X_counter
theorem gd_X_state : GoodIn BIG (cw_X_state :: BIG) := gdw co_X_state
theorem gd_X_recover : GoodIn BIG (cw_X_recover :: BIG) := gdw co_X_recover
theorem gd_N_countRows : GoodIn BIG (cw_N_countRows :: BIG) := gdw co_N_countRows
theorem gd_N_comeBack : GoodIn BIG (cw_N_comeBack :: BIG) := gdw co_N_comeBack
theorem gd_X_flag : GoodIn BIG (cw_X_flag :: BIG) := gdw co_X_flag
theorem gd_X_manager : GoodIn BIG (cw_X_manager :: BIG) := gdw co_X_manager
theorem gd_N_mayComeBack : GoodIn BIG (cw_N_mayComeBack :: BIG) := gdw co_N_mayComeBack
theorem gd_N_delay : GoodIn BIG (cw_N_delay :: BIG) := gdw co_N_delay
theorem gd_X_shot : GoodIn BIG (cw_X_shot :: BIG) := gdw co_X_shot
theorem gd_X_listen : GoodIn BIG (cw_X_listen :: BIG) := gdw co_X_listen
theorem gd_X_two : GoodIn BIG (cw_X_two :: BIG) := gdw co_X_two
theorem gd_N_undergoBoth : GoodIn BIG (cw_N_undergoBoth :: BIG) := gdw co_N_undergoBoth
theorem gd_X_suspended : GoodIn BIG (cw_X_suspended :: BIG) := gdw co_X_suspended
theorem gd_M_init : GoodIn BIG (cw_M_init :: BIG) := gdw co_M_init
theorem gd_M_node : GoodIn BIG (cw_M_node :: BIG) := gdw co_M_node
theorem gd_M_event : GoodIn BIG (cw_M_event :: BIG) := gdw co_M_event
theorem gd_M_none : GoodIn BIG (cw_M_none :: BIG) := gdw co_M_none
theorem gd_M_happens : GoodIn BIG (cw_M_happens :: BIG) := gdw co_M_happens
theorem gd_M_more : GoodIn BIG (cw_M_more :: BIG) := gdw co_M_more
theorem gd_M_is : GoodIn BIG (cw_M_is :: BIG) := gdw co_M_is
theorem gd_M_error : GoodIn BIG (cw_M_error :: BIG) := gdw co_M_error
theorem gd_M_counter : GoodIn BIG (cw_M_counter :: BIG) := gdw co_M_counter
theorem gd_M_state : GoodIn BIG (cw_M_state :: BIG) := gdw co_M_state
theorem gd_M_recover : GoodIn BIG (cw_M_recover :: BIG) := gdw co_M_recover
theorem gd_M_flag : GoodIn BIG (cw_M_flag :: BIG) := gdw co_M_flag
theorem gd_M_manager : GoodIn BIG (cw_M_manager :: BIG) := gdw co_M_manager
theorem gd_M_shot : GoodIn BIG (cw_M_shot :: BIG) := gdw co_M_shot
theorem gd_M_listen : GoodIn BIG (cw_M_listen :: BIG) := gdw co_M_listen
theorem gd_M_two : GoodIn BIG (cw_M_two :: BIG) := gdw co_M_two
theorem gd_M_suspended : GoodIn BIG (cw_M_suspended :: BIG) := gdw co_M_suspended
end
section
-- the class's state: a node's fields as a tuple; the bus: how many nodes, the latest time, the nodes by their place
abbrev NS : Type := Int32 × Int32 × Int32 × Int32 × Int32 × Int32 × Int32 × Int32 × Int32 × Int32 × Int32 × Int32 × Int64 × Int32 × Int32
def n_fs (u : NS) : List Value := [.int u.1, .int u.2.1, .int u.2.2.1, .int u.2.2.2.1, .int u.2.2.2.2.1, .int u.2.2.2.2.2.1, .int u.2.2.2.2.2.2.1, .int u.2.2.2.2.2.2.2.1, .int u.2.2.2.2.2.2.2.2.1, .int u.2.2.2.2.2.2.2.2.2.1, .int u.2.2.2.2.2.2.2.2.2.2.1, .int u.2.2.2.2.2.2.2.2.2.2.2.1, .long u.2.2.2.2.2.2.2.2.2.2.2.2.1, .int u.2.2.2.2.2.2.2.2.2.2.2.2.2.1, .int u.2.2.2.2.2.2.2.2.2.2.2.2.2.2]
def n_0 : NS := (0, 0, 0, 0, 0, 0, 0, 0, 0, 0, 0, 0, 0, 0, 0)
abbrev XS : Type := Nat × Int64 × (Nat → NS)
/-- the place of the node of a number -/
def ix (n : Nat) (k : Int32) : Option Nat := if k < 1 then none else if nI n < k then none else some (k.toNatClampNeg - 1)
theorem ix_some {n j : Nat} {k : Int32} (hn : n ≤ 100) (h : ix n k = some j) : j < n ∧ k = nI (j + 1) := by
  unfold ix at h
  by_cases h1 : k < 1
  · rw [if_pos h1] at h; cases h
  · rw [if_neg h1] at h
    by_cases h2 : nI n < k
    · rw [if_pos h2] at h; cases h
    · rw [if_neg h2] at h
      have h0 : ¬ k < 0 := fun q => h1 (by
        rw [Int32.lt_iff_toInt_lt] at q ⊢
        have e0 : (0 : Int32).toInt = 0 := by decide
        have e1 : (1 : Int32).toInt = 1 := by decide
        rw [e0] at q; rw [e1]; omega)
      obtain ⟨i, hi, rfl⟩ := nI_of h0
      rw [nI_clamp hi] at h
      have h3 : i ≤ n := Nat.not_lt.mp fun q => h2 (nI_lt q hi)
      have h4 : ¬ i = 0 := fun q => h1 (by rw [q]; decide)
      cases h
      exact ⟨by omega, by rw [show i - 1 + 1 = i by omega]⟩
/-- the cells wx hold the bus u: its object at h0, its array, its nodes at the addresses ad -/
def IXp (h0 : Nat) (u : XS) (wx : va_W) (cA : ClassId) (arr : Nat) (f : Nat → Option Nat) (ad : Nat → Nat) : Prop :=
  u.1 ≤ 100 ∧ (∃ k : Nat, wx[k]? = some (h0, .inr (1, [.ref arr, .int (nI u.1), .long u.2.1]))) ∧ (∃ k : Nat, wx[k]? = some (arr, .inl (cA, 100, .inr (.inr (.inr (.inr f)))))) ∧
  (∀ j, j < u.1 → f j = some (ad j) ∧ ∃ k : Nat, wx[k]? = some (ad j, .inr (0, n_fs (u.2.2 j)))) ∧ ∀ i j, i < u.1 → j < u.1 → ad i = ad j → i = j
def IX (h0 : Nat) (u : XS) (wx : va_W) (cA : ClassId) : Prop := ∃ (arr : Nat) (f : Nat → Option Nat) (ad : Nat → Nat), IXp h0 u wx cA arr f ad
/-- a node is another one now -/
theorem IXp.node {h0 : Nat} {u : XS} {wx : va_W} {cA : ClassId} {arr : Nat} {f : Nat → Option Nat} {ad : Nat → Nat} (h : IXp h0 u wx cA arr f ad) {j kn : Nat} {fs : List Value} (hj : j < u.1) (hn : wx[kn]? = some (ad j, .inr (0, fs))) (n2 : NS) :
    IXp h0 (u.1, u.2.1, va_up u.2.2 j n2) (wx.set kn (ad j, .inr (0, n_fs n2))) cA arr f ad := by
  obtain ⟨h1, ⟨kx, hx⟩, ⟨ka, ha⟩, h4, h5⟩ := h
  refine ⟨h1, ⟨kx, sn (fun e => ?_) hx⟩, ⟨ka, sn (fun e => ?_) ha⟩, fun i hi => ⟨(h4 i hi).1, ?_⟩, h5⟩
  · rw [e, hn] at hx
    have := congrArg Prod.snd (Option.some.inj hx)
    simp at this
  · rw [e, hn] at ha
    have := congrArg Prod.snd (Option.some.inj ha)
    simp at this
  · by_cases hij : i = j
    · subst hij
      exact ⟨kn, by rw [sg hn]; simp only [va_up_self]⟩
    · obtain ⟨-, k, hk⟩ := h4 i hi
      refine ⟨k, ?_⟩
      have hne : k ≠ kn := fun e => hij (h5 i j hi hj (by
        rw [e, hn] at hk
        exact (congrArg Prod.fst (Option.some.inj hk)).symm))
      show (wx.set kn _)[k]? = some (ad i, .inr (0, n_fs (va_up u.2.2 j n2 i)))
      rw [va_up_ne _ _ hij]
      exact sn hne hk
/-- the time is another one now -/
theorem IXp.time {h0 : Nat} {u : XS} {wx : va_W} {cA : ClassId} {arr : Nat} {f : Nat → Option Nat} {ad : Nat → Nat} (h : IXp h0 u wx cA arr f ad) {kx : Nat} {fs : List Value} (hx : wx[kx]? = some (h0, .inr (1, fs))) (t : Int64) :
    IXp h0 (u.1, t, u.2.2) (wx.set kx (h0, .inr (1, [.ref arr, .int (nI u.1), .long t]))) cA arr f ad := by
  obtain ⟨h1, -, ⟨ka, ha⟩, h4, h5⟩ := h
  refine ⟨h1, ⟨kx, sg hx⟩, ⟨ka, sn (fun e => ?_) ha⟩, fun i hi => ⟨(h4 i hi).1, ?_⟩, h5⟩
  · rw [e, hx] at ha
    have := congrArg Prod.snd (Option.some.inj ha)
    simp at this
  · obtain ⟨-, k, hk⟩ := h4 i hi
    refine ⟨k, sn (fun e => ?_) hk⟩
    rw [e, hx] at hk
    have := congrArg Prod.snd (Option.some.inj hk)
    simp at this
/-- the bus's world behind a method -/
def atX (D : va_G) (h0 : Nat) (A : Nat → Prop) (u : XS) (t : State) : Prop := ∃ (wx : va_W) (cA : ClassId), IX h0 u wx cA ∧ va_P D cls_ wx t.heap ∧ va_K D cls_ [(cA, .object R_N)] t ∧ va_D A wx
theorem pone {D : va_G} {cl : List vw_C} {ws : va_W} {H : Heap} {k : Nat} {q : Nat × va_E} (hP : va_P D cl ws H) (hk : ws[k]? = some q) : va_P D cl [q] H := fun j x hj => by
  rw [(one_ix hj).2]; exact hP k q hk
theorem al {ws : va_W} {k : Nat} {x y : Nat × va_E} (h : ws[k]? = some x) : (ws ++ [y])[k]? = some x := by
  rw [List.getElem?_append_left (List.getElem?_eq_some_iff.mp h).1]; exact h
theorem ae {ws : va_W} {y : Nat × va_E} : (ws ++ [y])[ws.length]? = some y := by
  rw [List.getElem?_append_right (Nat.le_refl _), Nat.sub_self]; rfl
theorem kl {ws : va_W} {k : Nat} {x : Nat × va_E} (h : ws[k]? = some x) : k < ws.length := (List.getElem?_eq_some_iff.mp h).1
/-- a node more -/
theorem IXp.grow {h0 : Nat} {u : XS} {wx : va_W} {cA : ClassId} {arr : Nat} {f : Nat → Option Nat} {ad : Nat → Nat} (h : IXp h0 u wx cA arr f ad) {A : Nat → Prop} {q : Nat} {n : NS} (hD : va_D A (wx ++ [(q, .inr (0, n_fs n))])) (hlt : u.1 < 100) {ka kx : Nat} {g : vp_A} {fs : List Value}
    (ha : wx[ka]? = some (arr, .inl (cA, g))) (hx : wx[kx]? = some (h0, .inr (1, fs))) :
    IXp h0 (u.1 + 1, u.2.1, va_up u.2.2 u.1 n) (((wx ++ ([(q, .inr (0, n_fs n))] : va_W) : va_W).set ka (arr, .inl (cA, 100, .inr (.inr (.inr (.inr (va_up f u.1 (some q)))))))).set kx (h0, .inr (1, [.ref arr, .int (nI (u.1 + 1)), .long u.2.1]))) cA arr (va_up f u.1 (some q)) (va_up ad u.1 q) := by
  obtain ⟨h1, -, -, h4, h5⟩ := h
  have hkk : ka ≠ kx := fun e => by
    rw [e, hx] at ha
    have := congrArg Prod.snd (Option.some.inj ha)
    simp at this
  refine ⟨by show u.1 + 1 ≤ 100; omega, ⟨kx, sg (sn (Ne.symm hkk) (al hx))⟩, ⟨ka, sn hkk (sg (al ha))⟩, fun j hj => ?_, fun i j hi hj hij => ?_⟩
  · have hj : j < u.1 + 1 := hj
    by_cases e : j = u.1
    · subst e
      refine ⟨by rw [va_up_self, va_up_self], wx.length, ?_⟩
      show (((wx ++ _).set ka _).set kx _)[wx.length]? = some (va_up ad u.1 q u.1, .inr (0, n_fs (va_up u.2.2 u.1 n u.1)))
      rw [va_up_self, va_up_self]
      exact sn (Ne.symm (Nat.ne_of_lt (kl hx))) (sn (Ne.symm (Nat.ne_of_lt (kl ha))) ae)
    · have hj2 : j < u.1 := by omega
      obtain ⟨g1, k, hk⟩ := h4 j hj2
      refine ⟨by rw [va_up_ne _ _ e, va_up_ne _ _ e]; exact g1, k, ?_⟩
      show (((wx ++ _).set ka _).set kx _)[k]? = some (va_up ad u.1 q j, .inr (0, n_fs (va_up u.2.2 u.1 n j)))
      rw [va_up_ne _ _ e, va_up_ne _ _ e]
      refine sn (fun e2 => ?_) (sn (fun e2 => ?_) (al hk))
      · rw [e2, hx] at hk
        have := congrArg Prod.snd (Option.some.inj hk)
        simp at this
      · rw [e2, ha] at hk
        have := congrArg Prod.snd (Option.some.inj hk)
        simp at this
  · have hi : i < u.1 + 1 := hi
    have hj : j < u.1 + 1 := hj
    have key : ∀ i, i < u.1 → ad i = q → False := fun i hi e => by
      obtain ⟨-, k, hk⟩ := h4 i hi
      have := hD.1 k wx.length _ _ (al hk) ae e
      have := kl hk
      omega
    by_cases e1 : i = u.1 <;> by_cases e2 : j = u.1
    · omega
    · subst e1
      rw [va_up_self, va_up_ne _ _ e2] at hij
      exact (key j (by omega) hij.symm).elim
    · subst e2
      rw [va_up_self, va_up_ne _ _ e1] at hij
      exact (key i (by omega) hij).elim
    · rw [va_up_ne _ _ e1, va_up_ne _ _ e2] at hij
      exact h5 i j (by omega) (by omega) hij
end
section
def f_X_isKind (k : Int32) : Int32 := if k < 0 then 0 else (if 10 < k then 0 else 1)
set_option maxHeartbeats 4000000 in
set_option maxRecDepth 100000 in
theorem c_X_isKind (l : Launch) (k : Int32) : Met l y_X_isKind (cw_X_isKind :: BIG) ((rmk 0 0 0)) (va_Pc [.int k] (fun U => NK U)) (vp_Si (fun r : Int32 => r = f_X_isKind k)) 0 0 (fun _ => False) := by
  refine Met.ofW (cc := b_X_isKind) (maxL := 1) (ret := (some .boolean)) (by decide) rfl ?_
  intro p e s m args below meth c s₁ B hml hv
  obtain ⟨rfl, hN⟩ := hv
  have hx := B.exec
  have hb := B.bytes
  have hr := B.returns
  have htB : ∀ w ∈ BIG, w.before _ s = true := fun w h => atoms_spec (ws := cw_X_isKind :: BIG) B.pre w (List.mem_cons_of_mem _ h)
  have hown : s.vm.findClass R_X = some m.cls := findClass_of_methodNamed B.named
  have hlocks := B.notSynchronized
  have hl := lv_entry ([.int k]) (n := 1) (Nat.le_of_ble_eq_true rfl)
  rw [lg_entry_eq]
  generalize (lg_sl ([.int k]) ++ List.replicate (1 - (lg_sl ([.int k])).length) Slot.unset).toArray = ls at hl ⊢
  have hl : lv_has ls 1 [(0, .int k)] := hl
  have hc : f_X_isKind k = f_X_isKind k := rfl
  refine lv_iload_n hx hb d_X_isKind_0 rfl (lv_at hl 0 rfl) ?_
  refine lv_if_lt (tgt := 14) hx hb d_X_isKind_1 (by decide) (fun c_1 => ?_) (fun c_1 => ?_)
  · refine lv_iconst (v := 0) hx hb d_X_isKind_14 (by decide) ?_
    exact W.zret (ty := .boolean) hx hb hr nb0 (fun t ht hW => ⟨_, rfl, (hc.trans (if_pos c_1)).symm, ht⟩) (fun _ h => by cases h) d_X_isKind_15
  · refine lv_iload_n hx hb d_X_isKind_4 rfl (lv_at hl 0 rfl) ?_
    refine lv_bipush (v := 10) hx hb d_X_isKind_5 (by decide) ?_
    refine lv_icmp_gt (tgt := 14) hx hb d_X_isKind_7 (by decide) (fun c_2 => ?_) (fun c_2 => ?_)
    · refine lv_iconst (v := 0) hx hb d_X_isKind_14 (by decide) ?_
      exact W.zret (ty := .boolean) hx hb hr nb0 (fun t ht hW => ⟨_, rfl, (hc.trans ((if_neg c_1).trans (if_pos c_2))).symm, ht⟩) (fun _ h => by cases h) d_X_isKind_15
    · refine lv_iconst (v := 1) hx hb d_X_isKind_10 (by decide) ?_
      refine lv_goto (tgt := 15) hx hb d_X_isKind_11 (by decide) ?_
      exact W.zret (ty := .boolean) hx hb hr nb1 (fun t ht hW => ⟨_, rfl, (hc.trans ((if_neg c_1).trans (if_neg c_2))).symm, ht⟩) (fun _ h => by cases h) d_X_isKind_15
def f_X_isAboutFlag (k : Int32) : Int32 := if k = 6 then 1 else (if k = 7 then 1 else (if k = 8 then 1 else 0))
set_option maxHeartbeats 4000000 in
set_option maxRecDepth 100000 in
theorem c_X_isAboutFlag (l : Launch) (k : Int32) : Met l y_X_isAboutFlag (cw_X_isAboutFlag :: BIG) ((rmk 0 0 0)) (va_Pc [.int k] (fun U => NK U)) (vp_Si (fun r : Int32 => r = f_X_isAboutFlag k)) 0 0 (fun _ => False) := by
  refine Met.ofW (cc := b_X_isAboutFlag) (maxL := 1) (ret := (some .boolean)) (by decide) rfl ?_
  intro p e s m args below meth c s₁ B hml hv
  obtain ⟨rfl, hN⟩ := hv
  have hx := B.exec
  have hb := B.bytes
  have hr := B.returns
  have htB : ∀ w ∈ BIG, w.before _ s = true := fun w h => atoms_spec (ws := cw_X_isAboutFlag :: BIG) B.pre w (List.mem_cons_of_mem _ h)
  have hown : s.vm.findClass R_X = some m.cls := findClass_of_methodNamed B.named
  have hlocks := B.notSynchronized
  have hl := lv_entry ([.int k]) (n := 1) (Nat.le_of_ble_eq_true rfl)
  rw [lg_entry_eq]
  generalize (lg_sl ([.int k]) ++ List.replicate (1 - (lg_sl ([.int k])).length) Slot.unset).toArray = ls at hl ⊢
  have hl : lv_has ls 1 [(0, .int k)] := hl
  have hc : f_X_isAboutFlag k = f_X_isAboutFlag k := rfl
  refine lv_iload_n hx hb d_X_isAboutFlag_0 rfl (lv_at hl 0 rfl) ?_
  refine lv_bipush (v := 6) hx hb d_X_isAboutFlag_1 (by decide) ?_
  refine lv_icmp_eq (tgt := 18) hx hb d_X_isAboutFlag_3 (by decide) (fun c_1 => ?_) (fun c_1 => ?_)
  · refine lv_iconst (v := 1) hx hb d_X_isAboutFlag_18 (by decide) ?_
    refine lv_goto (tgt := 23) hx hb d_X_isAboutFlag_19 (by decide) ?_
    exact W.zret (ty := .boolean) hx hb hr nb1 (fun t ht hW => ⟨_, rfl, (hc.trans (if_pos c_1)).symm, ht⟩) (fun _ h => by cases h) d_X_isAboutFlag_23
  · refine lv_iload_n hx hb d_X_isAboutFlag_6 rfl (lv_at hl 0 rfl) ?_
    refine lv_bipush (v := 7) hx hb d_X_isAboutFlag_7 (by decide) ?_
    refine lv_icmp_eq (tgt := 18) hx hb d_X_isAboutFlag_9 (by decide) (fun c_2 => ?_) (fun c_2 => ?_)
    · refine lv_iconst (v := 1) hx hb d_X_isAboutFlag_18 (by decide) ?_
      refine lv_goto (tgt := 23) hx hb d_X_isAboutFlag_19 (by decide) ?_
      exact W.zret (ty := .boolean) hx hb hr nb1 (fun t ht hW => ⟨_, rfl, (hc.trans ((if_neg c_1).trans (if_pos c_2))).symm, ht⟩) (fun _ h => by cases h) d_X_isAboutFlag_23
    · refine lv_iload_n hx hb d_X_isAboutFlag_12 rfl (lv_at hl 0 rfl) ?_
      refine lv_bipush (v := 8) hx hb d_X_isAboutFlag_13 (by decide) ?_
      refine lv_icmp_ne (tgt := 22) hx hb d_X_isAboutFlag_15 (by decide) (fun c_3 => ?_) (fun c_3 => ?_)
      · refine lv_iconst (v := 0) hx hb d_X_isAboutFlag_22 (by decide) ?_
        exact W.zret (ty := .boolean) hx hb hr nb0 (fun t ht hW => ⟨_, rfl, (hc.trans ((if_neg c_1).trans ((if_neg c_2).trans (if_neg c_3)))).symm, ht⟩) (fun _ h => by cases h) d_X_isAboutFlag_23
      · refine lv_iconst (v := 1) hx hb d_X_isAboutFlag_18 (by decide) ?_
        refine lv_goto (tgt := 23) hx hb d_X_isAboutFlag_19 (by decide) ?_
        exact W.zret (ty := .boolean) hx hb hr nb1 (fun t ht hW => ⟨_, rfl, (hc.trans ((if_neg c_1).trans ((if_neg c_2).trans (if_pos c_3)))).symm, ht⟩) (fun _ h => by cases h) d_X_isAboutFlag_23
def f_X_isError (k : Int32) : Int32 := if (f_X_isKind k) = 0 then 0 else (if k = 0 then 0 else (if (f_X_isAboutFlag k) = 0 then 1 else 0))
set_option maxHeartbeats 4000000 in
set_option maxRecDepth 100000 in
theorem c_X_isError (l : Launch) (k : Int32) : Met l y_X_isError (cw_X_isError :: BIG) ((rmk 1 0 0)) (va_Pc [.int k] (fun U => NK U)) (vp_Si (fun r : Int32 => r = f_X_isError k)) 0 0 (fun _ => False) := by
  refine Met.ofW (cc := b_X_isError) (maxL := 1) (ret := (some .boolean)) (by decide) rfl ?_
  intro p e s m args below meth c s₁ B hml hv
  obtain ⟨rfl, hN⟩ := hv
  have hx := B.exec
  have hb := B.bytes
  have hr := B.returns
  have htB : ∀ w ∈ BIG, w.before _ s = true := fun w h => atoms_spec (ws := cw_X_isError :: BIG) B.pre w (List.mem_cons_of_mem _ h)
  have hown : s.vm.findClass R_X = some m.cls := findClass_of_methodNamed B.named
  have hlocks := B.notSynchronized
  have hl := lv_entry ([.int k]) (n := 1) (Nat.le_of_ble_eq_true rfl)
  rw [lg_entry_eq]
  generalize (lg_sl ([.int k]) ++ List.replicate (1 - (lg_sl ([.int k])).length) Slot.unset).toArray = ls at hl ⊢
  have hl : lv_has ls 1 [(0, .int k)] := hl
  have hc : f_X_isError k = f_X_isError k := rfl
  refine lv_iload_n hx hb d_X_isError_0 rfl (lv_at hl 0 rfl) ?_
  refine vp_callSi (va_Run.run (va_runS (As := [.int k]) (rest := []) ⟨hx, hb, hml, hown, htB⟩ (c_X_isKind l k) (cwS 1 htB g_X_28 rfl rfl rfl (by decide +kernel) ⟨Nat.le_of_ble_eq_true rfl, Nat.le_of_ble_eq_true rfl⟩) (preN hN) rfl rfl hl.1 rfl (lv_room (Nat.le_of_ble_eq_true rfl)) d_X_isError_1 ⟨Nat.le_of_ble_eq_true rfl, Nat.le_of_ble_eq_true rfl⟩)) (fun r_1 hr_1 => ?_)
  subst hr_1
  refine lv_if_eq (tgt := 22) hx hb d_X_isError_4 (by decide) (fun c_2 => ?_) (fun c_2 => ?_)
  · refine lv_iconst (v := 0) hx hb d_X_isError_22 (by decide) ?_
    exact W.zret (ty := .boolean) hx hb hr nb0 (fun t ht hW => ⟨_, rfl, (hc.trans (if_pos c_2)).symm, ht⟩) (fun _ h => by cases h) d_X_isError_23
  · refine lv_iload_n hx hb d_X_isError_7 rfl (lv_at hl 0 rfl) ?_
    refine lv_if_eq (tgt := 22) hx hb d_X_isError_8 (by decide) (fun c_3 => ?_) (fun c_3 => ?_)
    · refine lv_iconst (v := 0) hx hb d_X_isError_22 (by decide) ?_
      exact W.zret (ty := .boolean) hx hb hr nb0 (fun t ht hW => ⟨_, rfl, (hc.trans ((if_neg c_2).trans (if_pos c_3))).symm, ht⟩) (fun _ h => by cases h) d_X_isError_23
    · refine lv_iload_n hx hb d_X_isError_11 rfl (lv_at hl 0 rfl) ?_
      refine vp_callSi (va_Run.run (va_runS (As := [.int k]) (rest := []) ⟨hx, hb, hml, hown, htB⟩ (c_X_isAboutFlag l k) (cwS 1 htB g_X_89 rfl rfl rfl (by decide +kernel) ⟨Nat.le_of_ble_eq_true rfl, Nat.le_of_ble_eq_true rfl⟩) (preN hN) rfl rfl hl.1 rfl (lv_room (Nat.le_of_ble_eq_true rfl)) d_X_isError_12 ⟨Nat.le_of_ble_eq_true rfl, Nat.le_of_ble_eq_true rfl⟩)) (fun r_4 hr_4 => ?_)
      subst hr_4
      refine lv_if_ne (tgt := 22) hx hb d_X_isError_15 (by decide) (fun c_5 => ?_) (fun c_5 => ?_)
      · refine lv_iconst (v := 0) hx hb d_X_isError_22 (by decide) ?_
        exact W.zret (ty := .boolean) hx hb hr nb0 (fun t ht hW => ⟨_, rfl, (hc.trans ((if_neg c_2).trans ((if_neg c_3).trans (if_neg c_5)))).symm, ht⟩) (fun _ h => by cases h) d_X_isError_23
      · refine lv_iconst (v := 1) hx hb d_X_isError_18 (by decide) ?_
        refine lv_goto (tgt := 23) hx hb d_X_isError_19 (by decide) ?_
        exact W.zret (ty := .boolean) hx hb hr nb1 (fun t ht hW => ⟨_, rfl, (hc.trans ((if_neg c_2).trans ((if_neg c_3).trans (if_pos c_5)))).symm, ht⟩) (fun _ h => by cases h) d_X_isError_23
end
section
def f_N_condition (u : NS) : Int32 := let a0 := u.1; let a1 := u.2.1; let a2 := u.2.2.1; if a2 = 0 then (if 127 < a0 then 1 else (if a1 ≤ 127 then 0 else 1)) else 2
set_option maxHeartbeats 4000000 in
set_option maxRecDepth 100000 in
theorem c_N_condition (l : Launch) (D : va_G) (h0 : Nat) (u : NS) : Met l y_N_condition (cw_N_condition :: BIG) ((rmk 0 0 0)) (va_Pc [.ref h0] (fun U => va_P D cls_ [(h0, .inr (0, n_fs u))] U.heap ∧ va_K D cls_ [] U ∧ NK U)) (vp_Si (fun r : Int32 => r = f_N_condition u)) 0 0 (fun _ => False) := by
  obtain ⟨a0, a1, a2, a3, a4, a5, a6, a7, a8, a9, a10, a11, a12, a13, a14⟩ := u
  refine Met.ofW (cc := b_N_condition) (maxL := 2) (ret := (some .int)) (by decide) rfl ?_
  intro p e s m args below meth c s₁ B hml hv
  obtain ⟨rfl, hP, hK, hN⟩ := hv
  have hx := B.exec
  have hb := B.bytes
  have hr := B.returns
  have htB : ∀ w ∈ BIG, w.before _ s = true := fun w h => atoms_spec (ws := cw_N_condition :: BIG) B.pre w (List.mem_cons_of_mem _ h)
  have hown : s.vm.findClass R_N = some m.cls := findClass_of_methodNamed B.named
  have hlocks := B.notSynchronized
  have hP : va_P D cls_ [(h0, .inr (0, [.int a0, .int a1, .int a2, .int a3, .int a4, .int a5, .int a6, .int a7, .int a8, .int a9, .int a10, .int a11, .long a12, .int a13, .int a14]))] s.heap := hP
  have hl := lv_entry ([.ref h0]) (n := 2) (Nat.le_of_ble_eq_true rfl)
  rw [lg_entry_eq]
  generalize (lg_sl ([.ref h0]) ++ List.replicate (2 - (lg_sl ([.ref h0])).length) Slot.unset).toArray = ls at hl ⊢
  have hl : lv_has ls 2 [(0, .ref h0)] := hl
  have hc : f_N_condition (a0, a1, a2, a3, a4, a5, a6, a7, a8, a9, a10, a11, a12, a13, a14) = f_N_condition (a0, a1, a2, a3, a4, a5, a6, a7, a8, a9, a10, a11, a12, a13, a14) := rfl
  refine lv_aload_n hx hb d_N_condition_0 rfl (lv_at hl 0 rfl) ?_
  refine va_get (D := D) (ci := 0) (v := .int a2) (C := R_N) (T := F_N) (N := 15) hx hb htB uw_N hown hK hP 0 rfl rfl 2 (by decide) (htB _ fl_N_9) (fun _ h9 => h9) rfl d_N_condition_1 ?_
  refine lv_if_eq (tgt := 9) hx hb d_N_condition_4 (by decide) (fun c_1 => ?_) (fun c_1 => ?_)
  · refine lv_aload_n hx hb d_N_condition_9 rfl (lv_at hl 0 rfl) ?_
    refine va_get (D := D) (ci := 0) (v := .int a0) (C := R_N) (T := F_N) (N := 15) hx hb htB uw_N hown hK hP 0 rfl rfl 0 (by decide) (htB _ fl_N_15) (fun _ h9 => h9) rfl d_N_condition_10 ?_
    refine lv_bipush (v := 127) hx hb d_N_condition_13 (by decide) ?_
    refine lv_icmp_gt (tgt := 27) hx hb d_N_condition_15 (by decide) (fun c_2 => ?_) (fun c_2 => ?_)
    · refine lv_iconst (v := 1) hx hb d_N_condition_27 (by decide) ?_
      refine lv_goto (tgt := 32) hx hb d_N_condition_28 (by decide) ?_
      refine lv_istore_n (lv' := [(1, .int 1), (0, .ref h0)]) hx hb d_N_condition_32 rfl hl (by decide) rfl (fun ls hl => ?_)
      refine lv_iload_n hx hb d_N_condition_33 rfl (lv_at hl 0 rfl) ?_
      refine lv_if_eq (tgt := 41) hx hb d_N_condition_34 (by decide) (fun c9 => absurd c9 (by decide)) (fun _ => ?_)
      refine lv_iconst (v := 1) hx hb d_N_condition_37 (by decide) ?_
      refine lv_goto (tgt := 42) hx hb d_N_condition_38 (by decide) ?_
      exact W.iret hx hb hr (fun t ht hW => ⟨_, rfl, (hc.trans ((if_pos c_1).trans (if_pos c_2))).symm, ht⟩) (fun _ h => by cases h) d_N_condition_42
    · refine lv_aload_n hx hb d_N_condition_18 rfl (lv_at hl 0 rfl) ?_
      refine va_get (D := D) (ci := 0) (v := .int a1) (C := R_N) (T := F_N) (N := 15) hx hb htB uw_N hown hK hP 0 rfl rfl 1 (by decide) (htB _ fl_N_19) (fun _ h9 => h9) rfl d_N_condition_19 ?_
      refine lv_bipush (v := 127) hx hb d_N_condition_22 (by decide) ?_
      refine lv_icmp_le (tgt := 31) hx hb d_N_condition_24 (by decide) (fun c_3 => ?_) (fun c_3 => ?_)
      · refine lv_iconst (v := 0) hx hb d_N_condition_31 (by decide) ?_
        refine lv_istore_n (lv' := [(1, .int 0), (0, .ref h0)]) hx hb d_N_condition_32 rfl hl (by decide) rfl (fun ls hl => ?_)
        refine lv_iload_n hx hb d_N_condition_33 rfl (lv_at hl 0 rfl) ?_
        refine lv_if_eq (tgt := 41) hx hb d_N_condition_34 (by decide) (fun _ => ?_) (fun c9 => absurd (by decide) c9)
        refine lv_iconst (v := 0) hx hb d_N_condition_41 (by decide) ?_
        exact W.iret hx hb hr (fun t ht hW => ⟨_, rfl, (hc.trans ((if_pos c_1).trans ((if_neg c_2).trans (if_pos c_3)))).symm, ht⟩) (fun _ h => by cases h) d_N_condition_42
      · refine lv_iconst (v := 1) hx hb d_N_condition_27 (by decide) ?_
        refine lv_goto (tgt := 32) hx hb d_N_condition_28 (by decide) ?_
        refine lv_istore_n (lv' := [(1, .int 1), (0, .ref h0)]) hx hb d_N_condition_32 rfl hl (by decide) rfl (fun ls hl => ?_)
        refine lv_iload_n hx hb d_N_condition_33 rfl (lv_at hl 0 rfl) ?_
        refine lv_if_eq (tgt := 41) hx hb d_N_condition_34 (by decide) (fun c9 => absurd c9 (by decide)) (fun _ => ?_)
        refine lv_iconst (v := 1) hx hb d_N_condition_37 (by decide) ?_
        refine lv_goto (tgt := 42) hx hb d_N_condition_38 (by decide) ?_
        exact W.iret hx hb hr (fun t ht hW => ⟨_, rfl, (hc.trans ((if_pos c_1).trans ((if_neg c_2).trans (if_neg c_3)))).symm, ht⟩) (fun _ h => by cases h) d_N_condition_42
  · refine lv_iconst (v := 2) hx hb d_N_condition_7 (by decide) ?_
    exact W.iret hx hb hr (fun t ht hW => ⟨_, rfl, (hc.trans (if_neg c_1)).symm, ht⟩) (fun _ h => by cases h) d_N_condition_8
def f_N_delay (u : NS) : Int64 := let a10 := u.2.2.2.2.2.2.2.2.2.2.1; if a10 ≤ 5 then 10 else 100
set_option maxHeartbeats 4000000 in
set_option maxRecDepth 100000 in
theorem c_N_delay (l : Launch) (D : va_G) (h0 : Nat) (u : NS) : Met l y_N_delay (cw_N_delay :: BIG) ((rmk 0 0 0)) (va_Pc [.ref h0] (fun U => va_P D cls_ [(h0, .inr (0, n_fs u))] U.heap ∧ va_K D cls_ [] U ∧ NK U)) (vp_Sl (fun r : Int64 => r = f_N_delay u)) 0 0 (fun _ => False) := by
  obtain ⟨a0, a1, a2, a3, a4, a5, a6, a7, a8, a9, a10, a11, a12, a13, a14⟩ := u
  refine Met.ofW (cc := b_N_delay) (maxL := 1) (ret := (some .long)) (by decide) rfl ?_
  intro p e s m args below meth c s₁ B hml hv
  obtain ⟨rfl, hP, hK, hN⟩ := hv
  have hx := B.exec
  have hb := B.bytes
  have hr := B.returns
  have htB : ∀ w ∈ BIG, w.before _ s = true := fun w h => atoms_spec (ws := cw_N_delay :: BIG) B.pre w (List.mem_cons_of_mem _ h)
  have hown : s.vm.findClass R_N = some m.cls := findClass_of_methodNamed B.named
  have hlocks := B.notSynchronized
  have hP : va_P D cls_ [(h0, .inr (0, [.int a0, .int a1, .int a2, .int a3, .int a4, .int a5, .int a6, .int a7, .int a8, .int a9, .int a10, .int a11, .long a12, .int a13, .int a14]))] s.heap := hP
  have hl := lv_entry ([.ref h0]) (n := 1) (Nat.le_of_ble_eq_true rfl)
  rw [lg_entry_eq]
  generalize (lg_sl ([.ref h0]) ++ List.replicate (1 - (lg_sl ([.ref h0])).length) Slot.unset).toArray = ls at hl ⊢
  have hl : lv_has ls 1 [(0, .ref h0)] := hl
  have hc : f_N_delay (a0, a1, a2, a3, a4, a5, a6, a7, a8, a9, a10, a11, a12, a13, a14) = f_N_delay (a0, a1, a2, a3, a4, a5, a6, a7, a8, a9, a10, a11, a12, a13, a14) := rfl
  refine lv_aload_n hx hb d_N_delay_0 rfl (lv_at hl 0 rfl) ?_
  refine va_get (D := D) (ci := 0) (v := .int a10) (C := R_N) (T := F_N) (N := 15) hx hb htB uw_N hown hK hP 0 rfl rfl 10 (by decide) (htB _ fl_N_71) (fun _ h9 => h9) rfl d_N_delay_1 ?_
  refine lv_iconst (v := 5) hx hb d_N_delay_4 (by decide) ?_
  refine lv_icmp_le (tgt := 14) hx hb d_N_delay_5 (by decide) (fun c_1 => ?_) (fun c_1 => ?_)
  · refine lv_ldc2 (v := 10) hx hb hown (htB _ k_N_113) d_N_delay_14 ?_
    exact W.lret hx hb hr (fun t ht hW => ⟨_, rfl, (hc.trans (if_pos c_1)).symm, ht⟩) (fun _ h => by cases h) d_N_delay_17
  · refine lv_ldc2 (v := 100) hx hb hown (htB _ k_N_111) d_N_delay_8 ?_
    refine lv_goto (tgt := 17) hx hb d_N_delay_11 (by decide) ?_
    exact W.lret hx hb hr (fun t ht hW => ⟨_, rfl, (hc.trans (if_neg c_1)).symm, ht⟩) (fun _ h => by cases h) d_N_delay_17
def f_N_senderPenalty (u : NS) (k : Int32) : Int32 := let a0 := u.1; let a1 := u.2.1; let a2 := u.2.2.1; let a3 := u.2.2.2.1; let a4 := u.2.2.2.2.1; let a5 := u.2.2.2.2.2.1; let a6 := u.2.2.2.2.2.2.1; let a7 := u.2.2.2.2.2.2.2.1; let a8 := u.2.2.2.2.2.2.2.2.1; let a9 := u.2.2.2.2.2.2.2.2.2.1; let a10 := u.2.2.2.2.2.2.2.2.2.2.1; let a11 := u.2.2.2.2.2.2.2.2.2.2.2.1; let a12 := u.2.2.2.2.2.2.2.2.2.2.2.2.1; let a13 := u.2.2.2.2.2.2.2.2.2.2.2.2.2.1; let a14 := u.2.2.2.2.2.2.2.2.2.2.2.2.2.2; if k = 6 then 0 else (if k = 9 then 0 else (if k = 5 then (if (f_N_condition (a0, a1, a2, a3, a4, a5, a6, a7, a8, a9, a10, a11, a12, a13, a14)) = 1 then 0 else 8) else 8))
set_option maxHeartbeats 4000000 in
set_option maxRecDepth 100000 in
theorem c_N_senderPenalty (l : Launch) (D : va_G) (h0 : Nat) (u : NS) (k : Int32) : Met l y_N_senderPenalty (cw_N_senderPenalty :: BIG) ((rmk 1 0 0)) (va_Pc [.ref h0, .int k] (fun U => va_P D cls_ [(h0, .inr (0, n_fs u))] U.heap ∧ va_K D cls_ [] U ∧ NK U)) (vp_Si (fun r : Int32 => r = f_N_senderPenalty u k)) 0 0 (fun _ => False) := by
  obtain ⟨a0, a1, a2, a3, a4, a5, a6, a7, a8, a9, a10, a11, a12, a13, a14⟩ := u
  refine Met.ofW (cc := b_N_senderPenalty) (maxL := 2) (ret := (some .int)) (by decide) rfl ?_
  intro p e s m args below meth c s₁ B hml hv
  obtain ⟨rfl, hP, hK, hN⟩ := hv
  have hx := B.exec
  have hb := B.bytes
  have hr := B.returns
  have htB : ∀ w ∈ BIG, w.before _ s = true := fun w h => atoms_spec (ws := cw_N_senderPenalty :: BIG) B.pre w (List.mem_cons_of_mem _ h)
  have hown : s.vm.findClass R_N = some m.cls := findClass_of_methodNamed B.named
  have hlocks := B.notSynchronized
  have hP : va_P D cls_ [(h0, .inr (0, [.int a0, .int a1, .int a2, .int a3, .int a4, .int a5, .int a6, .int a7, .int a8, .int a9, .int a10, .int a11, .long a12, .int a13, .int a14]))] s.heap := hP
  have hl := lv_entry ([.ref h0, .int k]) (n := 2) (Nat.le_of_ble_eq_true rfl)
  rw [lg_entry_eq]
  generalize (lg_sl ([.ref h0, .int k]) ++ List.replicate (2 - (lg_sl ([.ref h0, .int k])).length) Slot.unset).toArray = ls at hl ⊢
  have hl : lv_has ls 2 [(0, .ref h0), (1, .int k)] := hl
  have hc : f_N_senderPenalty (a0, a1, a2, a3, a4, a5, a6, a7, a8, a9, a10, a11, a12, a13, a14) k = f_N_senderPenalty (a0, a1, a2, a3, a4, a5, a6, a7, a8, a9, a10, a11, a12, a13, a14) k := rfl
  refine lv_iload_n hx hb d_N_senderPenalty_0 rfl (lv_at hl 1 rfl) ?_
  refine lv_bipush (v := 6) hx hb d_N_senderPenalty_1 (by decide) ?_
  refine lv_icmp_eq (tgt := 12) hx hb d_N_senderPenalty_3 (by decide) (fun c_1 => ?_) (fun c_1 => ?_)
  · refine lv_iconst (v := 0) hx hb d_N_senderPenalty_12 (by decide) ?_
    exact W.iret hx hb hr (fun t ht hW => ⟨_, rfl, (hc.trans (if_pos c_1)).symm, ht⟩) (fun _ h => by cases h) d_N_senderPenalty_13
  · refine lv_iload_n hx hb d_N_senderPenalty_6 rfl (lv_at hl 1 rfl) ?_
    refine lv_bipush (v := 9) hx hb d_N_senderPenalty_7 (by decide) ?_
    refine lv_icmp_ne (tgt := 14) hx hb d_N_senderPenalty_9 (by decide) (fun c_2 => ?_) (fun c_2 => ?_)
    · refine lv_iload_n hx hb d_N_senderPenalty_14 rfl (lv_at hl 1 rfl) ?_
      refine lv_iconst (v := 5) hx hb d_N_senderPenalty_15 (by decide) ?_
      refine lv_icmp_ne (tgt := 29) hx hb d_N_senderPenalty_16 (by decide) (fun c_3 => ?_) (fun c_3 => ?_)
      · refine lv_bipush (v := 8) hx hb d_N_senderPenalty_29 (by decide) ?_
        exact W.iret hx hb hr (fun t ht hW => ⟨_, rfl, (hc.trans ((if_neg c_1).trans ((if_neg c_2).trans (if_neg c_3)))).symm, ht⟩) (fun _ h => by cases h) d_N_senderPenalty_31
      · refine lv_aload_n hx hb d_N_senderPenalty_19 rfl (lv_at hl 0 rfl) ?_
        refine vp_callSi (va_Run.run (va_runV (As := []) (rest := []) ⟨hx, hb, hml, hown, htB⟩ (c_N_condition l D h0 (a0, a1, a2, a3, a4, a5, a6, a7, a8, a9, a10, a11, a12, a13, a14)) (cwV 0 htB g_N_52 rfl rfl rfl (by decide +kernel) ⟨Nat.le_of_ble_eq_true rfl, Nat.le_of_ble_eq_true rfl⟩) (preV hP hK hN (va_recv hK hP (ci := 0) (q0 := 0) rfl rfl)) rfl rfl hl.1 rfl (lv_room (Nat.le_of_ble_eq_true rfl)) d_N_senderPenalty_20 ⟨Nat.le_of_ble_eq_true rfl, Nat.le_of_ble_eq_true rfl⟩)) (fun r_4 hr_4 => ?_)
        subst hr_4
        refine lv_iconst (v := 1) hx hb d_N_senderPenalty_23 (by decide) ?_
        refine lv_icmp_ne (tgt := 29) hx hb d_N_senderPenalty_24 (by decide) (fun c_5 => ?_) (fun c_5 => ?_)
        · refine lv_bipush (v := 8) hx hb d_N_senderPenalty_29 (by decide) ?_
          exact W.iret hx hb hr (fun t ht hW => ⟨_, rfl, (hc.trans ((if_neg c_1).trans ((if_neg c_2).trans ((if_pos c_3).trans (if_neg c_5))))).symm, ht⟩) (fun _ h => by cases h) d_N_senderPenalty_31
        · refine lv_iconst (v := 0) hx hb d_N_senderPenalty_27 (by decide) ?_
          exact W.iret hx hb hr (fun t ht hW => ⟨_, rfl, (hc.trans ((if_neg c_1).trans ((if_neg c_2).trans ((if_pos c_3).trans (if_pos c_5))))).symm, ht⟩) (fun _ h => by cases h) d_N_senderPenalty_28
    · refine lv_iconst (v := 0) hx hb d_N_senderPenalty_12 (by decide) ?_
      exact W.iret hx hb hr (fun t ht hW => ⟨_, rfl, (hc.trans ((if_neg c_1).trans (if_pos c_2))).symm, ht⟩) (fun _ h => by cases h) d_N_senderPenalty_13
def f_N_receiverPenalty (u : NS) (k : Int32) : Int32 := if (f_X_isAboutFlag k) = 0 then 1 else 8
set_option maxHeartbeats 4000000 in
set_option maxRecDepth 100000 in
theorem c_N_receiverPenalty (l : Launch) (D : va_G) (h0 : Nat) (u : NS) (k : Int32) : Met l y_N_receiverPenalty (cw_N_receiverPenalty :: BIG) ((rmk 1 0 0)) (va_Pc [.ref h0, .int k] (fun U => va_P D cls_ [(h0, .inr (0, n_fs u))] U.heap ∧ va_K D cls_ [] U ∧ NK U)) (vp_Si (fun r : Int32 => r = f_N_receiverPenalty u k)) 0 0 (fun _ => False) := by
  obtain ⟨a0, a1, a2, a3, a4, a5, a6, a7, a8, a9, a10, a11, a12, a13, a14⟩ := u
  refine Met.ofW (cc := b_N_receiverPenalty) (maxL := 2) (ret := (some .int)) (by decide) rfl ?_
  intro p e s m args below meth c s₁ B hml hv
  obtain ⟨rfl, hP, hK, hN⟩ := hv
  have hx := B.exec
  have hb := B.bytes
  have hr := B.returns
  have htB : ∀ w ∈ BIG, w.before _ s = true := fun w h => atoms_spec (ws := cw_N_receiverPenalty :: BIG) B.pre w (List.mem_cons_of_mem _ h)
  have hown : s.vm.findClass R_N = some m.cls := findClass_of_methodNamed B.named
  have hlocks := B.notSynchronized
  have hP : va_P D cls_ [(h0, .inr (0, [.int a0, .int a1, .int a2, .int a3, .int a4, .int a5, .int a6, .int a7, .int a8, .int a9, .int a10, .int a11, .long a12, .int a13, .int a14]))] s.heap := hP
  have hl := lv_entry ([.ref h0, .int k]) (n := 2) (Nat.le_of_ble_eq_true rfl)
  rw [lg_entry_eq]
  generalize (lg_sl ([.ref h0, .int k]) ++ List.replicate (2 - (lg_sl ([.ref h0, .int k])).length) Slot.unset).toArray = ls at hl ⊢
  have hl : lv_has ls 2 [(0, .ref h0), (1, .int k)] := hl
  have hc : f_N_receiverPenalty (a0, a1, a2, a3, a4, a5, a6, a7, a8, a9, a10, a11, a12, a13, a14) k = f_N_receiverPenalty (a0, a1, a2, a3, a4, a5, a6, a7, a8, a9, a10, a11, a12, a13, a14) k := rfl
  refine lv_iload_n hx hb d_N_receiverPenalty_0 rfl (lv_at hl 1 rfl) ?_
  refine vp_callSi (va_Run.run (va_runSN (As := [.int k]) (rest := []) ⟨hx, hb, hml, hown, htB⟩ (c_X_isAboutFlag l k) ⟨va_cnB 1 htB gd_X_isAboutFlag rfl rfl rfl hN.n_N_88 (htB _ in_X) (by decide +kernel) ⟨Nat.le_of_ble_eq_true rfl, Nat.le_of_ble_eq_true rfl⟩, htB _ sta_X_isAboutFlag, trivial⟩ (preN hN) rfl rfl hl.1 rfl (lv_room (Nat.le_of_ble_eq_true rfl)) d_N_receiverPenalty_1 ⟨Nat.le_of_ble_eq_true rfl, Nat.le_of_ble_eq_true rfl⟩)) (fun r_1 hr_1 => ?_)
  subst hr_1
  refine lv_if_eq (tgt := 12) hx hb d_N_receiverPenalty_4 (by decide) (fun c_2 => ?_) (fun c_2 => ?_)
  · refine lv_iconst (v := 1) hx hb d_N_receiverPenalty_12 (by decide) ?_
    exact W.iret hx hb hr (fun t ht hW => ⟨_, rfl, (hc.trans (if_pos c_2)).symm, ht⟩) (fun _ h => by cases h) d_N_receiverPenalty_13
  · refine lv_bipush (v := 8) hx hb d_N_receiverPenalty_7 (by decide) ?_
    refine lv_goto (tgt := 13) hx hb d_N_receiverPenalty_9 (by decide) ?_
    exact W.iret hx hb hr (fun t ht hW => ⟨_, rfl, (hc.trans (if_neg c_2)).symm, ht⟩) (fun _ h => by cases h) d_N_receiverPenalty_13
def f_N_goOff (u : NS) : NS := let a0 := u.1; let a1 := u.2.1; let a4 := u.2.2.2.2.1; let a5 := u.2.2.2.2.2.1; let a6 := u.2.2.2.2.2.2.1; let a7 := u.2.2.2.2.2.2.2.1; let a8 := u.2.2.2.2.2.2.2.2.1; let a10 := u.2.2.2.2.2.2.2.2.2.2.1; let a12 := u.2.2.2.2.2.2.2.2.2.2.2.2.1; (a0, a1, 1, 0, a4, a5, a6, a7, a8, 0, a10 + 1, 0, a12, 0, 0)
set_option maxHeartbeats 4000000 in
set_option maxRecDepth 100000 in
theorem c_N_goOff (l : Launch) (D : va_G) (h0 : Nat) (u : NS) : Met l y_N_goOff (cw_N_goOff :: BIG) ((rmk 0 0 0)) (va_Pc [.ref h0] (fun U => va_P D cls_ [(h0, .inr (0, n_fs u))] U.heap ∧ va_K D cls_ [] U ∧ NK U)) (va_Qv (fun u2 : NS => u2 = f_N_goOff u) (fun (u2 : NS) (t : State) => va_P D cls_ [(h0, .inr (0, n_fs u2))] t.heap) (fun q : Nat => q = h0)) 0 0 (fun q : Nat => q = h0) := by
  obtain ⟨a0, a1, a2, a3, a4, a5, a6, a7, a8, a9, a10, a11, a12, a13, a14⟩ := u
  refine Met.ofW (cc := b_N_goOff) (maxL := 1) (ret := none) (by decide) rfl ?_
  intro p e s m args below meth c s₁ B hml hv
  obtain ⟨rfl, hP, hK, hN⟩ := hv
  have hx := B.exec
  have hb := B.bytes
  have hr := B.returns
  have htB : ∀ w ∈ BIG, w.before _ s = true := fun w h => atoms_spec (ws := cw_N_goOff :: BIG) B.pre w (List.mem_cons_of_mem _ h)
  have hown : s.vm.findClass R_N = some m.cls := findClass_of_methodNamed B.named
  have hlocks := B.notSynchronized
  have hP : va_P D cls_ [(h0, .inr (0, [.int a0, .int a1, .int a2, .int a3, .int a4, .int a5, .int a6, .int a7, .int a8, .int a9, .int a10, .int a11, .long a12, .int a13, .int a14]))] s.heap := hP
  have hD : va_D (fun q : Nat => q = h0) [(h0, .inr (0, [.int a0, .int a1, .int a2, .int a3, .int a4, .int a5, .int a6, .int a7, .int a8, .int a9, .int a10, .int a11, .long a12, .int a13, .int a14]))] := nD
  have hS : va_S (fun q : Nat => q = h0) s.heap s.heap [] := va_S.rf
  have hl := lv_entry ([.ref h0]) (n := 1) (Nat.le_of_ble_eq_true rfl)
  rw [lg_entry_eq]
  generalize (lg_sl ([.ref h0]) ++ List.replicate (1 - (lg_sl ([.ref h0])).length) Slot.unset).toArray = ls at hl ⊢
  have hl : lv_has ls 1 [(0, .ref h0)] := hl
  have hc : f_N_goOff (a0, a1, a2, a3, a4, a5, a6, a7, a8, a9, a10, a11, a12, a13, a14) = f_N_goOff (a0, a1, a2, a3, a4, a5, a6, a7, a8, a9, a10, a11, a12, a13, a14) := rfl
  refine lv_aload_n hx hb d_N_goOff_0 rfl (lv_at hl 0 rfl) ?_
  refine lv_iconst (v := 1) hx hb d_N_goOff_1 (by decide) ?_
  refine va_put (D := D) (ci := 0) (v := .int 1) (ty := .boolean) (C := R_N) (T := F_N) (N := 15) hx hb htB uw_N t_N t_N_ok n_N hown hK hP hD hS 0 rfl rfl 2 (by decide) (htB _ fl_N_9) (fun _ h9 => h9) rfl (t_N_ok 2 (by decide)) nb1 fb1 (Nat.le_of_ble_eq_true rfl) d_N_goOff_2 (fun H locs hP hD hS => ?_)
  have hP : va_P D cls_ [(h0, .inr (0, [.int a0, .int a1, .int 1, .int a3, .int a4, .int a5, .int a6, .int a7, .int a8, .int a9, .int a10, .int a11, .long a12, .int a13, .int a14]))] H := hP
  have hD : va_D (fun q : Nat => q = h0) [(h0, .inr (0, [.int a0, .int a1, .int 1, .int a3, .int a4, .int a5, .int a6, .int a7, .int a8, .int a9, .int a10, .int a11, .long a12, .int a13, .int a14]))] := hD
  refine lv_aload_n hx hb d_N_goOff_5 rfl (lv_at hl 0 rfl) ?_
  refine lv_dup hx hb d_N_goOff_6 rfl ?_
  refine va_get (D := D) (ci := 0) (v := .int a10) (C := R_N) (T := F_N) (N := 15) hx hb htB uw_N hown hK hP 0 rfl rfl 10 (by decide) (htB _ fl_N_71) (fun _ h9 => h9) rfl d_N_goOff_7 ?_
  refine lv_iconst (v := 1) hx hb d_N_goOff_10 (by decide) ?_
  refine lv_iadd hx hb d_N_goOff_11 ?_
  refine va_put (D := D) (ci := 0) (v := .int (a10 + 1)) (ty := .int) (C := R_N) (T := F_N) (N := 15) hx hb htB uw_N t_N t_N_ok n_N hown hK hP hD hS 0 rfl rfl 10 (by decide) (htB _ fl_N_71) (fun _ h9 => h9) rfl (t_N_ok 10 (by decide)) rfl rfl (Nat.le_of_ble_eq_true rfl) d_N_goOff_12 (fun H locs hP hD hS => ?_)
  have hP : va_P D cls_ [(h0, .inr (0, [.int a0, .int a1, .int 1, .int a3, .int a4, .int a5, .int a6, .int a7, .int a8, .int a9, .int (a10 + 1), .int a11, .long a12, .int a13, .int a14]))] H := hP
  have hD : va_D (fun q : Nat => q = h0) [(h0, .inr (0, [.int a0, .int a1, .int 1, .int a3, .int a4, .int a5, .int a6, .int a7, .int a8, .int a9, .int (a10 + 1), .int a11, .long a12, .int a13, .int a14]))] := hD
  refine lv_aload_n hx hb d_N_goOff_15 rfl (lv_at hl 0 rfl) ?_
  refine lv_iconst (v := 0) hx hb d_N_goOff_16 (by decide) ?_
  refine va_put (D := D) (ci := 0) (v := .int 0) (ty := .int) (C := R_N) (T := F_N) (N := 15) hx hb htB uw_N t_N t_N_ok n_N hown hK hP hD hS 0 rfl rfl 9 (by decide) (htB _ fl_N_62) (fun _ h9 => h9) rfl (t_N_ok 9 (by decide)) rfl rfl (Nat.le_of_ble_eq_true rfl) d_N_goOff_17 (fun H locs hP hD hS => ?_)
  have hP : va_P D cls_ [(h0, .inr (0, [.int a0, .int a1, .int 1, .int a3, .int a4, .int a5, .int a6, .int a7, .int a8, .int 0, .int (a10 + 1), .int a11, .long a12, .int a13, .int a14]))] H := hP
  have hD : va_D (fun q : Nat => q = h0) [(h0, .inr (0, [.int a0, .int a1, .int 1, .int a3, .int a4, .int a5, .int a6, .int a7, .int a8, .int 0, .int (a10 + 1), .int a11, .long a12, .int a13, .int a14]))] := hD
  refine lv_aload_n hx hb d_N_goOff_20 rfl (lv_at hl 0 rfl) ?_
  refine lv_iconst (v := 0) hx hb d_N_goOff_21 (by decide) ?_
  refine va_put (D := D) (ci := 0) (v := .int 0) (ty := .int) (C := R_N) (T := F_N) (N := 15) hx hb htB uw_N t_N t_N_ok n_N hown hK hP hD hS 0 rfl rfl 3 (by decide) (htB _ fl_N_91) (fun _ h9 => h9) rfl (t_N_ok 3 (by decide)) rfl rfl (Nat.le_of_ble_eq_true rfl) d_N_goOff_22 (fun H locs hP hD hS => ?_)
  have hP : va_P D cls_ [(h0, .inr (0, [.int a0, .int a1, .int 1, .int 0, .int a4, .int a5, .int a6, .int a7, .int a8, .int 0, .int (a10 + 1), .int a11, .long a12, .int a13, .int a14]))] H := hP
  have hD : va_D (fun q : Nat => q = h0) [(h0, .inr (0, [.int a0, .int a1, .int 1, .int 0, .int a4, .int a5, .int a6, .int a7, .int a8, .int 0, .int (a10 + 1), .int a11, .long a12, .int a13, .int a14]))] := hD
  refine lv_aload_n hx hb d_N_goOff_25 rfl (lv_at hl 0 rfl) ?_
  refine lv_iconst (v := 0) hx hb d_N_goOff_26 (by decide) ?_
  refine va_put (D := D) (ci := 0) (v := .int 0) (ty := .boolean) (C := R_N) (T := F_N) (N := 15) hx hb htB uw_N t_N t_N_ok n_N hown hK hP hD hS 0 rfl rfl 11 (by decide) (htB _ fl_N_94) (fun _ h9 => h9) rfl (t_N_ok 11 (by decide)) nb0 fb0 (Nat.le_of_ble_eq_true rfl) d_N_goOff_27 (fun H locs hP hD hS => ?_)
  have hP : va_P D cls_ [(h0, .inr (0, [.int a0, .int a1, .int 1, .int 0, .int a4, .int a5, .int a6, .int a7, .int a8, .int 0, .int (a10 + 1), .int 0, .long a12, .int a13, .int a14]))] H := hP
  have hD : va_D (fun q : Nat => q = h0) [(h0, .inr (0, [.int a0, .int a1, .int 1, .int 0, .int a4, .int a5, .int a6, .int a7, .int a8, .int 0, .int (a10 + 1), .int 0, .long a12, .int a13, .int a14]))] := hD
  refine lv_aload_n hx hb d_N_goOff_30 rfl (lv_at hl 0 rfl) ?_
  refine lv_iconst (v := 0) hx hb d_N_goOff_31 (by decide) ?_
  refine va_put (D := D) (ci := 0) (v := .int 0) (ty := .boolean) (C := R_N) (T := F_N) (N := 15) hx hb htB uw_N t_N t_N_ok n_N hown hK hP hD hS 0 rfl rfl 13 (by decide) (htB _ fl_N_97) (fun _ h9 => h9) rfl (t_N_ok 13 (by decide)) nb0 fb0 (Nat.le_of_ble_eq_true rfl) d_N_goOff_32 (fun H locs hP hD hS => ?_)
  have hP : va_P D cls_ [(h0, .inr (0, [.int a0, .int a1, .int 1, .int 0, .int a4, .int a5, .int a6, .int a7, .int a8, .int 0, .int (a10 + 1), .int 0, .long a12, .int 0, .int a14]))] H := hP
  have hD : va_D (fun q : Nat => q = h0) [(h0, .inr (0, [.int a0, .int a1, .int 1, .int 0, .int a4, .int a5, .int a6, .int a7, .int a8, .int 0, .int (a10 + 1), .int 0, .long a12, .int 0, .int a14]))] := hD
  refine lv_aload_n hx hb d_N_goOff_35 rfl (lv_at hl 0 rfl) ?_
  refine lv_iconst (v := 0) hx hb d_N_goOff_36 (by decide) ?_
  refine va_put (D := D) (ci := 0) (v := .int 0) (ty := .int) (C := R_N) (T := F_N) (N := 15) hx hb htB uw_N t_N t_N_ok n_N hown hK hP hD hS 0 rfl rfl 14 (by decide) (htB _ fl_N_100) (fun _ h9 => h9) rfl (t_N_ok 14 (by decide)) rfl rfl (Nat.le_of_ble_eq_true rfl) d_N_goOff_37 (fun H locs hP hD hS => ?_)
  have hP : va_P D cls_ [(h0, .inr (0, [.int a0, .int a1, .int 1, .int 0, .int a4, .int a5, .int a6, .int a7, .int a8, .int 0, .int (a10 + 1), .int 0, .long a12, .int 0, .int 0]))] H := hP
  have hD : va_D (fun q : Nat => q = h0) [(h0, .inr (0, [.int a0, .int a1, .int 1, .int 0, .int a4, .int a5, .int a6, .int a7, .int a8, .int 0, .int (a10 + 1), .int 0, .long a12, .int 0, .int 0]))] := hD
  exact W.vret hx hb hr (fun t ht hW => ⟨⟨(a0, a1, 1, 0, a4, a5, a6, a7, a8, 0, a10 + 1, 0, a12, 0, 0), rfl, (hc.trans (rfl)).symm, by show va_P _ _ _ t.heap; rw [ht]; exact hP⟩, hS.F ht⟩) hS.2.2 d_N_goOff_40
def f_N_comeBack (u : NS) : NS := let a5 := u.2.2.2.2.2.1; let a6 := u.2.2.2.2.2.2.1; let a7 := u.2.2.2.2.2.2.2.1; let a8 := u.2.2.2.2.2.2.2.2.1; let a9 := u.2.2.2.2.2.2.2.2.2.1; let a10 := u.2.2.2.2.2.2.2.2.2.2.1; let a11 := u.2.2.2.2.2.2.2.2.2.2.2.1; let a12 := u.2.2.2.2.2.2.2.2.2.2.2.2.1; let a13 := u.2.2.2.2.2.2.2.2.2.2.2.2.2.1; let a14 := u.2.2.2.2.2.2.2.2.2.2.2.2.2.2; (0, 0, 0, 0, 0, a5, a6, a7, a8, a9, a10, a11, a12, a13, a14)
set_option maxHeartbeats 4000000 in
set_option maxRecDepth 100000 in
theorem c_N_comeBack (l : Launch) (D : va_G) (h0 : Nat) (u : NS) : Met l y_N_comeBack (cw_N_comeBack :: BIG) ((rmk 0 0 0)) (va_Pc [.ref h0] (fun U => va_P D cls_ [(h0, .inr (0, n_fs u))] U.heap ∧ va_K D cls_ [] U ∧ NK U)) (va_Qv (fun u2 : NS => u2 = f_N_comeBack u) (fun (u2 : NS) (t : State) => va_P D cls_ [(h0, .inr (0, n_fs u2))] t.heap) (fun q : Nat => q = h0)) 0 0 (fun q : Nat => q = h0) := by
  obtain ⟨a0, a1, a2, a3, a4, a5, a6, a7, a8, a9, a10, a11, a12, a13, a14⟩ := u
  refine Met.ofW (cc := b_N_comeBack) (maxL := 1) (ret := none) (by decide) rfl ?_
  intro p e s m args below meth c s₁ B hml hv
  obtain ⟨rfl, hP, hK, hN⟩ := hv
  have hx := B.exec
  have hb := B.bytes
  have hr := B.returns
  have htB : ∀ w ∈ BIG, w.before _ s = true := fun w h => atoms_spec (ws := cw_N_comeBack :: BIG) B.pre w (List.mem_cons_of_mem _ h)
  have hown : s.vm.findClass R_N = some m.cls := findClass_of_methodNamed B.named
  have hlocks := B.notSynchronized
  have hP : va_P D cls_ [(h0, .inr (0, [.int a0, .int a1, .int a2, .int a3, .int a4, .int a5, .int a6, .int a7, .int a8, .int a9, .int a10, .int a11, .long a12, .int a13, .int a14]))] s.heap := hP
  have hD : va_D (fun q : Nat => q = h0) [(h0, .inr (0, [.int a0, .int a1, .int a2, .int a3, .int a4, .int a5, .int a6, .int a7, .int a8, .int a9, .int a10, .int a11, .long a12, .int a13, .int a14]))] := nD
  have hS : va_S (fun q : Nat => q = h0) s.heap s.heap [] := va_S.rf
  have hl := lv_entry ([.ref h0]) (n := 1) (Nat.le_of_ble_eq_true rfl)
  rw [lg_entry_eq]
  generalize (lg_sl ([.ref h0]) ++ List.replicate (1 - (lg_sl ([.ref h0])).length) Slot.unset).toArray = ls at hl ⊢
  have hl : lv_has ls 1 [(0, .ref h0)] := hl
  have hc : f_N_comeBack (a0, a1, a2, a3, a4, a5, a6, a7, a8, a9, a10, a11, a12, a13, a14) = f_N_comeBack (a0, a1, a2, a3, a4, a5, a6, a7, a8, a9, a10, a11, a12, a13, a14) := rfl
  refine lv_aload_n hx hb d_N_comeBack_0 rfl (lv_at hl 0 rfl) ?_
  refine lv_iconst (v := 0) hx hb d_N_comeBack_1 (by decide) ?_
  refine va_put (D := D) (ci := 0) (v := .int 0) (ty := .boolean) (C := R_N) (T := F_N) (N := 15) hx hb htB uw_N t_N t_N_ok n_N hown hK hP hD hS 0 rfl rfl 2 (by decide) (htB _ fl_N_9) (fun _ h9 => h9) rfl (t_N_ok 2 (by decide)) nb0 fb0 (Nat.le_of_ble_eq_true rfl) d_N_comeBack_2 (fun H locs hP hD hS => ?_)
  have hP : va_P D cls_ [(h0, .inr (0, [.int a0, .int a1, .int 0, .int a3, .int a4, .int a5, .int a6, .int a7, .int a8, .int a9, .int a10, .int a11, .long a12, .int a13, .int a14]))] H := hP
  have hD : va_D (fun q : Nat => q = h0) [(h0, .inr (0, [.int a0, .int a1, .int 0, .int a3, .int a4, .int a5, .int a6, .int a7, .int a8, .int a9, .int a10, .int a11, .long a12, .int a13, .int a14]))] := hD
  refine lv_aload_n hx hb d_N_comeBack_5 rfl (lv_at hl 0 rfl) ?_
  refine lv_iconst (v := 0) hx hb d_N_comeBack_6 (by decide) ?_
  refine va_put (D := D) (ci := 0) (v := .int 0) (ty := .int) (C := R_N) (T := F_N) (N := 15) hx hb htB uw_N t_N t_N_ok n_N hown hK hP hD hS 0 rfl rfl 0 (by decide) (htB _ fl_N_15) (fun _ h9 => h9) rfl (t_N_ok 0 (by decide)) rfl rfl (Nat.le_of_ble_eq_true rfl) d_N_comeBack_7 (fun H locs hP hD hS => ?_)
  have hP : va_P D cls_ [(h0, .inr (0, [.int 0, .int a1, .int 0, .int a3, .int a4, .int a5, .int a6, .int a7, .int a8, .int a9, .int a10, .int a11, .long a12, .int a13, .int a14]))] H := hP
  have hD : va_D (fun q : Nat => q = h0) [(h0, .inr (0, [.int 0, .int a1, .int 0, .int a3, .int a4, .int a5, .int a6, .int a7, .int a8, .int a9, .int a10, .int a11, .long a12, .int a13, .int a14]))] := hD
  refine lv_aload_n hx hb d_N_comeBack_10 rfl (lv_at hl 0 rfl) ?_
  refine lv_iconst (v := 0) hx hb d_N_comeBack_11 (by decide) ?_
  refine va_put (D := D) (ci := 0) (v := .int 0) (ty := .int) (C := R_N) (T := F_N) (N := 15) hx hb htB uw_N t_N t_N_ok n_N hown hK hP hD hS 0 rfl rfl 1 (by decide) (htB _ fl_N_19) (fun _ h9 => h9) rfl (t_N_ok 1 (by decide)) rfl rfl (Nat.le_of_ble_eq_true rfl) d_N_comeBack_12 (fun H locs hP hD hS => ?_)
  have hP : va_P D cls_ [(h0, .inr (0, [.int 0, .int 0, .int 0, .int a3, .int a4, .int a5, .int a6, .int a7, .int a8, .int a9, .int a10, .int a11, .long a12, .int a13, .int a14]))] H := hP
  have hD : va_D (fun q : Nat => q = h0) [(h0, .inr (0, [.int 0, .int 0, .int 0, .int a3, .int a4, .int a5, .int a6, .int a7, .int a8, .int a9, .int a10, .int a11, .long a12, .int a13, .int a14]))] := hD
  refine lv_aload_n hx hb d_N_comeBack_15 rfl (lv_at hl 0 rfl) ?_
  refine lv_iconst (v := 0) hx hb d_N_comeBack_16 (by decide) ?_
  refine va_put (D := D) (ci := 0) (v := .int 0) (ty := .int) (C := R_N) (T := F_N) (N := 15) hx hb htB uw_N t_N t_N_ok n_N hown hK hP hD hS 0 rfl rfl 3 (by decide) (htB _ fl_N_91) (fun _ h9 => h9) rfl (t_N_ok 3 (by decide)) rfl rfl (Nat.le_of_ble_eq_true rfl) d_N_comeBack_17 (fun H locs hP hD hS => ?_)
  have hP : va_P D cls_ [(h0, .inr (0, [.int 0, .int 0, .int 0, .int 0, .int a4, .int a5, .int a6, .int a7, .int a8, .int a9, .int a10, .int a11, .long a12, .int a13, .int a14]))] H := hP
  have hD : va_D (fun q : Nat => q = h0) [(h0, .inr (0, [.int 0, .int 0, .int 0, .int 0, .int a4, .int a5, .int a6, .int a7, .int a8, .int a9, .int a10, .int a11, .long a12, .int a13, .int a14]))] := hD
  refine lv_aload_n hx hb d_N_comeBack_20 rfl (lv_at hl 0 rfl) ?_
  refine lv_iconst (v := 0) hx hb d_N_comeBack_21 (by decide) ?_
  refine va_put (D := D) (ci := 0) (v := .int 0) (ty := .int) (C := R_N) (T := F_N) (N := 15) hx hb htB uw_N t_N t_N_ok n_N hown hK hP hD hS 0 rfl rfl 4 (by decide) (htB _ fl_N_56) (fun _ h9 => h9) rfl (t_N_ok 4 (by decide)) rfl rfl (Nat.le_of_ble_eq_true rfl) d_N_comeBack_22 (fun H locs hP hD hS => ?_)
  have hP : va_P D cls_ [(h0, .inr (0, [.int 0, .int 0, .int 0, .int 0, .int 0, .int a5, .int a6, .int a7, .int a8, .int a9, .int a10, .int a11, .long a12, .int a13, .int a14]))] H := hP
  have hD : va_D (fun q : Nat => q = h0) [(h0, .inr (0, [.int 0, .int 0, .int 0, .int 0, .int 0, .int a5, .int a6, .int a7, .int a8, .int a9, .int a10, .int a11, .long a12, .int a13, .int a14]))] := hD
  exact W.vret hx hb hr (fun t ht hW => ⟨⟨(0, 0, 0, 0, 0, a5, a6, a7, a8, a9, a10, a11, a12, a13, a14), rfl, (hc.trans (rfl)).symm, by show va_P _ _ _ t.heap; rw [ht]; exact hP⟩, hS.F ht⟩) hS.2.2 d_N_comeBack_25
def f_N_countRows_k2 (u : NS) (n : Int32) : NS := let b2_0 := u.1; let b2_1 := u.2.1; let b2_2 := u.2.2.1; let b2_3 := u.2.2.2.1; let b2_4 := u.2.2.2.2.1; let b2_5 := u.2.2.2.2.2.1; let b2_6 := u.2.2.2.2.2.2.1; let b2_7 := u.2.2.2.2.2.2.2.1; let b2_8 := u.2.2.2.2.2.2.2.2.1; let b2_9 := u.2.2.2.2.2.2.2.2.2.1; let b2_10 := u.2.2.2.2.2.2.2.2.2.2.1; let b2_11 := u.2.2.2.2.2.2.2.2.2.2.2.1; let b2_12 := u.2.2.2.2.2.2.2.2.2.2.2.2.1; let b2_13 := u.2.2.2.2.2.2.2.2.2.2.2.2.2.1; let b2_14 := u.2.2.2.2.2.2.2.2.2.2.2.2.2.2; (b2_0, b2_1, b2_2, b2_3, b2_4, b2_5, b2_6, b2_7, b2_8, b2_9, b2_10, b2_11, b2_12, b2_13, b2_14)
def f_N_countRows (u : NS) (n : Int32) : NS := let a0 := u.1; let a1 := u.2.1; let a2 := u.2.2.1; let a3 := u.2.2.2.1; let a4 := u.2.2.2.2.1; let a5 := u.2.2.2.2.2.1; let a6 := u.2.2.2.2.2.2.1; let a7 := u.2.2.2.2.2.2.2.1; let a8 := u.2.2.2.2.2.2.2.2.1; let a9 := u.2.2.2.2.2.2.2.2.2.1; let a10 := u.2.2.2.2.2.2.2.2.2.2.1; let a11 := u.2.2.2.2.2.2.2.2.2.2.2.1; let a12 := u.2.2.2.2.2.2.2.2.2.2.2.2.1; let a13 := u.2.2.2.2.2.2.2.2.2.2.2.2.2.1; let a14 := u.2.2.2.2.2.2.2.2.2.2.2.2.2.2; if n < (128 - a14) then (a0, a1, a2, a3, a4, a5, a6, a7, a8, a9, a10, a11, a12, a13, a14 + n) else (f_N_countRows_k2 (f_N_comeBack (a0, a1, a2, a3, a4, a5, a6, a7, a8, a9, a10, a11, a12, a13, a14)) n)
set_option maxHeartbeats 4000000 in
set_option maxRecDepth 100000 in
theorem c_N_countRows (l : Launch) (D : va_G) (h0 : Nat) (u : NS) (n : Int32) : Met l y_N_countRows (cw_N_countRows :: BIG) ((rmk 1 0 0)) (va_Pc [.ref h0, .int n] (fun U => va_P D cls_ [(h0, .inr (0, n_fs u))] U.heap ∧ va_K D cls_ [] U ∧ NK U)) (va_Qv (fun u2 : NS => u2 = f_N_countRows u n) (fun (u2 : NS) (t : State) => va_P D cls_ [(h0, .inr (0, n_fs u2))] t.heap) (fun q : Nat => q = h0)) 0 0 (fun q : Nat => q = h0) := by
  obtain ⟨a0, a1, a2, a3, a4, a5, a6, a7, a8, a9, a10, a11, a12, a13, a14⟩ := u
  refine Met.ofW (cc := b_N_countRows) (maxL := 2) (ret := none) (by decide) rfl ?_
  intro p e s m args below meth c s₁ B hml hv
  obtain ⟨rfl, hP, hK, hN⟩ := hv
  have hx := B.exec
  have hb := B.bytes
  have hr := B.returns
  have htB : ∀ w ∈ BIG, w.before _ s = true := fun w h => atoms_spec (ws := cw_N_countRows :: BIG) B.pre w (List.mem_cons_of_mem _ h)
  have hown : s.vm.findClass R_N = some m.cls := findClass_of_methodNamed B.named
  have hlocks := B.notSynchronized
  have hP : va_P D cls_ [(h0, .inr (0, [.int a0, .int a1, .int a2, .int a3, .int a4, .int a5, .int a6, .int a7, .int a8, .int a9, .int a10, .int a11, .long a12, .int a13, .int a14]))] s.heap := hP
  have hD : va_D (fun q : Nat => q = h0) [(h0, .inr (0, [.int a0, .int a1, .int a2, .int a3, .int a4, .int a5, .int a6, .int a7, .int a8, .int a9, .int a10, .int a11, .long a12, .int a13, .int a14]))] := nD
  have hS : va_S (fun q : Nat => q = h0) s.heap s.heap [] := va_S.rf
  have hl := lv_entry ([.ref h0, .int n]) (n := 2) (Nat.le_of_ble_eq_true rfl)
  rw [lg_entry_eq]
  generalize (lg_sl ([.ref h0, .int n]) ++ List.replicate (2 - (lg_sl ([.ref h0, .int n])).length) Slot.unset).toArray = ls at hl ⊢
  have hl : lv_has ls 2 [(0, .ref h0), (1, .int n)] := hl
  have hc : f_N_countRows (a0, a1, a2, a3, a4, a5, a6, a7, a8, a9, a10, a11, a12, a13, a14) n = f_N_countRows (a0, a1, a2, a3, a4, a5, a6, a7, a8, a9, a10, a11, a12, a13, a14) n := rfl
  refine lv_iload_n hx hb d_N_countRows_0 rfl (lv_at hl 1 rfl) ?_
  refine lv_sipush (v := 128) hx hb d_N_countRows_1 (by decide) ?_
  refine lv_aload_n hx hb d_N_countRows_4 rfl (lv_at hl 0 rfl) ?_
  refine va_get (D := D) (ci := 0) (v := .int a14) (C := R_N) (T := F_N) (N := 15) hx hb htB uw_N hown hK hP 0 rfl rfl 14 (by decide) (htB _ fl_N_100) (fun _ h9 => h9) rfl d_N_countRows_5 ?_
  refine lv_isub hx hb d_N_countRows_8 ?_
  refine lv_icmp_lt (tgt := 19) hx hb d_N_countRows_9 (by decide) (fun c_1 => ?_) (fun c_1 => ?_)
  · refine lv_aload_n hx hb d_N_countRows_19 rfl (lv_at hl 0 rfl) ?_
    refine lv_dup hx hb d_N_countRows_20 rfl ?_
    refine va_get (D := D) (ci := 0) (v := .int a14) (C := R_N) (T := F_N) (N := 15) hx hb htB uw_N hown hK hP 0 rfl rfl 14 (by decide) (htB _ fl_N_100) (fun _ h9 => h9) rfl d_N_countRows_21 ?_
    refine lv_iload_n hx hb d_N_countRows_24 rfl (lv_at hl 1 rfl) ?_
    refine lv_iadd hx hb d_N_countRows_25 ?_
    refine va_put (D := D) (ci := 0) (v := .int (a14 + n)) (ty := .int) (C := R_N) (T := F_N) (N := 15) hx hb htB uw_N t_N t_N_ok n_N hown hK hP hD hS 0 rfl rfl 14 (by decide) (htB _ fl_N_100) (fun _ h9 => h9) rfl (t_N_ok 14 (by decide)) rfl rfl (Nat.le_of_ble_eq_true rfl) d_N_countRows_26 (fun H locs hP hD hS => ?_)
    have hP : va_P D cls_ [(h0, .inr (0, [.int a0, .int a1, .int a2, .int a3, .int a4, .int a5, .int a6, .int a7, .int a8, .int a9, .int a10, .int a11, .long a12, .int a13, .int (a14 + n)]))] H := hP
    have hD : va_D (fun q : Nat => q = h0) [(h0, .inr (0, [.int a0, .int a1, .int a2, .int a3, .int a4, .int a5, .int a6, .int a7, .int a8, .int a9, .int a10, .int a11, .long a12, .int a13, .int (a14 + n)]))] := hD
    exact W.vret hx hb hr (fun t ht hW => ⟨⟨(a0, a1, a2, a3, a4, a5, a6, a7, a8, a9, a10, a11, a12, a13, a14 + n), rfl, (hc.trans (if_pos c_1)).symm, by show va_P _ _ _ t.heap; rw [ht]; exact hP⟩, hS.F ht⟩) hS.2.2 d_N_countRows_29
  · refine lv_aload_n hx hb d_N_countRows_12 rfl (lv_at hl 0 rfl) ?_
    refine va_callv (va_runV (As := []) (rest := []) ⟨hx, hb, hml, hown, htB⟩ (c_N_comeBack l D h0 (a0, a1, a2, a3, a4, a5, a6, a7, a8, a9, a10, a11, a12, a13, a14)) (cwV 0 htB g_N_115 rfl rfl rfl (by decide +kernel) ⟨Nat.le_of_ble_eq_true rfl, Nat.le_of_ble_eq_true rfl⟩) (preV hP hK hN (va_recv hK hP (ci := 0) (q0 := 0) rfl rfl)) rfl rfl hl.1 rfl (lv_room (Nat.le_of_ble_eq_true rfl)) d_N_countRows_13 ⟨Nat.le_of_ble_eq_true rfl, Nat.le_of_ble_eq_true rfl⟩) hS (fun _ _ h => h) (fun _ h => h) (fun u t H locs ht hvm hw hP hz1 hk1 hS => ?_)
    rw [ht] at hP
    obtain ⟨b2_0, b2_1, b2_2, b2_3, b2_4, b2_5, b2_6, b2_7, b2_8, b2_9, b2_10, b2_11, b2_12, b2_13, b2_14⟩ := u
    have hP : va_P D cls_ [(h0, .inr (0, [.int b2_0, .int b2_1, .int b2_2, .int b2_3, .int b2_4, .int b2_5, .int b2_6, .int b2_7, .int b2_8, .int b2_9, .int b2_10, .int b2_11, .long b2_12, .int b2_13, .int b2_14]))] H := hP
    have hD : va_D (fun q : Nat => q = h0) [(h0, .inr (0, [.int b2_0, .int b2_1, .int b2_2, .int b2_3, .int b2_4, .int b2_5, .int b2_6, .int b2_7, .int b2_8, .int b2_9, .int b2_10, .int b2_11, .long b2_12, .int b2_13, .int b2_14]))] := nD
    have hc : f_N_countRows (a0, a1, a2, a3, a4, a5, a6, a7, a8, a9, a10, a11, a12, a13, a14) n = f_N_countRows_k2 (b2_0, b2_1, b2_2, b2_3, b2_4, b2_5, b2_6, b2_7, b2_8, b2_9, b2_10, b2_11, b2_12, b2_13, b2_14) n := (hc.trans (if_neg c_1)).trans (congrArg (fun z => f_N_countRows_k2 z n) hw.symm)
    refine lv_goto (tgt := 29) hx hb d_N_countRows_16 (by decide) ?_
    exact W.vret hx hb hr (fun t ht hW => ⟨⟨(b2_0, b2_1, b2_2, b2_3, b2_4, b2_5, b2_6, b2_7, b2_8, b2_9, b2_10, b2_11, b2_12, b2_13, b2_14), rfl, (hc.trans (rfl)).symm, by show va_P _ _ _ t.heap; rw [ht]; exact hP⟩, hS.F ht⟩) hS.2.2 d_N_countRows_29
end
section
def f_N_lowerCounter (u : NS) (w : Int32) : NS := let a0 := u.1; let a1 := u.2.1; let a2 := u.2.2.1; let a3 := u.2.2.2.1; let a4 := u.2.2.2.2.1; let a5 := u.2.2.2.2.2.1; let a6 := u.2.2.2.2.2.2.1; let a7 := u.2.2.2.2.2.2.2.1; let a8 := u.2.2.2.2.2.2.2.2.1; let a9 := u.2.2.2.2.2.2.2.2.2.1; let a10 := u.2.2.2.2.2.2.2.2.2.2.1; let a11 := u.2.2.2.2.2.2.2.2.2.2.2.1; let a12 := u.2.2.2.2.2.2.2.2.2.2.2.2.1; let a13 := u.2.2.2.2.2.2.2.2.2.2.2.2.2.1; let a14 := u.2.2.2.2.2.2.2.2.2.2.2.2.2.2; if w = 0 then (if a1 ≤ 127 then (a0, (if (a1 - 1) < 0 then 0 else (a1 - 1)), a2, a3, a4, a5, a6, a7, a8, a9, a10, a11, a12, a13, a14) else (a0, 119, a2, a3, a4, a5, a6, a7, a8, a9, a10, a11, a12, a13, a14)) else ((if (a0 - 1) < 0 then 0 else (a0 - 1)), a1, a2, a3, a4, a5, a6, a7, a8, a9, a10, a11, a12, a13, a14)
set_option maxHeartbeats 4000000 in
set_option maxRecDepth 100000 in
theorem c_N_lowerCounter (l : Launch) (D : va_G) (h0 : Nat) (u : NS) (w : Int32) : Met l y_N_lowerCounter (cw_N_lowerCounter :: BIG) ((rmk 1 0 0)) (va_Pc [.ref h0, .int w] (fun U => va_P D cls_ [(h0, .inr (0, n_fs u))] U.heap ∧ va_K D cls_ [] U ∧ NK U)) (va_Qv (fun u2 : NS => u2 = f_N_lowerCounter u w) (fun (u2 : NS) (t : State) => va_P D cls_ [(h0, .inr (0, n_fs u2))] t.heap) (fun q : Nat => q = h0)) 0 0 (fun q : Nat => q = h0) := by
  obtain ⟨a0, a1, a2, a3, a4, a5, a6, a7, a8, a9, a10, a11, a12, a13, a14⟩ := u
  refine Met.ofW (cc := b_N_lowerCounter) (maxL := 2) (ret := none) (by decide) rfl ?_
  intro p e s m args below meth c s₁ B hml hv
  obtain ⟨rfl, hP, hK, hN⟩ := hv
  have hx := B.exec
  have hb := B.bytes
  have hr := B.returns
  have htB : ∀ w ∈ BIG, w.before _ s = true := fun w h => atoms_spec (ws := cw_N_lowerCounter :: BIG) B.pre w (List.mem_cons_of_mem _ h)
  have hown : s.vm.findClass R_N = some m.cls := findClass_of_methodNamed B.named
  have hlocks := B.notSynchronized
  have hP : va_P D cls_ [(h0, .inr (0, [.int a0, .int a1, .int a2, .int a3, .int a4, .int a5, .int a6, .int a7, .int a8, .int a9, .int a10, .int a11, .long a12, .int a13, .int a14]))] s.heap := hP
  have hD : va_D (fun q : Nat => q = h0) [(h0, .inr (0, [.int a0, .int a1, .int a2, .int a3, .int a4, .int a5, .int a6, .int a7, .int a8, .int a9, .int a10, .int a11, .long a12, .int a13, .int a14]))] := nD
  have hS : va_S (fun q : Nat => q = h0) s.heap s.heap [] := va_S.rf
  have hl := lv_entry ([.ref h0, .int w]) (n := 2) (Nat.le_of_ble_eq_true rfl)
  rw [lg_entry_eq]
  generalize (lg_sl ([.ref h0, .int w]) ++ List.replicate (2 - (lg_sl ([.ref h0, .int w])).length) Slot.unset).toArray = ls at hl ⊢
  have hl : lv_has ls 2 [(0, .ref h0), (1, .int w)] := hl
  have hc : f_N_lowerCounter (a0, a1, a2, a3, a4, a5, a6, a7, a8, a9, a10, a11, a12, a13, a14) w = f_N_lowerCounter (a0, a1, a2, a3, a4, a5, a6, a7, a8, a9, a10, a11, a12, a13, a14) w := rfl
  refine lv_iload_n hx hb d_N_lowerCounter_0 rfl (lv_at hl 1 rfl) ?_
  refine lv_if_eq (tgt := 21) hx hb d_N_lowerCounter_1 (by decide) (fun c_1 => ?_) (fun c_1 => ?_)
  · refine lv_aload_n hx hb d_N_lowerCounter_21 rfl (lv_at hl 0 rfl) ?_
    refine va_get (D := D) (ci := 0) (v := .int a1) (C := R_N) (T := F_N) (N := 15) hx hb htB uw_N hown hK hP 0 rfl rfl 1 (by decide) (htB _ fl_N_19) (fun _ h9 => h9) rfl d_N_lowerCounter_22 ?_
    refine lv_bipush (v := 127) hx hb d_N_lowerCounter_25 (by decide) ?_
    refine lv_icmp_le (tgt := 39) hx hb d_N_lowerCounter_27 (by decide) (fun c_2 => ?_) (fun c_2 => ?_)
    · refine lv_aload_n hx hb d_N_lowerCounter_39 rfl (lv_at hl 0 rfl) ?_
      refine lv_aload_n hx hb d_N_lowerCounter_40 rfl (lv_at hl 0 rfl) ?_
      refine va_get (D := D) (ci := 0) (v := .int a1) (C := R_N) (T := F_N) (N := 15) hx hb htB uw_N hown hK hP 0 rfl rfl 1 (by decide) (htB _ fl_N_19) (fun _ h9 => h9) rfl d_N_lowerCounter_41 ?_
      refine lv_iconst (v := 1) hx hb d_N_lowerCounter_44 (by decide) ?_
      refine lv_isub hx hb d_N_lowerCounter_45 ?_
      refine lv_iconst (v := 0) hx hb d_N_lowerCounter_46 (by decide) ?_
      refine va_mmax hx hb (hml.trans hl.1.symm) hown (htB _ ml_N_85) (htB _ st_math_max) (htB _ in_math) (htB _ co_math_max) (Nat.le_of_ble_eq_true rfl) (Nat.le_of_ble_eq_true rfl) (Nat.le_of_ble_eq_true rfl) (Nat.le_of_ble_eq_true rfl) d_N_lowerCounter_47 ?_
      refine va_put (D := D) (ci := 0) (v := .int (if (a1 - 1) < 0 then 0 else (a1 - 1))) (ty := .int) (C := R_N) (T := F_N) (N := 15) hx hb htB uw_N t_N t_N_ok n_N hown hK hP hD hS 0 rfl rfl 1 (by decide) (htB _ fl_N_19) (fun _ h9 => h9) rfl (t_N_ok 1 (by decide)) rfl rfl (Nat.le_of_ble_eq_true rfl) d_N_lowerCounter_50 (fun H locs hP hD hS => ?_)
      have hP : va_P D cls_ [(h0, .inr (0, [.int a0, .int (if (a1 - 1) < 0 then 0 else (a1 - 1)), .int a2, .int a3, .int a4, .int a5, .int a6, .int a7, .int a8, .int a9, .int a10, .int a11, .long a12, .int a13, .int a14]))] H := hP
      have hD : va_D (fun q : Nat => q = h0) [(h0, .inr (0, [.int a0, .int (if (a1 - 1) < 0 then 0 else (a1 - 1)), .int a2, .int a3, .int a4, .int a5, .int a6, .int a7, .int a8, .int a9, .int a10, .int a11, .long a12, .int a13, .int a14]))] := hD
      exact W.vret hx hb hr (fun t ht hW => ⟨⟨(a0, (if (a1 - 1) < 0 then 0 else (a1 - 1)), a2, a3, a4, a5, a6, a7, a8, a9, a10, a11, a12, a13, a14), rfl, (hc.trans ((if_pos c_1).trans (if_pos c_2))).symm, by show va_P _ _ _ t.heap; rw [ht]; exact hP⟩, hS.F ht⟩) hS.2.2 d_N_lowerCounter_53
    · refine lv_aload_n hx hb d_N_lowerCounter_30 rfl (lv_at hl 0 rfl) ?_
      refine lv_bipush (v := 119) hx hb d_N_lowerCounter_31 (by decide) ?_
      refine va_put (D := D) (ci := 0) (v := .int 119) (ty := .int) (C := R_N) (T := F_N) (N := 15) hx hb htB uw_N t_N t_N_ok n_N hown hK hP hD hS 0 rfl rfl 1 (by decide) (htB _ fl_N_19) (fun _ h9 => h9) rfl (t_N_ok 1 (by decide)) rfl rfl (Nat.le_of_ble_eq_true rfl) d_N_lowerCounter_33 (fun H locs hP hD hS => ?_)
      have hP : va_P D cls_ [(h0, .inr (0, [.int a0, .int 119, .int a2, .int a3, .int a4, .int a5, .int a6, .int a7, .int a8, .int a9, .int a10, .int a11, .long a12, .int a13, .int a14]))] H := hP
      have hD : va_D (fun q : Nat => q = h0) [(h0, .inr (0, [.int a0, .int 119, .int a2, .int a3, .int a4, .int a5, .int a6, .int a7, .int a8, .int a9, .int a10, .int a11, .long a12, .int a13, .int a14]))] := hD
      refine lv_goto (tgt := 53) hx hb d_N_lowerCounter_36 (by decide) ?_
      exact W.vret hx hb hr (fun t ht hW => ⟨⟨(a0, 119, a2, a3, a4, a5, a6, a7, a8, a9, a10, a11, a12, a13, a14), rfl, (hc.trans ((if_pos c_1).trans (if_neg c_2))).symm, by show va_P _ _ _ t.heap; rw [ht]; exact hP⟩, hS.F ht⟩) hS.2.2 d_N_lowerCounter_53
  · refine lv_aload_n hx hb d_N_lowerCounter_4 rfl (lv_at hl 0 rfl) ?_
    refine lv_aload_n hx hb d_N_lowerCounter_5 rfl (lv_at hl 0 rfl) ?_
    refine va_get (D := D) (ci := 0) (v := .int a0) (C := R_N) (T := F_N) (N := 15) hx hb htB uw_N hown hK hP 0 rfl rfl 0 (by decide) (htB _ fl_N_15) (fun _ h9 => h9) rfl d_N_lowerCounter_6 ?_
    refine lv_iconst (v := 1) hx hb d_N_lowerCounter_9 (by decide) ?_
    refine lv_isub hx hb d_N_lowerCounter_10 ?_
    refine lv_iconst (v := 0) hx hb d_N_lowerCounter_11 (by decide) ?_
    refine va_mmax hx hb (hml.trans hl.1.symm) hown (htB _ ml_N_85) (htB _ st_math_max) (htB _ in_math) (htB _ co_math_max) (Nat.le_of_ble_eq_true rfl) (Nat.le_of_ble_eq_true rfl) (Nat.le_of_ble_eq_true rfl) (Nat.le_of_ble_eq_true rfl) d_N_lowerCounter_12 ?_
    refine va_put (D := D) (ci := 0) (v := .int (if (a0 - 1) < 0 then 0 else (a0 - 1))) (ty := .int) (C := R_N) (T := F_N) (N := 15) hx hb htB uw_N t_N t_N_ok n_N hown hK hP hD hS 0 rfl rfl 0 (by decide) (htB _ fl_N_15) (fun _ h9 => h9) rfl (t_N_ok 0 (by decide)) rfl rfl (Nat.le_of_ble_eq_true rfl) d_N_lowerCounter_15 (fun H locs hP hD hS => ?_)
    have hP : va_P D cls_ [(h0, .inr (0, [.int (if (a0 - 1) < 0 then 0 else (a0 - 1)), .int a1, .int a2, .int a3, .int a4, .int a5, .int a6, .int a7, .int a8, .int a9, .int a10, .int a11, .long a12, .int a13, .int a14]))] H := hP
    have hD : va_D (fun q : Nat => q = h0) [(h0, .inr (0, [.int (if (a0 - 1) < 0 then 0 else (a0 - 1)), .int a1, .int a2, .int a3, .int a4, .int a5, .int a6, .int a7, .int a8, .int a9, .int a10, .int a11, .long a12, .int a13, .int a14]))] := hD
    refine lv_goto (tgt := 53) hx hb d_N_lowerCounter_18 (by decide) ?_
    exact W.vret hx hb hr (fun t ht hW => ⟨⟨((if (a0 - 1) < 0 then 0 else (a0 - 1)), a1, a2, a3, a4, a5, a6, a7, a8, a9, a10, a11, a12, a13, a14), rfl, (hc.trans (if_neg c_1)).symm, by show va_P _ _ _ t.heap; rw [ht]; exact hP⟩, hS.F ht⟩) hS.2.2 d_N_lowerCounter_53
def f_N_countErrors_k5 (u : NS) (k : Int32) (w : Int32) : NS := let b5_0 := u.1; let b5_1 := u.2.1; let b5_2 := u.2.2.1; let b5_3 := u.2.2.2.1; let b5_4 := u.2.2.2.2.1; let b5_5 := u.2.2.2.2.2.1; let b5_6 := u.2.2.2.2.2.2.1; let b5_7 := u.2.2.2.2.2.2.2.1; let b5_8 := u.2.2.2.2.2.2.2.2.1; let b5_9 := u.2.2.2.2.2.2.2.2.2.1; let b5_10 := u.2.2.2.2.2.2.2.2.2.2.1; let b5_11 := u.2.2.2.2.2.2.2.2.2.2.2.1; let b5_12 := u.2.2.2.2.2.2.2.2.2.2.2.2.1; let b5_13 := u.2.2.2.2.2.2.2.2.2.2.2.2.2.1; let b5_14 := u.2.2.2.2.2.2.2.2.2.2.2.2.2.2; (b5_0, b5_1, b5_2, b5_3, b5_4, b5_5, b5_6, b5_7, b5_8, b5_9, b5_10, b5_11, b5_12, b5_13, b5_14)
def f_N_countErrors (u : NS) (k : Int32) (w : Int32) : NS := let a0 := u.1; let a1 := u.2.1; let a2 := u.2.2.1; let a3 := u.2.2.2.1; let a4 := u.2.2.2.2.1; let a5 := u.2.2.2.2.2.1; let a6 := u.2.2.2.2.2.2.1; let a7 := u.2.2.2.2.2.2.2.1; let a8 := u.2.2.2.2.2.2.2.2.1; let a9 := u.2.2.2.2.2.2.2.2.2.1; let a10 := u.2.2.2.2.2.2.2.2.2.2.1; let a11 := u.2.2.2.2.2.2.2.2.2.2.2.1; let a12 := u.2.2.2.2.2.2.2.2.2.2.2.2.1; let a13 := u.2.2.2.2.2.2.2.2.2.2.2.2.2.1; let a14 := u.2.2.2.2.2.2.2.2.2.2.2.2.2.2; if k = 0 then (f_N_countErrors_k5 (f_N_lowerCounter (a0, a1, a2, a3, a4, a5, a6, a7, a8, a9, a10, a11, a12, a13, a14) w) k w) else (if w = 0 then (a0, (if 255 < (a1 + (f_N_receiverPenalty (a0, a1, a2, a3, a4, a5, a6, a7, a8, a9, a10, a11, a12, a13, a14) k)) then 255 else (a1 + (f_N_receiverPenalty (a0, a1, a2, a3, a4, a5, a6, a7, a8, a9, a10, a11, a12, a13, a14) k))), a2, a3, a4, a5, a6, a7, a8, a9, a10, a11, a12, a13, a14) else ((if 256 < (a0 + (f_N_senderPenalty (a0, a1, a2, a3, a4, a5, a6, a7, a8, a9, a10, a11, a12, a13, a14) k)) then 256 else (a0 + (f_N_senderPenalty (a0, a1, a2, a3, a4, a5, a6, a7, a8, a9, a10, a11, a12, a13, a14) k))), a1, a2, a3, a4, a5, a6, a7, a8, a9, a10, a11, a12, a13, a14))
set_option maxHeartbeats 4000000 in
set_option maxRecDepth 100000 in
theorem c_N_countErrors (l : Launch) (D : va_G) (h0 : Nat) (u : NS) (k : Int32) (w : Int32) : Met l y_N_countErrors (cw_N_countErrors :: BIG) ((rmk 2 0 0)) (va_Pc [.ref h0, .int k, .int w] (fun U => va_P D cls_ [(h0, .inr (0, n_fs u))] U.heap ∧ va_K D cls_ [] U ∧ NK U)) (va_Qv (fun u2 : NS => u2 = f_N_countErrors u k w) (fun (u2 : NS) (t : State) => va_P D cls_ [(h0, .inr (0, n_fs u2))] t.heap) (fun q : Nat => q = h0)) 0 0 (fun q : Nat => q = h0) := by
  obtain ⟨a0, a1, a2, a3, a4, a5, a6, a7, a8, a9, a10, a11, a12, a13, a14⟩ := u
  refine Met.ofW (cc := b_N_countErrors) (maxL := 3) (ret := none) (by decide) rfl ?_
  intro p e s m args below meth c s₁ B hml hv
  obtain ⟨rfl, hP, hK, hN⟩ := hv
  have hx := B.exec
  have hb := B.bytes
  have hr := B.returns
  have htB : ∀ w ∈ BIG, w.before _ s = true := fun w h => atoms_spec (ws := cw_N_countErrors :: BIG) B.pre w (List.mem_cons_of_mem _ h)
  have hown : s.vm.findClass R_N = some m.cls := findClass_of_methodNamed B.named
  have hlocks := B.notSynchronized
  have hP : va_P D cls_ [(h0, .inr (0, [.int a0, .int a1, .int a2, .int a3, .int a4, .int a5, .int a6, .int a7, .int a8, .int a9, .int a10, .int a11, .long a12, .int a13, .int a14]))] s.heap := hP
  have hD : va_D (fun q : Nat => q = h0) [(h0, .inr (0, [.int a0, .int a1, .int a2, .int a3, .int a4, .int a5, .int a6, .int a7, .int a8, .int a9, .int a10, .int a11, .long a12, .int a13, .int a14]))] := nD
  have hS : va_S (fun q : Nat => q = h0) s.heap s.heap [] := va_S.rf
  have hl := lv_entry ([.ref h0, .int k, .int w]) (n := 3) (Nat.le_of_ble_eq_true rfl)
  rw [lg_entry_eq]
  generalize (lg_sl ([.ref h0, .int k, .int w]) ++ List.replicate (3 - (lg_sl ([.ref h0, .int k, .int w])).length) Slot.unset).toArray = ls at hl ⊢
  have hl : lv_has ls 3 [(0, .ref h0), (1, .int k), (2, .int w)] := hl
  have hc : f_N_countErrors (a0, a1, a2, a3, a4, a5, a6, a7, a8, a9, a10, a11, a12, a13, a14) k w = f_N_countErrors (a0, a1, a2, a3, a4, a5, a6, a7, a8, a9, a10, a11, a12, a13, a14) k w := rfl
  refine lv_iload_n hx hb d_N_countErrors_0 rfl (lv_at hl 1 rfl) ?_
  refine lv_if_ne (tgt := 12) hx hb d_N_countErrors_1 (by decide) (fun c_1 => ?_) (fun c_1 => ?_)
  · refine lv_iload_n hx hb d_N_countErrors_12 rfl (lv_at hl 2 rfl) ?_
    refine lv_if_eq (tgt := 39) hx hb d_N_countErrors_13 (by decide) (fun c_2 => ?_) (fun c_2 => ?_)
    · refine lv_aload_n hx hb d_N_countErrors_39 rfl (lv_at hl 0 rfl) ?_
      refine lv_aload_n hx hb d_N_countErrors_40 rfl (lv_at hl 0 rfl) ?_
      refine va_get (D := D) (ci := 0) (v := .int a1) (C := R_N) (T := F_N) (N := 15) hx hb htB uw_N hown hK hP 0 rfl rfl 1 (by decide) (htB _ fl_N_19) (fun _ h9 => h9) rfl d_N_countErrors_41 ?_
      refine lv_aload_n hx hb d_N_countErrors_44 rfl (lv_at hl 0 rfl) ?_
      refine lv_iload_n hx hb d_N_countErrors_45 rfl (lv_at hl 1 rfl) ?_
      refine vp_callSi (va_Run.run (va_runV (As := [.int k]) (rest := [.int a1, .ref h0]) ⟨hx, hb, hml, hown, htB⟩ (c_N_receiverPenalty l D h0 (a0, a1, a2, a3, a4, a5, a6, a7, a8, a9, a10, a11, a12, a13, a14) k) (cwV 1 htB g_N_82 rfl rfl rfl (by decide +kernel) ⟨Nat.le_of_ble_eq_true rfl, Nat.le_of_ble_eq_true rfl⟩) (preV hP hK hN (va_recv hK hP (ci := 0) (q0 := 0) rfl rfl)) rfl rfl hl.1 rfl (lv_room (Nat.le_of_ble_eq_true rfl)) d_N_countErrors_46 ⟨Nat.le_of_ble_eq_true rfl, Nat.le_of_ble_eq_true rfl⟩)) (fun r_3 hr_3 => ?_)
      subst hr_3
      refine lv_iadd hx hb d_N_countErrors_49 ?_
      refine lv_sipush (v := 255) hx hb d_N_countErrors_50 (by decide) ?_
      refine va_mmin hx hb (hml.trans hl.1.symm) hown (htB _ ml_N_65) (htB _ st_math_min) (htB _ in_math) (htB _ co_math_min) (Nat.le_of_ble_eq_true rfl) (Nat.le_of_ble_eq_true rfl) (Nat.le_of_ble_eq_true rfl) (Nat.le_of_ble_eq_true rfl) d_N_countErrors_53 ?_
      refine va_put (D := D) (ci := 0) (v := .int (if 255 < (a1 + (f_N_receiverPenalty (a0, a1, a2, a3, a4, a5, a6, a7, a8, a9, a10, a11, a12, a13, a14) k)) then 255 else (a1 + (f_N_receiverPenalty (a0, a1, a2, a3, a4, a5, a6, a7, a8, a9, a10, a11, a12, a13, a14) k)))) (ty := .int) (C := R_N) (T := F_N) (N := 15) hx hb htB uw_N t_N t_N_ok n_N hown hK hP hD hS 0 rfl rfl 1 (by decide) (htB _ fl_N_19) (fun _ h9 => h9) rfl (t_N_ok 1 (by decide)) rfl rfl (Nat.le_of_ble_eq_true rfl) d_N_countErrors_56 (fun H locs hP hD hS => ?_)
      have hP : va_P D cls_ [(h0, .inr (0, [.int a0, .int (if 255 < (a1 + (f_N_receiverPenalty (a0, a1, a2, a3, a4, a5, a6, a7, a8, a9, a10, a11, a12, a13, a14) k)) then 255 else (a1 + (f_N_receiverPenalty (a0, a1, a2, a3, a4, a5, a6, a7, a8, a9, a10, a11, a12, a13, a14) k))), .int a2, .int a3, .int a4, .int a5, .int a6, .int a7, .int a8, .int a9, .int a10, .int a11, .long a12, .int a13, .int a14]))] H := hP
      have hD : va_D (fun q : Nat => q = h0) [(h0, .inr (0, [.int a0, .int (if 255 < (a1 + (f_N_receiverPenalty (a0, a1, a2, a3, a4, a5, a6, a7, a8, a9, a10, a11, a12, a13, a14) k)) then 255 else (a1 + (f_N_receiverPenalty (a0, a1, a2, a3, a4, a5, a6, a7, a8, a9, a10, a11, a12, a13, a14) k))), .int a2, .int a3, .int a4, .int a5, .int a6, .int a7, .int a8, .int a9, .int a10, .int a11, .long a12, .int a13, .int a14]))] := hD
      exact W.vret hx hb hr (fun t ht hW => ⟨⟨(a0, (if 255 < (a1 + (f_N_receiverPenalty (a0, a1, a2, a3, a4, a5, a6, a7, a8, a9, a10, a11, a12, a13, a14) k)) then 255 else (a1 + (f_N_receiverPenalty (a0, a1, a2, a3, a4, a5, a6, a7, a8, a9, a10, a11, a12, a13, a14) k))), a2, a3, a4, a5, a6, a7, a8, a9, a10, a11, a12, a13, a14), rfl, (hc.trans ((if_neg c_1).trans (if_pos c_2))).symm, by show va_P _ _ _ t.heap; rw [ht]; exact hP⟩, hS.F ht⟩) hS.2.2 d_N_countErrors_59
    · refine lv_aload_n hx hb d_N_countErrors_16 rfl (lv_at hl 0 rfl) ?_
      refine lv_aload_n hx hb d_N_countErrors_17 rfl (lv_at hl 0 rfl) ?_
      refine va_get (D := D) (ci := 0) (v := .int a0) (C := R_N) (T := F_N) (N := 15) hx hb htB uw_N hown hK hP 0 rfl rfl 0 (by decide) (htB _ fl_N_15) (fun _ h9 => h9) rfl d_N_countErrors_18 ?_
      refine lv_aload_n hx hb d_N_countErrors_21 rfl (lv_at hl 0 rfl) ?_
      refine lv_iload_n hx hb d_N_countErrors_22 rfl (lv_at hl 1 rfl) ?_
      refine vp_callSi (va_Run.run (va_runV (As := [.int k]) (rest := [.int a0, .ref h0]) ⟨hx, hb, hml, hown, htB⟩ (c_N_senderPenalty l D h0 (a0, a1, a2, a3, a4, a5, a6, a7, a8, a9, a10, a11, a12, a13, a14) k) (cwV 1 htB g_N_78 rfl rfl rfl (by decide +kernel) ⟨Nat.le_of_ble_eq_true rfl, Nat.le_of_ble_eq_true rfl⟩) (preV hP hK hN (va_recv hK hP (ci := 0) (q0 := 0) rfl rfl)) rfl rfl hl.1 rfl (lv_room (Nat.le_of_ble_eq_true rfl)) d_N_countErrors_23 ⟨Nat.le_of_ble_eq_true rfl, Nat.le_of_ble_eq_true rfl⟩)) (fun r_4 hr_4 => ?_)
      subst hr_4
      refine lv_iadd hx hb d_N_countErrors_26 ?_
      refine lv_sipush (v := 256) hx hb d_N_countErrors_27 (by decide) ?_
      refine va_mmin hx hb (hml.trans hl.1.symm) hown (htB _ ml_N_65) (htB _ st_math_min) (htB _ in_math) (htB _ co_math_min) (Nat.le_of_ble_eq_true rfl) (Nat.le_of_ble_eq_true rfl) (Nat.le_of_ble_eq_true rfl) (Nat.le_of_ble_eq_true rfl) d_N_countErrors_30 ?_
      refine va_put (D := D) (ci := 0) (v := .int (if 256 < (a0 + (f_N_senderPenalty (a0, a1, a2, a3, a4, a5, a6, a7, a8, a9, a10, a11, a12, a13, a14) k)) then 256 else (a0 + (f_N_senderPenalty (a0, a1, a2, a3, a4, a5, a6, a7, a8, a9, a10, a11, a12, a13, a14) k)))) (ty := .int) (C := R_N) (T := F_N) (N := 15) hx hb htB uw_N t_N t_N_ok n_N hown hK hP hD hS 0 rfl rfl 0 (by decide) (htB _ fl_N_15) (fun _ h9 => h9) rfl (t_N_ok 0 (by decide)) rfl rfl (Nat.le_of_ble_eq_true rfl) d_N_countErrors_33 (fun H locs hP hD hS => ?_)
      have hP : va_P D cls_ [(h0, .inr (0, [.int (if 256 < (a0 + (f_N_senderPenalty (a0, a1, a2, a3, a4, a5, a6, a7, a8, a9, a10, a11, a12, a13, a14) k)) then 256 else (a0 + (f_N_senderPenalty (a0, a1, a2, a3, a4, a5, a6, a7, a8, a9, a10, a11, a12, a13, a14) k))), .int a1, .int a2, .int a3, .int a4, .int a5, .int a6, .int a7, .int a8, .int a9, .int a10, .int a11, .long a12, .int a13, .int a14]))] H := hP
      have hD : va_D (fun q : Nat => q = h0) [(h0, .inr (0, [.int (if 256 < (a0 + (f_N_senderPenalty (a0, a1, a2, a3, a4, a5, a6, a7, a8, a9, a10, a11, a12, a13, a14) k)) then 256 else (a0 + (f_N_senderPenalty (a0, a1, a2, a3, a4, a5, a6, a7, a8, a9, a10, a11, a12, a13, a14) k))), .int a1, .int a2, .int a3, .int a4, .int a5, .int a6, .int a7, .int a8, .int a9, .int a10, .int a11, .long a12, .int a13, .int a14]))] := hD
      refine lv_goto (tgt := 59) hx hb d_N_countErrors_36 (by decide) ?_
      exact W.vret hx hb hr (fun t ht hW => ⟨⟨((if 256 < (a0 + (f_N_senderPenalty (a0, a1, a2, a3, a4, a5, a6, a7, a8, a9, a10, a11, a12, a13, a14) k)) then 256 else (a0 + (f_N_senderPenalty (a0, a1, a2, a3, a4, a5, a6, a7, a8, a9, a10, a11, a12, a13, a14) k))), a1, a2, a3, a4, a5, a6, a7, a8, a9, a10, a11, a12, a13, a14), rfl, (hc.trans ((if_neg c_1).trans (if_neg c_2))).symm, by show va_P _ _ _ t.heap; rw [ht]; exact hP⟩, hS.F ht⟩) hS.2.2 d_N_countErrors_59
  · refine lv_aload_n hx hb d_N_countErrors_4 rfl (lv_at hl 0 rfl) ?_
    refine lv_iload_n hx hb d_N_countErrors_5 rfl (lv_at hl 2 rfl) ?_
    refine va_callv (va_runV (As := [.int w]) (rest := []) ⟨hx, hb, hml, hown, htB⟩ (c_N_lowerCounter l D h0 (a0, a1, a2, a3, a4, a5, a6, a7, a8, a9, a10, a11, a12, a13, a14) w) (cwV 1 htB g_N_74 rfl rfl rfl (by decide +kernel) ⟨Nat.le_of_ble_eq_true rfl, Nat.le_of_ble_eq_true rfl⟩) (preV hP hK hN (va_recv hK hP (ci := 0) (q0 := 0) rfl rfl)) rfl rfl hl.1 rfl (lv_room (Nat.le_of_ble_eq_true rfl)) d_N_countErrors_6 ⟨Nat.le_of_ble_eq_true rfl, Nat.le_of_ble_eq_true rfl⟩) hS (fun _ _ h => h) (fun _ h => h) (fun u t H locs ht hvm hw hP hz1 hk1 hS => ?_)
    rw [ht] at hP
    obtain ⟨b5_0, b5_1, b5_2, b5_3, b5_4, b5_5, b5_6, b5_7, b5_8, b5_9, b5_10, b5_11, b5_12, b5_13, b5_14⟩ := u
    have hP : va_P D cls_ [(h0, .inr (0, [.int b5_0, .int b5_1, .int b5_2, .int b5_3, .int b5_4, .int b5_5, .int b5_6, .int b5_7, .int b5_8, .int b5_9, .int b5_10, .int b5_11, .long b5_12, .int b5_13, .int b5_14]))] H := hP
    have hD : va_D (fun q : Nat => q = h0) [(h0, .inr (0, [.int b5_0, .int b5_1, .int b5_2, .int b5_3, .int b5_4, .int b5_5, .int b5_6, .int b5_7, .int b5_8, .int b5_9, .int b5_10, .int b5_11, .long b5_12, .int b5_13, .int b5_14]))] := nD
    have hc : f_N_countErrors (a0, a1, a2, a3, a4, a5, a6, a7, a8, a9, a10, a11, a12, a13, a14) k w = f_N_countErrors_k5 (b5_0, b5_1, b5_2, b5_3, b5_4, b5_5, b5_6, b5_7, b5_8, b5_9, b5_10, b5_11, b5_12, b5_13, b5_14) k w := (hc.trans (if_pos c_1)).trans (congrArg (fun z => f_N_countErrors_k5 z k w) hw.symm)
    refine lv_goto (tgt := 59) hx hb d_N_countErrors_9 (by decide) ?_
    exact W.vret hx hb hr (fun t ht hW => ⟨⟨(b5_0, b5_1, b5_2, b5_3, b5_4, b5_5, b5_6, b5_7, b5_8, b5_9, b5_10, b5_11, b5_12, b5_13, b5_14), rfl, (hc.trans (rfl)).symm, by show va_P _ _ _ t.heap; rw [ht]; exact hP⟩, hS.F ht⟩) hS.2.2 d_N_countErrors_59
def f_N_countGoodFrames (u : NS) (k : Int32) : NS := let a0 := u.1; let a1 := u.2.1; let a2 := u.2.2.1; let a3 := u.2.2.2.1; let a4 := u.2.2.2.2.1; let a5 := u.2.2.2.2.2.1; let a6 := u.2.2.2.2.2.2.1; let a7 := u.2.2.2.2.2.2.2.1; let a8 := u.2.2.2.2.2.2.2.2.1; let a9 := u.2.2.2.2.2.2.2.2.2.1; let a10 := u.2.2.2.2.2.2.2.2.2.2.1; let a11 := u.2.2.2.2.2.2.2.2.2.2.2.1; let a12 := u.2.2.2.2.2.2.2.2.2.2.2.2.1; let a13 := u.2.2.2.2.2.2.2.2.2.2.2.2.2.1; let a14 := u.2.2.2.2.2.2.2.2.2.2.2.2.2.2; if (f_X_isError k) = 0 then (if k = 0 then (if (if 100 < (a9 + 1) then 100 else (a9 + 1)) < 100 then (a0, a1, a2, a3, a4, a5, a6, a7, a8, (if 100 < (a9 + 1) then 100 else (a9 + 1)), a10, a11, a12, a13, a14) else (a0, a1, a2, a3, a4, a5, a6, a7, a8, (if 100 < (a9 + 1) then 100 else (a9 + 1)), 0, a11, a12, a13, a14)) else (if a9 < 100 then (a0, a1, a2, a3, a4, a5, a6, a7, a8, a9, a10, a11, a12, a13, a14) else (a0, a1, a2, a3, a4, a5, a6, a7, a8, a9, 0, a11, a12, a13, a14))) else (a0, a1, a2, a3, a4, a5, a6, a7, a8, 0, a10, a11, a12, a13, a14)
set_option maxHeartbeats 4000000 in
set_option maxRecDepth 100000 in
theorem c_N_countGoodFrames (l : Launch) (D : va_G) (h0 : Nat) (u : NS) (k : Int32) : Met l y_N_countGoodFrames (cw_N_countGoodFrames :: BIG) ((rmk 2 0 0)) (va_Pc [.ref h0, .int k] (fun U => va_P D cls_ [(h0, .inr (0, n_fs u))] U.heap ∧ va_K D cls_ [] U ∧ NK U)) (va_Qv (fun u2 : NS => u2 = f_N_countGoodFrames u k) (fun (u2 : NS) (t : State) => va_P D cls_ [(h0, .inr (0, n_fs u2))] t.heap) (fun q : Nat => q = h0)) 0 0 (fun q : Nat => q = h0) := by
  obtain ⟨a0, a1, a2, a3, a4, a5, a6, a7, a8, a9, a10, a11, a12, a13, a14⟩ := u
  refine Met.ofW (cc := b_N_countGoodFrames) (maxL := 2) (ret := none) (by decide) rfl ?_
  intro p e s m args below meth c s₁ B hml hv
  obtain ⟨rfl, hP, hK, hN⟩ := hv
  have hx := B.exec
  have hb := B.bytes
  have hr := B.returns
  have htB : ∀ w ∈ BIG, w.before _ s = true := fun w h => atoms_spec (ws := cw_N_countGoodFrames :: BIG) B.pre w (List.mem_cons_of_mem _ h)
  have hown : s.vm.findClass R_N = some m.cls := findClass_of_methodNamed B.named
  have hlocks := B.notSynchronized
  have hP : va_P D cls_ [(h0, .inr (0, [.int a0, .int a1, .int a2, .int a3, .int a4, .int a5, .int a6, .int a7, .int a8, .int a9, .int a10, .int a11, .long a12, .int a13, .int a14]))] s.heap := hP
  have hD : va_D (fun q : Nat => q = h0) [(h0, .inr (0, [.int a0, .int a1, .int a2, .int a3, .int a4, .int a5, .int a6, .int a7, .int a8, .int a9, .int a10, .int a11, .long a12, .int a13, .int a14]))] := nD
  have hS : va_S (fun q : Nat => q = h0) s.heap s.heap [] := va_S.rf
  have hl := lv_entry ([.ref h0, .int k]) (n := 2) (Nat.le_of_ble_eq_true rfl)
  rw [lg_entry_eq]
  generalize (lg_sl ([.ref h0, .int k]) ++ List.replicate (2 - (lg_sl ([.ref h0, .int k])).length) Slot.unset).toArray = ls at hl ⊢
  have hl : lv_has ls 2 [(0, .ref h0), (1, .int k)] := hl
  have hc : f_N_countGoodFrames (a0, a1, a2, a3, a4, a5, a6, a7, a8, a9, a10, a11, a12, a13, a14) k = f_N_countGoodFrames (a0, a1, a2, a3, a4, a5, a6, a7, a8, a9, a10, a11, a12, a13, a14) k := rfl
  refine lv_iload_n hx hb d_N_countGoodFrames_0 rfl (lv_at hl 1 rfl) ?_
  refine vp_callSi (va_Run.run (va_runSN (As := [.int k]) (rest := []) ⟨hx, hb, hml, hown, htB⟩ (c_X_isError l k) ⟨va_cnB 1 htB gd_X_isError rfl rfl rfl hN.n_N_32 (htB _ in_X) (by decide +kernel) ⟨Nat.le_of_ble_eq_true rfl, Nat.le_of_ble_eq_true rfl⟩, htB _ sta_X_isError, trivial⟩ (preN hN) rfl rfl hl.1 rfl (lv_room (Nat.le_of_ble_eq_true rfl)) d_N_countGoodFrames_1 ⟨Nat.le_of_ble_eq_true rfl, Nat.le_of_ble_eq_true rfl⟩)) (fun r_1 hr_1 => ?_)
  subst hr_1
  refine lv_if_eq (tgt := 15) hx hb d_N_countGoodFrames_4 (by decide) (fun c_2 => ?_) (fun c_2 => ?_)
  · refine lv_iload_n hx hb d_N_countGoodFrames_15 rfl (lv_at hl 1 rfl) ?_
    refine lv_if_ne (tgt := 34) hx hb d_N_countGoodFrames_16 (by decide) (fun c_3 => ?_) (fun c_3 => ?_)
    · refine lv_aload_n hx hb d_N_countGoodFrames_34 rfl (lv_at hl 0 rfl) ?_
      refine va_get (D := D) (ci := 0) (v := .int a9) (C := R_N) (T := F_N) (N := 15) hx hb htB uw_N hown hK hP 0 rfl rfl 9 (by decide) (htB _ fl_N_62) (fun _ h9 => h9) rfl d_N_countGoodFrames_35 ?_
      refine lv_bipush (v := 100) hx hb d_N_countGoodFrames_38 (by decide) ?_
      refine lv_icmp_lt (tgt := 48) hx hb d_N_countGoodFrames_40 (by decide) (fun c_4 => ?_) (fun c_4 => ?_)
      · exact W.vret hx hb hr (fun t ht hW => ⟨⟨(a0, a1, a2, a3, a4, a5, a6, a7, a8, a9, a10, a11, a12, a13, a14), rfl, (hc.trans ((if_pos c_2).trans ((if_neg c_3).trans (if_pos c_4)))).symm, by show va_P _ _ _ t.heap; rw [ht]; exact hP⟩, hS.F ht⟩) hS.2.2 d_N_countGoodFrames_48
      · refine lv_aload_n hx hb d_N_countGoodFrames_43 rfl (lv_at hl 0 rfl) ?_
        refine lv_iconst (v := 0) hx hb d_N_countGoodFrames_44 (by decide) ?_
        refine va_put (D := D) (ci := 0) (v := .int 0) (ty := .int) (C := R_N) (T := F_N) (N := 15) hx hb htB uw_N t_N t_N_ok n_N hown hK hP hD hS 0 rfl rfl 10 (by decide) (htB _ fl_N_71) (fun _ h9 => h9) rfl (t_N_ok 10 (by decide)) rfl rfl (Nat.le_of_ble_eq_true rfl) d_N_countGoodFrames_45 (fun H locs hP hD hS => ?_)
        have hP : va_P D cls_ [(h0, .inr (0, [.int a0, .int a1, .int a2, .int a3, .int a4, .int a5, .int a6, .int a7, .int a8, .int a9, .int 0, .int a11, .long a12, .int a13, .int a14]))] H := hP
        have hD : va_D (fun q : Nat => q = h0) [(h0, .inr (0, [.int a0, .int a1, .int a2, .int a3, .int a4, .int a5, .int a6, .int a7, .int a8, .int a9, .int 0, .int a11, .long a12, .int a13, .int a14]))] := hD
        exact W.vret hx hb hr (fun t ht hW => ⟨⟨(a0, a1, a2, a3, a4, a5, a6, a7, a8, a9, 0, a11, a12, a13, a14), rfl, (hc.trans ((if_pos c_2).trans ((if_neg c_3).trans (if_neg c_4)))).symm, by show va_P _ _ _ t.heap; rw [ht]; exact hP⟩, hS.F ht⟩) hS.2.2 d_N_countGoodFrames_48
    · refine lv_aload_n hx hb d_N_countGoodFrames_19 rfl (lv_at hl 0 rfl) ?_
      refine lv_aload_n hx hb d_N_countGoodFrames_20 rfl (lv_at hl 0 rfl) ?_
      refine va_get (D := D) (ci := 0) (v := .int a9) (C := R_N) (T := F_N) (N := 15) hx hb htB uw_N hown hK hP 0 rfl rfl 9 (by decide) (htB _ fl_N_62) (fun _ h9 => h9) rfl d_N_countGoodFrames_21 ?_
      refine lv_iconst (v := 1) hx hb d_N_countGoodFrames_24 (by decide) ?_
      refine lv_iadd hx hb d_N_countGoodFrames_25 ?_
      refine lv_bipush (v := 100) hx hb d_N_countGoodFrames_26 (by decide) ?_
      refine va_mmin hx hb (hml.trans hl.1.symm) hown (htB _ ml_N_65) (htB _ st_math_min) (htB _ in_math) (htB _ co_math_min) (Nat.le_of_ble_eq_true rfl) (Nat.le_of_ble_eq_true rfl) (Nat.le_of_ble_eq_true rfl) (Nat.le_of_ble_eq_true rfl) d_N_countGoodFrames_28 ?_
      refine va_put (D := D) (ci := 0) (v := .int (if 100 < (a9 + 1) then 100 else (a9 + 1))) (ty := .int) (C := R_N) (T := F_N) (N := 15) hx hb htB uw_N t_N t_N_ok n_N hown hK hP hD hS 0 rfl rfl 9 (by decide) (htB _ fl_N_62) (fun _ h9 => h9) rfl (t_N_ok 9 (by decide)) rfl rfl (Nat.le_of_ble_eq_true rfl) d_N_countGoodFrames_31 (fun H locs hP hD hS => ?_)
      have hP : va_P D cls_ [(h0, .inr (0, [.int a0, .int a1, .int a2, .int a3, .int a4, .int a5, .int a6, .int a7, .int a8, .int (if 100 < (a9 + 1) then 100 else (a9 + 1)), .int a10, .int a11, .long a12, .int a13, .int a14]))] H := hP
      have hD : va_D (fun q : Nat => q = h0) [(h0, .inr (0, [.int a0, .int a1, .int a2, .int a3, .int a4, .int a5, .int a6, .int a7, .int a8, .int (if 100 < (a9 + 1) then 100 else (a9 + 1)), .int a10, .int a11, .long a12, .int a13, .int a14]))] := hD
      refine lv_aload_n hx hb d_N_countGoodFrames_34 rfl (lv_at hl 0 rfl) ?_
      refine va_get (D := D) (ci := 0) (v := .int (if 100 < (a9 + 1) then 100 else (a9 + 1))) (C := R_N) (T := F_N) (N := 15) hx hb htB uw_N hown hK hP 0 rfl rfl 9 (by decide) (htB _ fl_N_62) (fun _ h9 => h9) rfl d_N_countGoodFrames_35 ?_
      refine lv_bipush (v := 100) hx hb d_N_countGoodFrames_38 (by decide) ?_
      refine lv_icmp_lt (tgt := 48) hx hb d_N_countGoodFrames_40 (by decide) (fun c_5 => ?_) (fun c_5 => ?_)
      · exact W.vret hx hb hr (fun t ht hW => ⟨⟨(a0, a1, a2, a3, a4, a5, a6, a7, a8, (if 100 < (a9 + 1) then 100 else (a9 + 1)), a10, a11, a12, a13, a14), rfl, (hc.trans ((if_pos c_2).trans ((if_pos c_3).trans (if_pos c_5)))).symm, by show va_P _ _ _ t.heap; rw [ht]; exact hP⟩, hS.F ht⟩) hS.2.2 d_N_countGoodFrames_48
      · refine lv_aload_n hx hb d_N_countGoodFrames_43 rfl (lv_at hl 0 rfl) ?_
        refine lv_iconst (v := 0) hx hb d_N_countGoodFrames_44 (by decide) ?_
        refine va_put (D := D) (ci := 0) (v := .int 0) (ty := .int) (C := R_N) (T := F_N) (N := 15) hx hb htB uw_N t_N t_N_ok n_N hown hK hP hD hS 0 rfl rfl 10 (by decide) (htB _ fl_N_71) (fun _ h9 => h9) rfl (t_N_ok 10 (by decide)) rfl rfl (Nat.le_of_ble_eq_true rfl) d_N_countGoodFrames_45 (fun H locs hP hD hS => ?_)
        have hP : va_P D cls_ [(h0, .inr (0, [.int a0, .int a1, .int a2, .int a3, .int a4, .int a5, .int a6, .int a7, .int a8, .int (if 100 < (a9 + 1) then 100 else (a9 + 1)), .int 0, .int a11, .long a12, .int a13, .int a14]))] H := hP
        have hD : va_D (fun q : Nat => q = h0) [(h0, .inr (0, [.int a0, .int a1, .int a2, .int a3, .int a4, .int a5, .int a6, .int a7, .int a8, .int (if 100 < (a9 + 1) then 100 else (a9 + 1)), .int 0, .int a11, .long a12, .int a13, .int a14]))] := hD
        exact W.vret hx hb hr (fun t ht hW => ⟨⟨(a0, a1, a2, a3, a4, a5, a6, a7, a8, (if 100 < (a9 + 1) then 100 else (a9 + 1)), 0, a11, a12, a13, a14), rfl, (hc.trans ((if_pos c_2).trans ((if_pos c_3).trans (if_neg c_5)))).symm, by show va_P _ _ _ t.heap; rw [ht]; exact hP⟩, hS.F ht⟩) hS.2.2 d_N_countGoodFrames_48
  · refine lv_aload_n hx hb d_N_countGoodFrames_7 rfl (lv_at hl 0 rfl) ?_
    refine lv_iconst (v := 0) hx hb d_N_countGoodFrames_8 (by decide) ?_
    refine va_put (D := D) (ci := 0) (v := .int 0) (ty := .int) (C := R_N) (T := F_N) (N := 15) hx hb htB uw_N t_N t_N_ok n_N hown hK hP hD hS 0 rfl rfl 9 (by decide) (htB _ fl_N_62) (fun _ h9 => h9) rfl (t_N_ok 9 (by decide)) rfl rfl (Nat.le_of_ble_eq_true rfl) d_N_countGoodFrames_9 (fun H locs hP hD hS => ?_)
    have hP : va_P D cls_ [(h0, .inr (0, [.int a0, .int a1, .int a2, .int a3, .int a4, .int a5, .int a6, .int a7, .int a8, .int 0, .int a10, .int a11, .long a12, .int a13, .int a14]))] H := hP
    have hD : va_D (fun q : Nat => q = h0) [(h0, .inr (0, [.int a0, .int a1, .int a2, .int a3, .int a4, .int a5, .int a6, .int a7, .int a8, .int 0, .int a10, .int a11, .long a12, .int a13, .int a14]))] := hD
    refine lv_goto (tgt := 34) hx hb d_N_countGoodFrames_12 (by decide) ?_
    refine lv_aload_n hx hb d_N_countGoodFrames_34 rfl (lv_at hl 0 rfl) ?_
    refine va_get (D := D) (ci := 0) (v := .int 0) (C := R_N) (T := F_N) (N := 15) hx hb htB uw_N hown hK hP 0 rfl rfl 9 (by decide) (htB _ fl_N_62) (fun _ h9 => h9) rfl d_N_countGoodFrames_35 ?_
    refine lv_bipush (v := 100) hx hb d_N_countGoodFrames_38 (by decide) ?_
    refine lv_icmp_lt (tgt := 48) hx hb d_N_countGoodFrames_40 (by decide) (fun _ => ?_) (fun c9 => absurd (by decide) c9)
    exact W.vret hx hb hr (fun t ht hW => ⟨⟨(a0, a1, a2, a3, a4, a5, a6, a7, a8, 0, a10, a11, a12, a13, a14), rfl, (hc.trans (if_neg c_2)).symm, by show va_P _ _ _ t.heap; rw [ht]; exact hP⟩, hS.F ht⟩) hS.2.2 d_N_countGoodFrames_48
def f_N_changeFlag (u : NS) (k : Int32) : NS := let a0 := u.1; let a1 := u.2.1; let a2 := u.2.2.1; let a3 := u.2.2.2.1; let a4 := u.2.2.2.2.1; let a5 := u.2.2.2.2.2.1; let a6 := u.2.2.2.2.2.2.1; let a7 := u.2.2.2.2.2.2.2.1; let a8 := u.2.2.2.2.2.2.2.2.1; let a9 := u.2.2.2.2.2.2.2.2.2.1; let a10 := u.2.2.2.2.2.2.2.2.2.2.1; let a11 := u.2.2.2.2.2.2.2.2.2.2.2.1; let a12 := u.2.2.2.2.2.2.2.2.2.2.2.2.1; let a13 := u.2.2.2.2.2.2.2.2.2.2.2.2.2.1; let a14 := u.2.2.2.2.2.2.2.2.2.2.2.2.2.2; if k = 0 then (a0, a1, a2, 0, a4, a5, a6, a7, a8, a9, a10, a11, a12, a13, a14) else (if (f_X_isError k) = 0 then (if a3 ≤ 0 then (a0, a1, a2, a3, a4, a5, a6, a7, a8, a9, a10, a11, a12, a13, a14) else (if k = 8 then (a0, a1, a2, (if 10000 < (a3 + 8) then 10000 else (a3 + 8)), a4, a5, a6, a7, a8, a9, a10, a11, a12, a13, a14) else (a0, a1, a2, (if 10000 < (a3 + 1) then 10000 else (a3 + 1)), a4, a5, a6, a7, a8, a9, a10, a11, a12, a13, a14))) else (a0, a1, a2, 6, a4, a5, a6, a7, a8, a9, a10, a11, a12, a13, a14))
set_option maxHeartbeats 4000000 in
set_option maxRecDepth 100000 in
theorem c_N_changeFlag (l : Launch) (D : va_G) (h0 : Nat) (u : NS) (k : Int32) : Met l y_N_changeFlag (cw_N_changeFlag :: BIG) ((rmk 2 0 0)) (va_Pc [.ref h0, .int k] (fun U => va_P D cls_ [(h0, .inr (0, n_fs u))] U.heap ∧ va_K D cls_ [] U ∧ NK U)) (va_Qv (fun u2 : NS => u2 = f_N_changeFlag u k) (fun (u2 : NS) (t : State) => va_P D cls_ [(h0, .inr (0, n_fs u2))] t.heap) (fun q : Nat => q = h0)) 0 0 (fun q : Nat => q = h0) := by
  obtain ⟨a0, a1, a2, a3, a4, a5, a6, a7, a8, a9, a10, a11, a12, a13, a14⟩ := u
  refine Met.ofW (cc := b_N_changeFlag) (maxL := 3) (ret := none) (by decide) rfl ?_
  intro p e s m args below meth c s₁ B hml hv
  obtain ⟨rfl, hP, hK, hN⟩ := hv
  have hx := B.exec
  have hb := B.bytes
  have hr := B.returns
  have htB : ∀ w ∈ BIG, w.before _ s = true := fun w h => atoms_spec (ws := cw_N_changeFlag :: BIG) B.pre w (List.mem_cons_of_mem _ h)
  have hown : s.vm.findClass R_N = some m.cls := findClass_of_methodNamed B.named
  have hlocks := B.notSynchronized
  have hP : va_P D cls_ [(h0, .inr (0, [.int a0, .int a1, .int a2, .int a3, .int a4, .int a5, .int a6, .int a7, .int a8, .int a9, .int a10, .int a11, .long a12, .int a13, .int a14]))] s.heap := hP
  have hD : va_D (fun q : Nat => q = h0) [(h0, .inr (0, [.int a0, .int a1, .int a2, .int a3, .int a4, .int a5, .int a6, .int a7, .int a8, .int a9, .int a10, .int a11, .long a12, .int a13, .int a14]))] := nD
  have hS : va_S (fun q : Nat => q = h0) s.heap s.heap [] := va_S.rf
  have hl := lv_entry ([.ref h0, .int k]) (n := 3) (Nat.le_of_ble_eq_true rfl)
  rw [lg_entry_eq]
  generalize (lg_sl ([.ref h0, .int k]) ++ List.replicate (3 - (lg_sl ([.ref h0, .int k])).length) Slot.unset).toArray = ls at hl ⊢
  have hl : lv_has ls 3 [(0, .ref h0), (1, .int k)] := hl
  have hc : f_N_changeFlag (a0, a1, a2, a3, a4, a5, a6, a7, a8, a9, a10, a11, a12, a13, a14) k = f_N_changeFlag (a0, a1, a2, a3, a4, a5, a6, a7, a8, a9, a10, a11, a12, a13, a14) k := rfl
  refine lv_iload_n hx hb d_N_changeFlag_0 rfl (lv_at hl 1 rfl) ?_
  refine lv_if_ne (tgt := 12) hx hb d_N_changeFlag_1 (by decide) (fun c_1 => ?_) (fun c_1 => ?_)
  · refine lv_iload_n hx hb d_N_changeFlag_12 rfl (lv_at hl 1 rfl) ?_
    refine vp_callSi (va_Run.run (va_runSN (As := [.int k]) (rest := []) ⟨hx, hb, hml, hown, htB⟩ (c_X_isError l k) ⟨va_cnB 1 htB gd_X_isError rfl rfl rfl hN.n_N_32 (htB _ in_X) (by decide +kernel) ⟨Nat.le_of_ble_eq_true rfl, Nat.le_of_ble_eq_true rfl⟩, htB _ sta_X_isError, trivial⟩ (preN hN) rfl rfl hl.1 rfl (lv_room (Nat.le_of_ble_eq_true rfl)) d_N_changeFlag_13 ⟨Nat.le_of_ble_eq_true rfl, Nat.le_of_ble_eq_true rfl⟩)) (fun r_2 hr_2 => ?_)
    subst hr_2
    refine lv_if_eq (tgt := 28) hx hb d_N_changeFlag_16 (by decide) (fun c_3 => ?_) (fun c_3 => ?_)
    · refine lv_aload_n hx hb d_N_changeFlag_28 rfl (lv_at hl 0 rfl) ?_
      refine va_get (D := D) (ci := 0) (v := .int a3) (C := R_N) (T := F_N) (N := 15) hx hb htB uw_N hown hK hP 0 rfl rfl 3 (by decide) (htB _ fl_N_91) (fun _ h9 => h9) rfl d_N_changeFlag_29 ?_
      refine lv_if_le (tgt := 64) hx hb d_N_changeFlag_32 (by decide) (fun c_4 => ?_) (fun c_4 => ?_)
      · exact W.vret hx hb hr (fun t ht hW => ⟨⟨(a0, a1, a2, a3, a4, a5, a6, a7, a8, a9, a10, a11, a12, a13, a14), rfl, (hc.trans ((if_neg c_1).trans ((if_pos c_3).trans (if_pos c_4)))).symm, by show va_P _ _ _ t.heap; rw [ht]; exact hP⟩, hS.F ht⟩) hS.2.2 d_N_changeFlag_64
      · refine lv_iload_n hx hb d_N_changeFlag_35 rfl (lv_at hl 1 rfl) ?_
        refine lv_bipush (v := 8) hx hb d_N_changeFlag_36 (by decide) ?_
        refine lv_icmp_ne (tgt := 46) hx hb d_N_changeFlag_38 (by decide) (fun c_5 => ?_) (fun c_5 => ?_)
        · refine lv_iconst (v := 1) hx hb d_N_changeFlag_46 (by decide) ?_
          refine lv_istore_n (lv' := [(2, .int 1), (0, .ref h0), (1, .int k)]) hx hb d_N_changeFlag_47 rfl hl (by decide) rfl (fun ls hl => ?_)
          refine lv_aload_n hx hb d_N_changeFlag_48 rfl (lv_at hl 1 rfl) ?_
          refine lv_aload_n hx hb d_N_changeFlag_49 rfl (lv_at hl 1 rfl) ?_
          refine va_get (D := D) (ci := 0) (v := .int a3) (C := R_N) (T := F_N) (N := 15) hx hb htB uw_N hown hK hP 0 rfl rfl 3 (by decide) (htB _ fl_N_91) (fun _ h9 => h9) rfl d_N_changeFlag_50 ?_
          refine lv_iload_n hx hb d_N_changeFlag_53 rfl (lv_at hl 0 rfl) ?_
          refine lv_iadd hx hb d_N_changeFlag_54 ?_
          refine lv_sipush (v := 10000) hx hb d_N_changeFlag_55 (by decide) ?_
          refine va_mmin hx hb (hml.trans hl.1.symm) hown (htB _ ml_N_65) (htB _ st_math_min) (htB _ in_math) (htB _ co_math_min) (Nat.le_of_ble_eq_true rfl) (Nat.le_of_ble_eq_true rfl) (Nat.le_of_ble_eq_true rfl) (Nat.le_of_ble_eq_true rfl) d_N_changeFlag_58 ?_
          refine va_put (D := D) (ci := 0) (v := .int (if 10000 < (a3 + 1) then 10000 else (a3 + 1))) (ty := .int) (C := R_N) (T := F_N) (N := 15) hx hb htB uw_N t_N t_N_ok n_N hown hK hP hD hS 0 rfl rfl 3 (by decide) (htB _ fl_N_91) (fun _ h9 => h9) rfl (t_N_ok 3 (by decide)) rfl rfl (Nat.le_of_ble_eq_true rfl) d_N_changeFlag_61 (fun H locs hP hD hS => ?_)
          have hP : va_P D cls_ [(h0, .inr (0, [.int a0, .int a1, .int a2, .int (if 10000 < (a3 + 1) then 10000 else (a3 + 1)), .int a4, .int a5, .int a6, .int a7, .int a8, .int a9, .int a10, .int a11, .long a12, .int a13, .int a14]))] H := hP
          have hD : va_D (fun q : Nat => q = h0) [(h0, .inr (0, [.int a0, .int a1, .int a2, .int (if 10000 < (a3 + 1) then 10000 else (a3 + 1)), .int a4, .int a5, .int a6, .int a7, .int a8, .int a9, .int a10, .int a11, .long a12, .int a13, .int a14]))] := hD
          exact W.vret hx hb hr (fun t ht hW => ⟨⟨(a0, a1, a2, (if 10000 < (a3 + 1) then 10000 else (a3 + 1)), a4, a5, a6, a7, a8, a9, a10, a11, a12, a13, a14), rfl, (hc.trans ((if_neg c_1).trans ((if_pos c_3).trans ((if_neg c_4).trans (if_neg c_5))))).symm, by show va_P _ _ _ t.heap; rw [ht]; exact hP⟩, hS.F ht⟩) hS.2.2 d_N_changeFlag_64
        · refine lv_bipush (v := 8) hx hb d_N_changeFlag_41 (by decide) ?_
          refine lv_goto (tgt := 47) hx hb d_N_changeFlag_43 (by decide) ?_
          refine lv_istore_n (lv' := [(2, .int 8), (0, .ref h0), (1, .int k)]) hx hb d_N_changeFlag_47 rfl hl (by decide) rfl (fun ls hl => ?_)
          refine lv_aload_n hx hb d_N_changeFlag_48 rfl (lv_at hl 1 rfl) ?_
          refine lv_aload_n hx hb d_N_changeFlag_49 rfl (lv_at hl 1 rfl) ?_
          refine va_get (D := D) (ci := 0) (v := .int a3) (C := R_N) (T := F_N) (N := 15) hx hb htB uw_N hown hK hP 0 rfl rfl 3 (by decide) (htB _ fl_N_91) (fun _ h9 => h9) rfl d_N_changeFlag_50 ?_
          refine lv_iload_n hx hb d_N_changeFlag_53 rfl (lv_at hl 0 rfl) ?_
          refine lv_iadd hx hb d_N_changeFlag_54 ?_
          refine lv_sipush (v := 10000) hx hb d_N_changeFlag_55 (by decide) ?_
          refine va_mmin hx hb (hml.trans hl.1.symm) hown (htB _ ml_N_65) (htB _ st_math_min) (htB _ in_math) (htB _ co_math_min) (Nat.le_of_ble_eq_true rfl) (Nat.le_of_ble_eq_true rfl) (Nat.le_of_ble_eq_true rfl) (Nat.le_of_ble_eq_true rfl) d_N_changeFlag_58 ?_
          refine va_put (D := D) (ci := 0) (v := .int (if 10000 < (a3 + 8) then 10000 else (a3 + 8))) (ty := .int) (C := R_N) (T := F_N) (N := 15) hx hb htB uw_N t_N t_N_ok n_N hown hK hP hD hS 0 rfl rfl 3 (by decide) (htB _ fl_N_91) (fun _ h9 => h9) rfl (t_N_ok 3 (by decide)) rfl rfl (Nat.le_of_ble_eq_true rfl) d_N_changeFlag_61 (fun H locs hP hD hS => ?_)
          have hP : va_P D cls_ [(h0, .inr (0, [.int a0, .int a1, .int a2, .int (if 10000 < (a3 + 8) then 10000 else (a3 + 8)), .int a4, .int a5, .int a6, .int a7, .int a8, .int a9, .int a10, .int a11, .long a12, .int a13, .int a14]))] H := hP
          have hD : va_D (fun q : Nat => q = h0) [(h0, .inr (0, [.int a0, .int a1, .int a2, .int (if 10000 < (a3 + 8) then 10000 else (a3 + 8)), .int a4, .int a5, .int a6, .int a7, .int a8, .int a9, .int a10, .int a11, .long a12, .int a13, .int a14]))] := hD
          exact W.vret hx hb hr (fun t ht hW => ⟨⟨(a0, a1, a2, (if 10000 < (a3 + 8) then 10000 else (a3 + 8)), a4, a5, a6, a7, a8, a9, a10, a11, a12, a13, a14), rfl, (hc.trans ((if_neg c_1).trans ((if_pos c_3).trans ((if_neg c_4).trans (if_pos c_5))))).symm, by show va_P _ _ _ t.heap; rw [ht]; exact hP⟩, hS.F ht⟩) hS.2.2 d_N_changeFlag_64
    · refine lv_aload_n hx hb d_N_changeFlag_19 rfl (lv_at hl 0 rfl) ?_
      refine lv_bipush (v := 6) hx hb d_N_changeFlag_20 (by decide) ?_
      refine va_put (D := D) (ci := 0) (v := .int 6) (ty := .int) (C := R_N) (T := F_N) (N := 15) hx hb htB uw_N t_N t_N_ok n_N hown hK hP hD hS 0 rfl rfl 3 (by decide) (htB _ fl_N_91) (fun _ h9 => h9) rfl (t_N_ok 3 (by decide)) rfl rfl (Nat.le_of_ble_eq_true rfl) d_N_changeFlag_22 (fun H locs hP hD hS => ?_)
      have hP : va_P D cls_ [(h0, .inr (0, [.int a0, .int a1, .int a2, .int 6, .int a4, .int a5, .int a6, .int a7, .int a8, .int a9, .int a10, .int a11, .long a12, .int a13, .int a14]))] H := hP
      have hD : va_D (fun q : Nat => q = h0) [(h0, .inr (0, [.int a0, .int a1, .int a2, .int 6, .int a4, .int a5, .int a6, .int a7, .int a8, .int a9, .int a10, .int a11, .long a12, .int a13, .int a14]))] := hD
      refine lv_goto (tgt := 64) hx hb d_N_changeFlag_25 (by decide) ?_
      exact W.vret hx hb hr (fun t ht hW => ⟨⟨(a0, a1, a2, 6, a4, a5, a6, a7, a8, a9, a10, a11, a12, a13, a14), rfl, (hc.trans ((if_neg c_1).trans (if_neg c_3))).symm, by show va_P _ _ _ t.heap; rw [ht]; exact hP⟩, hS.F ht⟩) hS.2.2 d_N_changeFlag_64
  · refine lv_aload_n hx hb d_N_changeFlag_4 rfl (lv_at hl 0 rfl) ?_
    refine lv_iconst (v := 0) hx hb d_N_changeFlag_5 (by decide) ?_
    refine va_put (D := D) (ci := 0) (v := .int 0) (ty := .int) (C := R_N) (T := F_N) (N := 15) hx hb htB uw_N t_N t_N_ok n_N hown hK hP hD hS 0 rfl rfl 3 (by decide) (htB _ fl_N_91) (fun _ h9 => h9) rfl (t_N_ok 3 (by decide)) rfl rfl (Nat.le_of_ble_eq_true rfl) d_N_changeFlag_6 (fun H locs hP hD hS => ?_)
    have hP : va_P D cls_ [(h0, .inr (0, [.int a0, .int a1, .int a2, .int 0, .int a4, .int a5, .int a6, .int a7, .int a8, .int a9, .int a10, .int a11, .long a12, .int a13, .int a14]))] H := hP
    have hD : va_D (fun q : Nat => q = h0) [(h0, .inr (0, [.int a0, .int a1, .int a2, .int 0, .int a4, .int a5, .int a6, .int a7, .int a8, .int a9, .int a10, .int a11, .long a12, .int a13, .int a14]))] := hD
    refine lv_goto (tgt := 64) hx hb d_N_changeFlag_9 (by decide) ?_
    exact W.vret hx hb hr (fun t ht hW => ⟨⟨(a0, a1, a2, 0, a4, a5, a6, a7, a8, a9, a10, a11, a12, a13, a14), rfl, (hc.trans (if_pos c_1)).symm, by show va_P _ _ _ t.heap; rw [ht]; exact hP⟩, hS.F ht⟩) hS.2.2 d_N_changeFlag_64
def f_N_mayComeBack (u : NS) (tt : Int64) : Int32 × NS := let a0 := u.1; let a1 := u.2.1; let a2 := u.2.2.1; let a3 := u.2.2.2.1; let a4 := u.2.2.2.2.1; let a5 := u.2.2.2.2.2.1; let a6 := u.2.2.2.2.2.2.1; let a7 := u.2.2.2.2.2.2.2.1; let a8 := u.2.2.2.2.2.2.2.2.1; let a9 := u.2.2.2.2.2.2.2.2.2.1; let a10 := u.2.2.2.2.2.2.2.2.2.2.1; let a11 := u.2.2.2.2.2.2.2.2.2.2.2.1; let a12 := u.2.2.2.2.2.2.2.2.2.2.2.2.1; let a13 := u.2.2.2.2.2.2.2.2.2.2.2.2.2.1; let a14 := u.2.2.2.2.2.2.2.2.2.2.2.2.2.2; if a2 = 0 then (1, (a0, a1, a2, a3, a4, a5, a6, a7, a8, a9, a10, a11, a12, a13, a14)) else (if a11 = 0 then (0, (a0, a1, a2, a3, a4, a5, a6, a7, a8, a9, a10, 1, tt, a13, a14)) else (if (lg_cmp (tt - a12) (f_N_delay (a0, a1, a2, a3, a4, a5, a6, a7, a8, a9, a10, a11, a12, a13, a14))) < 0 then (a13, (a0, a1, a2, a3, a4, a5, a6, a7, a8, a9, a10, a11, a12, a13, a14)) else (1, (a0, a1, a2, a3, a4, a5, a6, a7, a8, a9, a10, a11, a12, 1, a14))))
set_option maxHeartbeats 4000000 in
set_option maxRecDepth 100000 in
theorem c_N_mayComeBack (l : Launch) (D : va_G) (h0 : Nat) (u : NS) (tt : Int64) (hb_a13 : u.2.2.2.2.2.2.2.2.2.2.2.2.2.1 = 0 ∨ u.2.2.2.2.2.2.2.2.2.2.2.2.2.1 = 1) : Met l y_N_mayComeBack (cw_N_mayComeBack :: BIG) ((rmk 1 0 0)) (va_Pc [.ref h0, .long tt] (fun U => va_P D cls_ [(h0, .inr (0, n_fs u))] U.heap ∧ va_K D cls_ [] U ∧ NK U)) (va_Qi (fun (r : Int32) (u2 : NS) => r = (f_N_mayComeBack u tt).1 ∧ u2 = (f_N_mayComeBack u tt).2) (fun (u2 : NS) (t : State) => va_P D cls_ [(h0, .inr (0, n_fs u2))] t.heap) (fun q : Nat => q = h0)) 0 0 (fun q : Nat => q = h0) := by
  obtain ⟨a0, a1, a2, a3, a4, a5, a6, a7, a8, a9, a10, a11, a12, a13, a14⟩ := u
  have hb_a13 : a13 = 0 ∨ a13 = 1 := hb_a13
  refine Met.ofW (cc := b_N_mayComeBack) (maxL := 3) (ret := (some .boolean)) (by decide) rfl ?_
  intro p e s m args below meth c s₁ B hml hv
  obtain ⟨rfl, hP, hK, hN⟩ := hv
  have hx := B.exec
  have hb := B.bytes
  have hr := B.returns
  have htB : ∀ w ∈ BIG, w.before _ s = true := fun w h => atoms_spec (ws := cw_N_mayComeBack :: BIG) B.pre w (List.mem_cons_of_mem _ h)
  have hown : s.vm.findClass R_N = some m.cls := findClass_of_methodNamed B.named
  have hlocks := B.notSynchronized
  have hP : va_P D cls_ [(h0, .inr (0, [.int a0, .int a1, .int a2, .int a3, .int a4, .int a5, .int a6, .int a7, .int a8, .int a9, .int a10, .int a11, .long a12, .int a13, .int a14]))] s.heap := hP
  have hD : va_D (fun q : Nat => q = h0) [(h0, .inr (0, [.int a0, .int a1, .int a2, .int a3, .int a4, .int a5, .int a6, .int a7, .int a8, .int a9, .int a10, .int a11, .long a12, .int a13, .int a14]))] := nD
  have hS : va_S (fun q : Nat => q = h0) s.heap s.heap [] := va_S.rf
  have hl := lv_entry ([.ref h0, .long tt]) (n := 3) (Nat.le_of_ble_eq_true rfl)
  rw [lg_entry_eq]
  generalize (lg_sl ([.ref h0, .long tt]) ++ List.replicate (3 - (lg_sl ([.ref h0, .long tt])).length) Slot.unset).toArray = ls at hl ⊢
  have hl : lv_has ls 3 [(0, .ref h0), (1, .long tt)] := hl
  have hc : f_N_mayComeBack (a0, a1, a2, a3, a4, a5, a6, a7, a8, a9, a10, a11, a12, a13, a14) tt = f_N_mayComeBack (a0, a1, a2, a3, a4, a5, a6, a7, a8, a9, a10, a11, a12, a13, a14) tt := rfl
  refine lv_aload_n hx hb d_N_mayComeBack_0 rfl (lv_at hl 0 rfl) ?_
  refine va_get (D := D) (ci := 0) (v := .int a2) (C := R_N) (T := F_N) (N := 15) hx hb htB uw_N hown hK hP 0 rfl rfl 2 (by decide) (htB _ fl_N_9) (fun _ h9 => h9) rfl d_N_mayComeBack_1 ?_
  refine lv_if_ne (tgt := 9) hx hb d_N_mayComeBack_4 (by decide) (fun c_1 => ?_) (fun c_1 => ?_)
  · refine lv_aload_n hx hb d_N_mayComeBack_9 rfl (lv_at hl 0 rfl) ?_
    refine va_get (D := D) (ci := 0) (v := .int a11) (C := R_N) (T := F_N) (N := 15) hx hb htB uw_N hown hK hP 0 rfl rfl 11 (by decide) (htB _ fl_N_94) (fun _ h9 => h9) rfl d_N_mayComeBack_10 ?_
    refine lv_if_ne (tgt := 28) hx hb d_N_mayComeBack_13 (by decide) (fun c_2 => ?_) (fun c_2 => ?_)
    · refine lv_lload_n hx hb d_N_mayComeBack_28 rfl (lv_at hl 1 rfl) ?_
      refine lv_aload_n hx hb d_N_mayComeBack_29 rfl (lv_at hl 0 rfl) ?_
      refine va_get (D := D) (ci := 0) (v := .long a12) (C := R_N) (T := F_N) (N := 15) hx hb htB uw_N hown hK hP 0 rfl rfl 12 (by decide) (htB _ fl_N_103) (fun _ h9 => h9) rfl d_N_mayComeBack_30 ?_
      refine lv_lsub hx hb d_N_mayComeBack_33 ?_
      refine lv_aload_n hx hb d_N_mayComeBack_34 rfl (lv_at hl 0 rfl) ?_
      refine vp_callSl (va_Run.run (va_runV (As := []) (rest := [.long (tt - a12)]) ⟨hx, hb, hml, hown, htB⟩ (c_N_delay l D h0 (a0, a1, a2, a3, a4, a5, a6, a7, a8, a9, a10, a11, a12, a13, a14)) (cwV 0 htB g_N_107 rfl rfl rfl (by decide +kernel) ⟨Nat.le_of_ble_eq_true rfl, Nat.le_of_ble_eq_true rfl⟩) (preV hP hK hN (va_recv hK hP (ci := 0) (q0 := 0) rfl rfl)) rfl rfl hl.1 rfl (lv_room (Nat.le_of_ble_eq_true rfl)) d_N_mayComeBack_35 ⟨Nat.le_of_ble_eq_true rfl, Nat.le_of_ble_eq_true rfl⟩)) (fun r_3 hr_3 => ?_)
      subst hr_3
      refine W.lcmp hx hb d_N_mayComeBack_38 ?_
      refine lv_if_lt (tgt := 47) hx hb d_N_mayComeBack_39 (by decide) (fun c_4 => ?_) (fun c_4 => ?_)
      · refine lv_aload_n hx hb d_N_mayComeBack_47 rfl (lv_at hl 0 rfl) ?_
        refine va_get (D := D) (ci := 0) (v := .int a13) (C := R_N) (T := F_N) (N := 15) hx hb htB uw_N hown hK hP 0 rfl rfl 13 (by decide) (htB _ fl_N_97) (fun _ h9 => h9) rfl d_N_mayComeBack_48 ?_
        have he : f_N_mayComeBack (a0, a1, a2, a3, a4, a5, a6, a7, a8, a9, a10, a11, a12, a13, a14) tt = (a13, (a0, a1, a2, a3, a4, a5, a6, a7, a8, a9, a10, a11, a12, a13, a14)) := hc.trans ((if_neg c_1).trans ((if_neg c_2).trans (if_pos c_4)))
        exact W.zret (ty := .boolean) hx hb hr (nbp hb_a13) (fun t ht hW => ⟨⟨a13, (a0, a1, a2, a3, a4, a5, a6, a7, a8, a9, a10, a11, a12, a13, a14), rfl, ⟨(congrArg Prod.fst he).symm, (congrArg Prod.snd he).symm⟩, by show va_P _ _ _ t.heap; rw [ht]; exact hP⟩, hS.F ht⟩) hS.2.2 d_N_mayComeBack_51
      · refine lv_aload_n hx hb d_N_mayComeBack_42 rfl (lv_at hl 0 rfl) ?_
        refine lv_iconst (v := 1) hx hb d_N_mayComeBack_43 (by decide) ?_
        refine va_put (D := D) (ci := 0) (v := .int 1) (ty := .boolean) (C := R_N) (T := F_N) (N := 15) hx hb htB uw_N t_N t_N_ok n_N hown hK hP hD hS 0 rfl rfl 13 (by decide) (htB _ fl_N_97) (fun _ h9 => h9) rfl (t_N_ok 13 (by decide)) nb1 fb1 (Nat.le_of_ble_eq_true rfl) d_N_mayComeBack_44 (fun H locs hP hD hS => ?_)
        have hP : va_P D cls_ [(h0, .inr (0, [.int a0, .int a1, .int a2, .int a3, .int a4, .int a5, .int a6, .int a7, .int a8, .int a9, .int a10, .int a11, .long a12, .int 1, .int a14]))] H := hP
        have hD : va_D (fun q : Nat => q = h0) [(h0, .inr (0, [.int a0, .int a1, .int a2, .int a3, .int a4, .int a5, .int a6, .int a7, .int a8, .int a9, .int a10, .int a11, .long a12, .int 1, .int a14]))] := hD
        refine lv_aload_n hx hb d_N_mayComeBack_47 rfl (lv_at hl 0 rfl) ?_
        refine va_get (D := D) (ci := 0) (v := .int 1) (C := R_N) (T := F_N) (N := 15) hx hb htB uw_N hown hK hP 0 rfl rfl 13 (by decide) (htB _ fl_N_97) (fun _ h9 => h9) rfl d_N_mayComeBack_48 ?_
        have he : f_N_mayComeBack (a0, a1, a2, a3, a4, a5, a6, a7, a8, a9, a10, a11, a12, a13, a14) tt = (1, (a0, a1, a2, a3, a4, a5, a6, a7, a8, a9, a10, a11, a12, 1, a14)) := hc.trans ((if_neg c_1).trans ((if_neg c_2).trans (if_neg c_4)))
        exact W.zret (ty := .boolean) hx hb hr nb1 (fun t ht hW => ⟨⟨1, (a0, a1, a2, a3, a4, a5, a6, a7, a8, a9, a10, a11, a12, 1, a14), rfl, ⟨(congrArg Prod.fst he).symm, (congrArg Prod.snd he).symm⟩, by show va_P _ _ _ t.heap; rw [ht]; exact hP⟩, hS.F ht⟩) hS.2.2 d_N_mayComeBack_51
    · refine lv_aload_n hx hb d_N_mayComeBack_16 rfl (lv_at hl 0 rfl) ?_
      refine lv_iconst (v := 1) hx hb d_N_mayComeBack_17 (by decide) ?_
      refine va_put (D := D) (ci := 0) (v := .int 1) (ty := .boolean) (C := R_N) (T := F_N) (N := 15) hx hb htB uw_N t_N t_N_ok n_N hown hK hP hD hS 0 rfl rfl 11 (by decide) (htB _ fl_N_94) (fun _ h9 => h9) rfl (t_N_ok 11 (by decide)) nb1 fb1 (Nat.le_of_ble_eq_true rfl) d_N_mayComeBack_18 (fun H locs hP hD hS => ?_)
      have hP : va_P D cls_ [(h0, .inr (0, [.int a0, .int a1, .int a2, .int a3, .int a4, .int a5, .int a6, .int a7, .int a8, .int a9, .int a10, .int 1, .long a12, .int a13, .int a14]))] H := hP
      have hD : va_D (fun q : Nat => q = h0) [(h0, .inr (0, [.int a0, .int a1, .int a2, .int a3, .int a4, .int a5, .int a6, .int a7, .int a8, .int a9, .int a10, .int 1, .long a12, .int a13, .int a14]))] := hD
      refine lv_aload_n hx hb d_N_mayComeBack_21 rfl (lv_at hl 0 rfl) ?_
      refine lv_lload_n hx hb d_N_mayComeBack_22 rfl (lv_at hl 1 rfl) ?_
      refine va_put (D := D) (ci := 0) (v := .long tt) (ty := .long) (C := R_N) (T := F_N) (N := 15) hx hb htB uw_N t_N t_N_ok n_N hown hK hP hD hS 0 rfl rfl 12 (by decide) (htB _ fl_N_103) (fun _ h9 => h9) rfl (t_N_ok 12 (by decide)) rfl rfl (Nat.le_of_ble_eq_true rfl) d_N_mayComeBack_23 (fun H locs hP hD hS => ?_)
      have hP : va_P D cls_ [(h0, .inr (0, [.int a0, .int a1, .int a2, .int a3, .int a4, .int a5, .int a6, .int a7, .int a8, .int a9, .int a10, .int 1, .long tt, .int a13, .int a14]))] H := hP
      have hD : va_D (fun q : Nat => q = h0) [(h0, .inr (0, [.int a0, .int a1, .int a2, .int a3, .int a4, .int a5, .int a6, .int a7, .int a8, .int a9, .int a10, .int 1, .long tt, .int a13, .int a14]))] := hD
      refine lv_iconst (v := 0) hx hb d_N_mayComeBack_26 (by decide) ?_
      have he : f_N_mayComeBack (a0, a1, a2, a3, a4, a5, a6, a7, a8, a9, a10, a11, a12, a13, a14) tt = (0, (a0, a1, a2, a3, a4, a5, a6, a7, a8, a9, a10, 1, tt, a13, a14)) := hc.trans ((if_neg c_1).trans (if_pos c_2))
      exact W.zret (ty := .boolean) hx hb hr nb0 (fun t ht hW => ⟨⟨0, (a0, a1, a2, a3, a4, a5, a6, a7, a8, a9, a10, 1, tt, a13, a14), rfl, ⟨(congrArg Prod.fst he).symm, (congrArg Prod.snd he).symm⟩, by show va_P _ _ _ t.heap; rw [ht]; exact hP⟩, hS.F ht⟩) hS.2.2 d_N_mayComeBack_27
  · refine lv_iconst (v := 1) hx hb d_N_mayComeBack_7 (by decide) ?_
    have he : f_N_mayComeBack (a0, a1, a2, a3, a4, a5, a6, a7, a8, a9, a10, a11, a12, a13, a14) tt = (1, (a0, a1, a2, a3, a4, a5, a6, a7, a8, a9, a10, a11, a12, a13, a14)) := hc.trans (if_pos c_1)
    exact W.zret (ty := .boolean) hx hb hr nb1 (fun t ht hW => ⟨⟨1, (a0, a1, a2, a3, a4, a5, a6, a7, a8, a9, a10, a11, a12, a13, a14), rfl, ⟨(congrArg Prod.fst he).symm, (congrArg Prod.snd he).symm⟩, by show va_P _ _ _ t.heap; rw [ht]; exact hP⟩, hS.F ht⟩) hS.2.2 d_N_mayComeBack_8
end
section
def f_N_undergo_k6 (u : NS) : NS := let b6_0 := u.1; let b6_1 := u.2.1; let b6_2 := u.2.2.1; let b6_3 := u.2.2.2.1; let b6_4 := u.2.2.2.2.1; let b6_5 := u.2.2.2.2.2.1; let b6_6 := u.2.2.2.2.2.2.1; let b6_7 := u.2.2.2.2.2.2.2.1; let b6_8 := u.2.2.2.2.2.2.2.2.1; let b6_9 := u.2.2.2.2.2.2.2.2.2.1; let b6_10 := u.2.2.2.2.2.2.2.2.2.2.1; let b6_11 := u.2.2.2.2.2.2.2.2.2.2.2.1; let b6_12 := u.2.2.2.2.2.2.2.2.2.2.2.2.1; let b6_13 := u.2.2.2.2.2.2.2.2.2.2.2.2.2.1; let b6_14 := u.2.2.2.2.2.2.2.2.2.2.2.2.2.2; (b6_0, b6_1, b6_2, b6_3, b6_4, b6_5, b6_6, b6_7, b6_8, b6_9, b6_10, b6_11, b6_12, b6_13, b6_14)
def f_N_undergo_j88 (u : NS) : NS := let j88_0 := u.1; let j88_1 := u.2.1; let j88_2 := u.2.2.1; let j88_3 := u.2.2.2.1; let j88_4 := u.2.2.2.2.1; let j88_5 := u.2.2.2.2.2.1; let j88_6 := u.2.2.2.2.2.2.1; let j88_7 := u.2.2.2.2.2.2.2.1; let j88_8 := u.2.2.2.2.2.2.2.2.1; let j88_9 := u.2.2.2.2.2.2.2.2.2.1; let j88_10 := u.2.2.2.2.2.2.2.2.2.2.1; let j88_11 := u.2.2.2.2.2.2.2.2.2.2.2.1; let j88_12 := u.2.2.2.2.2.2.2.2.2.2.2.2.1; let j88_13 := u.2.2.2.2.2.2.2.2.2.2.2.2.2.1; let j88_14 := u.2.2.2.2.2.2.2.2.2.2.2.2.2.2; if j88_0 < 256 then (j88_0, j88_1, j88_2, j88_3, j88_4, j88_5, j88_6, j88_7, j88_8, j88_9, j88_10, j88_11, j88_12, j88_13, j88_14) else (f_N_undergo_k6 (f_N_goOff (j88_0, j88_1, j88_2, j88_3, j88_4, j88_5, j88_6, j88_7, j88_8, j88_9, j88_10, j88_11, j88_12, j88_13, j88_14)))
def f_N_undergo_j56 (u : NS) (w : Int32) : NS := let j56_0 := u.1; let j56_1 := u.2.1; let j56_2 := u.2.2.1; let j56_3 := u.2.2.2.1; let j56_4 := u.2.2.2.2.1; let j56_5 := u.2.2.2.2.2.1; let j56_6 := u.2.2.2.2.2.2.1; let j56_7 := u.2.2.2.2.2.2.2.1; let j56_8 := u.2.2.2.2.2.2.2.2.1; let j56_9 := u.2.2.2.2.2.2.2.2.2.1; let j56_10 := u.2.2.2.2.2.2.2.2.2.2.1; let j56_11 := u.2.2.2.2.2.2.2.2.2.2.2.1; let j56_12 := u.2.2.2.2.2.2.2.2.2.2.2.2.1; let j56_13 := u.2.2.2.2.2.2.2.2.2.2.2.2.2.1; let j56_14 := u.2.2.2.2.2.2.2.2.2.2.2.2.2.2; if w = 0 then (f_N_undergo_j88 (j56_0, j56_1, j56_2, j56_3, 3, j56_5, j56_6, j56_7, j56_8, j56_9, j56_10, j56_11, j56_12, j56_13, j56_14)) else (if (f_N_condition (j56_0, j56_1, j56_2, j56_3, j56_4, j56_5, j56_6, j56_7, j56_8, j56_9, j56_10, j56_11, j56_12, j56_13, j56_14)) = 1 then (f_N_undergo_j88 (j56_0, j56_1, j56_2, j56_3, 11, j56_5, j56_6, j56_7, j56_8, j56_9, j56_10, j56_11, j56_12, j56_13, j56_14)) else (f_N_undergo_j88 (j56_0, j56_1, j56_2, j56_3, 3, j56_5, j56_6, j56_7, j56_8, j56_9, j56_10, j56_11, j56_12, j56_13, j56_14)))
def f_N_undergo_k10 (u : NS) (k : Int32) (w : Int32) : NS := let b10_0 := u.1; let b10_1 := u.2.1; let b10_2 := u.2.2.1; let b10_3 := u.2.2.2.1; let b10_4 := u.2.2.2.2.1; let b10_5 := u.2.2.2.2.2.1; let b10_6 := u.2.2.2.2.2.2.1; let b10_7 := u.2.2.2.2.2.2.2.1; let b10_8 := u.2.2.2.2.2.2.2.2.1; let b10_9 := u.2.2.2.2.2.2.2.2.2.1; let b10_10 := u.2.2.2.2.2.2.2.2.2.2.1; let b10_11 := u.2.2.2.2.2.2.2.2.2.2.2.1; let b10_12 := u.2.2.2.2.2.2.2.2.2.2.2.2.1; let b10_13 := u.2.2.2.2.2.2.2.2.2.2.2.2.2.1; let b10_14 := u.2.2.2.2.2.2.2.2.2.2.2.2.2.2; f_N_undergo_j56 (b10_0, b10_1, b10_2, b10_3, b10_4, b10_5, b10_6, b10_7, b10_8, b10_9, b10_10, b10_11, b10_12, b10_13, b10_14) w
def f_N_undergo_k9 (u : NS) (k : Int32) (w : Int32) : NS := let b9_0 := u.1; let b9_1 := u.2.1; let b9_2 := u.2.2.1; let b9_3 := u.2.2.2.1; let b9_4 := u.2.2.2.2.1; let b9_5 := u.2.2.2.2.2.1; let b9_6 := u.2.2.2.2.2.2.1; let b9_7 := u.2.2.2.2.2.2.2.1; let b9_8 := u.2.2.2.2.2.2.2.2.1; let b9_9 := u.2.2.2.2.2.2.2.2.2.1; let b9_10 := u.2.2.2.2.2.2.2.2.2.2.1; let b9_11 := u.2.2.2.2.2.2.2.2.2.2.2.1; let b9_12 := u.2.2.2.2.2.2.2.2.2.2.2.2.1; let b9_13 := u.2.2.2.2.2.2.2.2.2.2.2.2.2.1; let b9_14 := u.2.2.2.2.2.2.2.2.2.2.2.2.2.2; f_N_undergo_k10 (f_N_changeFlag (b9_0, b9_1, b9_2, b9_3, b9_4, b9_5, b9_6, b9_7, b9_8, b9_9, b9_10, b9_11, b9_12, b9_13, b9_14) k) k w
def f_N_undergo_j38 (u : NS) (k : Int32) (w : Int32) : NS := let j38_0 := u.1; let j38_1 := u.2.1; let j38_2 := u.2.2.1; let j38_3 := u.2.2.2.1; let j38_4 := u.2.2.2.2.1; let j38_5 := u.2.2.2.2.2.1; let j38_6 := u.2.2.2.2.2.2.1; let j38_7 := u.2.2.2.2.2.2.2.1; let j38_8 := u.2.2.2.2.2.2.2.2.1; let j38_9 := u.2.2.2.2.2.2.2.2.2.1; let j38_10 := u.2.2.2.2.2.2.2.2.2.2.1; let j38_11 := u.2.2.2.2.2.2.2.2.2.2.2.1; let j38_12 := u.2.2.2.2.2.2.2.2.2.2.2.2.1; let j38_13 := u.2.2.2.2.2.2.2.2.2.2.2.2.2.1; let j38_14 := u.2.2.2.2.2.2.2.2.2.2.2.2.2.2; if j38_7 = 0 then (f_N_undergo_k9 (f_N_countErrors (j38_0, j38_1, j38_2, j38_3, j38_4, j38_5, j38_6, j38_7, j38_8, j38_9, j38_10, j38_11, j38_12, j38_13, j38_14) k w) k w) else (f_N_undergo_j56 (j38_0, j38_1, j38_2, j38_3, j38_4, j38_5, j38_6, j38_7, j38_8, j38_9, j38_10, j38_11, j38_12, j38_13, j38_14) w)
def f_N_undergo_k1 (u : NS) (k : Int32) (w : Int32) : NS := let b1_0 := u.1; let b1_1 := u.2.1; let b1_2 := u.2.2.1; let b1_3 := u.2.2.2.1; let b1_4 := u.2.2.2.2.1; let b1_5 := u.2.2.2.2.2.1; let b1_6 := u.2.2.2.2.2.2.1; let b1_7 := u.2.2.2.2.2.2.2.1; let b1_8 := u.2.2.2.2.2.2.2.2.1; let b1_9 := u.2.2.2.2.2.2.2.2.2.1; let b1_10 := u.2.2.2.2.2.2.2.2.2.2.1; let b1_11 := u.2.2.2.2.2.2.2.2.2.2.2.1; let b1_12 := u.2.2.2.2.2.2.2.2.2.2.2.2.1; let b1_13 := u.2.2.2.2.2.2.2.2.2.2.2.2.2.1; let b1_14 := u.2.2.2.2.2.2.2.2.2.2.2.2.2.2; if b1_5 = 0 then (f_N_undergo_j38 (b1_0, b1_1, b1_2, b1_3, b1_4, b1_5, b1_6, b1_7, b1_8, b1_9, b1_10, b1_11, b1_12, b1_13, b1_14) k w) else (if w = 0 then (f_N_undergo_j38 (b1_0, b1_1, b1_2, b1_3, b1_4, b1_5, b1_6, b1_7, b1_8, b1_9, b1_10, b1_11, b1_12, b1_13, b1_14) k w) else (if (f_X_isError k) = 0 then (f_N_undergo_j38 (b1_0, b1_1, b1_2, b1_3, b1_4, b1_5, b1_6, b1_7, b1_8, b1_9, b1_10, b1_11, b1_12, b1_13, b1_14) k w) else (f_N_undergo_j38 (b1_0, b1_1, b1_2, b1_3, b1_4, b1_5, b1_6 + 1, b1_7, b1_8, b1_9, b1_10, b1_11, b1_12, b1_13, b1_14) k w)))
def f_N_undergo (u : NS) (k : Int32) (w : Int32) : NS := let a0 := u.1; let a1 := u.2.1; let a2 := u.2.2.1; let a3 := u.2.2.2.1; let a4 := u.2.2.2.2.1; let a5 := u.2.2.2.2.2.1; let a6 := u.2.2.2.2.2.2.1; let a7 := u.2.2.2.2.2.2.2.1; let a9 := u.2.2.2.2.2.2.2.2.2.1; let a10 := u.2.2.2.2.2.2.2.2.2.2.1; let a11 := u.2.2.2.2.2.2.2.2.2.2.2.1; let a12 := u.2.2.2.2.2.2.2.2.2.2.2.2.1; let a13 := u.2.2.2.2.2.2.2.2.2.2.2.2.2.1; let a14 := u.2.2.2.2.2.2.2.2.2.2.2.2.2.2; f_N_undergo_k1 (f_N_countGoodFrames (a0, a1, a2, a3, a4, a5, a6, a7, w, a9, a10, a11, a12, a13, a14) k) k w
set_option maxHeartbeats 4000000 in
set_option maxRecDepth 100000 in
theorem c_N_undergo (l : Launch) (D : va_G) (h0 : Nat) (u : NS) (k : Int32) (w : Int32) (hb_w : w = 0 ∨ w = 1) : Met l y_N_undergo (cw_N_undergo :: BIG) ((rmk 3 0 0)) (va_Pc [.ref h0, .int k, .int w] (fun U => va_P D cls_ [(h0, .inr (0, n_fs u))] U.heap ∧ va_K D cls_ [] U ∧ NK U)) (va_Qv (fun u2 : NS => u2 = f_N_undergo u k w) (fun (u2 : NS) (t : State) => va_P D cls_ [(h0, .inr (0, n_fs u2))] t.heap) (fun q : Nat => q = h0)) 0 0 (fun q : Nat => q = h0) := by
  obtain ⟨a0, a1, a2, a3, a4, a5, a6, a7, a8, a9, a10, a11, a12, a13, a14⟩ := u
  refine Met.ofW (cc := b_N_undergo) (maxL := 4) (ret := none) (by decide) rfl ?_
  intro p e s m args below meth c s₁ B hml hv
  obtain ⟨rfl, hP, hK, hN⟩ := hv
  have hx := B.exec
  have hb := B.bytes
  have hr := B.returns
  have htB : ∀ w ∈ BIG, w.before _ s = true := fun w h => atoms_spec (ws := cw_N_undergo :: BIG) B.pre w (List.mem_cons_of_mem _ h)
  have hown : s.vm.findClass R_N = some m.cls := findClass_of_methodNamed B.named
  have hlocks := B.notSynchronized
  have hP : va_P D cls_ [(h0, .inr (0, [.int a0, .int a1, .int a2, .int a3, .int a4, .int a5, .int a6, .int a7, .int a8, .int a9, .int a10, .int a11, .long a12, .int a13, .int a14]))] s.heap := hP
  have hD : va_D (fun q : Nat => q = h0) [(h0, .inr (0, [.int a0, .int a1, .int a2, .int a3, .int a4, .int a5, .int a6, .int a7, .int a8, .int a9, .int a10, .int a11, .long a12, .int a13, .int a14]))] := nD
  have hS : va_S (fun q : Nat => q = h0) s.heap s.heap [] := va_S.rf
  have hl := lv_entry ([.ref h0, .int k, .int w]) (n := 4) (Nat.le_of_ble_eq_true rfl)
  rw [lg_entry_eq]
  generalize (lg_sl ([.ref h0, .int k, .int w]) ++ List.replicate (4 - (lg_sl ([.ref h0, .int k, .int w])).length) Slot.unset).toArray = ls at hl ⊢
  have hl : lv_has ls 4 [(0, .ref h0), (1, .int k), (2, .int w)] := hl
  have hc : f_N_undergo (a0, a1, a2, a3, a4, a5, a6, a7, a8, a9, a10, a11, a12, a13, a14) k w = f_N_undergo (a0, a1, a2, a3, a4, a5, a6, a7, a8, a9, a10, a11, a12, a13, a14) k w := rfl
  have J88 : ∀ (j88_0 : Int32) (j88_1 : Int32) (j88_2 : Int32) (j88_3 : Int32) (j88_4 : Int32) (j88_5 : Int32) (j88_6 : Int32) (j88_7 : Int32) (j88_8 : Int32) (j88_9 : Int32) (j88_10 : Int32) (j88_11 : Int32) (j88_12 : Int64) (j88_13 : Int32) (j88_14 : Int32) (H : Heap) (locs : List Loc) (ls : Array Slot), f_N_undergo (a0, a1, a2, a3, a4, a5, a6, a7, a8, a9, a10, a11, a12, a13, a14) k w = f_N_undergo_j88 (j88_0, j88_1, j88_2, j88_3, j88_4, j88_5, j88_6, j88_7, j88_8, j88_9, j88_10, j88_11, j88_12, j88_13, j88_14) → va_P D cls_ ([(h0, .inr (0, [.int j88_0, .int j88_1, .int j88_2, .int j88_3, .int j88_4, .int j88_5, .int j88_6, .int j88_7, .int j88_8, .int j88_9, .int j88_10, .int j88_11, .long j88_12, .int j88_13, .int j88_14]))]) H → va_D (fun q : Nat => q = h0) ([(h0, .inr (0, [.int j88_0, .int j88_1, .int j88_2, .int j88_3, .int j88_4, .int j88_5, .int j88_6, .int j88_7, .int j88_8, .int j88_9, .int j88_10, .int j88_11, .long j88_12, .int j88_13, .int j88_14]))]) → va_S (fun q : Nat => q = h0) s.heap H locs → lv_has ls 4 [(0, .ref h0)] → W p l e (headSpec (cw_N_undergo :: BIG) (rmk 3 0 0)).room s m ([.ref h0, .int k, .int w].toArray) below meth c H locs 0 0 (MQ below (va_Qv (fun u2 : NS => u2 = f_N_undergo (a0, a1, a2, a3, a4, a5, a6, a7, a8, a9, a10, a11, a12, a13, a14) k w) (fun (u2 : NS) (t : State) => va_P D cls_ [(h0, .inr (0, n_fs u2))] t.heap) (fun q : Nat => q = h0)) ([.ref h0, .int k, .int w].toArray) s 0 0 (fun q : Nat => q = h0)) (F0 m 88 ls []) := by
    intro j88_0 j88_1 j88_2 j88_3 j88_4 j88_5 j88_6 j88_7 j88_8 j88_9 j88_10 j88_11 j88_12 j88_13 j88_14 H locs ls hc hP hD hS hl
    refine lv_aload_n hx hb d_N_undergo_88 rfl (lv_at hl 0 rfl) ?_
    refine va_get (D := D) (ci := 0) (v := .int j88_0) (C := R_N) (T := F_N) (N := 15) hx hb htB uw_N hown hK hP 0 rfl rfl 0 (by decide) (htB _ fl_N_15) (fun _ h9 => h9) rfl d_N_undergo_89 ?_
    refine lv_sipush (v := 256) hx hb d_N_undergo_92 (by decide) ?_
    refine lv_icmp_lt (tgt := 102) hx hb d_N_undergo_95 (by decide) (fun c_5 => ?_) (fun c_5 => ?_)
    · exact W.vret hx hb hr (fun t ht hW => ⟨⟨(j88_0, j88_1, j88_2, j88_3, j88_4, j88_5, j88_6, j88_7, j88_8, j88_9, j88_10, j88_11, j88_12, j88_13, j88_14), rfl, (hc.trans (if_pos c_5)).symm, by show va_P _ _ _ t.heap; rw [ht]; exact hP⟩, hS.F ht⟩) hS.2.2 d_N_undergo_102
    · refine lv_aload_n hx hb d_N_undergo_98 rfl (lv_at hl 0 rfl) ?_
      refine va_callv (va_runV (As := []) (rest := []) ⟨hx, hb, hml, hown, htB⟩ (c_N_goOff l D h0 (j88_0, j88_1, j88_2, j88_3, j88_4, j88_5, j88_6, j88_7, j88_8, j88_9, j88_10, j88_11, j88_12, j88_13, j88_14)) (cwV 0 htB g_N_59 rfl rfl rfl (by decide +kernel) ⟨Nat.le_of_ble_eq_true rfl, Nat.le_of_ble_eq_true rfl⟩) (preV hP hK hN (va_recv hK hP (ci := 0) (q0 := 0) rfl rfl)) rfl rfl hl.1 rfl (lv_room (Nat.le_of_ble_eq_true rfl)) d_N_undergo_99 ⟨Nat.le_of_ble_eq_true rfl, Nat.le_of_ble_eq_true rfl⟩) hS (fun _ _ h => h) (fun _ h => h) (fun u t H locs ht hvm hw hP hz1 hk1 hS => ?_)
      rw [ht] at hP
      obtain ⟨b6_0, b6_1, b6_2, b6_3, b6_4, b6_5, b6_6, b6_7, b6_8, b6_9, b6_10, b6_11, b6_12, b6_13, b6_14⟩ := u
      have hP : va_P D cls_ [(h0, .inr (0, [.int b6_0, .int b6_1, .int b6_2, .int b6_3, .int b6_4, .int b6_5, .int b6_6, .int b6_7, .int b6_8, .int b6_9, .int b6_10, .int b6_11, .long b6_12, .int b6_13, .int b6_14]))] H := hP
      have hD : va_D (fun q : Nat => q = h0) [(h0, .inr (0, [.int b6_0, .int b6_1, .int b6_2, .int b6_3, .int b6_4, .int b6_5, .int b6_6, .int b6_7, .int b6_8, .int b6_9, .int b6_10, .int b6_11, .long b6_12, .int b6_13, .int b6_14]))] := nD
      have hc : f_N_undergo (a0, a1, a2, a3, a4, a5, a6, a7, a8, a9, a10, a11, a12, a13, a14) k w = f_N_undergo_k6 (b6_0, b6_1, b6_2, b6_3, b6_4, b6_5, b6_6, b6_7, b6_8, b6_9, b6_10, b6_11, b6_12, b6_13, b6_14) := (hc.trans (if_neg c_5)).trans (congrArg (fun z => f_N_undergo_k6 z) hw.symm)
      exact W.vret hx hb hr (fun t ht hW => ⟨⟨(b6_0, b6_1, b6_2, b6_3, b6_4, b6_5, b6_6, b6_7, b6_8, b6_9, b6_10, b6_11, b6_12, b6_13, b6_14), rfl, (hc.trans (rfl)).symm, by show va_P _ _ _ t.heap; rw [ht]; exact hP⟩, hS.F ht⟩) hS.2.2 d_N_undergo_102
  have J56 : ∀ (j56_0 : Int32) (j56_1 : Int32) (j56_2 : Int32) (j56_3 : Int32) (j56_4 : Int32) (j56_5 : Int32) (j56_6 : Int32) (j56_7 : Int32) (j56_8 : Int32) (j56_9 : Int32) (j56_10 : Int32) (j56_11 : Int32) (j56_12 : Int64) (j56_13 : Int32) (j56_14 : Int32) (H : Heap) (locs : List Loc) (ls : Array Slot), f_N_undergo (a0, a1, a2, a3, a4, a5, a6, a7, a8, a9, a10, a11, a12, a13, a14) k w = f_N_undergo_j56 (j56_0, j56_1, j56_2, j56_3, j56_4, j56_5, j56_6, j56_7, j56_8, j56_9, j56_10, j56_11, j56_12, j56_13, j56_14) w → va_P D cls_ ([(h0, .inr (0, [.int j56_0, .int j56_1, .int j56_2, .int j56_3, .int j56_4, .int j56_5, .int j56_6, .int j56_7, .int j56_8, .int j56_9, .int j56_10, .int j56_11, .long j56_12, .int j56_13, .int j56_14]))]) H → va_D (fun q : Nat => q = h0) ([(h0, .inr (0, [.int j56_0, .int j56_1, .int j56_2, .int j56_3, .int j56_4, .int j56_5, .int j56_6, .int j56_7, .int j56_8, .int j56_9, .int j56_10, .int j56_11, .long j56_12, .int j56_13, .int j56_14]))]) → va_S (fun q : Nat => q = h0) s.heap H locs → lv_has ls 4 [(0, .ref h0), (2, .int w)] → W p l e (headSpec (cw_N_undergo :: BIG) (rmk 3 0 0)).room s m ([.ref h0, .int k, .int w].toArray) below meth c H locs 0 0 (MQ below (va_Qv (fun u2 : NS => u2 = f_N_undergo (a0, a1, a2, a3, a4, a5, a6, a7, a8, a9, a10, a11, a12, a13, a14) k w) (fun (u2 : NS) (t : State) => va_P D cls_ [(h0, .inr (0, n_fs u2))] t.heap) (fun q : Nat => q = h0)) ([.ref h0, .int k, .int w].toArray) s 0 0 (fun q : Nat => q = h0)) (F0 m 56 ls []) := by
    intro j56_0 j56_1 j56_2 j56_3 j56_4 j56_5 j56_6 j56_7 j56_8 j56_9 j56_10 j56_11 j56_12 j56_13 j56_14 H locs ls hc hP hD hS hl
    refine lv_iload_n hx hb d_N_undergo_56 rfl (lv_at hl 1 rfl) ?_
    refine lv_if_eq (tgt := 72) hx hb d_N_undergo_57 (by decide) (fun c_4 => ?_) (fun c_4 => ?_)
    · refine lv_iconst (v := 0) hx hb d_N_undergo_72 (by decide) ?_
      refine lv_istore_n (lv' := [(3, .int 0), (0, .ref h0), (2, .int w)]) hx hb d_N_undergo_73 rfl hl (by decide) rfl (fun ls hl => ?_)
      refine lv_aload_n hx hb d_N_undergo_74 rfl (lv_at hl 1 rfl) ?_
      refine lv_iload_n hx hb d_N_undergo_75 rfl (lv_at hl 0 rfl) ?_
      refine lv_if_eq (tgt := 84) hx hb d_N_undergo_76 (by decide) (fun _ => ?_) (fun c9 => absurd (by decide) c9)
      refine lv_iconst (v := 3) hx hb d_N_undergo_84 (by decide) ?_
      refine va_put (D := D) (ci := 0) (v := .int 3) (ty := .int) (C := R_N) (T := F_N) (N := 15) hx hb htB uw_N t_N t_N_ok n_N hown hK hP hD hS 0 rfl rfl 4 (by decide) (htB _ fl_N_56) (fun _ h9 => h9) rfl (t_N_ok 4 (by decide)) rfl rfl (Nat.le_of_ble_eq_true rfl) d_N_undergo_85 (fun H locs hP hD hS => ?_)
      have hP : va_P D cls_ [(h0, .inr (0, [.int j56_0, .int j56_1, .int j56_2, .int j56_3, .int 3, .int j56_5, .int j56_6, .int j56_7, .int j56_8, .int j56_9, .int j56_10, .int j56_11, .long j56_12, .int j56_13, .int j56_14]))] H := hP
      have hD : va_D (fun q : Nat => q = h0) [(h0, .inr (0, [.int j56_0, .int j56_1, .int j56_2, .int j56_3, .int 3, .int j56_5, .int j56_6, .int j56_7, .int j56_8, .int j56_9, .int j56_10, .int j56_11, .long j56_12, .int j56_13, .int j56_14]))] := hD
      exact J88 j56_0 j56_1 j56_2 j56_3 3 j56_5 j56_6 j56_7 j56_8 j56_9 j56_10 j56_11 j56_12 j56_13 j56_14 _ _ _ (hc.trans (if_pos c_4)) hP hD hS (lv_sub hl [1] rfl)
    · refine lv_aload_n hx hb d_N_undergo_60 rfl (lv_at hl 0 rfl) ?_
      refine vp_callSi (va_Run.run (va_runV (As := []) (rest := []) ⟨hx, hb, hml, hown, htB⟩ (c_N_condition l D h0 (j56_0, j56_1, j56_2, j56_3, j56_4, j56_5, j56_6, j56_7, j56_8, j56_9, j56_10, j56_11, j56_12, j56_13, j56_14)) (cwV 0 htB g_N_52 rfl rfl rfl (by decide +kernel) ⟨Nat.le_of_ble_eq_true rfl, Nat.le_of_ble_eq_true rfl⟩) (preV hP hK hN (va_recv hK hP (ci := 0) (q0 := 0) rfl rfl)) rfl rfl hl.1 rfl (lv_room (Nat.le_of_ble_eq_true rfl)) d_N_undergo_61 ⟨Nat.le_of_ble_eq_true rfl, Nat.le_of_ble_eq_true rfl⟩)) (fun r_7 hr_7 => ?_)
      subst hr_7
      refine lv_iconst (v := 1) hx hb d_N_undergo_64 (by decide) ?_
      refine lv_icmp_ne (tgt := 72) hx hb d_N_undergo_65 (by decide) (fun c_8 => ?_) (fun c_8 => ?_)
      · refine lv_iconst (v := 0) hx hb d_N_undergo_72 (by decide) ?_
        refine lv_istore_n (lv' := [(3, .int 0), (0, .ref h0), (2, .int w)]) hx hb d_N_undergo_73 rfl hl (by decide) rfl (fun ls hl => ?_)
        refine lv_aload_n hx hb d_N_undergo_74 rfl (lv_at hl 1 rfl) ?_
        refine lv_iload_n hx hb d_N_undergo_75 rfl (lv_at hl 0 rfl) ?_
        refine lv_if_eq (tgt := 84) hx hb d_N_undergo_76 (by decide) (fun _ => ?_) (fun c9 => absurd (by decide) c9)
        refine lv_iconst (v := 3) hx hb d_N_undergo_84 (by decide) ?_
        refine va_put (D := D) (ci := 0) (v := .int 3) (ty := .int) (C := R_N) (T := F_N) (N := 15) hx hb htB uw_N t_N t_N_ok n_N hown hK hP hD hS 0 rfl rfl 4 (by decide) (htB _ fl_N_56) (fun _ h9 => h9) rfl (t_N_ok 4 (by decide)) rfl rfl (Nat.le_of_ble_eq_true rfl) d_N_undergo_85 (fun H locs hP hD hS => ?_)
        have hP : va_P D cls_ [(h0, .inr (0, [.int j56_0, .int j56_1, .int j56_2, .int j56_3, .int 3, .int j56_5, .int j56_6, .int j56_7, .int j56_8, .int j56_9, .int j56_10, .int j56_11, .long j56_12, .int j56_13, .int j56_14]))] H := hP
        have hD : va_D (fun q : Nat => q = h0) [(h0, .inr (0, [.int j56_0, .int j56_1, .int j56_2, .int j56_3, .int 3, .int j56_5, .int j56_6, .int j56_7, .int j56_8, .int j56_9, .int j56_10, .int j56_11, .long j56_12, .int j56_13, .int j56_14]))] := hD
        exact J88 j56_0 j56_1 j56_2 j56_3 3 j56_5 j56_6 j56_7 j56_8 j56_9 j56_10 j56_11 j56_12 j56_13 j56_14 _ _ _ (hc.trans ((if_neg c_4).trans (if_neg c_8))) hP hD hS (lv_sub hl [1] rfl)
      · refine lv_iconst (v := 1) hx hb d_N_undergo_68 (by decide) ?_
        refine lv_goto (tgt := 73) hx hb d_N_undergo_69 (by decide) ?_
        refine lv_istore_n (lv' := [(3, .int 1), (0, .ref h0), (2, .int w)]) hx hb d_N_undergo_73 rfl hl (by decide) rfl (fun ls hl => ?_)
        refine lv_aload_n hx hb d_N_undergo_74 rfl (lv_at hl 1 rfl) ?_
        refine lv_iload_n hx hb d_N_undergo_75 rfl (lv_at hl 0 rfl) ?_
        refine lv_if_eq (tgt := 84) hx hb d_N_undergo_76 (by decide) (fun c9 => absurd c9 (by decide)) (fun _ => ?_)
        refine lv_bipush (v := 11) hx hb d_N_undergo_79 (by decide) ?_
        refine lv_goto (tgt := 85) hx hb d_N_undergo_81 (by decide) ?_
        refine va_put (D := D) (ci := 0) (v := .int 11) (ty := .int) (C := R_N) (T := F_N) (N := 15) hx hb htB uw_N t_N t_N_ok n_N hown hK hP hD hS 0 rfl rfl 4 (by decide) (htB _ fl_N_56) (fun _ h9 => h9) rfl (t_N_ok 4 (by decide)) rfl rfl (Nat.le_of_ble_eq_true rfl) d_N_undergo_85 (fun H locs hP hD hS => ?_)
        have hP : va_P D cls_ [(h0, .inr (0, [.int j56_0, .int j56_1, .int j56_2, .int j56_3, .int 11, .int j56_5, .int j56_6, .int j56_7, .int j56_8, .int j56_9, .int j56_10, .int j56_11, .long j56_12, .int j56_13, .int j56_14]))] H := hP
        have hD : va_D (fun q : Nat => q = h0) [(h0, .inr (0, [.int j56_0, .int j56_1, .int j56_2, .int j56_3, .int 11, .int j56_5, .int j56_6, .int j56_7, .int j56_8, .int j56_9, .int j56_10, .int j56_11, .long j56_12, .int j56_13, .int j56_14]))] := hD
        exact J88 j56_0 j56_1 j56_2 j56_3 11 j56_5 j56_6 j56_7 j56_8 j56_9 j56_10 j56_11 j56_12 j56_13 j56_14 _ _ _ (hc.trans ((if_neg c_4).trans (if_pos c_8))) hP hD hS (lv_sub hl [1] rfl)
  have J38 : ∀ (j38_0 : Int32) (j38_1 : Int32) (j38_2 : Int32) (j38_3 : Int32) (j38_4 : Int32) (j38_5 : Int32) (j38_6 : Int32) (j38_7 : Int32) (j38_8 : Int32) (j38_9 : Int32) (j38_10 : Int32) (j38_11 : Int32) (j38_12 : Int64) (j38_13 : Int32) (j38_14 : Int32) (H : Heap) (locs : List Loc) (ls : Array Slot), f_N_undergo (a0, a1, a2, a3, a4, a5, a6, a7, a8, a9, a10, a11, a12, a13, a14) k w = f_N_undergo_j38 (j38_0, j38_1, j38_2, j38_3, j38_4, j38_5, j38_6, j38_7, j38_8, j38_9, j38_10, j38_11, j38_12, j38_13, j38_14) k w → va_P D cls_ ([(h0, .inr (0, [.int j38_0, .int j38_1, .int j38_2, .int j38_3, .int j38_4, .int j38_5, .int j38_6, .int j38_7, .int j38_8, .int j38_9, .int j38_10, .int j38_11, .long j38_12, .int j38_13, .int j38_14]))]) H → va_D (fun q : Nat => q = h0) ([(h0, .inr (0, [.int j38_0, .int j38_1, .int j38_2, .int j38_3, .int j38_4, .int j38_5, .int j38_6, .int j38_7, .int j38_8, .int j38_9, .int j38_10, .int j38_11, .long j38_12, .int j38_13, .int j38_14]))]) → va_S (fun q : Nat => q = h0) s.heap H locs → lv_has ls 4 [(0, .ref h0), (1, .int k), (2, .int w)] → W p l e (headSpec (cw_N_undergo :: BIG) (rmk 3 0 0)).room s m ([.ref h0, .int k, .int w].toArray) below meth c H locs 0 0 (MQ below (va_Qv (fun u2 : NS => u2 = f_N_undergo (a0, a1, a2, a3, a4, a5, a6, a7, a8, a9, a10, a11, a12, a13, a14) k w) (fun (u2 : NS) (t : State) => va_P D cls_ [(h0, .inr (0, n_fs u2))] t.heap) (fun q : Nat => q = h0)) ([.ref h0, .int k, .int w].toArray) s 0 0 (fun q : Nat => q = h0)) (F0 m 38 ls []) := by
    intro j38_0 j38_1 j38_2 j38_3 j38_4 j38_5 j38_6 j38_7 j38_8 j38_9 j38_10 j38_11 j38_12 j38_13 j38_14 H locs ls hc hP hD hS hl
    refine lv_aload_n hx hb d_N_undergo_38 rfl (lv_at hl 0 rfl) ?_
    refine va_get (D := D) (ci := 0) (v := .int j38_7) (C := R_N) (T := F_N) (N := 15) hx hb htB uw_N hown hK hP 0 rfl rfl 7 (by decide) (htB _ fl_N_25) (fun _ h9 => h9) rfl d_N_undergo_39 ?_
    refine lv_if_ne (tgt := 56) hx hb d_N_undergo_42 (by decide) (fun c_3 => ?_) (fun c_3 => ?_)
    · exact J56 j38_0 j38_1 j38_2 j38_3 j38_4 j38_5 j38_6 j38_7 j38_8 j38_9 j38_10 j38_11 j38_12 j38_13 j38_14 _ _ _ (hc.trans (if_neg c_3)) hP hD hS (lv_sub hl [0, 2] rfl)
    · refine lv_aload_n hx hb d_N_undergo_45 rfl (lv_at hl 0 rfl) ?_
      refine lv_iload_n hx hb d_N_undergo_46 rfl (lv_at hl 1 rfl) ?_
      refine lv_iload_n hx hb d_N_undergo_47 rfl (lv_at hl 2 rfl) ?_
      refine va_callv (va_runV (As := [.int k, .int w]) (rest := []) ⟨hx, hb, hml, hown, htB⟩ (c_N_countErrors l D h0 (j38_0, j38_1, j38_2, j38_3, j38_4, j38_5, j38_6, j38_7, j38_8, j38_9, j38_10, j38_11, j38_12, j38_13, j38_14) k w) (cwV 2 htB g_N_46 rfl rfl rfl (by decide +kernel) ⟨Nat.le_of_ble_eq_true rfl, Nat.le_of_ble_eq_true rfl⟩) (preV hP hK hN (va_recv hK hP (ci := 0) (q0 := 0) rfl rfl)) rfl rfl hl.1 rfl (lv_room (Nat.le_of_ble_eq_true rfl)) d_N_undergo_48 ⟨Nat.le_of_ble_eq_true rfl, Nat.le_of_ble_eq_true rfl⟩) hS (fun _ _ h => h) (fun _ h => h) (fun u t H locs ht hvm hw hP hz1 hk1 hS => ?_)
      rw [ht] at hP
      obtain ⟨b9_0, b9_1, b9_2, b9_3, b9_4, b9_5, b9_6, b9_7, b9_8, b9_9, b9_10, b9_11, b9_12, b9_13, b9_14⟩ := u
      have hP : va_P D cls_ [(h0, .inr (0, [.int b9_0, .int b9_1, .int b9_2, .int b9_3, .int b9_4, .int b9_5, .int b9_6, .int b9_7, .int b9_8, .int b9_9, .int b9_10, .int b9_11, .long b9_12, .int b9_13, .int b9_14]))] H := hP
      have hD : va_D (fun q : Nat => q = h0) [(h0, .inr (0, [.int b9_0, .int b9_1, .int b9_2, .int b9_3, .int b9_4, .int b9_5, .int b9_6, .int b9_7, .int b9_8, .int b9_9, .int b9_10, .int b9_11, .long b9_12, .int b9_13, .int b9_14]))] := nD
      have hc : f_N_undergo (a0, a1, a2, a3, a4, a5, a6, a7, a8, a9, a10, a11, a12, a13, a14) k w = f_N_undergo_k9 (b9_0, b9_1, b9_2, b9_3, b9_4, b9_5, b9_6, b9_7, b9_8, b9_9, b9_10, b9_11, b9_12, b9_13, b9_14) k w := (hc.trans (if_pos c_3)).trans (congrArg (fun z => f_N_undergo_k9 z k w) hw.symm)
      refine lv_aload_n hx hb d_N_undergo_51 rfl (lv_at hl 0 rfl) ?_
      refine lv_iload_n hx hb d_N_undergo_52 rfl (lv_at hl 1 rfl) ?_
      refine va_callv (va_runV (As := [.int k]) (rest := []) ⟨hx, hb, hml, hown, htB⟩ (c_N_changeFlag l D h0 (b9_0, b9_1, b9_2, b9_3, b9_4, b9_5, b9_6, b9_7, b9_8, b9_9, b9_10, b9_11, b9_12, b9_13, b9_14) k) (cwV 1 htB g_N_49 rfl rfl rfl (by decide +kernel) ⟨Nat.le_of_ble_eq_true rfl, Nat.le_of_ble_eq_true rfl⟩) (preV hP hK hN (va_recv hK hP (ci := 0) (q0 := 0) rfl rfl)) rfl rfl hl.1 rfl (lv_room (Nat.le_of_ble_eq_true rfl)) d_N_undergo_53 ⟨Nat.le_of_ble_eq_true rfl, Nat.le_of_ble_eq_true rfl⟩) hS (fun _ _ h => h) (fun _ h => h) (fun u t H locs ht hvm hw hP hz1 hk1 hS => ?_)
      rw [ht] at hP
      obtain ⟨b10_0, b10_1, b10_2, b10_3, b10_4, b10_5, b10_6, b10_7, b10_8, b10_9, b10_10, b10_11, b10_12, b10_13, b10_14⟩ := u
      have hP : va_P D cls_ [(h0, .inr (0, [.int b10_0, .int b10_1, .int b10_2, .int b10_3, .int b10_4, .int b10_5, .int b10_6, .int b10_7, .int b10_8, .int b10_9, .int b10_10, .int b10_11, .long b10_12, .int b10_13, .int b10_14]))] H := hP
      have hD : va_D (fun q : Nat => q = h0) [(h0, .inr (0, [.int b10_0, .int b10_1, .int b10_2, .int b10_3, .int b10_4, .int b10_5, .int b10_6, .int b10_7, .int b10_8, .int b10_9, .int b10_10, .int b10_11, .long b10_12, .int b10_13, .int b10_14]))] := nD
      have hc : f_N_undergo (a0, a1, a2, a3, a4, a5, a6, a7, a8, a9, a10, a11, a12, a13, a14) k w = f_N_undergo_k10 (b10_0, b10_1, b10_2, b10_3, b10_4, b10_5, b10_6, b10_7, b10_8, b10_9, b10_10, b10_11, b10_12, b10_13, b10_14) k w := (hc.trans (rfl)).trans (congrArg (fun z => f_N_undergo_k10 z k w) hw.symm)
      exact J56 b10_0 b10_1 b10_2 b10_3 b10_4 b10_5 b10_6 b10_7 b10_8 b10_9 b10_10 b10_11 b10_12 b10_13 b10_14 _ _ _ (hc.trans (rfl)) hP hD hS (lv_sub hl [0, 2] rfl)
  refine lv_aload_n hx hb d_N_undergo_0 rfl (lv_at hl 0 rfl) ?_
  refine lv_iload_n hx hb d_N_undergo_1 rfl (lv_at hl 2 rfl) ?_
  refine va_put (D := D) (ci := 0) (v := .int w) (ty := .boolean) (C := R_N) (T := F_N) (N := 15) hx hb htB uw_N t_N t_N_ok n_N hown hK hP hD hS 0 rfl rfl 8 (by decide) (htB _ fl_N_22) (fun _ h9 => h9) rfl (t_N_ok 8 (by decide)) (nbp hb_w) (fbp hb_w) (Nat.le_of_ble_eq_true rfl) d_N_undergo_2 (fun H locs hP hD hS => ?_)
  have hP : va_P D cls_ [(h0, .inr (0, [.int a0, .int a1, .int a2, .int a3, .int a4, .int a5, .int a6, .int a7, .int w, .int a9, .int a10, .int a11, .long a12, .int a13, .int a14]))] H := hP
  have hD : va_D (fun q : Nat => q = h0) [(h0, .inr (0, [.int a0, .int a1, .int a2, .int a3, .int a4, .int a5, .int a6, .int a7, .int w, .int a9, .int a10, .int a11, .long a12, .int a13, .int a14]))] := hD
  refine lv_aload_n hx hb d_N_undergo_5 rfl (lv_at hl 0 rfl) ?_
  refine lv_iload_n hx hb d_N_undergo_6 rfl (lv_at hl 1 rfl) ?_
  refine va_callv (va_runV (As := [.int k]) (rest := []) ⟨hx, hb, hml, hown, htB⟩ (c_N_countGoodFrames l D h0 (a0, a1, a2, a3, a4, a5, a6, a7, w, a9, a10, a11, a12, a13, a14) k) (cwV 1 htB g_N_36 rfl rfl rfl (by decide +kernel) ⟨Nat.le_of_ble_eq_true rfl, Nat.le_of_ble_eq_true rfl⟩) (preV hP hK hN (va_recv hK hP (ci := 0) (q0 := 0) rfl rfl)) rfl rfl hl.1 rfl (lv_room (Nat.le_of_ble_eq_true rfl)) d_N_undergo_7 ⟨Nat.le_of_ble_eq_true rfl, Nat.le_of_ble_eq_true rfl⟩) hS (fun _ _ h => h) (fun _ h => h) (fun u t H locs ht hvm hw hP hz1 hk1 hS => ?_)
  rw [ht] at hP
  obtain ⟨b1_0, b1_1, b1_2, b1_3, b1_4, b1_5, b1_6, b1_7, b1_8, b1_9, b1_10, b1_11, b1_12, b1_13, b1_14⟩ := u
  have hP : va_P D cls_ [(h0, .inr (0, [.int b1_0, .int b1_1, .int b1_2, .int b1_3, .int b1_4, .int b1_5, .int b1_6, .int b1_7, .int b1_8, .int b1_9, .int b1_10, .int b1_11, .long b1_12, .int b1_13, .int b1_14]))] H := hP
  have hD : va_D (fun q : Nat => q = h0) [(h0, .inr (0, [.int b1_0, .int b1_1, .int b1_2, .int b1_3, .int b1_4, .int b1_5, .int b1_6, .int b1_7, .int b1_8, .int b1_9, .int b1_10, .int b1_11, .long b1_12, .int b1_13, .int b1_14]))] := nD
  have hc : f_N_undergo (a0, a1, a2, a3, a4, a5, a6, a7, a8, a9, a10, a11, a12, a13, a14) k w = f_N_undergo_k1 (b1_0, b1_1, b1_2, b1_3, b1_4, b1_5, b1_6, b1_7, b1_8, b1_9, b1_10, b1_11, b1_12, b1_13, b1_14) k w := (hc.trans (rfl)).trans (congrArg (fun z => f_N_undergo_k1 z k w) hw.symm)
  refine lv_aload_n hx hb d_N_undergo_10 rfl (lv_at hl 0 rfl) ?_
  refine va_get (D := D) (ci := 0) (v := .int b1_5) (C := R_N) (T := F_N) (N := 15) hx hb htB uw_N hown hK hP 0 rfl rfl 5 (by decide) (htB _ fl_N_40) (fun _ h9 => h9) rfl d_N_undergo_11 ?_
  refine lv_if_eq (tgt := 38) hx hb d_N_undergo_14 (by decide) (fun c_2 => ?_) (fun c_2 => ?_)
  · exact J38 b1_0 b1_1 b1_2 b1_3 b1_4 b1_5 b1_6 b1_7 b1_8 b1_9 b1_10 b1_11 b1_12 b1_13 b1_14 _ _ _ (hc.trans (if_pos c_2)) hP hD hS (lv_sub hl [0, 1, 2] rfl)
  · refine lv_iload_n hx hb d_N_undergo_17 rfl (lv_at hl 2 rfl) ?_
    refine lv_if_eq (tgt := 38) hx hb d_N_undergo_18 (by decide) (fun c_11 => ?_) (fun c_11 => ?_)
    · exact J38 b1_0 b1_1 b1_2 b1_3 b1_4 b1_5 b1_6 b1_7 b1_8 b1_9 b1_10 b1_11 b1_12 b1_13 b1_14 _ _ _ (hc.trans ((if_neg c_2).trans (if_pos c_11))) hP hD hS (lv_sub hl [0, 1, 2] rfl)
    · refine lv_iload_n hx hb d_N_undergo_21 rfl (lv_at hl 1 rfl) ?_
      refine vp_callSi (va_Run.run (va_runSN (As := [.int k]) (rest := []) ⟨hx, hb, hml, hown, htB⟩ (c_X_isError l k) ⟨va_cnB 1 htB gd_X_isError rfl rfl rfl hN.n_N_32 (htB _ in_X) (by decide +kernel) ⟨Nat.le_of_ble_eq_true rfl, Nat.le_of_ble_eq_true rfl⟩, htB _ sta_X_isError, trivial⟩ (preN hN) rfl rfl hl.1 rfl (lv_room (Nat.le_of_ble_eq_true rfl)) d_N_undergo_22 ⟨Nat.le_of_ble_eq_true rfl, Nat.le_of_ble_eq_true rfl⟩)) (fun r_12 hr_12 => ?_)
      subst hr_12
      refine lv_if_eq (tgt := 38) hx hb d_N_undergo_25 (by decide) (fun c_13 => ?_) (fun c_13 => ?_)
      · exact J38 b1_0 b1_1 b1_2 b1_3 b1_4 b1_5 b1_6 b1_7 b1_8 b1_9 b1_10 b1_11 b1_12 b1_13 b1_14 _ _ _ (hc.trans ((if_neg c_2).trans ((if_neg c_11).trans (if_pos c_13)))) hP hD hS (lv_sub hl [0, 1, 2] rfl)
      · refine lv_aload_n hx hb d_N_undergo_28 rfl (lv_at hl 0 rfl) ?_
        refine lv_dup hx hb d_N_undergo_29 rfl ?_
        refine va_get (D := D) (ci := 0) (v := .int b1_6) (C := R_N) (T := F_N) (N := 15) hx hb htB uw_N hown hK hP 0 rfl rfl 6 (by decide) (htB _ fl_N_43) (fun _ h9 => h9) rfl d_N_undergo_30 ?_
        refine lv_iconst (v := 1) hx hb d_N_undergo_33 (by decide) ?_
        refine lv_iadd hx hb d_N_undergo_34 ?_
        refine va_put (D := D) (ci := 0) (v := .int (b1_6 + 1)) (ty := .int) (C := R_N) (T := F_N) (N := 15) hx hb htB uw_N t_N t_N_ok n_N hown hK hP hD hS 0 rfl rfl 6 (by decide) (htB _ fl_N_43) (fun _ h9 => h9) rfl (t_N_ok 6 (by decide)) rfl rfl (Nat.le_of_ble_eq_true rfl) d_N_undergo_35 (fun H locs hP hD hS => ?_)
        have hP : va_P D cls_ [(h0, .inr (0, [.int b1_0, .int b1_1, .int b1_2, .int b1_3, .int b1_4, .int b1_5, .int (b1_6 + 1), .int b1_7, .int b1_8, .int b1_9, .int b1_10, .int b1_11, .long b1_12, .int b1_13, .int b1_14]))] H := hP
        have hD : va_D (fun q : Nat => q = h0) [(h0, .inr (0, [.int b1_0, .int b1_1, .int b1_2, .int b1_3, .int b1_4, .int b1_5, .int (b1_6 + 1), .int b1_7, .int b1_8, .int b1_9, .int b1_10, .int b1_11, .long b1_12, .int b1_13, .int b1_14]))] := hD
        exact J38 b1_0 b1_1 b1_2 b1_3 b1_4 b1_5 (b1_6 + 1) b1_7 b1_8 b1_9 b1_10 b1_11 b1_12 b1_13 b1_14 _ _ _ (hc.trans ((if_neg c_2).trans ((if_neg c_11).trans (if_neg c_13)))) hP hD hS (lv_sub hl [0, 1, 2] rfl)
def f_N_undergoBoth_k6 (u : NS) (k : Int32) (n : Int32) (x20_3 : Int32) : NS := let b6_0 := u.1; let b6_1 := u.2.1; let b6_2 := u.2.2.1; let b6_3 := u.2.2.2.1; let b6_4 := u.2.2.2.2.1; let b6_5 := u.2.2.2.2.2.1; let b6_6 := u.2.2.2.2.2.2.1; let b6_7 := u.2.2.2.2.2.2.2.1; let b6_8 := u.2.2.2.2.2.2.2.2.1; let b6_9 := u.2.2.2.2.2.2.2.2.2.1; let b6_10 := u.2.2.2.2.2.2.2.2.2.2.1; let b6_11 := u.2.2.2.2.2.2.2.2.2.2.2.1; let b6_12 := u.2.2.2.2.2.2.2.2.2.2.2.2.1; let b6_13 := u.2.2.2.2.2.2.2.2.2.2.2.2.2.1; let b6_14 := u.2.2.2.2.2.2.2.2.2.2.2.2.2.2; (b6_0, b6_1, b6_2, b6_3, b6_4, b6_5, b6_6, b6_7, b6_8, b6_9, b6_10, b6_11, b6_12, b6_13, b6_14)
def f_N_undergoBoth_k10 (u : NS) (k : Int32) (n : Int32) (x20_3 : Int32) : NS := let b10_0 := u.1; let b10_1 := u.2.1; let b10_2 := u.2.2.1; let b10_3 := u.2.2.2.1; let b10_4 := u.2.2.2.2.1; let b10_5 := u.2.2.2.2.2.1; let b10_6 := u.2.2.2.2.2.2.1; let b10_7 := u.2.2.2.2.2.2.2.1; let b10_8 := u.2.2.2.2.2.2.2.2.1; let b10_9 := u.2.2.2.2.2.2.2.2.2.1; let b10_10 := u.2.2.2.2.2.2.2.2.2.2.1; let b10_11 := u.2.2.2.2.2.2.2.2.2.2.2.1; let b10_12 := u.2.2.2.2.2.2.2.2.2.2.2.2.1; let b10_13 := u.2.2.2.2.2.2.2.2.2.2.2.2.2.1; let b10_14 := u.2.2.2.2.2.2.2.2.2.2.2.2.2.2; (b10_0, b10_1, b10_2, b10_3, b10_4, b10_5, b10_6, b10_7, b10_8, b10_9, b10_10, b10_11, b10_12, b10_13, b10_14)
def f_N_undergoBoth_k2 (u : NS) (k : Int32) (n : Int32) (x20_3 : Int32) : NS := let b2_0 := u.1; let b2_1 := u.2.1; let b2_2 := u.2.2.1; let b2_3 := u.2.2.2.1; let b2_4 := u.2.2.2.2.1; let b2_5 := u.2.2.2.2.2.1; let b2_6 := u.2.2.2.2.2.2.1; let b2_7 := u.2.2.2.2.2.2.2.1; let b2_8 := u.2.2.2.2.2.2.2.2.1; let b2_9 := u.2.2.2.2.2.2.2.2.2.1; let b2_10 := u.2.2.2.2.2.2.2.2.2.2.1; let b2_11 := u.2.2.2.2.2.2.2.2.2.2.2.1; let b2_12 := u.2.2.2.2.2.2.2.2.2.2.2.2.1; let b2_13 := u.2.2.2.2.2.2.2.2.2.2.2.2.2.1; let b2_14 := u.2.2.2.2.2.2.2.2.2.2.2.2.2.2; if (f_X_isError k) = 0 then (if b2_2 = 0 then (f_N_undergoBoth_k6 (f_N_undergo (b2_0, b2_1, b2_2, b2_3, b2_4, b2_5, b2_6, b2_7, b2_8, b2_9, b2_10, b2_11, b2_12, b2_13, b2_14) n x20_3) k n x20_3) else (b2_0, b2_1, b2_2, b2_3, b2_4, b2_5, b2_6, b2_7, b2_8, b2_9, b2_10, b2_11, b2_12, b2_13, b2_14)) else (if (f_X_isError n) = 0 then (if b2_2 = 0 then (f_N_undergoBoth_k10 (f_N_undergo (b2_0, b2_1, b2_2, b2_3, b2_4, b2_5, b2_6, b2_7, b2_8, b2_9, b2_10, b2_11, b2_12, b2_13, b2_14) n x20_3) k n x20_3) else (b2_0, b2_1, b2_2, b2_3, b2_4, b2_5, b2_6, b2_7, b2_8, b2_9, b2_10, b2_11, b2_12, b2_13, b2_14)) else (b2_0, b2_1, b2_2, b2_3, b2_4, b2_5, b2_6, b2_7, b2_8, b2_9, b2_10, b2_11, b2_12, b2_13, b2_14))
def f_N_undergoBoth_j20 (u : NS) (x20_3 : Int32) (k : Int32) (n : Int32) : NS := let j20_0 := u.1; let j20_1 := u.2.1; let j20_2 := u.2.2.1; let j20_3 := u.2.2.2.1; let j20_4 := u.2.2.2.2.1; let j20_5 := u.2.2.2.2.2.1; let j20_6 := u.2.2.2.2.2.2.1; let j20_7 := u.2.2.2.2.2.2.2.1; let j20_8 := u.2.2.2.2.2.2.2.2.1; let j20_9 := u.2.2.2.2.2.2.2.2.2.1; let j20_10 := u.2.2.2.2.2.2.2.2.2.2.1; let j20_11 := u.2.2.2.2.2.2.2.2.2.2.2.1; let j20_12 := u.2.2.2.2.2.2.2.2.2.2.2.2.1; let j20_13 := u.2.2.2.2.2.2.2.2.2.2.2.2.2.1; let j20_14 := u.2.2.2.2.2.2.2.2.2.2.2.2.2.2; f_N_undergoBoth_k2 (f_N_undergo (j20_0, j20_1, j20_2, j20_3, j20_4, j20_5, j20_6, j20_7, j20_8, j20_9, j20_10, j20_11, j20_12, j20_13, j20_14) k x20_3) k n x20_3
def f_N_undergoBoth (u : NS) (k : Int32) (n : Int32) : NS := let a0 := u.1; let a1 := u.2.1; let a2 := u.2.2.1; let a3 := u.2.2.2.1; let a4 := u.2.2.2.2.1; let a5 := u.2.2.2.2.2.1; let a6 := u.2.2.2.2.2.2.1; let a7 := u.2.2.2.2.2.2.2.1; let a8 := u.2.2.2.2.2.2.2.2.1; let a9 := u.2.2.2.2.2.2.2.2.2.1; let a10 := u.2.2.2.2.2.2.2.2.2.2.1; let a11 := u.2.2.2.2.2.2.2.2.2.2.2.1; let a12 := u.2.2.2.2.2.2.2.2.2.2.2.2.1; let a13 := u.2.2.2.2.2.2.2.2.2.2.2.2.2.1; let a14 := u.2.2.2.2.2.2.2.2.2.2.2.2.2.2; if a8 = 0 then (f_N_undergoBoth_j20 (a0, a1, a2, a3, a4, a5, a6, a7, a8, a9, a10, a11, a12, a13, a14) 0 k n) else (if a7 = 0 then (f_N_undergoBoth_j20 (a0, a1, a2, a3, a4, a5, a6, a7, a8, a9, a10, a11, a12, a13, a14) 1 k n) else (f_N_undergoBoth_j20 (a0, a1, a2, a3, a4, a5, a6, a7, a8, a9, a10, a11, a12, a13, a14) 0 k n))
set_option maxHeartbeats 4000000 in
set_option maxRecDepth 100000 in
theorem c_N_undergoBoth (l : Launch) (D : va_G) (h0 : Nat) (u : NS) (k : Int32) (n : Int32) : Met l y_N_undergoBoth (cw_N_undergoBoth :: BIG) ((rmk 4 0 0)) (va_Pc [.ref h0, .int k, .int n] (fun U => va_P D cls_ [(h0, .inr (0, n_fs u))] U.heap ∧ va_K D cls_ [] U ∧ NK U)) (va_Qv (fun u2 : NS => u2 = f_N_undergoBoth u k n) (fun (u2 : NS) (t : State) => va_P D cls_ [(h0, .inr (0, n_fs u2))] t.heap) (fun q : Nat => q = h0)) 0 0 (fun q : Nat => q = h0) := by
  obtain ⟨a0, a1, a2, a3, a4, a5, a6, a7, a8, a9, a10, a11, a12, a13, a14⟩ := u
  refine Met.ofW (cc := b_N_undergoBoth) (maxL := 5) (ret := none) (by decide) rfl ?_
  intro p e s m args below meth c s₁ B hml hv
  obtain ⟨rfl, hP, hK, hN⟩ := hv
  have hx := B.exec
  have hb := B.bytes
  have hr := B.returns
  have htB : ∀ w ∈ BIG, w.before _ s = true := fun w h => atoms_spec (ws := cw_N_undergoBoth :: BIG) B.pre w (List.mem_cons_of_mem _ h)
  have hown : s.vm.findClass R_N = some m.cls := findClass_of_methodNamed B.named
  have hlocks := B.notSynchronized
  have hP : va_P D cls_ [(h0, .inr (0, [.int a0, .int a1, .int a2, .int a3, .int a4, .int a5, .int a6, .int a7, .int a8, .int a9, .int a10, .int a11, .long a12, .int a13, .int a14]))] s.heap := hP
  have hD : va_D (fun q : Nat => q = h0) [(h0, .inr (0, [.int a0, .int a1, .int a2, .int a3, .int a4, .int a5, .int a6, .int a7, .int a8, .int a9, .int a10, .int a11, .long a12, .int a13, .int a14]))] := nD
  have hS : va_S (fun q : Nat => q = h0) s.heap s.heap [] := va_S.rf
  have hl := lv_entry ([.ref h0, .int k, .int n]) (n := 5) (Nat.le_of_ble_eq_true rfl)
  rw [lg_entry_eq]
  generalize (lg_sl ([.ref h0, .int k, .int n]) ++ List.replicate (5 - (lg_sl ([.ref h0, .int k, .int n])).length) Slot.unset).toArray = ls at hl ⊢
  have hl : lv_has ls 5 [(0, .ref h0), (1, .int k), (2, .int n)] := hl
  have hc : f_N_undergoBoth (a0, a1, a2, a3, a4, a5, a6, a7, a8, a9, a10, a11, a12, a13, a14) k n = f_N_undergoBoth (a0, a1, a2, a3, a4, a5, a6, a7, a8, a9, a10, a11, a12, a13, a14) k n := rfl
  have J20 : ∀ (j20_0 : Int32) (j20_1 : Int32) (j20_2 : Int32) (j20_3 : Int32) (j20_4 : Int32) (j20_5 : Int32) (j20_6 : Int32) (j20_7 : Int32) (j20_8 : Int32) (j20_9 : Int32) (j20_10 : Int32) (j20_11 : Int32) (j20_12 : Int64) (j20_13 : Int32) (j20_14 : Int32) (x20_3 : Int32) (H : Heap) (locs : List Loc) (ls : Array Slot), (hb_x20_3 : x20_3 = 0 ∨ x20_3 = 1) → f_N_undergoBoth (a0, a1, a2, a3, a4, a5, a6, a7, a8, a9, a10, a11, a12, a13, a14) k n = f_N_undergoBoth_j20 (j20_0, j20_1, j20_2, j20_3, j20_4, j20_5, j20_6, j20_7, j20_8, j20_9, j20_10, j20_11, j20_12, j20_13, j20_14) x20_3 k n → va_P D cls_ ([(h0, .inr (0, [.int j20_0, .int j20_1, .int j20_2, .int j20_3, .int j20_4, .int j20_5, .int j20_6, .int j20_7, .int j20_8, .int j20_9, .int j20_10, .int j20_11, .long j20_12, .int j20_13, .int j20_14]))]) H → va_D (fun q : Nat => q = h0) ([(h0, .inr (0, [.int j20_0, .int j20_1, .int j20_2, .int j20_3, .int j20_4, .int j20_5, .int j20_6, .int j20_7, .int j20_8, .int j20_9, .int j20_10, .int j20_11, .long j20_12, .int j20_13, .int j20_14]))]) → va_S (fun q : Nat => q = h0) s.heap H locs → lv_has ls 5 [(0, .ref h0), (1, .int k), (2, .int n), (3, .int x20_3)] → W p l e (headSpec (cw_N_undergoBoth :: BIG) (rmk 4 0 0)).room s m ([.ref h0, .int k, .int n].toArray) below meth c H locs 0 0 (MQ below (va_Qv (fun u2 : NS => u2 = f_N_undergoBoth (a0, a1, a2, a3, a4, a5, a6, a7, a8, a9, a10, a11, a12, a13, a14) k n) (fun (u2 : NS) (t : State) => va_P D cls_ [(h0, .inr (0, n_fs u2))] t.heap) (fun q : Nat => q = h0)) ([.ref h0, .int k, .int n].toArray) s 0 0 (fun q : Nat => q = h0)) (F0 m 20 ls []) := by
    intro j20_0 j20_1 j20_2 j20_3 j20_4 j20_5 j20_6 j20_7 j20_8 j20_9 j20_10 j20_11 j20_12 j20_13 j20_14 x20_3 H locs ls hb_x20_3 hc hP hD hS hl
    refine lv_aload_n hx hb d_N_undergoBoth_20 rfl (lv_at hl 0 rfl) ?_
    refine lv_iload_n hx hb d_N_undergoBoth_21 rfl (lv_at hl 1 rfl) ?_
    refine lv_iload_n hx hb d_N_undergoBoth_22 rfl (lv_at hl 3 rfl) ?_
    refine va_callv (va_runV (As := [.int k, .int x20_3]) (rest := []) ⟨hx, hb, hml, hown, htB⟩ (c_N_undergo l D h0 (j20_0, j20_1, j20_2, j20_3, j20_4, j20_5, j20_6, j20_7, j20_8, j20_9, j20_10, j20_11, j20_12, j20_13, j20_14) k x20_3 hb_x20_3) (cwV 2 htB g_N_28 rfl rfl rfl (by decide +kernel) ⟨Nat.le_of_ble_eq_true rfl, Nat.le_of_ble_eq_true rfl⟩) (preV hP hK hN (va_recv hK hP (ci := 0) (q0 := 0) rfl rfl)) rfl rfl hl.1 rfl (lv_room (Nat.le_of_ble_eq_true rfl)) d_N_undergoBoth_23 ⟨Nat.le_of_ble_eq_true rfl, Nat.le_of_ble_eq_true rfl⟩) hS (fun _ _ h => h) (fun _ h => h) (fun u t H locs ht hvm hw hP hz1 hk1 hS => ?_)
    rw [ht] at hP
    obtain ⟨b2_0, b2_1, b2_2, b2_3, b2_4, b2_5, b2_6, b2_7, b2_8, b2_9, b2_10, b2_11, b2_12, b2_13, b2_14⟩ := u
    have hP : va_P D cls_ [(h0, .inr (0, [.int b2_0, .int b2_1, .int b2_2, .int b2_3, .int b2_4, .int b2_5, .int b2_6, .int b2_7, .int b2_8, .int b2_9, .int b2_10, .int b2_11, .long b2_12, .int b2_13, .int b2_14]))] H := hP
    have hD : va_D (fun q : Nat => q = h0) [(h0, .inr (0, [.int b2_0, .int b2_1, .int b2_2, .int b2_3, .int b2_4, .int b2_5, .int b2_6, .int b2_7, .int b2_8, .int b2_9, .int b2_10, .int b2_11, .long b2_12, .int b2_13, .int b2_14]))] := nD
    have hc : f_N_undergoBoth (a0, a1, a2, a3, a4, a5, a6, a7, a8, a9, a10, a11, a12, a13, a14) k n = f_N_undergoBoth_k2 (b2_0, b2_1, b2_2, b2_3, b2_4, b2_5, b2_6, b2_7, b2_8, b2_9, b2_10, b2_11, b2_12, b2_13, b2_14) k n x20_3 := (hc.trans (rfl)).trans (congrArg (fun z => f_N_undergoBoth_k2 z k n x20_3) hw.symm)
    refine lv_iload_n hx hb d_N_undergoBoth_26 rfl (lv_at hl 1 rfl) ?_
    refine vp_callSi (va_Run.run (va_runSN (As := [.int k]) (rest := []) ⟨hx, hb, hml, hown, htB⟩ (c_X_isError l k) ⟨va_cnB 1 htB gd_X_isError rfl rfl rfl hN.n_N_32 (htB _ in_X) (by decide +kernel) ⟨Nat.le_of_ble_eq_true rfl, Nat.le_of_ble_eq_true rfl⟩, htB _ sta_X_isError, trivial⟩ (preN hN) rfl rfl hl.1 rfl (lv_room (Nat.le_of_ble_eq_true rfl)) d_N_undergoBoth_27 ⟨Nat.le_of_ble_eq_true rfl, Nat.le_of_ble_eq_true rfl⟩)) (fun r_3 hr_3 => ?_)
    subst hr_3
    refine lv_if_eq (tgt := 40) hx hb d_N_undergoBoth_30 (by decide) (fun c_4 => ?_) (fun c_4 => ?_)
    · refine lv_iconst (v := 1) hx hb d_N_undergoBoth_40 (by decide) ?_
      refine lv_goto (tgt := 45) hx hb d_N_undergoBoth_41 (by decide) ?_
      refine lv_istore (lv' := [(4, .int 1), (0, .ref h0), (1, .int k), (2, .int n), (3, .int x20_3)]) hx hb d_N_undergoBoth_45 hl (by decide) rfl (fun ls hl => ?_)
      refine lv_iload hx hb d_N_undergoBoth_47 (lv_at hl 0 rfl) ?_
      refine lv_if_eq (tgt := 65) hx hb d_N_undergoBoth_49 (by decide) (fun c9 => absurd c9 (by decide)) (fun _ => ?_)
      refine lv_aload_n hx hb d_N_undergoBoth_52 rfl (lv_at hl 1 rfl) ?_
      refine va_get (D := D) (ci := 0) (v := .int b2_2) (C := R_N) (T := F_N) (N := 15) hx hb htB uw_N hown hK hP 0 rfl rfl 2 (by decide) (htB _ fl_N_9) (fun _ h9 => h9) rfl d_N_undergoBoth_53 ?_
      refine lv_if_ne (tgt := 65) hx hb d_N_undergoBoth_56 (by decide) (fun c_5 => ?_) (fun c_5 => ?_)
      · exact W.vret hx hb hr (fun t ht hW => ⟨⟨(b2_0, b2_1, b2_2, b2_3, b2_4, b2_5, b2_6, b2_7, b2_8, b2_9, b2_10, b2_11, b2_12, b2_13, b2_14), rfl, (hc.trans ((if_pos c_4).trans (if_neg c_5))).symm, by show va_P _ _ _ t.heap; rw [ht]; exact hP⟩, hS.F ht⟩) hS.2.2 d_N_undergoBoth_65
      · refine lv_aload_n hx hb d_N_undergoBoth_59 rfl (lv_at hl 1 rfl) ?_
        refine lv_iload_n hx hb d_N_undergoBoth_60 rfl (lv_at hl 3 rfl) ?_
        refine lv_iload_n hx hb d_N_undergoBoth_61 rfl (lv_at hl 4 rfl) ?_
        refine va_callv (va_runV (As := [.int n, .int x20_3]) (rest := []) ⟨hx, hb, hml, hown, htB⟩ (c_N_undergo l D h0 (b2_0, b2_1, b2_2, b2_3, b2_4, b2_5, b2_6, b2_7, b2_8, b2_9, b2_10, b2_11, b2_12, b2_13, b2_14) n x20_3 hb_x20_3) (cwV 2 htB g_N_28 rfl rfl rfl (by decide +kernel) ⟨Nat.le_of_ble_eq_true rfl, Nat.le_of_ble_eq_true rfl⟩) (preV hP hK hN (va_recv hK hP (ci := 0) (q0 := 0) rfl rfl)) rfl rfl hl.1 rfl (lv_room (Nat.le_of_ble_eq_true rfl)) d_N_undergoBoth_62 ⟨Nat.le_of_ble_eq_true rfl, Nat.le_of_ble_eq_true rfl⟩) hS (fun _ _ h => h) (fun _ h => h) (fun u t H locs ht hvm hw hP hz1 hk1 hS => ?_)
        rw [ht] at hP
        obtain ⟨b6_0, b6_1, b6_2, b6_3, b6_4, b6_5, b6_6, b6_7, b6_8, b6_9, b6_10, b6_11, b6_12, b6_13, b6_14⟩ := u
        have hP : va_P D cls_ [(h0, .inr (0, [.int b6_0, .int b6_1, .int b6_2, .int b6_3, .int b6_4, .int b6_5, .int b6_6, .int b6_7, .int b6_8, .int b6_9, .int b6_10, .int b6_11, .long b6_12, .int b6_13, .int b6_14]))] H := hP
        have hD : va_D (fun q : Nat => q = h0) [(h0, .inr (0, [.int b6_0, .int b6_1, .int b6_2, .int b6_3, .int b6_4, .int b6_5, .int b6_6, .int b6_7, .int b6_8, .int b6_9, .int b6_10, .int b6_11, .long b6_12, .int b6_13, .int b6_14]))] := nD
        have hc : f_N_undergoBoth (a0, a1, a2, a3, a4, a5, a6, a7, a8, a9, a10, a11, a12, a13, a14) k n = f_N_undergoBoth_k6 (b6_0, b6_1, b6_2, b6_3, b6_4, b6_5, b6_6, b6_7, b6_8, b6_9, b6_10, b6_11, b6_12, b6_13, b6_14) k n x20_3 := (hc.trans ((if_pos c_4).trans (if_pos c_5))).trans (congrArg (fun z => f_N_undergoBoth_k6 z k n x20_3) hw.symm)
        exact W.vret hx hb hr (fun t ht hW => ⟨⟨(b6_0, b6_1, b6_2, b6_3, b6_4, b6_5, b6_6, b6_7, b6_8, b6_9, b6_10, b6_11, b6_12, b6_13, b6_14), rfl, (hc.trans (rfl)).symm, by show va_P _ _ _ t.heap; rw [ht]; exact hP⟩, hS.F ht⟩) hS.2.2 d_N_undergoBoth_65
    · refine lv_iload_n hx hb d_N_undergoBoth_33 rfl (lv_at hl 2 rfl) ?_
      refine vp_callSi (va_Run.run (va_runSN (As := [.int n]) (rest := []) ⟨hx, hb, hml, hown, htB⟩ (c_X_isError l n) ⟨va_cnB 1 htB gd_X_isError rfl rfl rfl hN.n_N_32 (htB _ in_X) (by decide +kernel) ⟨Nat.le_of_ble_eq_true rfl, Nat.le_of_ble_eq_true rfl⟩, htB _ sta_X_isError, trivial⟩ (preN hN) rfl rfl hl.1 rfl (lv_room (Nat.le_of_ble_eq_true rfl)) d_N_undergoBoth_34 ⟨Nat.le_of_ble_eq_true rfl, Nat.le_of_ble_eq_true rfl⟩)) (fun r_7 hr_7 => ?_)
      subst hr_7
      refine lv_if_ne (tgt := 44) hx hb d_N_undergoBoth_37 (by decide) (fun c_8 => ?_) (fun c_8 => ?_)
      · refine lv_iconst (v := 0) hx hb d_N_undergoBoth_44 (by decide) ?_
        refine lv_istore (lv' := [(4, .int 0), (0, .ref h0), (1, .int k), (2, .int n), (3, .int x20_3)]) hx hb d_N_undergoBoth_45 hl (by decide) rfl (fun ls hl => ?_)
        refine lv_iload hx hb d_N_undergoBoth_47 (lv_at hl 0 rfl) ?_
        refine lv_if_eq (tgt := 65) hx hb d_N_undergoBoth_49 (by decide) (fun _ => ?_) (fun c9 => absurd (by decide) c9)
        exact W.vret hx hb hr (fun t ht hW => ⟨⟨(b2_0, b2_1, b2_2, b2_3, b2_4, b2_5, b2_6, b2_7, b2_8, b2_9, b2_10, b2_11, b2_12, b2_13, b2_14), rfl, (hc.trans ((if_neg c_4).trans (if_neg c_8))).symm, by show va_P _ _ _ t.heap; rw [ht]; exact hP⟩, hS.F ht⟩) hS.2.2 d_N_undergoBoth_65
      · refine lv_iconst (v := 1) hx hb d_N_undergoBoth_40 (by decide) ?_
        refine lv_goto (tgt := 45) hx hb d_N_undergoBoth_41 (by decide) ?_
        refine lv_istore (lv' := [(4, .int 1), (0, .ref h0), (1, .int k), (2, .int n), (3, .int x20_3)]) hx hb d_N_undergoBoth_45 hl (by decide) rfl (fun ls hl => ?_)
        refine lv_iload hx hb d_N_undergoBoth_47 (lv_at hl 0 rfl) ?_
        refine lv_if_eq (tgt := 65) hx hb d_N_undergoBoth_49 (by decide) (fun c9 => absurd c9 (by decide)) (fun _ => ?_)
        refine lv_aload_n hx hb d_N_undergoBoth_52 rfl (lv_at hl 1 rfl) ?_
        refine va_get (D := D) (ci := 0) (v := .int b2_2) (C := R_N) (T := F_N) (N := 15) hx hb htB uw_N hown hK hP 0 rfl rfl 2 (by decide) (htB _ fl_N_9) (fun _ h9 => h9) rfl d_N_undergoBoth_53 ?_
        refine lv_if_ne (tgt := 65) hx hb d_N_undergoBoth_56 (by decide) (fun c_9 => ?_) (fun c_9 => ?_)
        · exact W.vret hx hb hr (fun t ht hW => ⟨⟨(b2_0, b2_1, b2_2, b2_3, b2_4, b2_5, b2_6, b2_7, b2_8, b2_9, b2_10, b2_11, b2_12, b2_13, b2_14), rfl, (hc.trans ((if_neg c_4).trans ((if_pos c_8).trans (if_neg c_9)))).symm, by show va_P _ _ _ t.heap; rw [ht]; exact hP⟩, hS.F ht⟩) hS.2.2 d_N_undergoBoth_65
        · refine lv_aload_n hx hb d_N_undergoBoth_59 rfl (lv_at hl 1 rfl) ?_
          refine lv_iload_n hx hb d_N_undergoBoth_60 rfl (lv_at hl 3 rfl) ?_
          refine lv_iload_n hx hb d_N_undergoBoth_61 rfl (lv_at hl 4 rfl) ?_
          refine va_callv (va_runV (As := [.int n, .int x20_3]) (rest := []) ⟨hx, hb, hml, hown, htB⟩ (c_N_undergo l D h0 (b2_0, b2_1, b2_2, b2_3, b2_4, b2_5, b2_6, b2_7, b2_8, b2_9, b2_10, b2_11, b2_12, b2_13, b2_14) n x20_3 hb_x20_3) (cwV 2 htB g_N_28 rfl rfl rfl (by decide +kernel) ⟨Nat.le_of_ble_eq_true rfl, Nat.le_of_ble_eq_true rfl⟩) (preV hP hK hN (va_recv hK hP (ci := 0) (q0 := 0) rfl rfl)) rfl rfl hl.1 rfl (lv_room (Nat.le_of_ble_eq_true rfl)) d_N_undergoBoth_62 ⟨Nat.le_of_ble_eq_true rfl, Nat.le_of_ble_eq_true rfl⟩) hS (fun _ _ h => h) (fun _ h => h) (fun u t H locs ht hvm hw hP hz1 hk1 hS => ?_)
          rw [ht] at hP
          obtain ⟨b10_0, b10_1, b10_2, b10_3, b10_4, b10_5, b10_6, b10_7, b10_8, b10_9, b10_10, b10_11, b10_12, b10_13, b10_14⟩ := u
          have hP : va_P D cls_ [(h0, .inr (0, [.int b10_0, .int b10_1, .int b10_2, .int b10_3, .int b10_4, .int b10_5, .int b10_6, .int b10_7, .int b10_8, .int b10_9, .int b10_10, .int b10_11, .long b10_12, .int b10_13, .int b10_14]))] H := hP
          have hD : va_D (fun q : Nat => q = h0) [(h0, .inr (0, [.int b10_0, .int b10_1, .int b10_2, .int b10_3, .int b10_4, .int b10_5, .int b10_6, .int b10_7, .int b10_8, .int b10_9, .int b10_10, .int b10_11, .long b10_12, .int b10_13, .int b10_14]))] := nD
          have hc : f_N_undergoBoth (a0, a1, a2, a3, a4, a5, a6, a7, a8, a9, a10, a11, a12, a13, a14) k n = f_N_undergoBoth_k10 (b10_0, b10_1, b10_2, b10_3, b10_4, b10_5, b10_6, b10_7, b10_8, b10_9, b10_10, b10_11, b10_12, b10_13, b10_14) k n x20_3 := (hc.trans ((if_neg c_4).trans ((if_pos c_8).trans (if_pos c_9)))).trans (congrArg (fun z => f_N_undergoBoth_k10 z k n x20_3) hw.symm)
          exact W.vret hx hb hr (fun t ht hW => ⟨⟨(b10_0, b10_1, b10_2, b10_3, b10_4, b10_5, b10_6, b10_7, b10_8, b10_9, b10_10, b10_11, b10_12, b10_13, b10_14), rfl, (hc.trans (rfl)).symm, by show va_P _ _ _ t.heap; rw [ht]; exact hP⟩, hS.F ht⟩) hS.2.2 d_N_undergoBoth_65
  refine lv_aload_n hx hb d_N_undergoBoth_0 rfl (lv_at hl 0 rfl) ?_
  refine va_get (D := D) (ci := 0) (v := .int a8) (C := R_N) (T := F_N) (N := 15) hx hb htB uw_N hown hK hP 0 rfl rfl 8 (by decide) (htB _ fl_N_22) (fun _ h9 => h9) rfl d_N_undergoBoth_1 ?_
  refine lv_if_eq (tgt := 18) hx hb d_N_undergoBoth_4 (by decide) (fun c_1 => ?_) (fun c_1 => ?_)
  · refine lv_iconst (v := 0) hx hb d_N_undergoBoth_18 (by decide) ?_
    refine lv_istore_n (lv' := [(3, .int 0), (0, .ref h0), (1, .int k), (2, .int n)]) hx hb d_N_undergoBoth_19 rfl hl (by decide) rfl (fun ls hl => ?_)
    exact J20 a0 a1 a2 a3 a4 a5 a6 a7 a8 a9 a10 a11 a12 a13 a14 0 _ _ _ (Or.inl rfl) (hc.trans (if_pos c_1)) hP hD hS (lv_sub hl [1, 2, 3, 0] rfl)
  · refine lv_aload_n hx hb d_N_undergoBoth_7 rfl (lv_at hl 0 rfl) ?_
    refine va_get (D := D) (ci := 0) (v := .int a7) (C := R_N) (T := F_N) (N := 15) hx hb htB uw_N hown hK hP 0 rfl rfl 7 (by decide) (htB _ fl_N_25) (fun _ h9 => h9) rfl d_N_undergoBoth_8 ?_
    refine lv_if_ne (tgt := 18) hx hb d_N_undergoBoth_11 (by decide) (fun c_11 => ?_) (fun c_11 => ?_)
    · refine lv_iconst (v := 0) hx hb d_N_undergoBoth_18 (by decide) ?_
      refine lv_istore_n (lv' := [(3, .int 0), (0, .ref h0), (1, .int k), (2, .int n)]) hx hb d_N_undergoBoth_19 rfl hl (by decide) rfl (fun ls hl => ?_)
      exact J20 a0 a1 a2 a3 a4 a5 a6 a7 a8 a9 a10 a11 a12 a13 a14 0 _ _ _ (Or.inl rfl) (hc.trans ((if_neg c_1).trans (if_neg c_11))) hP hD hS (lv_sub hl [1, 2, 3, 0] rfl)
    · refine lv_iconst (v := 1) hx hb d_N_undergoBoth_14 (by decide) ?_
      refine lv_goto (tgt := 19) hx hb d_N_undergoBoth_15 (by decide) ?_
      refine lv_istore_n (lv' := [(3, .int 1), (0, .ref h0), (1, .int k), (2, .int n)]) hx hb d_N_undergoBoth_19 rfl hl (by decide) rfl (fun ls hl => ?_)
      exact J20 a0 a1 a2 a3 a4 a5 a6 a7 a8 a9 a10 a11 a12 a13 a14 1 _ _ _ (Or.inr rfl) (hc.trans ((if_neg c_1).trans (if_pos c_11))) hP hD hS (lv_sub hl [1, 2, 3, 0] rfl)
end
section
abbrev MN : Type := Int32 × Int32 × Int32 × Int32 × Int32 × Int32 × Int32 × Int32 × Int32 × Int64 × Int32 × Int32 × Int32 × Int32
abbrev MS : Type := Nat × Int64 × (Nat → MN)
def oM (qq : Nat → Nat) (c nn : Int32) (lt : Int64) : List Value := [.int c, .int nn, .ref (qq 0), .ref (qq 1), .ref (qq 2), .ref (qq 3), .ref (qq 4), .ref (qq 5), .ref (qq 6), .ref (qq 7), .ref (qq 8), .ref (qq 9), .ref (qq 10), .ref (qq 11), .ref (qq 12), .ref (qq 13), .long lt]
def wMg (h0 : Nat) (qq : Nat → Nat) (cc : Nat → ClassId) (ff : Nat → Nat → Int32) (fl : Nat → Int64) (c nn : Int32) (lt : Int64) : va_W := [(h0, .inr (2, oM qq c nn lt)), (qq 0, .inl (cc 0, 101, .inl (ff 0))), (qq 1, .inl (cc 1, 101, .inl (ff 1))), (qq 2, .inl (cc 2, 101, .inl (ff 2))), (qq 3, .inl (cc 3, 101, .inl (ff 3))), (qq 4, .inl (cc 4, 101, .inl (ff 4))), (qq 5, .inl (cc 5, 101, .inl (ff 5))), (qq 6, .inl (cc 6, 101, .inl (ff 6))), (qq 7, .inl (cc 7, 101, .inl (ff 7))), (qq 8, .inl (cc 8, 101, .inl (ff 8))), (qq 9, .inl (cc 9, 101, .inr (.inl (fl)))), (qq 10, .inl (cc 10, 101, .inl (ff 10))), (qq 11, .inl (cc 11, 101, .inl (ff 11))), (qq 12, .inl (cc 12, 101, .inl (ff 12))), (qq 13, .inl (cc 13, 101, .inl (ff 13)))]
def wM (h0 : Nat) (qq : Nat → Nat) (cc : Nat → ClassId) (ff : Nat → Nat → Int32) (fl : Nat → Int64) (k : Nat) (c nn : Int32) (lt : Int64) (a : MN) : va_W := [(h0, .inr (2, oM qq c nn lt)), (qq 0, .inl (cc 0, 101, .inl (upd (ff 0) k a.1))), (qq 1, .inl (cc 1, 101, .inl (upd (ff 1) k a.2.1))), (qq 2, .inl (cc 2, 101, .inl (upd (ff 2) k a.2.2.1))), (qq 3, .inl (cc 3, 101, .inl (upd (ff 3) k a.2.2.2.1))), (qq 4, .inl (cc 4, 101, .inl (upd (ff 4) k a.2.2.2.2.1))), (qq 5, .inl (cc 5, 101, .inl (upd (ff 5) k a.2.2.2.2.2.1))), (qq 6, .inl (cc 6, 101, .inl (upd (ff 6) k a.2.2.2.2.2.2.1))), (qq 7, .inl (cc 7, 101, .inl (upd (ff 7) k a.2.2.2.2.2.2.2.1))), (qq 8, .inl (cc 8, 101, .inl (upd (ff 8) k a.2.2.2.2.2.2.2.2.1))), (qq 9, .inl (cc 9, 101, .inr (.inl (vp_updL fl k a.2.2.2.2.2.2.2.2.2.1)))), (qq 10, .inl (cc 10, 101, .inl (upd (ff 10) k a.2.2.2.2.2.2.2.2.2.2.1))), (qq 11, .inl (cc 11, 101, .inl (upd (ff 11) k a.2.2.2.2.2.2.2.2.2.2.2.1))), (qq 12, .inl (cc 12, 101, .inl (upd (ff 12) k a.2.2.2.2.2.2.2.2.2.2.2.2.1))), (qq 13, .inl (cc 13, 101, .inl (upd (ff 13) k a.2.2.2.2.2.2.2.2.2.2.2.2.2)))]
def tM (cc : Nat → ClassId) : List (ClassId × FieldType) := [(cc 0, .int), (cc 1, .int), (cc 2, .boolean), (cc 3, .int), (cc 4, .int), (cc 5, .boolean), (cc 6, .boolean), (cc 7, .int), (cc 8, .boolean), (cc 9, .long), (cc 10, .boolean), (cc 11, .int), (cc 12, .int), (cc 13, .int)]
def tupM (ff : Nat → Nat → Int32) (fl : Nat → Int64) (k : Nat) : MN := (ff 0 k, ff 1 k, ff 2 k, ff 3 k, ff 4 k, ff 5 k, ff 6 k, ff 7 k, ff 8 k, fl k, ff 10 k, ff 11 k, ff 12 k, ff 13 k)
def uff (ff : Nat → Nat → Int32) (k : Nat) (a : MN) : Nat → Nat → Int32 := fun i => match i with
  | 0 => upd (ff 0) k a.1
  | 1 => upd (ff 1) k a.2.1
  | 2 => upd (ff 2) k a.2.2.1
  | 3 => upd (ff 3) k a.2.2.2.1
  | 4 => upd (ff 4) k a.2.2.2.2.1
  | 5 => upd (ff 5) k a.2.2.2.2.2.1
  | 6 => upd (ff 6) k a.2.2.2.2.2.2.1
  | 7 => upd (ff 7) k a.2.2.2.2.2.2.2.1
  | 8 => upd (ff 8) k a.2.2.2.2.2.2.2.2.1
  | 10 => upd (ff 10) k a.2.2.2.2.2.2.2.2.2.2.1
  | 11 => upd (ff 11) k a.2.2.2.2.2.2.2.2.2.2.2.1
  | 12 => upd (ff 12) k a.2.2.2.2.2.2.2.2.2.2.2.2.1
  | 13 => upd (ff 13) k a.2.2.2.2.2.2.2.2.2.2.2.2.2
  | _ => ff 99
theorem wM_g {h0 : Nat} {qq : Nat → Nat} {cc : Nat → ClassId} {ff : Nat → Nat → Int32} {fl : Nat → Int64} {k : Nat} {c nn : Int32} {lt : Int64} {a : MN} : wM h0 qq cc ff fl k c nn lt a = wMg h0 qq cc (uff ff k a) (vp_updL fl k a.2.2.2.2.2.2.2.2.2.1) c nn lt := rfl
theorem u_self {f : Nat → Int32} {k : Nat} : upd f k (f k) = f := funext fun j => by
  unfold upd
  by_cases h : j = k
  · rw [if_pos h, h]
  · rw [if_neg h]
theorem ul_self {f : Nat → Int64} {k : Nat} : vp_updL f k (f k) = f := funext fun j => by
  unfold vp_updL
  by_cases h : j = k
  · rw [if_pos h, h]
  · rw [if_neg h]
theorem u_uu {f : Nat → Int32} {k : Nat} {a b : Int32} : upd (upd f k a) k b = upd f k b := funext fun j => by
  unfold upd
  by_cases h : j = k
  · rw [if_pos h, if_pos h]
  · rw [if_neg h, if_neg h, if_neg h]
theorem ul_uu {f : Nat → Int64} {k : Nat} {a b : Int64} : vp_updL (vp_updL f k a) k b = vp_updL f k b := funext fun j => by
  unfold vp_updL
  by_cases h : j = k
  · rw [if_pos h, if_pos h]
  · rw [if_neg h, if_neg h, if_neg h]
theorem wM_self {h0 : Nat} {qq : Nat → Nat} {cc : Nat → ClassId} {ff : Nat → Nat → Int32} {fl : Nat → Int64} {k : Nat} {c nn : Int32} {lt : Int64} : wM h0 qq cc ff fl k c nn lt (tupM ff fl k) = wMg h0 qq cc ff fl c nn lt := by
  simp only [wM, wMg, tupM, u_self, ul_self]
theorem tup_uff {ff : Nat → Nat → Int32} {fl : Nat → Int64} {k j : Nat} {a : MN} : tupM (uff ff k a) (vp_updL fl k a.2.2.2.2.2.2.2.2.2.1) j = va_up (tupM ff fl) k a j := by
  obtain ⟨a0, a1, a2, a3, a4, a5, a6, a7, a8, a9, a10, a11, a12, a13⟩ := a
  by_cases h : j = k
  · subst h
    rw [va_up_self]
    simp only [tupM, uff, upd, vp_updL, if_true]
  · rw [va_up_ne _ _ h]
    simp only [tupM, uff, upd, vp_updL, if_neg h]
theorem ws_0 {h0 : Nat} {qq : Nat → Nat} {cc : Nat → ClassId} {ff : Nat → Nat → Int32} {fl : Nat → Int64} {k : Nat} {c nn : Int32} {lt : Int64} {a : MN} {v x : Int32} : (wM h0 qq cc ff fl k c nn lt a).set 1 (qq 0, .inl (cc 0, 101, .inl (upd (upd (ff 0) k v) k x))) = wM h0 qq cc ff fl k c nn lt (x, a.2.1, a.2.2.1, a.2.2.2.1, a.2.2.2.2.1, a.2.2.2.2.2.1, a.2.2.2.2.2.2.1, a.2.2.2.2.2.2.2.1, a.2.2.2.2.2.2.2.2.1, a.2.2.2.2.2.2.2.2.2.1, a.2.2.2.2.2.2.2.2.2.2.1, a.2.2.2.2.2.2.2.2.2.2.2.1, a.2.2.2.2.2.2.2.2.2.2.2.2.1, a.2.2.2.2.2.2.2.2.2.2.2.2.2) := by rw [u_uu]; rfl
theorem ws_1 {h0 : Nat} {qq : Nat → Nat} {cc : Nat → ClassId} {ff : Nat → Nat → Int32} {fl : Nat → Int64} {k : Nat} {c nn : Int32} {lt : Int64} {a : MN} {v x : Int32} : (wM h0 qq cc ff fl k c nn lt a).set 2 (qq 1, .inl (cc 1, 101, .inl (upd (upd (ff 1) k v) k x))) = wM h0 qq cc ff fl k c nn lt (a.1, x, a.2.2.1, a.2.2.2.1, a.2.2.2.2.1, a.2.2.2.2.2.1, a.2.2.2.2.2.2.1, a.2.2.2.2.2.2.2.1, a.2.2.2.2.2.2.2.2.1, a.2.2.2.2.2.2.2.2.2.1, a.2.2.2.2.2.2.2.2.2.2.1, a.2.2.2.2.2.2.2.2.2.2.2.1, a.2.2.2.2.2.2.2.2.2.2.2.2.1, a.2.2.2.2.2.2.2.2.2.2.2.2.2) := by rw [u_uu]; rfl
theorem ws_2 {h0 : Nat} {qq : Nat → Nat} {cc : Nat → ClassId} {ff : Nat → Nat → Int32} {fl : Nat → Int64} {k : Nat} {c nn : Int32} {lt : Int64} {a : MN} {v x : Int32} : (wM h0 qq cc ff fl k c nn lt a).set 3 (qq 2, .inl (cc 2, 101, .inl (upd (upd (ff 2) k v) k x))) = wM h0 qq cc ff fl k c nn lt (a.1, a.2.1, x, a.2.2.2.1, a.2.2.2.2.1, a.2.2.2.2.2.1, a.2.2.2.2.2.2.1, a.2.2.2.2.2.2.2.1, a.2.2.2.2.2.2.2.2.1, a.2.2.2.2.2.2.2.2.2.1, a.2.2.2.2.2.2.2.2.2.2.1, a.2.2.2.2.2.2.2.2.2.2.2.1, a.2.2.2.2.2.2.2.2.2.2.2.2.1, a.2.2.2.2.2.2.2.2.2.2.2.2.2) := by rw [u_uu]; rfl
theorem ws_3 {h0 : Nat} {qq : Nat → Nat} {cc : Nat → ClassId} {ff : Nat → Nat → Int32} {fl : Nat → Int64} {k : Nat} {c nn : Int32} {lt : Int64} {a : MN} {v x : Int32} : (wM h0 qq cc ff fl k c nn lt a).set 4 (qq 3, .inl (cc 3, 101, .inl (upd (upd (ff 3) k v) k x))) = wM h0 qq cc ff fl k c nn lt (a.1, a.2.1, a.2.2.1, x, a.2.2.2.2.1, a.2.2.2.2.2.1, a.2.2.2.2.2.2.1, a.2.2.2.2.2.2.2.1, a.2.2.2.2.2.2.2.2.1, a.2.2.2.2.2.2.2.2.2.1, a.2.2.2.2.2.2.2.2.2.2.1, a.2.2.2.2.2.2.2.2.2.2.2.1, a.2.2.2.2.2.2.2.2.2.2.2.2.1, a.2.2.2.2.2.2.2.2.2.2.2.2.2) := by rw [u_uu]; rfl
theorem ws_4 {h0 : Nat} {qq : Nat → Nat} {cc : Nat → ClassId} {ff : Nat → Nat → Int32} {fl : Nat → Int64} {k : Nat} {c nn : Int32} {lt : Int64} {a : MN} {v x : Int32} : (wM h0 qq cc ff fl k c nn lt a).set 5 (qq 4, .inl (cc 4, 101, .inl (upd (upd (ff 4) k v) k x))) = wM h0 qq cc ff fl k c nn lt (a.1, a.2.1, a.2.2.1, a.2.2.2.1, x, a.2.2.2.2.2.1, a.2.2.2.2.2.2.1, a.2.2.2.2.2.2.2.1, a.2.2.2.2.2.2.2.2.1, a.2.2.2.2.2.2.2.2.2.1, a.2.2.2.2.2.2.2.2.2.2.1, a.2.2.2.2.2.2.2.2.2.2.2.1, a.2.2.2.2.2.2.2.2.2.2.2.2.1, a.2.2.2.2.2.2.2.2.2.2.2.2.2) := by rw [u_uu]; rfl
theorem ws_5 {h0 : Nat} {qq : Nat → Nat} {cc : Nat → ClassId} {ff : Nat → Nat → Int32} {fl : Nat → Int64} {k : Nat} {c nn : Int32} {lt : Int64} {a : MN} {v x : Int32} : (wM h0 qq cc ff fl k c nn lt a).set 6 (qq 5, .inl (cc 5, 101, .inl (upd (upd (ff 5) k v) k x))) = wM h0 qq cc ff fl k c nn lt (a.1, a.2.1, a.2.2.1, a.2.2.2.1, a.2.2.2.2.1, x, a.2.2.2.2.2.2.1, a.2.2.2.2.2.2.2.1, a.2.2.2.2.2.2.2.2.1, a.2.2.2.2.2.2.2.2.2.1, a.2.2.2.2.2.2.2.2.2.2.1, a.2.2.2.2.2.2.2.2.2.2.2.1, a.2.2.2.2.2.2.2.2.2.2.2.2.1, a.2.2.2.2.2.2.2.2.2.2.2.2.2) := by rw [u_uu]; rfl
theorem ws_6 {h0 : Nat} {qq : Nat → Nat} {cc : Nat → ClassId} {ff : Nat → Nat → Int32} {fl : Nat → Int64} {k : Nat} {c nn : Int32} {lt : Int64} {a : MN} {v x : Int32} : (wM h0 qq cc ff fl k c nn lt a).set 7 (qq 6, .inl (cc 6, 101, .inl (upd (upd (ff 6) k v) k x))) = wM h0 qq cc ff fl k c nn lt (a.1, a.2.1, a.2.2.1, a.2.2.2.1, a.2.2.2.2.1, a.2.2.2.2.2.1, x, a.2.2.2.2.2.2.2.1, a.2.2.2.2.2.2.2.2.1, a.2.2.2.2.2.2.2.2.2.1, a.2.2.2.2.2.2.2.2.2.2.1, a.2.2.2.2.2.2.2.2.2.2.2.1, a.2.2.2.2.2.2.2.2.2.2.2.2.1, a.2.2.2.2.2.2.2.2.2.2.2.2.2) := by rw [u_uu]; rfl
theorem ws_7 {h0 : Nat} {qq : Nat → Nat} {cc : Nat → ClassId} {ff : Nat → Nat → Int32} {fl : Nat → Int64} {k : Nat} {c nn : Int32} {lt : Int64} {a : MN} {v x : Int32} : (wM h0 qq cc ff fl k c nn lt a).set 8 (qq 7, .inl (cc 7, 101, .inl (upd (upd (ff 7) k v) k x))) = wM h0 qq cc ff fl k c nn lt (a.1, a.2.1, a.2.2.1, a.2.2.2.1, a.2.2.2.2.1, a.2.2.2.2.2.1, a.2.2.2.2.2.2.1, x, a.2.2.2.2.2.2.2.2.1, a.2.2.2.2.2.2.2.2.2.1, a.2.2.2.2.2.2.2.2.2.2.1, a.2.2.2.2.2.2.2.2.2.2.2.1, a.2.2.2.2.2.2.2.2.2.2.2.2.1, a.2.2.2.2.2.2.2.2.2.2.2.2.2) := by rw [u_uu]; rfl
theorem ws_8 {h0 : Nat} {qq : Nat → Nat} {cc : Nat → ClassId} {ff : Nat → Nat → Int32} {fl : Nat → Int64} {k : Nat} {c nn : Int32} {lt : Int64} {a : MN} {v x : Int32} : (wM h0 qq cc ff fl k c nn lt a).set 9 (qq 8, .inl (cc 8, 101, .inl (upd (upd (ff 8) k v) k x))) = wM h0 qq cc ff fl k c nn lt (a.1, a.2.1, a.2.2.1, a.2.2.2.1, a.2.2.2.2.1, a.2.2.2.2.2.1, a.2.2.2.2.2.2.1, a.2.2.2.2.2.2.2.1, x, a.2.2.2.2.2.2.2.2.2.1, a.2.2.2.2.2.2.2.2.2.2.1, a.2.2.2.2.2.2.2.2.2.2.2.1, a.2.2.2.2.2.2.2.2.2.2.2.2.1, a.2.2.2.2.2.2.2.2.2.2.2.2.2) := by rw [u_uu]; rfl
theorem ws_9 {h0 : Nat} {qq : Nat → Nat} {cc : Nat → ClassId} {ff : Nat → Nat → Int32} {fl : Nat → Int64} {k : Nat} {c nn : Int32} {lt : Int64} {a : MN} {v x : Int64} : (wM h0 qq cc ff fl k c nn lt a).set 10 (qq 9, .inl (cc 9, 101, .inr (.inl (vp_updL (vp_updL fl k v) k x)))) = wM h0 qq cc ff fl k c nn lt (a.1, a.2.1, a.2.2.1, a.2.2.2.1, a.2.2.2.2.1, a.2.2.2.2.2.1, a.2.2.2.2.2.2.1, a.2.2.2.2.2.2.2.1, a.2.2.2.2.2.2.2.2.1, x, a.2.2.2.2.2.2.2.2.2.2.1, a.2.2.2.2.2.2.2.2.2.2.2.1, a.2.2.2.2.2.2.2.2.2.2.2.2.1, a.2.2.2.2.2.2.2.2.2.2.2.2.2) := by rw [ul_uu]; rfl
theorem ws_10 {h0 : Nat} {qq : Nat → Nat} {cc : Nat → ClassId} {ff : Nat → Nat → Int32} {fl : Nat → Int64} {k : Nat} {c nn : Int32} {lt : Int64} {a : MN} {v x : Int32} : (wM h0 qq cc ff fl k c nn lt a).set 11 (qq 10, .inl (cc 10, 101, .inl (upd (upd (ff 10) k v) k x))) = wM h0 qq cc ff fl k c nn lt (a.1, a.2.1, a.2.2.1, a.2.2.2.1, a.2.2.2.2.1, a.2.2.2.2.2.1, a.2.2.2.2.2.2.1, a.2.2.2.2.2.2.2.1, a.2.2.2.2.2.2.2.2.1, a.2.2.2.2.2.2.2.2.2.1, x, a.2.2.2.2.2.2.2.2.2.2.2.1, a.2.2.2.2.2.2.2.2.2.2.2.2.1, a.2.2.2.2.2.2.2.2.2.2.2.2.2) := by rw [u_uu]; rfl
theorem ws_11 {h0 : Nat} {qq : Nat → Nat} {cc : Nat → ClassId} {ff : Nat → Nat → Int32} {fl : Nat → Int64} {k : Nat} {c nn : Int32} {lt : Int64} {a : MN} {v x : Int32} : (wM h0 qq cc ff fl k c nn lt a).set 12 (qq 11, .inl (cc 11, 101, .inl (upd (upd (ff 11) k v) k x))) = wM h0 qq cc ff fl k c nn lt (a.1, a.2.1, a.2.2.1, a.2.2.2.1, a.2.2.2.2.1, a.2.2.2.2.2.1, a.2.2.2.2.2.2.1, a.2.2.2.2.2.2.2.1, a.2.2.2.2.2.2.2.2.1, a.2.2.2.2.2.2.2.2.2.1, a.2.2.2.2.2.2.2.2.2.2.1, x, a.2.2.2.2.2.2.2.2.2.2.2.2.1, a.2.2.2.2.2.2.2.2.2.2.2.2.2) := by rw [u_uu]; rfl
theorem ws_12 {h0 : Nat} {qq : Nat → Nat} {cc : Nat → ClassId} {ff : Nat → Nat → Int32} {fl : Nat → Int64} {k : Nat} {c nn : Int32} {lt : Int64} {a : MN} {v x : Int32} : (wM h0 qq cc ff fl k c nn lt a).set 13 (qq 12, .inl (cc 12, 101, .inl (upd (upd (ff 12) k v) k x))) = wM h0 qq cc ff fl k c nn lt (a.1, a.2.1, a.2.2.1, a.2.2.2.1, a.2.2.2.2.1, a.2.2.2.2.2.1, a.2.2.2.2.2.2.1, a.2.2.2.2.2.2.2.1, a.2.2.2.2.2.2.2.2.1, a.2.2.2.2.2.2.2.2.2.1, a.2.2.2.2.2.2.2.2.2.2.1, a.2.2.2.2.2.2.2.2.2.2.2.1, x, a.2.2.2.2.2.2.2.2.2.2.2.2.2) := by rw [u_uu]; rfl
theorem ws_13 {h0 : Nat} {qq : Nat → Nat} {cc : Nat → ClassId} {ff : Nat → Nat → Int32} {fl : Nat → Int64} {k : Nat} {c nn : Int32} {lt : Int64} {a : MN} {v x : Int32} : (wM h0 qq cc ff fl k c nn lt a).set 14 (qq 13, .inl (cc 13, 101, .inl (upd (upd (ff 13) k v) k x))) = wM h0 qq cc ff fl k c nn lt (a.1, a.2.1, a.2.2.1, a.2.2.2.1, a.2.2.2.2.1, a.2.2.2.2.2.1, a.2.2.2.2.2.2.1, a.2.2.2.2.2.2.2.1, a.2.2.2.2.2.2.2.2.1, a.2.2.2.2.2.2.2.2.2.1, a.2.2.2.2.2.2.2.2.2.2.1, a.2.2.2.2.2.2.2.2.2.2.2.1, a.2.2.2.2.2.2.2.2.2.2.2.2.1, x) := by rw [u_uu]; rfl
theorem vnb {p : Int32} (h : p = 0 ∨ p = 1) : vp_nar .boolean p = p := by
  rcases h with rfl | rfl <;> decide
/-- va_D speaks of the addresses alone -/
theorem va_Da {A : Nat → Prop} {ws w2 : va_W} (h : va_D A ws) (e : w2.map Prod.fst = ws.map Prod.fst) : va_D A w2 := by
  have key : ∀ (i : Nat) (p : Nat × va_E), w2[i]? = some p → ∃ q, ws[i]? = some q ∧ q.1 = p.1 := by
    intro i p hp
    have h1 : (w2.map Prod.fst)[i]? = some p.1 := by rw [List.getElem?_map, hp]; rfl
    rw [e, List.getElem?_map] at h1
    cases hq : ws[i]? with
    | none => rw [hq] at h1; cases h1
    | some q => rw [hq] at h1; exact ⟨q, rfl, Option.some.inj h1⟩
  refine ⟨fun i j p q hi hj hpq => ?_, fun i p hi => ?_⟩
  · obtain ⟨p2, h1, h2⟩ := key i p hi
    obtain ⟨q2, h3, h4⟩ := key j q hj
    exact h.1 i j p2 q2 h1 h3 (by rw [h2, h4, hpq])
  · obtain ⟨p2, h1, h2⟩ := key i p hi
    rw [← h2]; exact h.2 i p2 h1
theorem wM_D {A : Nat → Prop} {h0 : Nat} {qq : Nat → Nat} {cc : Nat → ClassId} {ff : Nat → Nat → Int32} {fl : Nat → Int64} {k : Nat} {c nn : Int32} {lt : Int64} {a : MN} {a2 : MN} {c2 nn2 : Int32} {lt2 : Int64} (h : va_D A (wM h0 qq cc ff fl k c nn lt a)) : va_D A (wM h0 qq cc ff fl k c2 nn2 lt2 a2) := va_Da h rfl
theorem wMg_D {A : Nat → Prop} {h0 : Nat} {qq : Nat → Nat} {cc c3 : Nat → ClassId} {ff f3 : Nat → Nat → Int32} {fl l3 : Nat → Int64} {c nn : Int32} {lt : Int64} {c2 nn2 : Int32} {lt2 : Int64} (h : va_D A (wMg h0 qq cc ff fl c nn lt)) : va_D A (wMg h0 qq c3 f3 l3 c2 nn2 lt2) := va_Da h rfl
section TP
variable {p : Program} {l : Launch} {e : Env} {R : Room} {s : State} {m : MethodId} {args : Array Value} {below : List Frame} {meth : Method} {c : Code} {H : Heap} {locs : List Loc} {cells slots : Nat} {Q : State → Prop} {pc : Nat} {ls : Array Slot} {rest : List Value}
theorem tpi {x : Int32} (y : Int32) (h : x = y) (k : W p l e R s m args below meth c H locs cells slots Q (F0 m pc ls (.int y :: rest))) : W p l e R s m args below meth c H locs cells slots Q (F0 m pc ls (.int x :: rest)) := by rw [h]; exact k
theorem tpl {x : Int64} (y : Int64) (h : x = y) (k : W p l e R s m args below meth c H locs cells slots Q (F0 m pc ls (.long y :: rest))) : W p l e R s m args below meth c H locs cells slots Q (F0 m pc ls (.long x :: rest)) := by rw [h]; exact k
end TP
/-- the cells wm hold the reference in the state v -/
def IM (h0 : Nat) (v : MS) (wm : va_W) (tm : List (ClassId × FieldType)) : Prop := ∃ (qq : Nat → Nat) (cc : Nat → ClassId) (ff : Nat → Nat → Int32) (fl : Nat → Int64) (c : Int32), wm = wMg h0 qq cc ff fl c (nI v.1) v.2.1 ∧ tm = tM cc ∧ v.1 ≤ 100 ∧ ∀ k, v.2.2 k = tupM ff fl k
def atM (D : va_G) (h0 : Nat) (A : Nat → Prop) (v : MS) (t : State) : Prop := ∃ (wm : va_W) (tm : List (ClassId × FieldType)), IM h0 v wm tm ∧ va_P D cls_ wm t.heap ∧ va_K D cls_ tm t ∧ va_D A wm
/-- two places set anew, their addresses kept: the addresses of the list -/
theorem ssm {ws : va_W} {i j a b : Nat} {e1 e2 : va_E} (hi : ws[i]? = some (a, e1)) (hj : ws[j]? = some (b, e2)) : ((ws.map Prod.fst).set i a).set j b = ws.map Prod.fst := by
  have h1 : (ws.map Prod.fst)[i]? = some a := by rw [List.getElem?_map, hi]; rfl
  have h2 : (ws.map Prod.fst)[j]? = some b := by rw [List.getElem?_map, hj]; rfl
  have s1 : ∀ {l : List Nat} {k x : Nat}, l[k]? = some x → l.set k x = l := by
    intro l k x h
    apply List.ext_getElem?
    intro q
    by_cases hq : q = k
    · subst hq; rw [List.getElem?_set_self (List.getElem?_eq_some_iff.mp h).1, h]
    · rw [List.getElem?_set_ne (Ne.symm hq)]
  rw [s1 h1, s1 h2]
theorem psame {D : va_G} {cl : List vw_C} {ws : va_W} {H : Heap} {k : Nat} {x : Nat × va_E} (hP : va_P D cl ws H) (hn : ws[k]? = some x) : va_P D cl (ws.set k x) H := by rw [ss hn]; exact hP
theorem dsame {A : Nat → Prop} {ws : va_W} {k : Nat} {x : Nat × va_E} (hD : va_D A ws) (hn : ws[k]? = some x) : va_D A (ws.set k x) := by rw [ss hn]; exact hD
end
section
set_option maxHeartbeats 4000000 in
set_option maxRecDepth 100000 in
/-- find: the node's cell, or null -/
theorem c_X_find (l : Launch) (D : va_G) (h0 : Nat) (u : XS) (wx : va_W) (cA : ClassId) (arr : Nat) (f : Nat → Option Nat) (ad : Nat → Nat) (hI : IXp h0 u wx cA arr f ad) (k : Int32) : Met l y_X_find (cw_X_find :: BIG) (rmk 0 0 0) (va_Pc [.ref h0, .int k] (fun U => va_P D cls_ wx U.heap ∧ va_K D cls_ [(cA, .object R_N)] U ∧ NK U)) (va_Sq (fun r => r = (ix u.1 k).map ad)) 0 0 (fun _ => False) := by
  refine Met.ofW (cc := b_X_find) (maxL := 2) (ret := (some (.object "CanErrors$Node"))) (by decide) rfl ?_
  intro p e s m args below meth c s₁ B hml hv
  obtain ⟨rfl, hP, hK, hN⟩ := hv
  have hx := B.exec
  have hb := B.bytes
  have hr := B.returns
  have htB : ∀ w ∈ BIG, w.before _ s = true := fun w h => atoms_spec (ws := cw_X_find :: BIG) B.pre w (List.mem_cons_of_mem _ h)
  have hown : s.vm.findClass R_X = some m.cls := findClass_of_methodNamed B.named
  have hlocks := B.notSynchronized
  obtain ⟨hn, ⟨kx, hkx⟩, ⟨ka, hka⟩, h4, h5⟩ := hI
  have hl := lv_entry ([.ref h0, .int k]) (n := 2) (Nat.le_of_ble_eq_true rfl)
  rw [lg_entry_eq]
  generalize (lg_sl ([.ref h0, .int k]) ++ List.replicate (2 - (lg_sl ([.ref h0, .int k])).length) Slot.unset).toArray = ls at hl ⊢
  have hl : lv_has ls 2 [(0, .ref h0), (1, .int k)] := hl
  have fin : ix u.1 k = none → W p l e (headSpec (cw_X_find :: BIG) (rmk 0 0 0)).room s m ([.ref h0, .int k] : List Value).toArray below meth c s.heap [] 0 0 (MQ below (va_Sq (fun r => r = (ix u.1 k).map ad)) ([.ref h0, .int k] : List Value).toArray s 0 0 (fun _ => False)) (F0 m 22 ls []) := by
    intro hj
    refine lv_null hx hb d_X_find_22 ?_
    exact W.aret hx hb hr (Or.inl ⟨_, rfl⟩) (Or.inl rfl) (fun t ht hW => ⟨none, rfl, by rw [hj]; rfl, ht⟩) (fun _ h => by cases h) d_X_find_23
  refine lv_iload_n hx hb d_X_find_0 rfl (lv_at hl 1 rfl) ?_
  refine lv_iconst (v := 1) hx hb d_X_find_1 (by decide) ?_
  refine lv_icmp_lt (tgt := 22) hx hb d_X_find_2 (by decide) (fun c_1 => ?_) (fun c_1 => ?_)
  · exact fin (by unfold ix; rw [if_pos c_1])
  · refine lv_iload_n hx hb d_X_find_5 rfl (lv_at hl 1 rfl) ?_
    refine lv_aload_n hx hb d_X_find_6 rfl (lv_at hl 0 rfl) ?_
    refine va_get (D := D) (ci := 1) (v := .int (nI u.1)) (C := R_X) (T := F_X) (N := 3) hx hb htB uw_X hown hK hP kx hkx rfl 1 (by decide) (htB _ fl_X_15) (fun _ h9 => h9) rfl d_X_find_7 ?_
    refine lv_icmp_gt (tgt := 22) hx hb d_X_find_10 (by decide) (fun c_2 => ?_) (fun c_2 => ?_)
    · exact fin (by unfold ix; rw [if_neg c_1, if_pos c_2])
    · obtain ⟨j, hj⟩ : ∃ j, ix u.1 k = some j := ⟨_, by unfold ix; rw [if_neg c_1, if_neg c_2]⟩
      obtain ⟨hjl, hk⟩ := ix_some hn hj
      refine lv_iload_n hx hb d_X_find_13 rfl (lv_at hl 1 rfl) ?_
      refine lv_aload_n hx hb d_X_find_14 rfl (lv_at hl 0 rfl) ?_
      refine va_get (D := D) (ci := 1) (v := .ref arr) (C := R_X) (T := F_X) (N := 3) hx hb htB uw_X hown hK hP kx hkx rfl 0 (by decide) (htB _ fl_X_11) (fun _ h9 => h9) rfl d_X_find_15 ?_
      refine va_alen (v := 100) hx hb hK hP ka 0 hka rfl (show Int32.ofNat 100 = 100 by decide) d_X_find_18 ?_
      refine lv_icmp_le (tgt := 24) hx hb d_X_find_19 (by decide) (fun _ => ?_) (fun c_3 => absurd (by rw [hk]; exact nI_le (b := 100) (by omega) (by decide)) c_3)
      refine lv_aload_n hx hb d_X_find_24 rfl (lv_at hl 0 rfl) ?_
      refine va_get (D := D) (ci := 1) (v := .ref arr) (C := R_X) (T := F_X) (N := 3) hx hb htB uw_X hown hK hP kx hkx rfl 0 (by decide) (htB _ fl_X_11) (fun _ h9 => h9) rfl d_X_find_25 ?_
      refine lv_iload_n hx hb d_X_find_28 rfl (lv_at hl 1 rfl) ?_
      refine lv_iconst (v := 1) hx hb d_X_find_29 (by decide) ?_
      refine lv_isub hx hb d_X_find_30 ?_
      have hk1 : k - 1 = nI j := by rw [hk]; exact nI_pred j
      refine tpi (nI j) hk1 ?_
      refine va_aldq hx hb hK hP ka 0 hka rfl (vp_in_nI (by omega) (by decide)) d_X_find_31 ?_
      have hv : f (nI j).toNatClampNeg = some (ad j) := by rw [nI_clamp (by omega)]; exact (h4 j hjl).1
      rw [hv]
      exact W.aret hx hb hr (Or.inl ⟨_, rfl⟩) (Or.inr ⟨ad j, rfl⟩) (fun t ht hW => ⟨some (ad j), rfl, by rw [hj]; rfl, ht⟩) (fun _ h => by cases h) d_X_find_32
set_option maxHeartbeats 4000000 in
set_option maxRecDepth 100000 in
/-- a node's constructor writes nothing -/
theorem c_N_init (l : Launch) (h0 : Nat) : Met l y_N_init (cw_N_init :: BIG) (rmk 1 0 0) (va_Pc [.ref h0] (fun U => NK U)) (va_Sv (fun _ => True)) 0 0 (fun _ => False) := by
  refine Met.ofW (cc := b_N_init) (maxL := 1) (ret := none) (by decide) rfl ?_
  intro p e s m args below meth c s₁ B hml hv
  obtain ⟨rfl, hN⟩ := hv
  have hx := B.exec
  have hb := B.bytes
  have hr := B.returns
  have htB : ∀ w ∈ BIG, w.before _ s = true := fun w h => atoms_spec (ws := cw_N_init :: BIG) B.pre w (List.mem_cons_of_mem _ h)
  have hown : s.vm.findClass R_N = some m.cls := findClass_of_methodNamed B.named
  have hlocks := B.notSynchronized
  have hl := lv_entry ([.ref h0]) (n := 1) (Nat.le_of_ble_eq_true rfl)
  rw [lg_entry_eq]
  generalize (lg_sl ([.ref h0]) ++ List.replicate (1 - (lg_sl ([.ref h0])).length) Slot.unset).toArray = ls at hl ⊢
  have hl : lv_has ls 1 [(0, .ref h0)] := hl
  refine lv_aload_n hx hb d_N_init_0 rfl (lv_at hl 0 rfl) ?_
  refine W.objInit hx hb hown (htB _ ml_N_3) (htB _ im_obj) (htB _ co_obj) rfl (by rw [hml]; exact hl.1) rfl d_N_init_1 (Nat.le_of_ble_eq_true rfl) (Nat.le_of_ble_eq_true rfl) ?_
  refine W.eq (g2 := F0 m 4 ls []) rfl ?_
  exact W.vret hx hb hr (fun t ht hW => ⟨rfl, trivial, ht⟩) (fun _ h => by cases h) d_N_init_4
set_option maxHeartbeats 4000000 in
set_option maxRecDepth 100000 in
/-- the constructor: no nodes -/
theorem c_X_init (l : Launch) (D : va_G) (h0 sz : Nat) : Met l y_X_init (cw_X_init :: BIG) (rmk 1 1 100) (va_Pc [.ref h0] (fun U => U.heap.size = sz ∧ va_P D cls_ [(h0, .inr (1, [.null, .int 0, .long 0]))] U.heap ∧ va_K D cls_ [] U ∧ NK U)) (va_Qv (fun u2 : XS => u2 = (0, 0, fun _ => n_0)) (atX D h0 (va_A [(h0, .inr (1, [.null, .int 0, .long 0]))] sz)) (va_A [(h0, .inr (1, [.null, .int 0, .long 0]))] sz)) 1 100 (va_A [(h0, .inr (1, [.null, .int 0, .long 0]))] sz) := by
  refine Met.ofW (cc := b_X_init) (maxL := 1) (ret := none) (by decide) rfl ?_
  intro p e s m args below meth c s₁ B hml hv
  obtain ⟨rfl, hsz, hP, hK, hN⟩ := hv
  have hx := B.exec
  have hb := B.bytes
  have hr := B.returns
  have htB : ∀ w ∈ BIG, w.before _ s = true := fun w h => atoms_spec (ws := cw_X_init :: BIG) B.pre w (List.mem_cons_of_mem _ h)
  have hown : s.vm.findClass R_X = some m.cls := findClass_of_methodNamed B.named
  have hlocks := B.notSynchronized
  have hin : meth.name = "<init>" := (name_of_methodNamed B.named B.method).1
  subst hsz
  have hD : va_D (va_A [(h0, .inr (1, [.null, .int 0, .long 0]))] s.heap.size) [(h0, .inr (1, [.null, .int 0, .long 0]))] := nD.self
  generalize hAe : va_A [(h0, .inr (1, [.null, .int 0, .long 0]))] s.heap.size = A at hD ⊢
  have hA : ∀ q : Nat, s.heap.size ≤ q → A q := fun q h => by rw [← hAe]; exact Or.inr h
  have hS : va_S A s.heap s.heap [] := va_S.rf
  have hl := lv_entry ([.ref h0]) (n := 1) (Nat.le_of_ble_eq_true rfl)
  rw [lg_entry_eq]
  generalize (lg_sl ([.ref h0]) ++ List.replicate (1 - (lg_sl ([.ref h0])).length) Slot.unset).toArray = ls at hl ⊢
  have hl : lv_has ls 1 [(0, .ref h0)] := hl
  refine lv_aload_n hx hb d_X_init_0 rfl (lv_at hl 0 rfl) ?_
  refine W.objInit hx hb hown (htB _ ml_X_1) (htB _ im_obj) (htB _ co_obj) rfl (by rw [hml]; exact hl.1) rfl d_X_init_1 (Nat.le_of_ble_eq_true rfl) (Nat.le_of_ble_eq_true rfl) ?_
  refine W.eq (g2 := F0 m 4 ls []) rfl ?_
  refine lv_aload_n hx hb d_X_init_4 rfl (lv_at hl 0 rfl) ?_
  refine lv_bipush (v := 100) hx hb d_X_init_5 (by decide) ?_
  refine va_newq (C := R_N) (N' := 100) hx hb hown (htB _ cl_X_9) hN.ao hK hP hD hS hA (by decide) (by decide) (by decide) (Nat.le_of_ble_eq_true rfl) (Nat.le_of_ble_eq_true rfl) d_X_init_7 (fun q cA H hK hP hD hS => ?_)
  have hP : va_P D cls_ [(h0, .inr (1, [.null, .int 0, .long 0])), (q, .inl (cA, 100, .inr (.inr (.inr (.inr (fun _ => none))))))] H := hP
  have hD : va_D A [(h0, .inr (1, [.null, .int 0, .long 0])), (q, .inl (cA, 100, .inr (.inr (.inr (.inr (fun _ => none))))))] := hD
  have hK : va_K D cls_ [(cA, .object R_N)] s := hK
  refine va_putF (D := D) (ci := 1) (v := .ref q) (ty := .array (.object "CanErrors$Node")) (C := R_X) (T := F_X) (N := 3) hx hb htB uw_X t_X t_X_ok n_X hown hK hP hD hS 0 rfl rfl 0 (by decide) (htB _ fl_X_11) (fun _ h9 => h9) rfl hin rfl (t_X_ok 0 (by decide)) rfl rfl (Nat.le_of_ble_eq_true rfl) d_X_init_10 (fun H locs hP hD hS => ?_)
  have hP : va_P D cls_ [(h0, .inr (1, [.ref q, .int 0, .long 0])), (q, .inl (cA, 100, .inr (.inr (.inr (.inr (fun _ => none))))))] H := hP
  have hD : va_D A [(h0, .inr (1, [.ref q, .int 0, .long 0])), (q, .inl (cA, 100, .inr (.inr (.inr (.inr (fun _ => none))))))] := hD
  refine lv_aload_n hx hb d_X_init_13 rfl (lv_at hl 0 rfl) ?_
  refine lv_iconst (v := 0) hx hb d_X_init_14 (by decide) ?_
  refine va_put (D := D) (ci := 1) (v := .int 0) (ty := .int) (C := R_X) (T := F_X) (N := 3) hx hb htB uw_X t_X t_X_ok n_X hown hK hP hD hS 0 rfl rfl 1 (by decide) (htB _ fl_X_15) (fun _ h9 => h9) rfl (t_X_ok 1 (by decide)) rfl rfl (Nat.le_of_ble_eq_true rfl) d_X_init_15 (fun H locs hP hD hS => ?_)
  have hP : va_P D cls_ [(h0, .inr (1, [.ref q, .int 0, .long 0])), (q, .inl (cA, 100, .inr (.inr (.inr (.inr (fun _ => none))))))] H := hP
  have hD : va_D A [(h0, .inr (1, [.ref q, .int 0, .long 0])), (q, .inl (cA, 100, .inr (.inr (.inr (.inr (fun _ => none))))))] := hD
  refine lv_aload_n hx hb d_X_init_18 rfl (lv_at hl 0 rfl) ?_
  refine lv_lconst (v := 0) hx hb d_X_init_19 (by decide) ?_
  refine va_put (D := D) (ci := 1) (v := .long 0) (ty := .long) (C := R_X) (T := F_X) (N := 3) hx hb htB uw_X t_X t_X_ok n_X hown hK hP hD hS 0 rfl rfl 2 (by decide) (htB _ fl_X_19) (fun _ h9 => h9) rfl (t_X_ok 2 (by decide)) rfl rfl (Nat.le_of_ble_eq_true rfl) d_X_init_20 (fun H locs hP hD hS => ?_)
  have hP : va_P D cls_ [(h0, .inr (1, [.ref q, .int 0, .long 0])), (q, .inl (cA, 100, .inr (.inr (.inr (.inr (fun _ => none))))))] H := hP
  have hD : va_D A [(h0, .inr (1, [.ref q, .int 0, .long 0])), (q, .inl (cA, 100, .inr (.inr (.inr (.inr (fun _ => none))))))] := hD
  refine W.widen (k := 1) (n := 100) (by decide) (by decide) ?_
  exact W.vret hx hb hr (fun t ht hW => ⟨⟨((0, 0, fun _ => n_0) : XS), rfl, rfl, _, cA, ⟨q, fun _ => none, fun _ => 0, by decide, ⟨0, rfl⟩, ⟨1, rfl⟩, fun j hj => absurd hj (Nat.not_lt_zero j), fun i j hi => absurd hi (Nat.not_lt_zero i)⟩, by rw [ht]; exact hP, va_K.moved hW.alike hK, hD⟩, hS.F ht⟩) hS.2.2 d_X_init_23
def F_X_node (u : XS) : Int32 × XS := if u.1 < 100 then (nI (u.1 + 1), (u.1 + 1, u.2.1, va_up u.2.2 u.1 n_0)) else (-4, u)
set_option maxHeartbeats 4000000 in
set_option maxRecDepth 100000 in
/-- node: one more -/
theorem c_X_node (l : Launch) (D : va_G) (h0 sz : Nat) (u : XS) (w0 : va_W) (cA : ClassId) (hI : IX h0 u w0 cA) (hD0 : va_D (fun _ => True) w0) : Met l y_X_node (cw_X_node :: BIG) (rmk 5 1 15) (va_Pc [.ref h0] (fun U => U.heap.size = sz ∧ va_P D cls_ w0 U.heap ∧ va_K D cls_ [(cA, .object R_N)] U ∧ NK U)) (va_Qi (fun (r : Int32) (u2 : XS) => r = (F_X_node u).1 ∧ u2 = (F_X_node u).2) (atX D h0 (va_A w0 sz)) (va_A w0 sz)) 1 15 (va_A w0 sz) := by
  obtain ⟨arr, f, ad, hI⟩ := hI
  refine Met.ofW (cc := b_X_node) (maxL := 1) (ret := (some .int)) (by decide) rfl ?_
  intro p e s m args below meth c s₁ B hml hv
  obtain ⟨rfl, hsz, hP, hK, hN⟩ := hv
  have hx := B.exec
  have hb := B.bytes
  have hr := B.returns
  have htB : ∀ w ∈ BIG, w.before _ s = true := fun w h => atoms_spec (ws := cw_X_node :: BIG) B.pre w (List.mem_cons_of_mem _ h)
  have hown : s.vm.findClass R_X = some m.cls := findClass_of_methodNamed B.named
  have hlocks := B.notSynchronized
  subst hsz
  have hD : va_D (va_A w0 s.heap.size) w0 := hD0.self
  have hS : va_S (va_A w0 s.heap.size) s.heap s.heap [] := va_S.rf
  have hA : ∀ q : Nat, s.heap.size ≤ q → va_A w0 s.heap.size q := fun q h => Or.inr h
  obtain ⟨kx, hkx⟩ := hI.2.1
  obtain ⟨ka, hka⟩ := hI.2.2.1
  have hn100 := hI.1
  have hl := lv_entry ([.ref h0]) (n := 1) (Nat.le_of_ble_eq_true rfl)
  rw [lg_entry_eq]
  generalize (lg_sl ([.ref h0]) ++ List.replicate (1 - (lg_sl ([.ref h0])).length) Slot.unset).toArray = ls at hl ⊢
  have hl : lv_has ls 1 [(0, .ref h0)] := hl
  refine lv_aload_n hx hb d_X_node_0 rfl (lv_at hl 0 rfl) ?_
  refine va_get (D := D) (ci := 1) (v := .int (nI u.1)) (C := R_X) (T := F_X) (N := 3) hx hb htB uw_X hown hK hP kx hkx rfl 1 (by decide) (htB _ fl_X_15) (fun _ h9 => h9) rfl d_X_node_1 ?_
  refine lv_aload_n hx hb d_X_node_4 rfl (lv_at hl 0 rfl) ?_
  refine va_get (D := D) (ci := 1) (v := .ref arr) (C := R_X) (T := F_X) (N := 3) hx hb htB uw_X hown hK hP kx hkx rfl 0 (by decide) (htB _ fl_X_11) (fun _ h9 => h9) rfl d_X_node_5 ?_
  refine va_alen (v := 100) hx hb hK hP ka 0 hka rfl (show Int32.ofNat 100 = 100 by decide) d_X_node_8 ?_
  refine lv_icmp_lt (tgt := 15) hx hb d_X_node_9 (by decide) (fun c_1 => ?_) (fun c_1 => ?_)
  · have hlt : u.1 < 100 := by
      rcases Nat.lt_or_ge u.1 100 with q | q
      · exact q
      · exact absurd c_1 (nI_nlt (b := 100) q (by omega))
    refine lv_aload_n hx hb d_X_node_15 rfl (lv_at hl 0 rfl) ?_
    refine va_get (D := D) (ci := 1) (v := .ref arr) (C := R_X) (T := F_X) (N := 3) hx hb htB uw_X hown hK hP kx hkx rfl 0 (by decide) (htB _ fl_X_11) (fun _ h9 => h9) rfl d_X_node_16 ?_
    refine lv_aload_n hx hb d_X_node_19 rfl (lv_at hl 0 rfl) ?_
    refine va_get (D := D) (ci := 1) (v := .int (nI u.1)) (C := R_X) (T := F_X) (N := 3) hx hb htB uw_X hown hK hP kx hkx rfl 1 (by decide) (htB _ fl_X_15) (fun _ h9 => h9) rfl d_X_node_20 ?_
    refine va_new (ci := 0) (fs := n_fs n_0) (C := R_N) (T := F_N) (N := 15) hx hb htB uw_N t_N t_N_ok hown (htB _ cl_X_9) (htB _ inst_N) (htB _ in_N) hK hP hD hS hA rfl (by decide) (Nat.le_of_ble_eq_true rfl) (Nat.le_of_ble_eq_true rfl) d_X_node_23 (fun q H hP hD hS => ?_)
    refine lv_dup hx hb d_X_node_26 rfl ?_
    refine va_csv (va_Run.run (va_runI (As := []) (rest := [.ref q, .int (nI u.1), .ref arr]) ⟨hx, hb, hml, hown, htB⟩ (c_N_init l q) (cwI 0 htB gd_N_init rfl rfl rfl (htB _ in_N) (htB _ ml_X_23) (htB _ im_N_init) rfl (by decide +kernel) ⟨Nat.le_of_ble_eq_true rfl, Nat.le_of_ble_eq_true rfl⟩) (preN hN) rfl rfl hl.1 rfl (lv_room (Nat.le_of_ble_eq_true rfl)) d_X_node_27 ⟨Nat.le_of_ble_eq_true rfl, Nat.le_of_ble_eq_true rfl⟩)) (fun _ => ?_)
    refine va_astq (r := (R_N, F_N, 15)) hx hb hK hP hD hS ka 0 w0.length 0 (al hka) rfl ae rfl (vp_in_nI hlt (by decide)) d_X_node_30 (fun H locs hP hD hS => ?_)
    have hcl : (nI u.1).toNatClampNeg = u.1 := nI_clamp (by omega)
    rw [hcl] at hP hD
    have hkk : kx ≠ ka := fun e => by
      rw [e, hka] at hkx
      have := congrArg Prod.snd (Option.some.inj hkx)
      simp at this
    refine lv_aload_n hx hb d_X_node_31 rfl (lv_at hl 0 rfl) ?_
    refine lv_dup hx hb d_X_node_32 rfl ?_
    refine va_get (D := D) (ci := 1) (v := .int (nI u.1)) (C := R_X) (T := F_X) (N := 3) hx hb htB uw_X hown hK hP kx (sn hkk (al hkx)) rfl 1 (by decide) (htB _ fl_X_15) (fun _ h9 => h9) rfl d_X_node_33 ?_
    refine lv_iconst (v := 1) hx hb d_X_node_36 (by decide) ?_
    refine lv_iadd hx hb d_X_node_37 ?_
    refine tpi (nI (u.1 + 1)) (nI_1 u.1) ?_
    refine va_put (D := D) (ci := 1) (v := .int (nI (u.1 + 1))) (ty := .int) (C := R_X) (T := F_X) (N := 3) hx hb htB uw_X t_X t_X_ok n_X hown hK hP hD hS kx (sn hkk (al hkx)) rfl 1 (by decide) (htB _ fl_X_15) (fun _ h9 => h9) rfl (t_X_ok 1 (by decide)) rfl rfl (Nat.le_of_ble_eq_true rfl) d_X_node_38 (fun H locs hP hD hS => ?_)
    refine lv_aload_n hx hb d_X_node_41 rfl (lv_at hl 0 rfl) ?_
    refine va_get (D := D) (ci := 1) (v := .int (nI (u.1 + 1))) (C := R_X) (T := F_X) (N := 3) hx hb htB uw_X hown hK hP kx (sg (sn hkk (al hkx))) rfl 1 (by decide) (htB _ fl_X_15) (fun _ h9 => h9) rfl d_X_node_42 ?_
    have hF : F_X_node u = (nI (u.1 + 1), (u.1 + 1, u.2.1, va_up u.2.2 u.1 n_0)) := by unfold F_X_node; rw [if_pos hlt]
    have hD1 : va_D (fun _ => True) (w0 ++ ([(q, .inr (0, n_fs n_0))] : va_W)) := va_Da (hD.weaken (fun _ _ _ _ => trivial)) (by rw [List.map_set, List.map_set]; exact (ssm (al hka) (al hkx)).symm)
    exact W.iret hx hb hr (fun t ht hW => ⟨⟨nI (u.1 + 1), (u.1 + 1, u.2.1, va_up u.2.2 u.1 n_0), rfl, ⟨(congrArg Prod.fst hF).symm, (congrArg Prod.snd hF).symm⟩, _, cA, ⟨arr, _, _, hI.grow hD1 hlt hka hkx⟩, by rw [ht]; exact hP, va_K.moved hW.alike hK, hD⟩, hS.F ht⟩) hS.2.2 d_X_node_45
  · have hge : ¬ u.1 < 100 := fun q => c_1 (nI_lt q (by decide))
    refine lv_bipush (v := (-4)) hx hb d_X_node_12 (by decide) ?_
    have hF : F_X_node u = (-4, u) := by unfold F_X_node; rw [if_neg hge]
    refine W.widen (k := 1) (n := 15) (by decide) (by decide) ?_
    exact W.iret hx hb hr (fun t ht hW => ⟨⟨-4, u, rfl, ⟨(congrArg Prod.fst hF).symm, (congrArg Prod.snd hF).symm⟩, w0, cA, ⟨arr, f, ad, hI⟩, by rw [ht]; exact hP, va_K.moved hW.alike hK, hD⟩, hS.F ht⟩) hS.2.2 d_X_node_14
end
section
def g_X_counter (u : NS) (w : Int32) : Int32 := let a0 := u.1; let a1 := u.2.1; if w = 0 then a1 else a0
def F_X_counter (u : XS) (n : Int32) (w : Int32) : Int32 × XS := match ix u.1 n with
  | none => (-1, u)
  | some j => (g_X_counter (u.2.2 j) w, u)
set_option maxHeartbeats 4000000 in
set_option maxRecDepth 100000 in
theorem c_X_counter (l : Launch) (D : va_G) (h0 sz : Nat) (u : XS) (w0 : va_W) (cA : ClassId) (hI : IX h0 u w0 cA) (hD0 : va_D (fun _ => True) w0) (n : Int32) (w : Int32) : Met l y_X_counter (cw_X_counter :: BIG) ((rmk 5 0 0)) (va_Pc [.ref h0, .int n, .int w] (fun U => U.heap.size = sz ∧ va_P D cls_ w0 U.heap ∧ va_K D cls_ [(cA, .object R_N)] U ∧ NK U)) (va_Qi (fun (r : Int32) (u2 : XS) => r = (F_X_counter u n w).1 ∧ u2 = (F_X_counter u n w).2) (atX D h0 (va_A w0 sz)) (va_A w0 sz)) 0 0 (va_A w0 sz) := by
  obtain ⟨arr, f, ad, hI⟩ := hI
  refine Met.ofW (cc := b_X_counter) (maxL := 4) (ret := (some .int)) (by decide) rfl ?_
  intro p e s m args below meth c s₁ B hml hv
  obtain ⟨rfl, hsz, hP, hK, hN⟩ := hv
  have hx := B.exec
  have hb := B.bytes
  have hr := B.returns
  have htB : ∀ w ∈ BIG, w.before _ s = true := fun w h => atoms_spec (ws := cw_X_counter :: BIG) B.pre w (List.mem_cons_of_mem _ h)
  have hown : s.vm.findClass R_X = some m.cls := findClass_of_methodNamed B.named
  have hlocks := B.notSynchronized
  have hD : va_D (va_A w0 sz) w0 := hD0.self
  have hS : va_S (va_A w0 sz) s.heap s.heap [] := va_S.rf
  obtain ⟨kx, hkx⟩ := hI.2.1
  obtain ⟨wx, hwx⟩ : ∃ w, w = w0 := ⟨_, rfl⟩
  have hP : va_P D cls_ wx s.heap := by rw [hwx]; exact hP
  have hI : IXp h0 u wx cA arr f ad := by rw [hwx]; exact hI
  have hD : va_D (va_A w0 sz) wx := by rw [hwx]; exact hD
  have hkx : wx[kx]? = some (h0, .inr (1, [.ref arr, .int (nI u.1), .long u.2.1])) := by rw [hwx]; exact hkx
  have hl := lv_entry ([.ref h0, .int n, .int w]) (n := 4) (Nat.le_of_ble_eq_true rfl)
  rw [lg_entry_eq]
  generalize (lg_sl ([.ref h0, .int n, .int w]) ++ List.replicate (4 - (lg_sl ([.ref h0, .int n, .int w])).length) Slot.unset).toArray = ls at hl ⊢
  have hl : lv_has ls 4 [(0, .ref h0), (1, .int n), (2, .int w)] := hl
  refine lv_aload_n hx hb d_X_counter_0 rfl (lv_at hl 0 rfl) ?_
  refine lv_iload_n hx hb d_X_counter_1 rfl (lv_at hl 1 rfl) ?_
  refine va_csq (va_Run.run (va_runV (As := [.int n]) (rest := []) ⟨hx, hb, hml, hown, htB⟩ (c_X_find l D h0 u wx cA arr f ad hI n) (cwV 1 htB g_X_24 rfl rfl rfl (by decide +kernel) ⟨Nat.le_of_ble_eq_true rfl, Nat.le_of_ble_eq_true rfl⟩) (preV hP hK hN (va_recv hK hP (ci := 1) (q0 := kx) rfl hkx)) rfl rfl hl.1 rfl (lv_room (Nat.le_of_ble_eq_true rfl)) d_X_counter_2 ⟨Nat.le_of_ble_eq_true rfl, Nat.le_of_ble_eq_true rfl⟩)) (fun r hrr => ?_)
  rcases hj : ix u.1 n with _ | j
  · rw [hj] at hrr
    have hrr : r = none := hrr
    subst hrr
    refine lv_astore_nN (lv' := [(3, .null), (0, .ref h0), (1, .int n), (2, .int w)]) hx hb d_X_counter_5 rfl hl (by decide) rfl (fun ls hl => ?_)
    refine lv_aload_nN hx hb d_X_counter_6 rfl (lv_at hl 0 rfl) ?_
    refine lv_ifnonnullN hx hb d_X_counter_7 ?_
    refine lv_iconst (v := (-1)) hx hb d_X_counter_10 (by decide) ?_
    have hF : F_X_counter u n w = (-1, u) := by unfold F_X_counter; rw [hj]
    exact W.iret hx hb hr (fun t ht hW => ⟨⟨-1, u, rfl, ⟨(congrArg Prod.fst hF).symm, (congrArg Prod.snd hF).symm⟩, wx, cA, ⟨arr, f, ad, hI⟩, by rw [ht]; exact hP, va_K.moved hW.alike hK, hD⟩, hS.F ht⟩) hS.2.2 d_X_counter_11
  · rw [hj] at hrr
    have hrr : r = some (ad j) := hrr
    subst hrr
    obtain ⟨hjl, -⟩ := ix_some hI.1 hj
    obtain ⟨-, kn, hn⟩ := hI.2.2.2.1 j hjl
    have hnx : kn ≠ kx := fun q => by rw [q, hkx] at hn; have := congrArg Prod.snd (Option.some.inj hn); simp at this
    obtain ⟨z, hu⟩ : ∃ z, u.2.2 j = z := ⟨_, rfl⟩
    rw [hu] at hn
    obtain ⟨a0, a1, a2, a3, a4, a5, a6, a7, a8, a9, a10, a11, a12, a13, a14⟩ := z
    have hF : F_X_counter u n w = (g_X_counter (a0, a1, a2, a3, a4, a5, a6, a7, a8, a9, a10, a11, a12, a13, a14) w, u) := by unfold F_X_counter; rw [hj]; show (g_X_counter (u.2.2 j) w, u) = _; rw [hu]
    refine lv_astore_n (lv' := [(3, .ref (ad j)), (0, .ref h0), (1, .int n), (2, .int w)]) hx hb d_X_counter_5 rfl hl (by decide) rfl (fun ls hl => ?_)
    refine lv_aload_n hx hb d_X_counter_6 rfl (lv_at hl 0 rfl) ?_
    refine lv_ifnonnull (tgt := 12) hx hb d_X_counter_7 (by decide) ?_
    have hn : wx[kn]? = some ((ad j), .inr (0, [.int a0, .int a1, .int a2, .int a3, .int a4, .int a5, .int a6, .int a7, .int a8, .int a9, .int a10, .int a11, .long a12, .int a13, .int a14])) := hn
    have hP := psame hP hn
    have hD := dsame hD hn
    have hc : g_X_counter (a0, a1, a2, a3, a4, a5, a6, a7, a8, a9, a10, a11, a12, a13, a14) w = g_X_counter (a0, a1, a2, a3, a4, a5, a6, a7, a8, a9, a10, a11, a12, a13, a14) w := rfl
    refine lv_iload_n hx hb d_X_counter_12 rfl (lv_at hl 3 rfl) ?_
    refine lv_if_eq (tgt := 23) hx hb d_X_counter_13 (by decide) (fun c_1 => ?_) (fun c_1 => ?_)
    · refine lv_aload_n hx hb d_X_counter_23 rfl (lv_at hl 0 rfl) ?_
      refine va_get (D := D) (ci := 0) (v := .int a1) (C := R_N) (T := F_N) (N := 15) hx hb htB uw_N hown hK hP kn (sg hn) rfl 1 (by decide) (htB _ fl_X_50) (fun _ h9 => h9) rfl d_X_counter_24 ?_
      have he : g_X_counter (a0, a1, a2, a3, a4, a5, a6, a7, a8, a9, a10, a11, a12, a13, a14) w = a1 := hc.trans (if_pos c_1)
      rw [ss hn] at hP hD
      exact W.iret hx hb hr (fun t ht hW => ⟨⟨a1, u, rfl, ⟨((congrArg Prod.fst hF).trans he).symm, (congrArg Prod.snd hF).symm⟩, wx, cA, ⟨arr, f, ad, hI⟩, by rw [ht]; exact hP, va_K.moved hW.alike hK, hD⟩, hS.F ht⟩) hS.2.2 d_X_counter_27
    · refine lv_aload_n hx hb d_X_counter_16 rfl (lv_at hl 0 rfl) ?_
      refine va_get (D := D) (ci := 0) (v := .int a0) (C := R_N) (T := F_N) (N := 15) hx hb htB uw_N hown hK hP kn (sg hn) rfl 0 (by decide) (htB _ fl_X_47) (fun _ h9 => h9) rfl d_X_counter_17 ?_
      refine lv_goto (tgt := 27) hx hb d_X_counter_20 (by decide) ?_
      have he : g_X_counter (a0, a1, a2, a3, a4, a5, a6, a7, a8, a9, a10, a11, a12, a13, a14) w = a0 := hc.trans (if_neg c_1)
      rw [ss hn] at hP hD
      exact W.iret hx hb hr (fun t ht hW => ⟨⟨a0, u, rfl, ⟨((congrArg Prod.fst hF).trans he).symm, (congrArg Prod.snd hF).symm⟩, wx, cA, ⟨arr, f, ad, hI⟩, by rw [ht]; exact hP, va_K.moved hW.alike hK, hD⟩, hS.F ht⟩) hS.2.2 d_X_counter_27
def g_X_state (u : NS) : Int32 := let a0 := u.1; let a1 := u.2.1; let a2 := u.2.2.1; let a3 := u.2.2.2.1; let a4 := u.2.2.2.2.1; let a5 := u.2.2.2.2.2.1; let a6 := u.2.2.2.2.2.2.1; let a7 := u.2.2.2.2.2.2.2.1; let a8 := u.2.2.2.2.2.2.2.2.1; let a9 := u.2.2.2.2.2.2.2.2.2.1; let a10 := u.2.2.2.2.2.2.2.2.2.2.1; let a11 := u.2.2.2.2.2.2.2.2.2.2.2.1; let a12 := u.2.2.2.2.2.2.2.2.2.2.2.2.1; let a13 := u.2.2.2.2.2.2.2.2.2.2.2.2.2.1; let a14 := u.2.2.2.2.2.2.2.2.2.2.2.2.2.2; f_N_condition (a0, a1, a2, a3, a4, a5, a6, a7, a8, a9, a10, a11, a12, a13, a14)
def F_X_state (u : XS) (n : Int32) : Int32 × XS := match ix u.1 n with
  | none => (-1, u)
  | some j => (g_X_state (u.2.2 j), u)
set_option maxHeartbeats 4000000 in
set_option maxRecDepth 100000 in
theorem c_X_state (l : Launch) (D : va_G) (h0 sz : Nat) (u : XS) (w0 : va_W) (cA : ClassId) (hI : IX h0 u w0 cA) (hD0 : va_D (fun _ => True) w0) (n : Int32) : Met l y_X_state (cw_X_state :: BIG) ((rmk 5 0 0)) (va_Pc [.ref h0, .int n] (fun U => U.heap.size = sz ∧ va_P D cls_ w0 U.heap ∧ va_K D cls_ [(cA, .object R_N)] U ∧ NK U)) (va_Qi (fun (r : Int32) (u2 : XS) => r = (F_X_state u n).1 ∧ u2 = (F_X_state u n).2) (atX D h0 (va_A w0 sz)) (va_A w0 sz)) 0 0 (va_A w0 sz) := by
  obtain ⟨arr, f, ad, hI⟩ := hI
  refine Met.ofW (cc := b_X_state) (maxL := 3) (ret := (some .int)) (by decide) rfl ?_
  intro p e s m args below meth c s₁ B hml hv
  obtain ⟨rfl, hsz, hP, hK, hN⟩ := hv
  have hx := B.exec
  have hb := B.bytes
  have hr := B.returns
  have htB : ∀ w ∈ BIG, w.before _ s = true := fun w h => atoms_spec (ws := cw_X_state :: BIG) B.pre w (List.mem_cons_of_mem _ h)
  have hown : s.vm.findClass R_X = some m.cls := findClass_of_methodNamed B.named
  have hlocks := B.notSynchronized
  have hD : va_D (va_A w0 sz) w0 := hD0.self
  have hS : va_S (va_A w0 sz) s.heap s.heap [] := va_S.rf
  obtain ⟨kx, hkx⟩ := hI.2.1
  obtain ⟨wx, hwx⟩ : ∃ w, w = w0 := ⟨_, rfl⟩
  have hP : va_P D cls_ wx s.heap := by rw [hwx]; exact hP
  have hI : IXp h0 u wx cA arr f ad := by rw [hwx]; exact hI
  have hD : va_D (va_A w0 sz) wx := by rw [hwx]; exact hD
  have hkx : wx[kx]? = some (h0, .inr (1, [.ref arr, .int (nI u.1), .long u.2.1])) := by rw [hwx]; exact hkx
  have hl := lv_entry ([.ref h0, .int n]) (n := 3) (Nat.le_of_ble_eq_true rfl)
  rw [lg_entry_eq]
  generalize (lg_sl ([.ref h0, .int n]) ++ List.replicate (3 - (lg_sl ([.ref h0, .int n])).length) Slot.unset).toArray = ls at hl ⊢
  have hl : lv_has ls 3 [(0, .ref h0), (1, .int n)] := hl
  refine lv_aload_n hx hb d_X_state_0 rfl (lv_at hl 0 rfl) ?_
  refine lv_iload_n hx hb d_X_state_1 rfl (lv_at hl 1 rfl) ?_
  refine va_csq (va_Run.run (va_runV (As := [.int n]) (rest := []) ⟨hx, hb, hml, hown, htB⟩ (c_X_find l D h0 u wx cA arr f ad hI n) (cwV 1 htB g_X_24 rfl rfl rfl (by decide +kernel) ⟨Nat.le_of_ble_eq_true rfl, Nat.le_of_ble_eq_true rfl⟩) (preV hP hK hN (va_recv hK hP (ci := 1) (q0 := kx) rfl hkx)) rfl rfl hl.1 rfl (lv_room (Nat.le_of_ble_eq_true rfl)) d_X_state_2 ⟨Nat.le_of_ble_eq_true rfl, Nat.le_of_ble_eq_true rfl⟩)) (fun r hrr => ?_)
  rcases hj : ix u.1 n with _ | j
  · rw [hj] at hrr
    have hrr : r = none := hrr
    subst hrr
    refine lv_astore_nN (lv' := [(2, .null), (0, .ref h0), (1, .int n)]) hx hb d_X_state_5 rfl hl (by decide) rfl (fun ls hl => ?_)
    refine lv_aload_nN hx hb d_X_state_6 rfl (lv_at hl 0 rfl) ?_
    refine lv_ifnonnullN hx hb d_X_state_7 ?_
    refine lv_iconst (v := (-1)) hx hb d_X_state_10 (by decide) ?_
    have hF : F_X_state u n = (-1, u) := by unfold F_X_state; rw [hj]
    exact W.iret hx hb hr (fun t ht hW => ⟨⟨-1, u, rfl, ⟨(congrArg Prod.fst hF).symm, (congrArg Prod.snd hF).symm⟩, wx, cA, ⟨arr, f, ad, hI⟩, by rw [ht]; exact hP, va_K.moved hW.alike hK, hD⟩, hS.F ht⟩) hS.2.2 d_X_state_11
  · rw [hj] at hrr
    have hrr : r = some (ad j) := hrr
    subst hrr
    obtain ⟨hjl, -⟩ := ix_some hI.1 hj
    obtain ⟨-, kn, hn⟩ := hI.2.2.2.1 j hjl
    have hnx : kn ≠ kx := fun q => by rw [q, hkx] at hn; have := congrArg Prod.snd (Option.some.inj hn); simp at this
    obtain ⟨z, hu⟩ : ∃ z, u.2.2 j = z := ⟨_, rfl⟩
    rw [hu] at hn
    obtain ⟨a0, a1, a2, a3, a4, a5, a6, a7, a8, a9, a10, a11, a12, a13, a14⟩ := z
    have hF : F_X_state u n = (g_X_state (a0, a1, a2, a3, a4, a5, a6, a7, a8, a9, a10, a11, a12, a13, a14), u) := by unfold F_X_state; rw [hj]; show (g_X_state (u.2.2 j), u) = _; rw [hu]
    refine lv_astore_n (lv' := [(2, .ref (ad j)), (0, .ref h0), (1, .int n)]) hx hb d_X_state_5 rfl hl (by decide) rfl (fun ls hl => ?_)
    refine lv_aload_n hx hb d_X_state_6 rfl (lv_at hl 0 rfl) ?_
    refine lv_ifnonnull (tgt := 12) hx hb d_X_state_7 (by decide) ?_
    have hn : wx[kn]? = some ((ad j), .inr (0, [.int a0, .int a1, .int a2, .int a3, .int a4, .int a5, .int a6, .int a7, .int a8, .int a9, .int a10, .int a11, .long a12, .int a13, .int a14])) := hn
    have hP := psame hP hn
    have hD := dsame hD hn
    have hc : g_X_state (a0, a1, a2, a3, a4, a5, a6, a7, a8, a9, a10, a11, a12, a13, a14) = g_X_state (a0, a1, a2, a3, a4, a5, a6, a7, a8, a9, a10, a11, a12, a13, a14) := rfl
    refine lv_aload_n hx hb d_X_state_12 rfl (lv_at hl 0 rfl) ?_
    refine vp_callSi (va_Run.run (va_runV (As := []) (rest := []) ⟨hx, hb, hml, hown, htB⟩ (c_N_condition l D (ad j) (a0, a1, a2, a3, a4, a5, a6, a7, a8, a9, a10, a11, a12, a13, a14)) (cwV 0 htB g_X_43 rfl rfl rfl (by decide +kernel) ⟨Nat.le_of_ble_eq_true rfl, Nat.le_of_ble_eq_true rfl⟩) (preV (pone hP (sg hn)) (hK.sub (tys' := []) [] rfl) hN (va_recv hK hP (ci := 0) (q0 := kn) rfl (sg hn))) rfl rfl hl.1 rfl (lv_room (Nat.le_of_ble_eq_true rfl)) d_X_state_13 ⟨Nat.le_of_ble_eq_true rfl, Nat.le_of_ble_eq_true rfl⟩)) (fun r_1 hr_1 => ?_)
    subst hr_1
    have he : g_X_state (a0, a1, a2, a3, a4, a5, a6, a7, a8, a9, a10, a11, a12, a13, a14) = f_N_condition (a0, a1, a2, a3, a4, a5, a6, a7, a8, a9, a10, a11, a12, a13, a14) := hc.trans (rfl)
    rw [ss hn] at hP hD
    exact W.iret hx hb hr (fun t ht hW => ⟨⟨f_N_condition (a0, a1, a2, a3, a4, a5, a6, a7, a8, a9, a10, a11, a12, a13, a14), u, rfl, ⟨((congrArg Prod.fst hF).trans he).symm, (congrArg Prod.snd hF).symm⟩, wx, cA, ⟨arr, f, ad, hI⟩, by rw [ht]; exact hP, va_K.moved hW.alike hK, hD⟩, hS.F ht⟩) hS.2.2 d_X_state_16
def g_X_flag (u : NS) : Int32 := let a3 := u.2.2.2.1; a3
def F_X_flag (u : XS) (n : Int32) : Int32 × XS := match ix u.1 n with
  | none => (-1, u)
  | some j => (g_X_flag (u.2.2 j), u)
set_option maxHeartbeats 4000000 in
set_option maxRecDepth 100000 in
theorem c_X_flag (l : Launch) (D : va_G) (h0 sz : Nat) (u : XS) (w0 : va_W) (cA : ClassId) (hI : IX h0 u w0 cA) (hD0 : va_D (fun _ => True) w0) (n : Int32) : Met l y_X_flag (cw_X_flag :: BIG) ((rmk 5 0 0)) (va_Pc [.ref h0, .int n] (fun U => U.heap.size = sz ∧ va_P D cls_ w0 U.heap ∧ va_K D cls_ [(cA, .object R_N)] U ∧ NK U)) (va_Qi (fun (r : Int32) (u2 : XS) => r = (F_X_flag u n).1 ∧ u2 = (F_X_flag u n).2) (atX D h0 (va_A w0 sz)) (va_A w0 sz)) 0 0 (va_A w0 sz) := by
  obtain ⟨arr, f, ad, hI⟩ := hI
  refine Met.ofW (cc := b_X_flag) (maxL := 3) (ret := (some .int)) (by decide) rfl ?_
  intro p e s m args below meth c s₁ B hml hv
  obtain ⟨rfl, hsz, hP, hK, hN⟩ := hv
  have hx := B.exec
  have hb := B.bytes
  have hr := B.returns
  have htB : ∀ w ∈ BIG, w.before _ s = true := fun w h => atoms_spec (ws := cw_X_flag :: BIG) B.pre w (List.mem_cons_of_mem _ h)
  have hown : s.vm.findClass R_X = some m.cls := findClass_of_methodNamed B.named
  have hlocks := B.notSynchronized
  have hD : va_D (va_A w0 sz) w0 := hD0.self
  have hS : va_S (va_A w0 sz) s.heap s.heap [] := va_S.rf
  obtain ⟨kx, hkx⟩ := hI.2.1
  obtain ⟨wx, hwx⟩ : ∃ w, w = w0 := ⟨_, rfl⟩
  have hP : va_P D cls_ wx s.heap := by rw [hwx]; exact hP
  have hI : IXp h0 u wx cA arr f ad := by rw [hwx]; exact hI
  have hD : va_D (va_A w0 sz) wx := by rw [hwx]; exact hD
  have hkx : wx[kx]? = some (h0, .inr (1, [.ref arr, .int (nI u.1), .long u.2.1])) := by rw [hwx]; exact hkx
  have hl := lv_entry ([.ref h0, .int n]) (n := 3) (Nat.le_of_ble_eq_true rfl)
  rw [lg_entry_eq]
  generalize (lg_sl ([.ref h0, .int n]) ++ List.replicate (3 - (lg_sl ([.ref h0, .int n])).length) Slot.unset).toArray = ls at hl ⊢
  have hl : lv_has ls 3 [(0, .ref h0), (1, .int n)] := hl
  refine lv_aload_n hx hb d_X_flag_0 rfl (lv_at hl 0 rfl) ?_
  refine lv_iload_n hx hb d_X_flag_1 rfl (lv_at hl 1 rfl) ?_
  refine va_csq (va_Run.run (va_runV (As := [.int n]) (rest := []) ⟨hx, hb, hml, hown, htB⟩ (c_X_find l D h0 u wx cA arr f ad hI n) (cwV 1 htB g_X_24 rfl rfl rfl (by decide +kernel) ⟨Nat.le_of_ble_eq_true rfl, Nat.le_of_ble_eq_true rfl⟩) (preV hP hK hN (va_recv hK hP (ci := 1) (q0 := kx) rfl hkx)) rfl rfl hl.1 rfl (lv_room (Nat.le_of_ble_eq_true rfl)) d_X_flag_2 ⟨Nat.le_of_ble_eq_true rfl, Nat.le_of_ble_eq_true rfl⟩)) (fun r hrr => ?_)
  rcases hj : ix u.1 n with _ | j
  · rw [hj] at hrr
    have hrr : r = none := hrr
    subst hrr
    refine lv_astore_nN (lv' := [(2, .null), (0, .ref h0), (1, .int n)]) hx hb d_X_flag_5 rfl hl (by decide) rfl (fun ls hl => ?_)
    refine lv_aload_nN hx hb d_X_flag_6 rfl (lv_at hl 0 rfl) ?_
    refine lv_ifnonnullN hx hb d_X_flag_7 ?_
    refine lv_iconst (v := (-1)) hx hb d_X_flag_10 (by decide) ?_
    have hF : F_X_flag u n = (-1, u) := by unfold F_X_flag; rw [hj]
    exact W.iret hx hb hr (fun t ht hW => ⟨⟨-1, u, rfl, ⟨(congrArg Prod.fst hF).symm, (congrArg Prod.snd hF).symm⟩, wx, cA, ⟨arr, f, ad, hI⟩, by rw [ht]; exact hP, va_K.moved hW.alike hK, hD⟩, hS.F ht⟩) hS.2.2 d_X_flag_11
  · rw [hj] at hrr
    have hrr : r = some (ad j) := hrr
    subst hrr
    obtain ⟨hjl, -⟩ := ix_some hI.1 hj
    obtain ⟨-, kn, hn⟩ := hI.2.2.2.1 j hjl
    have hnx : kn ≠ kx := fun q => by rw [q, hkx] at hn; have := congrArg Prod.snd (Option.some.inj hn); simp at this
    obtain ⟨z, hu⟩ : ∃ z, u.2.2 j = z := ⟨_, rfl⟩
    rw [hu] at hn
    obtain ⟨a0, a1, a2, a3, a4, a5, a6, a7, a8, a9, a10, a11, a12, a13, a14⟩ := z
    have hF : F_X_flag u n = (g_X_flag (a0, a1, a2, a3, a4, a5, a6, a7, a8, a9, a10, a11, a12, a13, a14), u) := by unfold F_X_flag; rw [hj]; show (g_X_flag (u.2.2 j), u) = _; rw [hu]
    refine lv_astore_n (lv' := [(2, .ref (ad j)), (0, .ref h0), (1, .int n)]) hx hb d_X_flag_5 rfl hl (by decide) rfl (fun ls hl => ?_)
    refine lv_aload_n hx hb d_X_flag_6 rfl (lv_at hl 0 rfl) ?_
    refine lv_ifnonnull (tgt := 12) hx hb d_X_flag_7 (by decide) ?_
    have hn : wx[kn]? = some ((ad j), .inr (0, [.int a0, .int a1, .int a2, .int a3, .int a4, .int a5, .int a6, .int a7, .int a8, .int a9, .int a10, .int a11, .long a12, .int a13, .int a14])) := hn
    have hP := psame hP hn
    have hD := dsame hD hn
    have hc : g_X_flag (a0, a1, a2, a3, a4, a5, a6, a7, a8, a9, a10, a11, a12, a13, a14) = g_X_flag (a0, a1, a2, a3, a4, a5, a6, a7, a8, a9, a10, a11, a12, a13, a14) := rfl
    refine lv_aload_n hx hb d_X_flag_12 rfl (lv_at hl 0 rfl) ?_
    refine va_get (D := D) (ci := 0) (v := .int a3) (C := R_N) (T := F_N) (N := 15) hx hb htB uw_N hown hK hP kn (sg hn) rfl 3 (by decide) (htB _ fl_X_60) (fun _ h9 => h9) rfl d_X_flag_13 ?_
    have he : g_X_flag (a0, a1, a2, a3, a4, a5, a6, a7, a8, a9, a10, a11, a12, a13, a14) = a3 := hc.trans (rfl)
    rw [ss hn] at hP hD
    exact W.iret hx hb hr (fun t ht hW => ⟨⟨a3, u, rfl, ⟨((congrArg Prod.fst hF).trans he).symm, (congrArg Prod.snd hF).symm⟩, wx, cA, ⟨arr, f, ad, hI⟩, by rw [ht]; exact hP, va_K.moved hW.alike hK, hD⟩, hS.F ht⟩) hS.2.2 d_X_flag_16
def g_X_suspended (u : NS) : Int32 := let a2 := u.2.2.1; let a4 := u.2.2.2.2.1; if a2 = 0 then a4 else (-3)
def F_X_suspended (u : XS) (n : Int32) : Int32 × XS := match ix u.1 n with
  | none => (-1, u)
  | some j => (g_X_suspended (u.2.2 j), u)
set_option maxHeartbeats 4000000 in
set_option maxRecDepth 100000 in
theorem c_X_suspended (l : Launch) (D : va_G) (h0 sz : Nat) (u : XS) (w0 : va_W) (cA : ClassId) (hI : IX h0 u w0 cA) (hD0 : va_D (fun _ => True) w0) (n : Int32) : Met l y_X_suspended (cw_X_suspended :: BIG) ((rmk 5 0 0)) (va_Pc [.ref h0, .int n] (fun U => U.heap.size = sz ∧ va_P D cls_ w0 U.heap ∧ va_K D cls_ [(cA, .object R_N)] U ∧ NK U)) (va_Qi (fun (r : Int32) (u2 : XS) => r = (F_X_suspended u n).1 ∧ u2 = (F_X_suspended u n).2) (atX D h0 (va_A w0 sz)) (va_A w0 sz)) 0 0 (va_A w0 sz) := by
  obtain ⟨arr, f, ad, hI⟩ := hI
  refine Met.ofW (cc := b_X_suspended) (maxL := 3) (ret := (some .int)) (by decide) rfl ?_
  intro p e s m args below meth c s₁ B hml hv
  obtain ⟨rfl, hsz, hP, hK, hN⟩ := hv
  have hx := B.exec
  have hb := B.bytes
  have hr := B.returns
  have htB : ∀ w ∈ BIG, w.before _ s = true := fun w h => atoms_spec (ws := cw_X_suspended :: BIG) B.pre w (List.mem_cons_of_mem _ h)
  have hown : s.vm.findClass R_X = some m.cls := findClass_of_methodNamed B.named
  have hlocks := B.notSynchronized
  have hD : va_D (va_A w0 sz) w0 := hD0.self
  have hS : va_S (va_A w0 sz) s.heap s.heap [] := va_S.rf
  obtain ⟨kx, hkx⟩ := hI.2.1
  obtain ⟨wx, hwx⟩ : ∃ w, w = w0 := ⟨_, rfl⟩
  have hP : va_P D cls_ wx s.heap := by rw [hwx]; exact hP
  have hI : IXp h0 u wx cA arr f ad := by rw [hwx]; exact hI
  have hD : va_D (va_A w0 sz) wx := by rw [hwx]; exact hD
  have hkx : wx[kx]? = some (h0, .inr (1, [.ref arr, .int (nI u.1), .long u.2.1])) := by rw [hwx]; exact hkx
  have hl := lv_entry ([.ref h0, .int n]) (n := 3) (Nat.le_of_ble_eq_true rfl)
  rw [lg_entry_eq]
  generalize (lg_sl ([.ref h0, .int n]) ++ List.replicate (3 - (lg_sl ([.ref h0, .int n])).length) Slot.unset).toArray = ls at hl ⊢
  have hl : lv_has ls 3 [(0, .ref h0), (1, .int n)] := hl
  refine lv_aload_n hx hb d_X_suspended_0 rfl (lv_at hl 0 rfl) ?_
  refine lv_iload_n hx hb d_X_suspended_1 rfl (lv_at hl 1 rfl) ?_
  refine va_csq (va_Run.run (va_runV (As := [.int n]) (rest := []) ⟨hx, hb, hml, hown, htB⟩ (c_X_find l D h0 u wx cA arr f ad hI n) (cwV 1 htB g_X_24 rfl rfl rfl (by decide +kernel) ⟨Nat.le_of_ble_eq_true rfl, Nat.le_of_ble_eq_true rfl⟩) (preV hP hK hN (va_recv hK hP (ci := 1) (q0 := kx) rfl hkx)) rfl rfl hl.1 rfl (lv_room (Nat.le_of_ble_eq_true rfl)) d_X_suspended_2 ⟨Nat.le_of_ble_eq_true rfl, Nat.le_of_ble_eq_true rfl⟩)) (fun r hrr => ?_)
  rcases hj : ix u.1 n with _ | j
  · rw [hj] at hrr
    have hrr : r = none := hrr
    subst hrr
    refine lv_astore_nN (lv' := [(2, .null), (0, .ref h0), (1, .int n)]) hx hb d_X_suspended_5 rfl hl (by decide) rfl (fun ls hl => ?_)
    refine lv_aload_nN hx hb d_X_suspended_6 rfl (lv_at hl 0 rfl) ?_
    refine lv_ifnonnullN hx hb d_X_suspended_7 ?_
    refine lv_iconst (v := (-1)) hx hb d_X_suspended_10 (by decide) ?_
    have hF : F_X_suspended u n = (-1, u) := by unfold F_X_suspended; rw [hj]
    exact W.iret hx hb hr (fun t ht hW => ⟨⟨-1, u, rfl, ⟨(congrArg Prod.fst hF).symm, (congrArg Prod.snd hF).symm⟩, wx, cA, ⟨arr, f, ad, hI⟩, by rw [ht]; exact hP, va_K.moved hW.alike hK, hD⟩, hS.F ht⟩) hS.2.2 d_X_suspended_11
  · rw [hj] at hrr
    have hrr : r = some (ad j) := hrr
    subst hrr
    obtain ⟨hjl, -⟩ := ix_some hI.1 hj
    obtain ⟨-, kn, hn⟩ := hI.2.2.2.1 j hjl
    have hnx : kn ≠ kx := fun q => by rw [q, hkx] at hn; have := congrArg Prod.snd (Option.some.inj hn); simp at this
    obtain ⟨z, hu⟩ : ∃ z, u.2.2 j = z := ⟨_, rfl⟩
    rw [hu] at hn
    obtain ⟨a0, a1, a2, a3, a4, a5, a6, a7, a8, a9, a10, a11, a12, a13, a14⟩ := z
    have hF : F_X_suspended u n = (g_X_suspended (a0, a1, a2, a3, a4, a5, a6, a7, a8, a9, a10, a11, a12, a13, a14), u) := by unfold F_X_suspended; rw [hj]; show (g_X_suspended (u.2.2 j), u) = _; rw [hu]
    refine lv_astore_n (lv' := [(2, .ref (ad j)), (0, .ref h0), (1, .int n)]) hx hb d_X_suspended_5 rfl hl (by decide) rfl (fun ls hl => ?_)
    refine lv_aload_n hx hb d_X_suspended_6 rfl (lv_at hl 0 rfl) ?_
    refine lv_ifnonnull (tgt := 12) hx hb d_X_suspended_7 (by decide) ?_
    have hn : wx[kn]? = some ((ad j), .inr (0, [.int a0, .int a1, .int a2, .int a3, .int a4, .int a5, .int a6, .int a7, .int a8, .int a9, .int a10, .int a11, .long a12, .int a13, .int a14])) := hn
    have hP := psame hP hn
    have hD := dsame hD hn
    have hc : g_X_suspended (a0, a1, a2, a3, a4, a5, a6, a7, a8, a9, a10, a11, a12, a13, a14) = g_X_suspended (a0, a1, a2, a3, a4, a5, a6, a7, a8, a9, a10, a11, a12, a13, a14) := rfl
    refine lv_aload_n hx hb d_X_suspended_12 rfl (lv_at hl 0 rfl) ?_
    refine va_get (D := D) (ci := 0) (v := .int a2) (C := R_N) (T := F_N) (N := 15) hx hb htB uw_N hown hK hP kn (sg hn) rfl 2 (by decide) (htB _ fl_X_32) (fun _ h9 => h9) rfl d_X_suspended_13 ?_
    refine lv_if_eq (tgt := 22) hx hb d_X_suspended_16 (by decide) (fun c_1 => ?_) (fun c_1 => ?_)
    · refine lv_aload_n hx hb d_X_suspended_22 rfl (lv_at hl 0 rfl) ?_
      refine va_get (D := D) (ci := 0) (v := .int a4) (C := R_N) (T := F_N) (N := 15) hx hb htB uw_N hown hK hP kn (sg hn) rfl 4 (by decide) (htB _ fl_X_86) (fun _ h9 => h9) rfl d_X_suspended_23 ?_
      have he : g_X_suspended (a0, a1, a2, a3, a4, a5, a6, a7, a8, a9, a10, a11, a12, a13, a14) = a4 := hc.trans (if_pos c_1)
      rw [ss hn] at hP hD
      exact W.iret hx hb hr (fun t ht hW => ⟨⟨a4, u, rfl, ⟨((congrArg Prod.fst hF).trans he).symm, (congrArg Prod.snd hF).symm⟩, wx, cA, ⟨arr, f, ad, hI⟩, by rw [ht]; exact hP, va_K.moved hW.alike hK, hD⟩, hS.F ht⟩) hS.2.2 d_X_suspended_26
    · refine lv_bipush (v := (-3)) hx hb d_X_suspended_19 (by decide) ?_
      have he : g_X_suspended (a0, a1, a2, a3, a4, a5, a6, a7, a8, a9, a10, a11, a12, a13, a14) = (-3) := hc.trans (if_neg c_1)
      rw [ss hn] at hP hD
      exact W.iret hx hb hr (fun t ht hW => ⟨⟨(-3), u, rfl, ⟨((congrArg Prod.fst hF).trans he).symm, (congrArg Prod.snd hF).symm⟩, wx, cA, ⟨arr, f, ad, hI⟩, by rw [ht]; exact hP, va_K.moved hW.alike hK, hD⟩, hS.F ht⟩) hS.2.2 d_X_suspended_21
end
section
def g_X_shot (u : NS) (w : Int32) : Int32 × NS := let a0 := u.1; let a1 := u.2.1; let a2 := u.2.2.1; let a3 := u.2.2.2.1; let a4 := u.2.2.2.2.1; let a6 := u.2.2.2.2.2.2.1; let a7 := u.2.2.2.2.2.2.2.1; let a8 := u.2.2.2.2.2.2.2.2.1; let a9 := u.2.2.2.2.2.2.2.2.2.1; let a10 := u.2.2.2.2.2.2.2.2.2.2.1; let a11 := u.2.2.2.2.2.2.2.2.2.2.2.1; let a12 := u.2.2.2.2.2.2.2.2.2.2.2.2.1; let a13 := u.2.2.2.2.2.2.2.2.2.2.2.2.2.1; let a14 := u.2.2.2.2.2.2.2.2.2.2.2.2.2.2; (a6, (a0, a1, a2, a3, a4, w, a6, a7, a8, a9, a10, a11, a12, a13, a14))
def F_X_shot (u : XS) (n : Int32) (w : Int32) : Int32 × XS := match ix u.1 n with
  | none => (-1, u)
  | some j => ((g_X_shot (u.2.2 j) w).1, ((u.1, u.2.1, va_up u.2.2 j (g_X_shot (u.2.2 j) w).2) : XS))
set_option maxHeartbeats 4000000 in
set_option maxRecDepth 100000 in
theorem c_X_shot (l : Launch) (D : va_G) (h0 sz : Nat) (u : XS) (w0 : va_W) (cA : ClassId) (hI : IX h0 u w0 cA) (hD0 : va_D (fun _ => True) w0) (n : Int32) (w : Int32) (hb_w : w = 0 ∨ w = 1) : Met l y_X_shot (cw_X_shot :: BIG) ((rmk 5 0 0)) (va_Pc [.ref h0, .int n, .int w] (fun U => U.heap.size = sz ∧ va_P D cls_ w0 U.heap ∧ va_K D cls_ [(cA, .object R_N)] U ∧ NK U)) (va_Qi (fun (r : Int32) (u2 : XS) => r = (F_X_shot u n w).1 ∧ u2 = (F_X_shot u n w).2) (atX D h0 (va_A w0 sz)) (va_A w0 sz)) 0 0 (va_A w0 sz) := by
  obtain ⟨arr, f, ad, hI⟩ := hI
  refine Met.ofW (cc := b_X_shot) (maxL := 4) (ret := (some .int)) (by decide) rfl ?_
  intro p e s m args below meth c s₁ B hml hv
  obtain ⟨rfl, hsz, hP, hK, hN⟩ := hv
  have hx := B.exec
  have hb := B.bytes
  have hr := B.returns
  have htB : ∀ w ∈ BIG, w.before _ s = true := fun w h => atoms_spec (ws := cw_X_shot :: BIG) B.pre w (List.mem_cons_of_mem _ h)
  have hown : s.vm.findClass R_X = some m.cls := findClass_of_methodNamed B.named
  have hlocks := B.notSynchronized
  have hD : va_D (va_A w0 sz) w0 := hD0.self
  have hS : va_S (va_A w0 sz) s.heap s.heap [] := va_S.rf
  obtain ⟨kx, hkx⟩ := hI.2.1
  obtain ⟨wx, hwx⟩ : ∃ w, w = w0 := ⟨_, rfl⟩
  have hP : va_P D cls_ wx s.heap := by rw [hwx]; exact hP
  have hI : IXp h0 u wx cA arr f ad := by rw [hwx]; exact hI
  have hD : va_D (va_A w0 sz) wx := by rw [hwx]; exact hD
  have hkx : wx[kx]? = some (h0, .inr (1, [.ref arr, .int (nI u.1), .long u.2.1])) := by rw [hwx]; exact hkx
  have hl := lv_entry ([.ref h0, .int n, .int w]) (n := 4) (Nat.le_of_ble_eq_true rfl)
  rw [lg_entry_eq]
  generalize (lg_sl ([.ref h0, .int n, .int w]) ++ List.replicate (4 - (lg_sl ([.ref h0, .int n, .int w])).length) Slot.unset).toArray = ls at hl ⊢
  have hl : lv_has ls 4 [(0, .ref h0), (1, .int n), (2, .int w)] := hl
  refine lv_aload_n hx hb d_X_shot_0 rfl (lv_at hl 0 rfl) ?_
  refine lv_iload_n hx hb d_X_shot_1 rfl (lv_at hl 1 rfl) ?_
  refine va_csq (va_Run.run (va_runV (As := [.int n]) (rest := []) ⟨hx, hb, hml, hown, htB⟩ (c_X_find l D h0 u wx cA arr f ad hI n) (cwV 1 htB g_X_24 rfl rfl rfl (by decide +kernel) ⟨Nat.le_of_ble_eq_true rfl, Nat.le_of_ble_eq_true rfl⟩) (preV hP hK hN (va_recv hK hP (ci := 1) (q0 := kx) rfl hkx)) rfl rfl hl.1 rfl (lv_room (Nat.le_of_ble_eq_true rfl)) d_X_shot_2 ⟨Nat.le_of_ble_eq_true rfl, Nat.le_of_ble_eq_true rfl⟩)) (fun r hrr => ?_)
  rcases hj : ix u.1 n with _ | j
  · rw [hj] at hrr
    have hrr : r = none := hrr
    subst hrr
    refine lv_astore_nN (lv' := [(3, .null), (0, .ref h0), (1, .int n), (2, .int w)]) hx hb d_X_shot_5 rfl hl (by decide) rfl (fun ls hl => ?_)
    refine lv_aload_nN hx hb d_X_shot_6 rfl (lv_at hl 0 rfl) ?_
    refine lv_ifnonnullN hx hb d_X_shot_7 ?_
    refine lv_iconst (v := (-1)) hx hb d_X_shot_10 (by decide) ?_
    have hF : F_X_shot u n w = (-1, u) := by unfold F_X_shot; rw [hj]
    exact W.iret hx hb hr (fun t ht hW => ⟨⟨-1, u, rfl, ⟨(congrArg Prod.fst hF).symm, (congrArg Prod.snd hF).symm⟩, wx, cA, ⟨arr, f, ad, hI⟩, by rw [ht]; exact hP, va_K.moved hW.alike hK, hD⟩, hS.F ht⟩) hS.2.2 d_X_shot_11
  · rw [hj] at hrr
    have hrr : r = some (ad j) := hrr
    subst hrr
    obtain ⟨hjl, -⟩ := ix_some hI.1 hj
    obtain ⟨-, kn, hn⟩ := hI.2.2.2.1 j hjl
    have hnx : kn ≠ kx := fun q => by rw [q, hkx] at hn; have := congrArg Prod.snd (Option.some.inj hn); simp at this
    obtain ⟨z, hu⟩ : ∃ z, u.2.2 j = z := ⟨_, rfl⟩
    rw [hu] at hn
    obtain ⟨a0, a1, a2, a3, a4, a5, a6, a7, a8, a9, a10, a11, a12, a13, a14⟩ := z
    have hF : F_X_shot u n w = ((g_X_shot (a0, a1, a2, a3, a4, a5, a6, a7, a8, a9, a10, a11, a12, a13, a14) w).1, ((u.1, u.2.1, va_up u.2.2 j (g_X_shot (a0, a1, a2, a3, a4, a5, a6, a7, a8, a9, a10, a11, a12, a13, a14) w).2) : XS)) := by unfold F_X_shot; rw [hj]; show ((g_X_shot (u.2.2 j) w).1, ((u.1, u.2.1, va_up u.2.2 j (g_X_shot (u.2.2 j) w).2) : XS)) = _; rw [hu]
    refine lv_astore_n (lv' := [(3, .ref (ad j)), (0, .ref h0), (1, .int n), (2, .int w)]) hx hb d_X_shot_5 rfl hl (by decide) rfl (fun ls hl => ?_)
    refine lv_aload_n hx hb d_X_shot_6 rfl (lv_at hl 0 rfl) ?_
    refine lv_ifnonnull (tgt := 12) hx hb d_X_shot_7 (by decide) ?_
    have hn : wx[kn]? = some ((ad j), .inr (0, [.int a0, .int a1, .int a2, .int a3, .int a4, .int a5, .int a6, .int a7, .int a8, .int a9, .int a10, .int a11, .long a12, .int a13, .int a14])) := hn
    have hP := psame hP hn
    have hD := dsame hD hn
    have hc : g_X_shot (a0, a1, a2, a3, a4, a5, a6, a7, a8, a9, a10, a11, a12, a13, a14) w = g_X_shot (a0, a1, a2, a3, a4, a5, a6, a7, a8, a9, a10, a11, a12, a13, a14) w := rfl
    refine lv_aload_n hx hb d_X_shot_12 rfl (lv_at hl 0 rfl) ?_
    refine lv_iload_n hx hb d_X_shot_13 rfl (lv_at hl 3 rfl) ?_
    refine va_put (D := D) (ci := 0) (v := .int w) (ty := .boolean) (C := R_N) (T := F_N) (N := 15) hx hb htB uw_N t_N t_N_ok n_N hown hK hP hD hS kn (sg hn) rfl 5 (by decide) (htB _ fl_X_67) (fun _ h9 => h9) rfl (t_N_ok 5 (by decide)) (nbp hb_w) (fbp hb_w) (Nat.le_of_ble_eq_true rfl) d_X_shot_14 (fun H locs hP hD hS => ?_)
    rw [List.set_set] at hP hD
    have hP : va_P D cls_ (wx.set kn ((ad j), .inr (0, [.int a0, .int a1, .int a2, .int a3, .int a4, .int w, .int a6, .int a7, .int a8, .int a9, .int a10, .int a11, .long a12, .int a13, .int a14]))) _ := hP
    have hD : va_D (va_A w0 sz) (wx.set kn ((ad j), .inr (0, [.int a0, .int a1, .int a2, .int a3, .int a4, .int w, .int a6, .int a7, .int a8, .int a9, .int a10, .int a11, .long a12, .int a13, .int a14]))) := hD
    refine lv_aload_n hx hb d_X_shot_17 rfl (lv_at hl 0 rfl) ?_
    refine va_get (D := D) (ci := 0) (v := .int a6) (C := R_N) (T := F_N) (N := 15) hx hb htB uw_N hown hK hP kn (sg hn) rfl 6 (by decide) (htB _ fl_X_70) (fun _ h9 => h9) rfl d_X_shot_18 ?_
    have he : g_X_shot (a0, a1, a2, a3, a4, a5, a6, a7, a8, a9, a10, a11, a12, a13, a14) w = (a6, (a0, a1, a2, a3, a4, w, a6, a7, a8, a9, a10, a11, a12, a13, a14)) := hc.trans (rfl)
    have he := hF.trans (congrArg (fun z : Int32 × NS => (z.1, ((u.1, u.2.1, va_up u.2.2 j z.2) : XS))) he)
    exact W.iret hx hb hr (fun t ht hW => ⟨⟨a6, (u.1, u.2.1, va_up u.2.2 j (a0, a1, a2, a3, a4, w, a6, a7, a8, a9, a10, a11, a12, a13, a14)), rfl, ⟨(congrArg Prod.fst he).symm, (congrArg Prod.snd he).symm⟩, wx.set kn (ad j, .inr (0, n_fs (a0, a1, a2, a3, a4, w, a6, a7, a8, a9, a10, a11, a12, a13, a14))), cA, ⟨arr, f, ad, hI.node hjl hn (a0, a1, a2, a3, a4, w, a6, a7, a8, a9, a10, a11, a12, a13, a14)⟩, by rw [ht]; exact hP, va_K.moved hW.alike hK, hD⟩, hS.F ht⟩) hS.2.2 d_X_shot_21
def g_X_listen (u : NS) (w : Int32) : Int32 × NS := let a0 := u.1; let a1 := u.2.1; let a2 := u.2.2.1; let a3 := u.2.2.2.1; let a4 := u.2.2.2.2.1; let a5 := u.2.2.2.2.2.1; let a6 := u.2.2.2.2.2.2.1; let a7 := u.2.2.2.2.2.2.2.1; let a8 := u.2.2.2.2.2.2.2.2.1; let a9 := u.2.2.2.2.2.2.2.2.2.1; let a10 := u.2.2.2.2.2.2.2.2.2.2.1; let a11 := u.2.2.2.2.2.2.2.2.2.2.2.1; let a12 := u.2.2.2.2.2.2.2.2.2.2.2.2.1; let a13 := u.2.2.2.2.2.2.2.2.2.2.2.2.2.1; let a14 := u.2.2.2.2.2.2.2.2.2.2.2.2.2.2; if a2 = 0 then (if a7 = w then (0, (a0, a1, a2, 0, a4, a5, a6, w, a8, a9, a10, a11, a12, a13, a14)) else (1, (a0, a1, a2, 0, a4, a5, a6, w, a8, a9, a10, a11, a12, a13, a14))) else ((-3), (a0, a1, a2, a3, a4, a5, a6, a7, a8, a9, a10, a11, a12, a13, a14))
def F_X_listen (u : XS) (n : Int32) (w : Int32) : Int32 × XS := match ix u.1 n with
  | none => (-1, u)
  | some j => ((g_X_listen (u.2.2 j) w).1, ((u.1, u.2.1, va_up u.2.2 j (g_X_listen (u.2.2 j) w).2) : XS))
set_option maxHeartbeats 4000000 in
set_option maxRecDepth 100000 in
theorem c_X_listen (l : Launch) (D : va_G) (h0 sz : Nat) (u : XS) (w0 : va_W) (cA : ClassId) (hI : IX h0 u w0 cA) (hD0 : va_D (fun _ => True) w0) (n : Int32) (w : Int32) (hb_w : w = 0 ∨ w = 1) : Met l y_X_listen (cw_X_listen :: BIG) ((rmk 5 0 0)) (va_Pc [.ref h0, .int n, .int w] (fun U => U.heap.size = sz ∧ va_P D cls_ w0 U.heap ∧ va_K D cls_ [(cA, .object R_N)] U ∧ NK U)) (va_Qi (fun (r : Int32) (u2 : XS) => r = (F_X_listen u n w).1 ∧ u2 = (F_X_listen u n w).2) (atX D h0 (va_A w0 sz)) (va_A w0 sz)) 0 0 (va_A w0 sz) := by
  obtain ⟨arr, f, ad, hI⟩ := hI
  refine Met.ofW (cc := b_X_listen) (maxL := 5) (ret := (some .int)) (by decide) rfl ?_
  intro p e s m args below meth c s₁ B hml hv
  obtain ⟨rfl, hsz, hP, hK, hN⟩ := hv
  have hx := B.exec
  have hb := B.bytes
  have hr := B.returns
  have htB : ∀ w ∈ BIG, w.before _ s = true := fun w h => atoms_spec (ws := cw_X_listen :: BIG) B.pre w (List.mem_cons_of_mem _ h)
  have hown : s.vm.findClass R_X = some m.cls := findClass_of_methodNamed B.named
  have hlocks := B.notSynchronized
  have hD : va_D (va_A w0 sz) w0 := hD0.self
  have hS : va_S (va_A w0 sz) s.heap s.heap [] := va_S.rf
  obtain ⟨kx, hkx⟩ := hI.2.1
  obtain ⟨wx, hwx⟩ : ∃ w, w = w0 := ⟨_, rfl⟩
  have hP : va_P D cls_ wx s.heap := by rw [hwx]; exact hP
  have hI : IXp h0 u wx cA arr f ad := by rw [hwx]; exact hI
  have hD : va_D (va_A w0 sz) wx := by rw [hwx]; exact hD
  have hkx : wx[kx]? = some (h0, .inr (1, [.ref arr, .int (nI u.1), .long u.2.1])) := by rw [hwx]; exact hkx
  have hl := lv_entry ([.ref h0, .int n, .int w]) (n := 5) (Nat.le_of_ble_eq_true rfl)
  rw [lg_entry_eq]
  generalize (lg_sl ([.ref h0, .int n, .int w]) ++ List.replicate (5 - (lg_sl ([.ref h0, .int n, .int w])).length) Slot.unset).toArray = ls at hl ⊢
  have hl : lv_has ls 5 [(0, .ref h0), (1, .int n), (2, .int w)] := hl
  refine lv_aload_n hx hb d_X_listen_0 rfl (lv_at hl 0 rfl) ?_
  refine lv_iload_n hx hb d_X_listen_1 rfl (lv_at hl 1 rfl) ?_
  refine va_csq (va_Run.run (va_runV (As := [.int n]) (rest := []) ⟨hx, hb, hml, hown, htB⟩ (c_X_find l D h0 u wx cA arr f ad hI n) (cwV 1 htB g_X_24 rfl rfl rfl (by decide +kernel) ⟨Nat.le_of_ble_eq_true rfl, Nat.le_of_ble_eq_true rfl⟩) (preV hP hK hN (va_recv hK hP (ci := 1) (q0 := kx) rfl hkx)) rfl rfl hl.1 rfl (lv_room (Nat.le_of_ble_eq_true rfl)) d_X_listen_2 ⟨Nat.le_of_ble_eq_true rfl, Nat.le_of_ble_eq_true rfl⟩)) (fun r hrr => ?_)
  rcases hj : ix u.1 n with _ | j
  · rw [hj] at hrr
    have hrr : r = none := hrr
    subst hrr
    refine lv_astore_nN (lv' := [(3, .null), (0, .ref h0), (1, .int n), (2, .int w)]) hx hb d_X_listen_5 rfl hl (by decide) rfl (fun ls hl => ?_)
    refine lv_aload_nN hx hb d_X_listen_6 rfl (lv_at hl 0 rfl) ?_
    refine lv_ifnonnullN hx hb d_X_listen_7 ?_
    refine lv_iconst (v := (-1)) hx hb d_X_listen_10 (by decide) ?_
    have hF : F_X_listen u n w = (-1, u) := by unfold F_X_listen; rw [hj]
    exact W.iret hx hb hr (fun t ht hW => ⟨⟨-1, u, rfl, ⟨(congrArg Prod.fst hF).symm, (congrArg Prod.snd hF).symm⟩, wx, cA, ⟨arr, f, ad, hI⟩, by rw [ht]; exact hP, va_K.moved hW.alike hK, hD⟩, hS.F ht⟩) hS.2.2 d_X_listen_11
  · rw [hj] at hrr
    have hrr : r = some (ad j) := hrr
    subst hrr
    obtain ⟨hjl, -⟩ := ix_some hI.1 hj
    obtain ⟨-, kn, hn⟩ := hI.2.2.2.1 j hjl
    have hnx : kn ≠ kx := fun q => by rw [q, hkx] at hn; have := congrArg Prod.snd (Option.some.inj hn); simp at this
    obtain ⟨z, hu⟩ : ∃ z, u.2.2 j = z := ⟨_, rfl⟩
    rw [hu] at hn
    obtain ⟨a0, a1, a2, a3, a4, a5, a6, a7, a8, a9, a10, a11, a12, a13, a14⟩ := z
    have hF : F_X_listen u n w = ((g_X_listen (a0, a1, a2, a3, a4, a5, a6, a7, a8, a9, a10, a11, a12, a13, a14) w).1, ((u.1, u.2.1, va_up u.2.2 j (g_X_listen (a0, a1, a2, a3, a4, a5, a6, a7, a8, a9, a10, a11, a12, a13, a14) w).2) : XS)) := by unfold F_X_listen; rw [hj]; show ((g_X_listen (u.2.2 j) w).1, ((u.1, u.2.1, va_up u.2.2 j (g_X_listen (u.2.2 j) w).2) : XS)) = _; rw [hu]
    refine lv_astore_n (lv' := [(3, .ref (ad j)), (0, .ref h0), (1, .int n), (2, .int w)]) hx hb d_X_listen_5 rfl hl (by decide) rfl (fun ls hl => ?_)
    refine lv_aload_n hx hb d_X_listen_6 rfl (lv_at hl 0 rfl) ?_
    refine lv_ifnonnull (tgt := 12) hx hb d_X_listen_7 (by decide) ?_
    have hn : wx[kn]? = some ((ad j), .inr (0, [.int a0, .int a1, .int a2, .int a3, .int a4, .int a5, .int a6, .int a7, .int a8, .int a9, .int a10, .int a11, .long a12, .int a13, .int a14])) := hn
    have hP := psame hP hn
    have hD := dsame hD hn
    have hc : g_X_listen (a0, a1, a2, a3, a4, a5, a6, a7, a8, a9, a10, a11, a12, a13, a14) w = g_X_listen (a0, a1, a2, a3, a4, a5, a6, a7, a8, a9, a10, a11, a12, a13, a14) w := rfl
    refine lv_aload_n hx hb d_X_listen_12 rfl (lv_at hl 0 rfl) ?_
    refine va_get (D := D) (ci := 0) (v := .int a2) (C := R_N) (T := F_N) (N := 15) hx hb htB uw_N hown hK hP kn (sg hn) rfl 2 (by decide) (htB _ fl_X_32) (fun _ h9 => h9) rfl d_X_listen_13 ?_
    refine lv_if_eq (tgt := 22) hx hb d_X_listen_16 (by decide) (fun c_1 => ?_) (fun c_1 => ?_)
    · refine lv_aload_n hx hb d_X_listen_22 rfl (lv_at hl 0 rfl) ?_
      refine va_get (D := D) (ci := 0) (v := .int a7) (C := R_N) (T := F_N) (N := 15) hx hb htB uw_N hown hK hP kn (sg hn) rfl 7 (by decide) (htB _ fl_X_36) (fun _ h9 => h9) rfl d_X_listen_23 ?_
      refine lv_iload_n hx hb d_X_listen_26 rfl (lv_at hl 3 rfl) ?_
      refine lv_icmp_eq (tgt := 34) hx hb d_X_listen_27 (by decide) (fun c_2 => ?_) (fun c_2 => ?_)
      · refine lv_iconst (v := 0) hx hb d_X_listen_34 (by decide) ?_
        refine lv_istore (lv' := [(4, .int 0), (3, .ref (ad j)), (0, .ref h0), (1, .int n), (2, .int w)]) hx hb d_X_listen_35 hl (by decide) rfl (fun ls hl => ?_)
        refine lv_aload_n hx hb d_X_listen_37 rfl (lv_at hl 1 rfl) ?_
        refine lv_iload_n hx hb d_X_listen_38 rfl (lv_at hl 4 rfl) ?_
        refine va_put (D := D) (ci := 0) (v := .int w) (ty := .boolean) (C := R_N) (T := F_N) (N := 15) hx hb htB uw_N t_N t_N_ok n_N hown hK hP hD hS kn (sg hn) rfl 7 (by decide) (htB _ fl_X_36) (fun _ h9 => h9) rfl (t_N_ok 7 (by decide)) (nbp hb_w) (fbp hb_w) (Nat.le_of_ble_eq_true rfl) d_X_listen_39 (fun H locs hP hD hS => ?_)
        rw [List.set_set] at hP hD
        have hP : va_P D cls_ (wx.set kn ((ad j), .inr (0, [.int a0, .int a1, .int a2, .int a3, .int a4, .int a5, .int a6, .int w, .int a8, .int a9, .int a10, .int a11, .long a12, .int a13, .int a14]))) _ := hP
        have hD : va_D (va_A w0 sz) (wx.set kn ((ad j), .inr (0, [.int a0, .int a1, .int a2, .int a3, .int a4, .int a5, .int a6, .int w, .int a8, .int a9, .int a10, .int a11, .long a12, .int a13, .int a14]))) := hD
        refine lv_aload_n hx hb d_X_listen_42 rfl (lv_at hl 1 rfl) ?_
        refine lv_iconst (v := 0) hx hb d_X_listen_43 (by decide) ?_
        refine va_put (D := D) (ci := 0) (v := .int 0) (ty := .int) (C := R_N) (T := F_N) (N := 15) hx hb htB uw_N t_N t_N_ok n_N hown hK hP hD hS kn (sg hn) rfl 3 (by decide) (htB _ fl_X_60) (fun _ h9 => h9) rfl (t_N_ok 3 (by decide)) rfl rfl (Nat.le_of_ble_eq_true rfl) d_X_listen_44 (fun H locs hP hD hS => ?_)
        rw [List.set_set] at hP hD
        have hP : va_P D cls_ (wx.set kn ((ad j), .inr (0, [.int a0, .int a1, .int a2, .int 0, .int a4, .int a5, .int a6, .int w, .int a8, .int a9, .int a10, .int a11, .long a12, .int a13, .int a14]))) _ := hP
        have hD : va_D (va_A w0 sz) (wx.set kn ((ad j), .inr (0, [.int a0, .int a1, .int a2, .int 0, .int a4, .int a5, .int a6, .int w, .int a8, .int a9, .int a10, .int a11, .long a12, .int a13, .int a14]))) := hD
        refine lv_iload hx hb d_X_listen_47 (lv_at hl 0 rfl) ?_
        refine lv_if_eq (tgt := 56) hx hb d_X_listen_49 (by decide) (fun _ => ?_) (fun c9 => absurd (by decide) c9)
        refine lv_iconst (v := 0) hx hb d_X_listen_56 (by decide) ?_
        have he : g_X_listen (a0, a1, a2, a3, a4, a5, a6, a7, a8, a9, a10, a11, a12, a13, a14) w = (0, (a0, a1, a2, 0, a4, a5, a6, w, a8, a9, a10, a11, a12, a13, a14)) := hc.trans ((if_pos c_1).trans (if_pos c_2))
        have he := hF.trans (congrArg (fun z : Int32 × NS => (z.1, ((u.1, u.2.1, va_up u.2.2 j z.2) : XS))) he)
        exact W.iret hx hb hr (fun t ht hW => ⟨⟨0, (u.1, u.2.1, va_up u.2.2 j (a0, a1, a2, 0, a4, a5, a6, w, a8, a9, a10, a11, a12, a13, a14)), rfl, ⟨(congrArg Prod.fst he).symm, (congrArg Prod.snd he).symm⟩, wx.set kn (ad j, .inr (0, n_fs (a0, a1, a2, 0, a4, a5, a6, w, a8, a9, a10, a11, a12, a13, a14))), cA, ⟨arr, f, ad, hI.node hjl hn (a0, a1, a2, 0, a4, a5, a6, w, a8, a9, a10, a11, a12, a13, a14)⟩, by rw [ht]; exact hP, va_K.moved hW.alike hK, hD⟩, hS.F ht⟩) hS.2.2 d_X_listen_57
      · refine lv_iconst (v := 1) hx hb d_X_listen_30 (by decide) ?_
        refine lv_goto (tgt := 35) hx hb d_X_listen_31 (by decide) ?_
        refine lv_istore (lv' := [(4, .int 1), (3, .ref (ad j)), (0, .ref h0), (1, .int n), (2, .int w)]) hx hb d_X_listen_35 hl (by decide) rfl (fun ls hl => ?_)
        refine lv_aload_n hx hb d_X_listen_37 rfl (lv_at hl 1 rfl) ?_
        refine lv_iload_n hx hb d_X_listen_38 rfl (lv_at hl 4 rfl) ?_
        refine va_put (D := D) (ci := 0) (v := .int w) (ty := .boolean) (C := R_N) (T := F_N) (N := 15) hx hb htB uw_N t_N t_N_ok n_N hown hK hP hD hS kn (sg hn) rfl 7 (by decide) (htB _ fl_X_36) (fun _ h9 => h9) rfl (t_N_ok 7 (by decide)) (nbp hb_w) (fbp hb_w) (Nat.le_of_ble_eq_true rfl) d_X_listen_39 (fun H locs hP hD hS => ?_)
        rw [List.set_set] at hP hD
        have hP : va_P D cls_ (wx.set kn ((ad j), .inr (0, [.int a0, .int a1, .int a2, .int a3, .int a4, .int a5, .int a6, .int w, .int a8, .int a9, .int a10, .int a11, .long a12, .int a13, .int a14]))) _ := hP
        have hD : va_D (va_A w0 sz) (wx.set kn ((ad j), .inr (0, [.int a0, .int a1, .int a2, .int a3, .int a4, .int a5, .int a6, .int w, .int a8, .int a9, .int a10, .int a11, .long a12, .int a13, .int a14]))) := hD
        refine lv_aload_n hx hb d_X_listen_42 rfl (lv_at hl 1 rfl) ?_
        refine lv_iconst (v := 0) hx hb d_X_listen_43 (by decide) ?_
        refine va_put (D := D) (ci := 0) (v := .int 0) (ty := .int) (C := R_N) (T := F_N) (N := 15) hx hb htB uw_N t_N t_N_ok n_N hown hK hP hD hS kn (sg hn) rfl 3 (by decide) (htB _ fl_X_60) (fun _ h9 => h9) rfl (t_N_ok 3 (by decide)) rfl rfl (Nat.le_of_ble_eq_true rfl) d_X_listen_44 (fun H locs hP hD hS => ?_)
        rw [List.set_set] at hP hD
        have hP : va_P D cls_ (wx.set kn ((ad j), .inr (0, [.int a0, .int a1, .int a2, .int 0, .int a4, .int a5, .int a6, .int w, .int a8, .int a9, .int a10, .int a11, .long a12, .int a13, .int a14]))) _ := hP
        have hD : va_D (va_A w0 sz) (wx.set kn ((ad j), .inr (0, [.int a0, .int a1, .int a2, .int 0, .int a4, .int a5, .int a6, .int w, .int a8, .int a9, .int a10, .int a11, .long a12, .int a13, .int a14]))) := hD
        refine lv_iload hx hb d_X_listen_47 (lv_at hl 0 rfl) ?_
        refine lv_if_eq (tgt := 56) hx hb d_X_listen_49 (by decide) (fun c9 => absurd c9 (by decide)) (fun _ => ?_)
        refine lv_iconst (v := 1) hx hb d_X_listen_52 (by decide) ?_
        refine lv_goto (tgt := 57) hx hb d_X_listen_53 (by decide) ?_
        have he : g_X_listen (a0, a1, a2, a3, a4, a5, a6, a7, a8, a9, a10, a11, a12, a13, a14) w = (1, (a0, a1, a2, 0, a4, a5, a6, w, a8, a9, a10, a11, a12, a13, a14)) := hc.trans ((if_pos c_1).trans (if_neg c_2))
        have he := hF.trans (congrArg (fun z : Int32 × NS => (z.1, ((u.1, u.2.1, va_up u.2.2 j z.2) : XS))) he)
        exact W.iret hx hb hr (fun t ht hW => ⟨⟨1, (u.1, u.2.1, va_up u.2.2 j (a0, a1, a2, 0, a4, a5, a6, w, a8, a9, a10, a11, a12, a13, a14)), rfl, ⟨(congrArg Prod.fst he).symm, (congrArg Prod.snd he).symm⟩, wx.set kn (ad j, .inr (0, n_fs (a0, a1, a2, 0, a4, a5, a6, w, a8, a9, a10, a11, a12, a13, a14))), cA, ⟨arr, f, ad, hI.node hjl hn (a0, a1, a2, 0, a4, a5, a6, w, a8, a9, a10, a11, a12, a13, a14)⟩, by rw [ht]; exact hP, va_K.moved hW.alike hK, hD⟩, hS.F ht⟩) hS.2.2 d_X_listen_57
    · refine lv_bipush (v := (-3)) hx hb d_X_listen_19 (by decide) ?_
      have he : g_X_listen (a0, a1, a2, a3, a4, a5, a6, a7, a8, a9, a10, a11, a12, a13, a14) w = ((-3), (a0, a1, a2, a3, a4, a5, a6, a7, a8, a9, a10, a11, a12, a13, a14)) := hc.trans (if_neg c_1)
      have he := hF.trans (congrArg (fun z : Int32 × NS => (z.1, ((u.1, u.2.1, va_up u.2.2 j z.2) : XS))) he)
      exact W.iret hx hb hr (fun t ht hW => ⟨⟨(-3), (u.1, u.2.1, va_up u.2.2 j (a0, a1, a2, a3, a4, a5, a6, a7, a8, a9, a10, a11, a12, a13, a14)), rfl, ⟨(congrArg Prod.fst he).symm, (congrArg Prod.snd he).symm⟩, wx.set kn (ad j, .inr (0, n_fs (a0, a1, a2, a3, a4, a5, a6, a7, a8, a9, a10, a11, a12, a13, a14))), cA, ⟨arr, f, ad, hI.node hjl hn (a0, a1, a2, a3, a4, a5, a6, a7, a8, a9, a10, a11, a12, a13, a14)⟩, by rw [ht]; exact hP, va_K.moved hW.alike hK, hD⟩, hS.F ht⟩) hS.2.2 d_X_listen_21
def g_X_event_k5 (u : NS) (k : Int32) (w : Int32) : Int32 × NS := let b5_0 := u.1; let b5_1 := u.2.1; let b5_2 := u.2.2.1; let b5_3 := u.2.2.2.1; let b5_4 := u.2.2.2.2.1; let b5_5 := u.2.2.2.2.2.1; let b5_6 := u.2.2.2.2.2.2.1; let b5_7 := u.2.2.2.2.2.2.2.1; let b5_8 := u.2.2.2.2.2.2.2.2.1; let b5_9 := u.2.2.2.2.2.2.2.2.2.1; let b5_10 := u.2.2.2.2.2.2.2.2.2.2.1; let b5_11 := u.2.2.2.2.2.2.2.2.2.2.2.1; let b5_12 := u.2.2.2.2.2.2.2.2.2.2.2.2.1; let b5_13 := u.2.2.2.2.2.2.2.2.2.2.2.2.2.1; let b5_14 := u.2.2.2.2.2.2.2.2.2.2.2.2.2.2; (f_N_condition (b5_0, b5_1, b5_2, b5_3, b5_4, b5_5, b5_6, b5_7, b5_8, b5_9, b5_10, b5_11, b5_12, b5_13, b5_14), (b5_0, b5_1, b5_2, b5_3, b5_4, b5_5, b5_6, b5_7, b5_8, b5_9, b5_10, b5_11, b5_12, b5_13, b5_14))
def g_X_event_k8 (u : NS) (k : Int32) (w : Int32) : Int32 × NS := let b8_0 := u.1; let b8_1 := u.2.1; let b8_2 := u.2.2.1; let b8_3 := u.2.2.2.1; let b8_4 := u.2.2.2.2.1; let b8_5 := u.2.2.2.2.2.1; let b8_6 := u.2.2.2.2.2.2.1; let b8_7 := u.2.2.2.2.2.2.2.1; let b8_8 := u.2.2.2.2.2.2.2.2.1; let b8_9 := u.2.2.2.2.2.2.2.2.2.1; let b8_10 := u.2.2.2.2.2.2.2.2.2.2.1; let b8_11 := u.2.2.2.2.2.2.2.2.2.2.2.1; let b8_12 := u.2.2.2.2.2.2.2.2.2.2.2.2.1; let b8_13 := u.2.2.2.2.2.2.2.2.2.2.2.2.2.1; let b8_14 := u.2.2.2.2.2.2.2.2.2.2.2.2.2.2; (f_N_condition (b8_0, b8_1, b8_2, b8_3, b8_4, b8_5, b8_6, b8_7, b8_8, b8_9, b8_10, b8_11, b8_12, b8_13, b8_14), (b8_0, b8_1, b8_2, b8_3, b8_4, b8_5, b8_6, b8_7, b8_8, b8_9, b8_10, b8_11, b8_12, b8_13, b8_14))
def g_X_event (u : NS) (k : Int32) (w : Int32) : Int32 × NS := let a0 := u.1; let a1 := u.2.1; let a2 := u.2.2.1; let a3 := u.2.2.2.1; let a4 := u.2.2.2.2.1; let a5 := u.2.2.2.2.2.1; let a6 := u.2.2.2.2.2.2.1; let a7 := u.2.2.2.2.2.2.2.1; let a8 := u.2.2.2.2.2.2.2.2.1; let a9 := u.2.2.2.2.2.2.2.2.2.1; let a10 := u.2.2.2.2.2.2.2.2.2.2.1; let a11 := u.2.2.2.2.2.2.2.2.2.2.2.1; let a12 := u.2.2.2.2.2.2.2.2.2.2.2.2.1; let a13 := u.2.2.2.2.2.2.2.2.2.2.2.2.2.1; let a14 := u.2.2.2.2.2.2.2.2.2.2.2.2.2.2; if (f_X_isKind k) = 0 then ((-2), (a0, a1, a2, a3, a4, a5, a6, a7, a8, a9, a10, a11, a12, a13, a14)) else (if a2 = 0 then (if a7 = 0 then (g_X_event_k5 (f_N_undergo (a0, a1, a2, a3, a4, a5, a6, a7, a8, a9, a10, a11, a12, a13, a14) k w) k w) else (if w = 0 then (g_X_event_k8 (f_N_undergo (a0, a1, a2, a3, a4, a5, a6, a7, a8, a9, a10, a11, a12, a13, a14) k w) k w) else ((-3), (a0, a1, a2, a3, a4, a5, a6, a7, a8, a9, a10, a11, a12, a13, a14)))) else ((-3), (a0, a1, a2, a3, a4, a5, a6, a7, a8, a9, a10, a11, a12, a13, a14)))
def F_X_event (u : XS) (n : Int32) (k : Int32) (w : Int32) : Int32 × XS := match ix u.1 n with
  | none => (-1, u)
  | some j => ((g_X_event (u.2.2 j) k w).1, ((u.1, u.2.1, va_up u.2.2 j (g_X_event (u.2.2 j) k w).2) : XS))
set_option maxHeartbeats 4000000 in
set_option maxRecDepth 100000 in
theorem c_X_event (l : Launch) (D : va_G) (h0 sz : Nat) (u : XS) (w0 : va_W) (cA : ClassId) (hI : IX h0 u w0 cA) (hD0 : va_D (fun _ => True) w0) (n : Int32) (k : Int32) (w : Int32) (hb_w : w = 0 ∨ w = 1) : Met l y_X_event (cw_X_event :: BIG) ((rmk 5 0 0)) (va_Pc [.ref h0, .int n, .int k, .int w] (fun U => U.heap.size = sz ∧ va_P D cls_ w0 U.heap ∧ va_K D cls_ [(cA, .object R_N)] U ∧ NK U)) (va_Qi (fun (r : Int32) (u2 : XS) => r = (F_X_event u n k w).1 ∧ u2 = (F_X_event u n k w).2) (atX D h0 (va_A w0 sz)) (va_A w0 sz)) 0 0 (va_A w0 sz) := by
  obtain ⟨arr, f, ad, hI⟩ := hI
  refine Met.ofW (cc := b_X_event) (maxL := 5) (ret := (some .int)) (by decide) rfl ?_
  intro p e s m args below meth c s₁ B hml hv
  obtain ⟨rfl, hsz, hP, hK, hN⟩ := hv
  have hx := B.exec
  have hb := B.bytes
  have hr := B.returns
  have htB : ∀ w ∈ BIG, w.before _ s = true := fun w h => atoms_spec (ws := cw_X_event :: BIG) B.pre w (List.mem_cons_of_mem _ h)
  have hown : s.vm.findClass R_X = some m.cls := findClass_of_methodNamed B.named
  have hlocks := B.notSynchronized
  have hD : va_D (va_A w0 sz) w0 := hD0.self
  have hS : va_S (va_A w0 sz) s.heap s.heap [] := va_S.rf
  obtain ⟨kx, hkx⟩ := hI.2.1
  obtain ⟨wx, hwx⟩ : ∃ w, w = w0 := ⟨_, rfl⟩
  have hP : va_P D cls_ wx s.heap := by rw [hwx]; exact hP
  have hI : IXp h0 u wx cA arr f ad := by rw [hwx]; exact hI
  have hD : va_D (va_A w0 sz) wx := by rw [hwx]; exact hD
  have hkx : wx[kx]? = some (h0, .inr (1, [.ref arr, .int (nI u.1), .long u.2.1])) := by rw [hwx]; exact hkx
  have hl := lv_entry ([.ref h0, .int n, .int k, .int w]) (n := 5) (Nat.le_of_ble_eq_true rfl)
  rw [lg_entry_eq]
  generalize (lg_sl ([.ref h0, .int n, .int k, .int w]) ++ List.replicate (5 - (lg_sl ([.ref h0, .int n, .int k, .int w])).length) Slot.unset).toArray = ls at hl ⊢
  have hl : lv_has ls 5 [(0, .ref h0), (1, .int n), (2, .int k), (3, .int w)] := hl
  refine lv_aload_n hx hb d_X_event_0 rfl (lv_at hl 0 rfl) ?_
  refine lv_iload_n hx hb d_X_event_1 rfl (lv_at hl 1 rfl) ?_
  refine va_csq (va_Run.run (va_runV (As := [.int n]) (rest := []) ⟨hx, hb, hml, hown, htB⟩ (c_X_find l D h0 u wx cA arr f ad hI n) (cwV 1 htB g_X_24 rfl rfl rfl (by decide +kernel) ⟨Nat.le_of_ble_eq_true rfl, Nat.le_of_ble_eq_true rfl⟩) (preV hP hK hN (va_recv hK hP (ci := 1) (q0 := kx) rfl hkx)) rfl rfl hl.1 rfl (lv_room (Nat.le_of_ble_eq_true rfl)) d_X_event_2 ⟨Nat.le_of_ble_eq_true rfl, Nat.le_of_ble_eq_true rfl⟩)) (fun r hrr => ?_)
  rcases hj : ix u.1 n with _ | j
  · rw [hj] at hrr
    have hrr : r = none := hrr
    subst hrr
    refine lv_astoreN (lv' := [(4, .null), (0, .ref h0), (1, .int n), (2, .int k), (3, .int w)]) hx hb d_X_event_5 hl (by decide) rfl (fun ls hl => ?_)
    refine lv_aloadN hx hb d_X_event_7 (lv_at hl 0 rfl) ?_
    refine lv_ifnonnullN hx hb d_X_event_9 ?_
    refine lv_iconst (v := (-1)) hx hb d_X_event_12 (by decide) ?_
    have hF : F_X_event u n k w = (-1, u) := by unfold F_X_event; rw [hj]
    exact W.iret hx hb hr (fun t ht hW => ⟨⟨-1, u, rfl, ⟨(congrArg Prod.fst hF).symm, (congrArg Prod.snd hF).symm⟩, wx, cA, ⟨arr, f, ad, hI⟩, by rw [ht]; exact hP, va_K.moved hW.alike hK, hD⟩, hS.F ht⟩) hS.2.2 d_X_event_13
  · rw [hj] at hrr
    have hrr : r = some (ad j) := hrr
    subst hrr
    obtain ⟨hjl, -⟩ := ix_some hI.1 hj
    obtain ⟨-, kn, hn⟩ := hI.2.2.2.1 j hjl
    have hnx : kn ≠ kx := fun q => by rw [q, hkx] at hn; have := congrArg Prod.snd (Option.some.inj hn); simp at this
    obtain ⟨z, hu⟩ : ∃ z, u.2.2 j = z := ⟨_, rfl⟩
    rw [hu] at hn
    obtain ⟨a0, a1, a2, a3, a4, a5, a6, a7, a8, a9, a10, a11, a12, a13, a14⟩ := z
    have hF : F_X_event u n k w = ((g_X_event (a0, a1, a2, a3, a4, a5, a6, a7, a8, a9, a10, a11, a12, a13, a14) k w).1, ((u.1, u.2.1, va_up u.2.2 j (g_X_event (a0, a1, a2, a3, a4, a5, a6, a7, a8, a9, a10, a11, a12, a13, a14) k w).2) : XS)) := by unfold F_X_event; rw [hj]; show ((g_X_event (u.2.2 j) k w).1, ((u.1, u.2.1, va_up u.2.2 j (g_X_event (u.2.2 j) k w).2) : XS)) = _; rw [hu]
    refine lv_astore (lv' := [(4, .ref (ad j)), (0, .ref h0), (1, .int n), (2, .int k), (3, .int w)]) hx hb d_X_event_5 hl (by decide) rfl (fun ls hl => ?_)
    refine lv_aload hx hb d_X_event_7 (lv_at hl 0 rfl) ?_
    refine lv_ifnonnull (tgt := 14) hx hb d_X_event_9 (by decide) ?_
    have hn : wx[kn]? = some ((ad j), .inr (0, [.int a0, .int a1, .int a2, .int a3, .int a4, .int a5, .int a6, .int a7, .int a8, .int a9, .int a10, .int a11, .long a12, .int a13, .int a14])) := hn
    have hP := psame hP hn
    have hD := dsame hD hn
    have hc : g_X_event (a0, a1, a2, a3, a4, a5, a6, a7, a8, a9, a10, a11, a12, a13, a14) k w = g_X_event (a0, a1, a2, a3, a4, a5, a6, a7, a8, a9, a10, a11, a12, a13, a14) k w := rfl
    refine lv_iload_n hx hb d_X_event_14 rfl (lv_at hl 3 rfl) ?_
    refine vp_callSi (va_Run.run (va_runS (As := [.int k]) (rest := []) ⟨hx, hb, hml, hown, htB⟩ (c_X_isKind l k) (cwS 1 htB g_X_28 rfl rfl rfl (by decide +kernel) ⟨Nat.le_of_ble_eq_true rfl, Nat.le_of_ble_eq_true rfl⟩) (preN hN) rfl rfl hl.1 rfl (lv_room (Nat.le_of_ble_eq_true rfl)) d_X_event_15 ⟨Nat.le_of_ble_eq_true rfl, Nat.le_of_ble_eq_true rfl⟩)) (fun r_1 hr_1 => ?_)
    subst hr_1
    refine lv_if_ne (tgt := 24) hx hb d_X_event_18 (by decide) (fun c_2 => ?_) (fun c_2 => ?_)
    · refine lv_aload hx hb d_X_event_24 (lv_at hl 0 rfl) ?_
      refine va_get (D := D) (ci := 0) (v := .int a2) (C := R_N) (T := F_N) (N := 15) hx hb htB uw_N hown hK hP kn (sg hn) rfl 2 (by decide) (htB _ fl_X_32) (fun _ h9 => h9) rfl d_X_event_26 ?_
      refine lv_if_ne (tgt := 44) hx hb d_X_event_29 (by decide) (fun c_3 => ?_) (fun c_3 => ?_)
      · refine lv_bipush (v := (-3)) hx hb d_X_event_44 (by decide) ?_
        have he : g_X_event (a0, a1, a2, a3, a4, a5, a6, a7, a8, a9, a10, a11, a12, a13, a14) k w = ((-3), (a0, a1, a2, a3, a4, a5, a6, a7, a8, a9, a10, a11, a12, a13, a14)) := hc.trans ((if_neg c_2).trans (if_neg c_3))
        have he := hF.trans (congrArg (fun z : Int32 × NS => (z.1, ((u.1, u.2.1, va_up u.2.2 j z.2) : XS))) he)
        exact W.iret hx hb hr (fun t ht hW => ⟨⟨(-3), (u.1, u.2.1, va_up u.2.2 j (a0, a1, a2, a3, a4, a5, a6, a7, a8, a9, a10, a11, a12, a13, a14)), rfl, ⟨(congrArg Prod.fst he).symm, (congrArg Prod.snd he).symm⟩, wx.set kn (ad j, .inr (0, n_fs (a0, a1, a2, a3, a4, a5, a6, a7, a8, a9, a10, a11, a12, a13, a14))), cA, ⟨arr, f, ad, hI.node hjl hn (a0, a1, a2, a3, a4, a5, a6, a7, a8, a9, a10, a11, a12, a13, a14)⟩, by rw [ht]; exact hP, va_K.moved hW.alike hK, hD⟩, hS.F ht⟩) hS.2.2 d_X_event_46
      · refine lv_aload hx hb d_X_event_32 (lv_at hl 0 rfl) ?_
        refine va_get (D := D) (ci := 0) (v := .int a7) (C := R_N) (T := F_N) (N := 15) hx hb htB uw_N hown hK hP kn (sg hn) rfl 7 (by decide) (htB _ fl_X_36) (fun _ h9 => h9) rfl d_X_event_34 ?_
        refine lv_if_eq (tgt := 47) hx hb d_X_event_37 (by decide) (fun c_4 => ?_) (fun c_4 => ?_)
        · refine lv_aload hx hb d_X_event_47 (lv_at hl 0 rfl) ?_
          refine lv_iload_n hx hb d_X_event_49 rfl (lv_at hl 3 rfl) ?_
          refine lv_iload_n hx hb d_X_event_50 rfl (lv_at hl 4 rfl) ?_
          refine va_callv (va_runV (As := [.int k, .int w]) (rest := []) ⟨hx, hb, hml, hown, htB⟩ (c_N_undergo l D (ad j) (a0, a1, a2, a3, a4, a5, a6, a7, a8, a9, a10, a11, a12, a13, a14) k w hb_w) (cwV 2 htB g_X_39 rfl rfl rfl (by decide +kernel) ⟨Nat.le_of_ble_eq_true rfl, Nat.le_of_ble_eq_true rfl⟩) (preV (pone hP (sg hn)) (hK.sub (tys' := []) [] rfl) hN (va_recv hK hP (ci := 0) (q0 := kn) rfl (sg hn))) rfl rfl hl.1 rfl (lv_room (Nat.le_of_ble_eq_true rfl)) d_X_event_51 ⟨Nat.le_of_ble_eq_true rfl, Nat.le_of_ble_eq_true rfl⟩) hS (fun q _ h => by rw [h]; exact hD.2 kn _ (sg hn)) (fun q h => by rw [h]; exact hD.2 kn _ (sg hn)) (fun u9 t H1 locs ht hvm hw hB hz1 hk1 hS => ?_)
          rw [ht] at hB
          obtain ⟨b5_0, b5_1, b5_2, b5_3, b5_4, b5_5, b5_6, b5_7, b5_8, b5_9, b5_10, b5_11, b5_12, b5_13, b5_14⟩ := u9
          obtain ⟨hP, hD⟩ := pcall (e2 := .inr (0, [.int b5_0, .int b5_1, .int b5_2, .int b5_3, .int b5_4, .int b5_5, .int b5_6, .int b5_7, .int b5_8, .int b5_9, .int b5_10, .int b5_11, .long b5_12, .int b5_13, .int b5_14])) hP hD (sg hn) hk1 hB
          rw [List.set_set] at hP hD
          have hc : g_X_event (a0, a1, a2, a3, a4, a5, a6, a7, a8, a9, a10, a11, a12, a13, a14) k w = g_X_event_k5 (b5_0, b5_1, b5_2, b5_3, b5_4, b5_5, b5_6, b5_7, b5_8, b5_9, b5_10, b5_11, b5_12, b5_13, b5_14) k w := (hc.trans ((if_neg c_2).trans ((if_pos c_3).trans (if_pos c_4)))).trans (congrArg (fun z => g_X_event_k5 z k w) hw.symm)
          refine lv_aload hx hb d_X_event_54 (lv_at hl 0 rfl) ?_
          refine vp_callSi (va_Run.run (va_runV (As := []) (rest := []) ⟨hx, hb, hml, hown, htB⟩ (c_N_condition l D (ad j) (b5_0, b5_1, b5_2, b5_3, b5_4, b5_5, b5_6, b5_7, b5_8, b5_9, b5_10, b5_11, b5_12, b5_13, b5_14)) (cwV 0 htB g_X_43 rfl rfl rfl (by decide +kernel) ⟨Nat.le_of_ble_eq_true rfl, Nat.le_of_ble_eq_true rfl⟩) (preV (pone hP (sg hn)) (hK.sub (tys' := []) [] rfl) hN (va_recv hK hP (ci := 0) (q0 := kn) rfl (sg hn))) rfl rfl hl.1 rfl (lv_room (Nat.le_of_ble_eq_true rfl)) d_X_event_56 ⟨Nat.le_of_ble_eq_true rfl, Nat.le_of_ble_eq_true rfl⟩)) (fun r_6 hr_6 => ?_)
          subst hr_6
          have he : g_X_event (a0, a1, a2, a3, a4, a5, a6, a7, a8, a9, a10, a11, a12, a13, a14) k w = (f_N_condition (b5_0, b5_1, b5_2, b5_3, b5_4, b5_5, b5_6, b5_7, b5_8, b5_9, b5_10, b5_11, b5_12, b5_13, b5_14), (b5_0, b5_1, b5_2, b5_3, b5_4, b5_5, b5_6, b5_7, b5_8, b5_9, b5_10, b5_11, b5_12, b5_13, b5_14)) := hc.trans (rfl)
          have he := hF.trans (congrArg (fun z : Int32 × NS => (z.1, ((u.1, u.2.1, va_up u.2.2 j z.2) : XS))) he)
          exact W.iret hx hb hr (fun t ht hW => ⟨⟨f_N_condition (b5_0, b5_1, b5_2, b5_3, b5_4, b5_5, b5_6, b5_7, b5_8, b5_9, b5_10, b5_11, b5_12, b5_13, b5_14), (u.1, u.2.1, va_up u.2.2 j (b5_0, b5_1, b5_2, b5_3, b5_4, b5_5, b5_6, b5_7, b5_8, b5_9, b5_10, b5_11, b5_12, b5_13, b5_14)), rfl, ⟨(congrArg Prod.fst he).symm, (congrArg Prod.snd he).symm⟩, wx.set kn (ad j, .inr (0, n_fs (b5_0, b5_1, b5_2, b5_3, b5_4, b5_5, b5_6, b5_7, b5_8, b5_9, b5_10, b5_11, b5_12, b5_13, b5_14))), cA, ⟨arr, f, ad, hI.node hjl hn (b5_0, b5_1, b5_2, b5_3, b5_4, b5_5, b5_6, b5_7, b5_8, b5_9, b5_10, b5_11, b5_12, b5_13, b5_14)⟩, by rw [ht]; exact hP, va_K.moved hW.alike hK, hD⟩, hS.F ht⟩) hS.2.2 d_X_event_59
        · refine lv_iload_n hx hb d_X_event_40 rfl (lv_at hl 4 rfl) ?_
          refine lv_if_eq (tgt := 47) hx hb d_X_event_41 (by decide) (fun c_7 => ?_) (fun c_7 => ?_)
          · refine lv_aload hx hb d_X_event_47 (lv_at hl 0 rfl) ?_
            refine lv_iload_n hx hb d_X_event_49 rfl (lv_at hl 3 rfl) ?_
            refine lv_iload_n hx hb d_X_event_50 rfl (lv_at hl 4 rfl) ?_
            refine va_callv (va_runV (As := [.int k, .int w]) (rest := []) ⟨hx, hb, hml, hown, htB⟩ (c_N_undergo l D (ad j) (a0, a1, a2, a3, a4, a5, a6, a7, a8, a9, a10, a11, a12, a13, a14) k w hb_w) (cwV 2 htB g_X_39 rfl rfl rfl (by decide +kernel) ⟨Nat.le_of_ble_eq_true rfl, Nat.le_of_ble_eq_true rfl⟩) (preV (pone hP (sg hn)) (hK.sub (tys' := []) [] rfl) hN (va_recv hK hP (ci := 0) (q0 := kn) rfl (sg hn))) rfl rfl hl.1 rfl (lv_room (Nat.le_of_ble_eq_true rfl)) d_X_event_51 ⟨Nat.le_of_ble_eq_true rfl, Nat.le_of_ble_eq_true rfl⟩) hS (fun q _ h => by rw [h]; exact hD.2 kn _ (sg hn)) (fun q h => by rw [h]; exact hD.2 kn _ (sg hn)) (fun u9 t H1 locs ht hvm hw hB hz1 hk1 hS => ?_)
            rw [ht] at hB
            obtain ⟨b8_0, b8_1, b8_2, b8_3, b8_4, b8_5, b8_6, b8_7, b8_8, b8_9, b8_10, b8_11, b8_12, b8_13, b8_14⟩ := u9
            obtain ⟨hP, hD⟩ := pcall (e2 := .inr (0, [.int b8_0, .int b8_1, .int b8_2, .int b8_3, .int b8_4, .int b8_5, .int b8_6, .int b8_7, .int b8_8, .int b8_9, .int b8_10, .int b8_11, .long b8_12, .int b8_13, .int b8_14])) hP hD (sg hn) hk1 hB
            rw [List.set_set] at hP hD
            have hc : g_X_event (a0, a1, a2, a3, a4, a5, a6, a7, a8, a9, a10, a11, a12, a13, a14) k w = g_X_event_k8 (b8_0, b8_1, b8_2, b8_3, b8_4, b8_5, b8_6, b8_7, b8_8, b8_9, b8_10, b8_11, b8_12, b8_13, b8_14) k w := (hc.trans ((if_neg c_2).trans ((if_pos c_3).trans ((if_neg c_4).trans (if_pos c_7))))).trans (congrArg (fun z => g_X_event_k8 z k w) hw.symm)
            refine lv_aload hx hb d_X_event_54 (lv_at hl 0 rfl) ?_
            refine vp_callSi (va_Run.run (va_runV (As := []) (rest := []) ⟨hx, hb, hml, hown, htB⟩ (c_N_condition l D (ad j) (b8_0, b8_1, b8_2, b8_3, b8_4, b8_5, b8_6, b8_7, b8_8, b8_9, b8_10, b8_11, b8_12, b8_13, b8_14)) (cwV 0 htB g_X_43 rfl rfl rfl (by decide +kernel) ⟨Nat.le_of_ble_eq_true rfl, Nat.le_of_ble_eq_true rfl⟩) (preV (pone hP (sg hn)) (hK.sub (tys' := []) [] rfl) hN (va_recv hK hP (ci := 0) (q0 := kn) rfl (sg hn))) rfl rfl hl.1 rfl (lv_room (Nat.le_of_ble_eq_true rfl)) d_X_event_56 ⟨Nat.le_of_ble_eq_true rfl, Nat.le_of_ble_eq_true rfl⟩)) (fun r_9 hr_9 => ?_)
            subst hr_9
            have he : g_X_event (a0, a1, a2, a3, a4, a5, a6, a7, a8, a9, a10, a11, a12, a13, a14) k w = (f_N_condition (b8_0, b8_1, b8_2, b8_3, b8_4, b8_5, b8_6, b8_7, b8_8, b8_9, b8_10, b8_11, b8_12, b8_13, b8_14), (b8_0, b8_1, b8_2, b8_3, b8_4, b8_5, b8_6, b8_7, b8_8, b8_9, b8_10, b8_11, b8_12, b8_13, b8_14)) := hc.trans (rfl)
            have he := hF.trans (congrArg (fun z : Int32 × NS => (z.1, ((u.1, u.2.1, va_up u.2.2 j z.2) : XS))) he)
            exact W.iret hx hb hr (fun t ht hW => ⟨⟨f_N_condition (b8_0, b8_1, b8_2, b8_3, b8_4, b8_5, b8_6, b8_7, b8_8, b8_9, b8_10, b8_11, b8_12, b8_13, b8_14), (u.1, u.2.1, va_up u.2.2 j (b8_0, b8_1, b8_2, b8_3, b8_4, b8_5, b8_6, b8_7, b8_8, b8_9, b8_10, b8_11, b8_12, b8_13, b8_14)), rfl, ⟨(congrArg Prod.fst he).symm, (congrArg Prod.snd he).symm⟩, wx.set kn (ad j, .inr (0, n_fs (b8_0, b8_1, b8_2, b8_3, b8_4, b8_5, b8_6, b8_7, b8_8, b8_9, b8_10, b8_11, b8_12, b8_13, b8_14))), cA, ⟨arr, f, ad, hI.node hjl hn (b8_0, b8_1, b8_2, b8_3, b8_4, b8_5, b8_6, b8_7, b8_8, b8_9, b8_10, b8_11, b8_12, b8_13, b8_14)⟩, by rw [ht]; exact hP, va_K.moved hW.alike hK, hD⟩, hS.F ht⟩) hS.2.2 d_X_event_59
          · refine lv_bipush (v := (-3)) hx hb d_X_event_44 (by decide) ?_
            have he : g_X_event (a0, a1, a2, a3, a4, a5, a6, a7, a8, a9, a10, a11, a12, a13, a14) k w = ((-3), (a0, a1, a2, a3, a4, a5, a6, a7, a8, a9, a10, a11, a12, a13, a14)) := hc.trans ((if_neg c_2).trans ((if_pos c_3).trans ((if_neg c_4).trans (if_neg c_7))))
            have he := hF.trans (congrArg (fun z : Int32 × NS => (z.1, ((u.1, u.2.1, va_up u.2.2 j z.2) : XS))) he)
            exact W.iret hx hb hr (fun t ht hW => ⟨⟨(-3), (u.1, u.2.1, va_up u.2.2 j (a0, a1, a2, a3, a4, a5, a6, a7, a8, a9, a10, a11, a12, a13, a14)), rfl, ⟨(congrArg Prod.fst he).symm, (congrArg Prod.snd he).symm⟩, wx.set kn (ad j, .inr (0, n_fs (a0, a1, a2, a3, a4, a5, a6, a7, a8, a9, a10, a11, a12, a13, a14))), cA, ⟨arr, f, ad, hI.node hjl hn (a0, a1, a2, a3, a4, a5, a6, a7, a8, a9, a10, a11, a12, a13, a14)⟩, by rw [ht]; exact hP, va_K.moved hW.alike hK, hD⟩, hS.F ht⟩) hS.2.2 d_X_event_46
    · refine lv_bipush (v := (-2)) hx hb d_X_event_21 (by decide) ?_
      have he : g_X_event (a0, a1, a2, a3, a4, a5, a6, a7, a8, a9, a10, a11, a12, a13, a14) k w = ((-2), (a0, a1, a2, a3, a4, a5, a6, a7, a8, a9, a10, a11, a12, a13, a14)) := hc.trans (if_pos c_2)
      have he := hF.trans (congrArg (fun z : Int32 × NS => (z.1, ((u.1, u.2.1, va_up u.2.2 j z.2) : XS))) he)
      exact W.iret hx hb hr (fun t ht hW => ⟨⟨(-2), (u.1, u.2.1, va_up u.2.2 j (a0, a1, a2, a3, a4, a5, a6, a7, a8, a9, a10, a11, a12, a13, a14)), rfl, ⟨(congrArg Prod.fst he).symm, (congrArg Prod.snd he).symm⟩, wx.set kn (ad j, .inr (0, n_fs (a0, a1, a2, a3, a4, a5, a6, a7, a8, a9, a10, a11, a12, a13, a14))), cA, ⟨arr, f, ad, hI.node hjl hn (a0, a1, a2, a3, a4, a5, a6, a7, a8, a9, a10, a11, a12, a13, a14)⟩, by rw [ht]; exact hP, va_K.moved hW.alike hK, hD⟩, hS.F ht⟩) hS.2.2 d_X_event_23
def g_X_recover_k4 (u : NS) (k : Int32) : Int32 × NS := let b4_0 := u.1; let b4_1 := u.2.1; let b4_2 := u.2.2.1; let b4_3 := u.2.2.2.1; let b4_4 := u.2.2.2.2.1; let b4_5 := u.2.2.2.2.2.1; let b4_6 := u.2.2.2.2.2.2.1; let b4_7 := u.2.2.2.2.2.2.2.1; let b4_8 := u.2.2.2.2.2.2.2.2.1; let b4_9 := u.2.2.2.2.2.2.2.2.2.1; let b4_10 := u.2.2.2.2.2.2.2.2.2.2.1; let b4_11 := u.2.2.2.2.2.2.2.2.2.2.2.1; let b4_12 := u.2.2.2.2.2.2.2.2.2.2.2.2.1; let b4_13 := u.2.2.2.2.2.2.2.2.2.2.2.2.2.1; let b4_14 := u.2.2.2.2.2.2.2.2.2.2.2.2.2.2; (f_N_condition (b4_0, b4_1, b4_2, b4_3, b4_4, b4_5, b4_6, b4_7, b4_8, b4_9, b4_10, b4_11, b4_12, b4_13, b4_14), (b4_0, b4_1, b4_2, b4_3, b4_4, b4_5, b4_6, b4_7, b4_8, b4_9, b4_10, b4_11, b4_12, b4_13, b4_14))
def g_X_recover (u : NS) (k : Int32) : Int32 × NS := let a0 := u.1; let a1 := u.2.1; let a2 := u.2.2.1; let a3 := u.2.2.2.1; let a4 := u.2.2.2.2.1; let a5 := u.2.2.2.2.2.1; let a6 := u.2.2.2.2.2.2.1; let a7 := u.2.2.2.2.2.2.2.1; let a8 := u.2.2.2.2.2.2.2.2.1; let a9 := u.2.2.2.2.2.2.2.2.2.1; let a10 := u.2.2.2.2.2.2.2.2.2.2.1; let a11 := u.2.2.2.2.2.2.2.2.2.2.2.1; let a12 := u.2.2.2.2.2.2.2.2.2.2.2.2.1; let a13 := u.2.2.2.2.2.2.2.2.2.2.2.2.2.1; let a14 := u.2.2.2.2.2.2.2.2.2.2.2.2.2.2; if 1 ≤ k then (if a2 = 0 then ((-3), (a0, a1, a2, a3, a4, a5, a6, a7, a8, a9, a10, a11, a12, a13, a14)) else (if a13 = 0 then ((-3), (a0, a1, a2, a3, a4, a5, a6, a7, a8, a9, a10, a11, a12, a13, a14)) else (g_X_recover_k4 (f_N_countRows (a0, a1, a2, a3, a4, a5, a6, a7, a8, a9, a10, a11, a12, a13, a14) k) k))) else ((-2), (a0, a1, a2, a3, a4, a5, a6, a7, a8, a9, a10, a11, a12, a13, a14))
def F_X_recover (u : XS) (n : Int32) (k : Int32) : Int32 × XS := match ix u.1 n with
  | none => (-1, u)
  | some j => ((g_X_recover (u.2.2 j) k).1, ((u.1, u.2.1, va_up u.2.2 j (g_X_recover (u.2.2 j) k).2) : XS))
set_option maxHeartbeats 4000000 in
set_option maxRecDepth 100000 in
theorem c_X_recover (l : Launch) (D : va_G) (h0 sz : Nat) (u : XS) (w0 : va_W) (cA : ClassId) (hI : IX h0 u w0 cA) (hD0 : va_D (fun _ => True) w0) (n : Int32) (k : Int32) : Met l y_X_recover (cw_X_recover :: BIG) ((rmk 5 0 0)) (va_Pc [.ref h0, .int n, .int k] (fun U => U.heap.size = sz ∧ va_P D cls_ w0 U.heap ∧ va_K D cls_ [(cA, .object R_N)] U ∧ NK U)) (va_Qi (fun (r : Int32) (u2 : XS) => r = (F_X_recover u n k).1 ∧ u2 = (F_X_recover u n k).2) (atX D h0 (va_A w0 sz)) (va_A w0 sz)) 0 0 (va_A w0 sz) := by
  obtain ⟨arr, f, ad, hI⟩ := hI
  refine Met.ofW (cc := b_X_recover) (maxL := 4) (ret := (some .int)) (by decide) rfl ?_
  intro p e s m args below meth c s₁ B hml hv
  obtain ⟨rfl, hsz, hP, hK, hN⟩ := hv
  have hx := B.exec
  have hb := B.bytes
  have hr := B.returns
  have htB : ∀ w ∈ BIG, w.before _ s = true := fun w h => atoms_spec (ws := cw_X_recover :: BIG) B.pre w (List.mem_cons_of_mem _ h)
  have hown : s.vm.findClass R_X = some m.cls := findClass_of_methodNamed B.named
  have hlocks := B.notSynchronized
  have hD : va_D (va_A w0 sz) w0 := hD0.self
  have hS : va_S (va_A w0 sz) s.heap s.heap [] := va_S.rf
  obtain ⟨kx, hkx⟩ := hI.2.1
  obtain ⟨wx, hwx⟩ : ∃ w, w = w0 := ⟨_, rfl⟩
  have hP : va_P D cls_ wx s.heap := by rw [hwx]; exact hP
  have hI : IXp h0 u wx cA arr f ad := by rw [hwx]; exact hI
  have hD : va_D (va_A w0 sz) wx := by rw [hwx]; exact hD
  have hkx : wx[kx]? = some (h0, .inr (1, [.ref arr, .int (nI u.1), .long u.2.1])) := by rw [hwx]; exact hkx
  have hl := lv_entry ([.ref h0, .int n, .int k]) (n := 4) (Nat.le_of_ble_eq_true rfl)
  rw [lg_entry_eq]
  generalize (lg_sl ([.ref h0, .int n, .int k]) ++ List.replicate (4 - (lg_sl ([.ref h0, .int n, .int k])).length) Slot.unset).toArray = ls at hl ⊢
  have hl : lv_has ls 4 [(0, .ref h0), (1, .int n), (2, .int k)] := hl
  refine lv_aload_n hx hb d_X_recover_0 rfl (lv_at hl 0 rfl) ?_
  refine lv_iload_n hx hb d_X_recover_1 rfl (lv_at hl 1 rfl) ?_
  refine va_csq (va_Run.run (va_runV (As := [.int n]) (rest := []) ⟨hx, hb, hml, hown, htB⟩ (c_X_find l D h0 u wx cA arr f ad hI n) (cwV 1 htB g_X_24 rfl rfl rfl (by decide +kernel) ⟨Nat.le_of_ble_eq_true rfl, Nat.le_of_ble_eq_true rfl⟩) (preV hP hK hN (va_recv hK hP (ci := 1) (q0 := kx) rfl hkx)) rfl rfl hl.1 rfl (lv_room (Nat.le_of_ble_eq_true rfl)) d_X_recover_2 ⟨Nat.le_of_ble_eq_true rfl, Nat.le_of_ble_eq_true rfl⟩)) (fun r hrr => ?_)
  rcases hj : ix u.1 n with _ | j
  · rw [hj] at hrr
    have hrr : r = none := hrr
    subst hrr
    refine lv_astore_nN (lv' := [(3, .null), (0, .ref h0), (1, .int n), (2, .int k)]) hx hb d_X_recover_5 rfl hl (by decide) rfl (fun ls hl => ?_)
    refine lv_aload_nN hx hb d_X_recover_6 rfl (lv_at hl 0 rfl) ?_
    refine lv_ifnonnullN hx hb d_X_recover_7 ?_
    refine lv_iconst (v := (-1)) hx hb d_X_recover_10 (by decide) ?_
    have hF : F_X_recover u n k = (-1, u) := by unfold F_X_recover; rw [hj]
    exact W.iret hx hb hr (fun t ht hW => ⟨⟨-1, u, rfl, ⟨(congrArg Prod.fst hF).symm, (congrArg Prod.snd hF).symm⟩, wx, cA, ⟨arr, f, ad, hI⟩, by rw [ht]; exact hP, va_K.moved hW.alike hK, hD⟩, hS.F ht⟩) hS.2.2 d_X_recover_11
  · rw [hj] at hrr
    have hrr : r = some (ad j) := hrr
    subst hrr
    obtain ⟨hjl, -⟩ := ix_some hI.1 hj
    obtain ⟨-, kn, hn⟩ := hI.2.2.2.1 j hjl
    have hnx : kn ≠ kx := fun q => by rw [q, hkx] at hn; have := congrArg Prod.snd (Option.some.inj hn); simp at this
    obtain ⟨z, hu⟩ : ∃ z, u.2.2 j = z := ⟨_, rfl⟩
    rw [hu] at hn
    obtain ⟨a0, a1, a2, a3, a4, a5, a6, a7, a8, a9, a10, a11, a12, a13, a14⟩ := z
    have hF : F_X_recover u n k = ((g_X_recover (a0, a1, a2, a3, a4, a5, a6, a7, a8, a9, a10, a11, a12, a13, a14) k).1, ((u.1, u.2.1, va_up u.2.2 j (g_X_recover (a0, a1, a2, a3, a4, a5, a6, a7, a8, a9, a10, a11, a12, a13, a14) k).2) : XS)) := by unfold F_X_recover; rw [hj]; show ((g_X_recover (u.2.2 j) k).1, ((u.1, u.2.1, va_up u.2.2 j (g_X_recover (u.2.2 j) k).2) : XS)) = _; rw [hu]
    refine lv_astore_n (lv' := [(3, .ref (ad j)), (0, .ref h0), (1, .int n), (2, .int k)]) hx hb d_X_recover_5 rfl hl (by decide) rfl (fun ls hl => ?_)
    refine lv_aload_n hx hb d_X_recover_6 rfl (lv_at hl 0 rfl) ?_
    refine lv_ifnonnull (tgt := 12) hx hb d_X_recover_7 (by decide) ?_
    have hn : wx[kn]? = some ((ad j), .inr (0, [.int a0, .int a1, .int a2, .int a3, .int a4, .int a5, .int a6, .int a7, .int a8, .int a9, .int a10, .int a11, .long a12, .int a13, .int a14])) := hn
    have hP := psame hP hn
    have hD := dsame hD hn
    have hc : g_X_recover (a0, a1, a2, a3, a4, a5, a6, a7, a8, a9, a10, a11, a12, a13, a14) k = g_X_recover (a0, a1, a2, a3, a4, a5, a6, a7, a8, a9, a10, a11, a12, a13, a14) k := rfl
    refine lv_iload_n hx hb d_X_recover_12 rfl (lv_at hl 3 rfl) ?_
    refine lv_iconst (v := 1) hx hb d_X_recover_13 (by decide) ?_
    refine lv_icmp_ge (tgt := 20) hx hb d_X_recover_14 (by decide) (fun c_1 => ?_) (fun c_1 => ?_)
    · refine lv_aload_n hx hb d_X_recover_20 rfl (lv_at hl 0 rfl) ?_
      refine va_get (D := D) (ci := 0) (v := .int a2) (C := R_N) (T := F_N) (N := 15) hx hb htB uw_N hown hK hP kn (sg hn) rfl 2 (by decide) (htB _ fl_X_32) (fun _ h9 => h9) rfl d_X_recover_21 ?_
      refine lv_if_eq (tgt := 34) hx hb d_X_recover_24 (by decide) (fun c_2 => ?_) (fun c_2 => ?_)
      · refine lv_bipush (v := (-3)) hx hb d_X_recover_34 (by decide) ?_
        have he : g_X_recover (a0, a1, a2, a3, a4, a5, a6, a7, a8, a9, a10, a11, a12, a13, a14) k = ((-3), (a0, a1, a2, a3, a4, a5, a6, a7, a8, a9, a10, a11, a12, a13, a14)) := hc.trans ((if_pos c_1).trans (if_pos c_2))
        have he := hF.trans (congrArg (fun z : Int32 × NS => (z.1, ((u.1, u.2.1, va_up u.2.2 j z.2) : XS))) he)
        exact W.iret hx hb hr (fun t ht hW => ⟨⟨(-3), (u.1, u.2.1, va_up u.2.2 j (a0, a1, a2, a3, a4, a5, a6, a7, a8, a9, a10, a11, a12, a13, a14)), rfl, ⟨(congrArg Prod.fst he).symm, (congrArg Prod.snd he).symm⟩, wx.set kn (ad j, .inr (0, n_fs (a0, a1, a2, a3, a4, a5, a6, a7, a8, a9, a10, a11, a12, a13, a14))), cA, ⟨arr, f, ad, hI.node hjl hn (a0, a1, a2, a3, a4, a5, a6, a7, a8, a9, a10, a11, a12, a13, a14)⟩, by rw [ht]; exact hP, va_K.moved hW.alike hK, hD⟩, hS.F ht⟩) hS.2.2 d_X_recover_36
      · refine lv_aload_n hx hb d_X_recover_27 rfl (lv_at hl 0 rfl) ?_
        refine va_get (D := D) (ci := 0) (v := .int a13) (C := R_N) (T := F_N) (N := 15) hx hb htB uw_N hown hK hP kn (sg hn) rfl 13 (by decide) (htB _ fl_X_53) (fun _ h9 => h9) rfl d_X_recover_28 ?_
        refine lv_if_ne (tgt := 37) hx hb d_X_recover_31 (by decide) (fun c_3 => ?_) (fun c_3 => ?_)
        · refine lv_aload_n hx hb d_X_recover_37 rfl (lv_at hl 0 rfl) ?_
          refine lv_iload_n hx hb d_X_recover_38 rfl (lv_at hl 3 rfl) ?_
          refine va_callv (va_runV (As := [.int k]) (rest := []) ⟨hx, hb, hml, hown, htB⟩ (c_N_countRows l D (ad j) (a0, a1, a2, a3, a4, a5, a6, a7, a8, a9, a10, a11, a12, a13, a14) k) (cwV 1 htB g_X_56 rfl rfl rfl (by decide +kernel) ⟨Nat.le_of_ble_eq_true rfl, Nat.le_of_ble_eq_true rfl⟩) (preV (pone hP (sg hn)) (hK.sub (tys' := []) [] rfl) hN (va_recv hK hP (ci := 0) (q0 := kn) rfl (sg hn))) rfl rfl hl.1 rfl (lv_room (Nat.le_of_ble_eq_true rfl)) d_X_recover_39 ⟨Nat.le_of_ble_eq_true rfl, Nat.le_of_ble_eq_true rfl⟩) hS (fun q _ h => by rw [h]; exact hD.2 kn _ (sg hn)) (fun q h => by rw [h]; exact hD.2 kn _ (sg hn)) (fun u9 t H1 locs ht hvm hw hB hz1 hk1 hS => ?_)
          rw [ht] at hB
          obtain ⟨b4_0, b4_1, b4_2, b4_3, b4_4, b4_5, b4_6, b4_7, b4_8, b4_9, b4_10, b4_11, b4_12, b4_13, b4_14⟩ := u9
          obtain ⟨hP, hD⟩ := pcall (e2 := .inr (0, [.int b4_0, .int b4_1, .int b4_2, .int b4_3, .int b4_4, .int b4_5, .int b4_6, .int b4_7, .int b4_8, .int b4_9, .int b4_10, .int b4_11, .long b4_12, .int b4_13, .int b4_14])) hP hD (sg hn) hk1 hB
          rw [List.set_set] at hP hD
          have hc : g_X_recover (a0, a1, a2, a3, a4, a5, a6, a7, a8, a9, a10, a11, a12, a13, a14) k = g_X_recover_k4 (b4_0, b4_1, b4_2, b4_3, b4_4, b4_5, b4_6, b4_7, b4_8, b4_9, b4_10, b4_11, b4_12, b4_13, b4_14) k := (hc.trans ((if_pos c_1).trans ((if_neg c_2).trans (if_neg c_3)))).trans (congrArg (fun z => g_X_recover_k4 z k) hw.symm)
          refine lv_aload_n hx hb d_X_recover_42 rfl (lv_at hl 0 rfl) ?_
          refine vp_callSi (va_Run.run (va_runV (As := []) (rest := []) ⟨hx, hb, hml, hown, htB⟩ (c_N_condition l D (ad j) (b4_0, b4_1, b4_2, b4_3, b4_4, b4_5, b4_6, b4_7, b4_8, b4_9, b4_10, b4_11, b4_12, b4_13, b4_14)) (cwV 0 htB g_X_43 rfl rfl rfl (by decide +kernel) ⟨Nat.le_of_ble_eq_true rfl, Nat.le_of_ble_eq_true rfl⟩) (preV (pone hP (sg hn)) (hK.sub (tys' := []) [] rfl) hN (va_recv hK hP (ci := 0) (q0 := kn) rfl (sg hn))) rfl rfl hl.1 rfl (lv_room (Nat.le_of_ble_eq_true rfl)) d_X_recover_43 ⟨Nat.le_of_ble_eq_true rfl, Nat.le_of_ble_eq_true rfl⟩)) (fun r_5 hr_5 => ?_)
          subst hr_5
          have he : g_X_recover (a0, a1, a2, a3, a4, a5, a6, a7, a8, a9, a10, a11, a12, a13, a14) k = (f_N_condition (b4_0, b4_1, b4_2, b4_3, b4_4, b4_5, b4_6, b4_7, b4_8, b4_9, b4_10, b4_11, b4_12, b4_13, b4_14), (b4_0, b4_1, b4_2, b4_3, b4_4, b4_5, b4_6, b4_7, b4_8, b4_9, b4_10, b4_11, b4_12, b4_13, b4_14)) := hc.trans (rfl)
          have he := hF.trans (congrArg (fun z : Int32 × NS => (z.1, ((u.1, u.2.1, va_up u.2.2 j z.2) : XS))) he)
          exact W.iret hx hb hr (fun t ht hW => ⟨⟨f_N_condition (b4_0, b4_1, b4_2, b4_3, b4_4, b4_5, b4_6, b4_7, b4_8, b4_9, b4_10, b4_11, b4_12, b4_13, b4_14), (u.1, u.2.1, va_up u.2.2 j (b4_0, b4_1, b4_2, b4_3, b4_4, b4_5, b4_6, b4_7, b4_8, b4_9, b4_10, b4_11, b4_12, b4_13, b4_14)), rfl, ⟨(congrArg Prod.fst he).symm, (congrArg Prod.snd he).symm⟩, wx.set kn (ad j, .inr (0, n_fs (b4_0, b4_1, b4_2, b4_3, b4_4, b4_5, b4_6, b4_7, b4_8, b4_9, b4_10, b4_11, b4_12, b4_13, b4_14))), cA, ⟨arr, f, ad, hI.node hjl hn (b4_0, b4_1, b4_2, b4_3, b4_4, b4_5, b4_6, b4_7, b4_8, b4_9, b4_10, b4_11, b4_12, b4_13, b4_14)⟩, by rw [ht]; exact hP, va_K.moved hW.alike hK, hD⟩, hS.F ht⟩) hS.2.2 d_X_recover_46
        · refine lv_bipush (v := (-3)) hx hb d_X_recover_34 (by decide) ?_
          have he : g_X_recover (a0, a1, a2, a3, a4, a5, a6, a7, a8, a9, a10, a11, a12, a13, a14) k = ((-3), (a0, a1, a2, a3, a4, a5, a6, a7, a8, a9, a10, a11, a12, a13, a14)) := hc.trans ((if_pos c_1).trans ((if_neg c_2).trans (if_pos c_3)))
          have he := hF.trans (congrArg (fun z : Int32 × NS => (z.1, ((u.1, u.2.1, va_up u.2.2 j z.2) : XS))) he)
          exact W.iret hx hb hr (fun t ht hW => ⟨⟨(-3), (u.1, u.2.1, va_up u.2.2 j (a0, a1, a2, a3, a4, a5, a6, a7, a8, a9, a10, a11, a12, a13, a14)), rfl, ⟨(congrArg Prod.fst he).symm, (congrArg Prod.snd he).symm⟩, wx.set kn (ad j, .inr (0, n_fs (a0, a1, a2, a3, a4, a5, a6, a7, a8, a9, a10, a11, a12, a13, a14))), cA, ⟨arr, f, ad, hI.node hjl hn (a0, a1, a2, a3, a4, a5, a6, a7, a8, a9, a10, a11, a12, a13, a14)⟩, by rw [ht]; exact hP, va_K.moved hW.alike hK, hD⟩, hS.F ht⟩) hS.2.2 d_X_recover_36
    · refine lv_bipush (v := (-2)) hx hb d_X_recover_17 (by decide) ?_
      have he : g_X_recover (a0, a1, a2, a3, a4, a5, a6, a7, a8, a9, a10, a11, a12, a13, a14) k = ((-2), (a0, a1, a2, a3, a4, a5, a6, a7, a8, a9, a10, a11, a12, a13, a14)) := hc.trans (if_neg c_1)
      have he := hF.trans (congrArg (fun z : Int32 × NS => (z.1, ((u.1, u.2.1, va_up u.2.2 j z.2) : XS))) he)
      exact W.iret hx hb hr (fun t ht hW => ⟨⟨(-2), (u.1, u.2.1, va_up u.2.2 j (a0, a1, a2, a3, a4, a5, a6, a7, a8, a9, a10, a11, a12, a13, a14)), rfl, ⟨(congrArg Prod.fst he).symm, (congrArg Prod.snd he).symm⟩, wx.set kn (ad j, .inr (0, n_fs (a0, a1, a2, a3, a4, a5, a6, a7, a8, a9, a10, a11, a12, a13, a14))), cA, ⟨arr, f, ad, hI.node hjl hn (a0, a1, a2, a3, a4, a5, a6, a7, a8, a9, a10, a11, a12, a13, a14)⟩, by rw [ht]; exact hP, va_K.moved hW.alike hK, hD⟩, hS.F ht⟩) hS.2.2 d_X_recover_19
end
section
def g_X_manager_k2 (u : Int32 × NS) (tt : Int64) : Int32 × Int64 × NS := let r_3 := u.1; let b2_0 := u.2.1; let b2_1 := u.2.2.1; let b2_2 := u.2.2.2.1; let b2_3 := u.2.2.2.2.1; let b2_4 := u.2.2.2.2.2.1; let b2_5 := u.2.2.2.2.2.2.1; let b2_6 := u.2.2.2.2.2.2.2.1; let b2_7 := u.2.2.2.2.2.2.2.2.1; let b2_8 := u.2.2.2.2.2.2.2.2.2.1; let b2_9 := u.2.2.2.2.2.2.2.2.2.2.1; let b2_10 := u.2.2.2.2.2.2.2.2.2.2.2.1; let b2_11 := u.2.2.2.2.2.2.2.2.2.2.2.2.1; let b2_12 := u.2.2.2.2.2.2.2.2.2.2.2.2.2.1; let b2_13 := u.2.2.2.2.2.2.2.2.2.2.2.2.2.2.1; let b2_14 := u.2.2.2.2.2.2.2.2.2.2.2.2.2.2.2; if r_3 = 0 then (0, tt, (b2_0, b2_1, b2_2, b2_3, b2_4, b2_5, b2_6, b2_7, b2_8, b2_9, b2_10, b2_11, b2_12, b2_13, b2_14)) else (1, tt, (b2_0, b2_1, b2_2, b2_3, b2_4, b2_5, b2_6, b2_7, b2_8, b2_9, b2_10, b2_11, b2_12, b2_13, b2_14))
def g_X_manager (t0 : Int64) (u : NS) (tt : Int64) : Int32 × Int64 × NS := let a0 := u.1; let a1 := u.2.1; let a2 := u.2.2.1; let a3 := u.2.2.2.1; let a4 := u.2.2.2.2.1; let a5 := u.2.2.2.2.2.1; let a6 := u.2.2.2.2.2.2.1; let a7 := u.2.2.2.2.2.2.2.1; let a8 := u.2.2.2.2.2.2.2.2.1; let a9 := u.2.2.2.2.2.2.2.2.2.1; let a10 := u.2.2.2.2.2.2.2.2.2.2.1; let a11 := u.2.2.2.2.2.2.2.2.2.2.2.1; let a12 := u.2.2.2.2.2.2.2.2.2.2.2.2.1; let a13 := u.2.2.2.2.2.2.2.2.2.2.2.2.2.1; let a14 := u.2.2.2.2.2.2.2.2.2.2.2.2.2.2; if 0 ≤ (lg_cmp tt t0) then (g_X_manager_k2 (f_N_mayComeBack (a0, a1, a2, a3, a4, a5, a6, a7, a8, a9, a10, a11, a12, a13, a14) tt) tt) else ((-2), t0, (a0, a1, a2, a3, a4, a5, a6, a7, a8, a9, a10, a11, a12, a13, a14))
def F_X_manager (u : XS) (n : Int32) (tt : Int64) : Int32 × XS := match ix u.1 n with
  | none => (-1, u)
  | some j => ((g_X_manager u.2.1 (u.2.2 j) tt).1, ((u.1, (g_X_manager u.2.1 (u.2.2 j) tt).2.1, va_up u.2.2 j (g_X_manager u.2.1 (u.2.2 j) tt).2.2) : XS))
set_option maxHeartbeats 4000000 in
set_option maxRecDepth 100000 in
theorem c_X_manager (l : Launch) (D : va_G) (h0 sz : Nat) (u : XS) (w0 : va_W) (cA : ClassId) (hI : IX h0 u w0 cA) (hD0 : va_D (fun _ => True) w0) (n : Int32) (tt : Int64) (hz : ∀ j, j < u.1 → ((u.2.2 j).2.2.2.2.2.2.2.2.2.2.2.2.2.1 = 0 ∨ (u.2.2 j).2.2.2.2.2.2.2.2.2.2.2.2.2.1 = 1)) : Met l y_X_manager (cw_X_manager :: BIG) ((rmk 5 0 0)) (va_Pc [.ref h0, .int n, .long tt] (fun U => U.heap.size = sz ∧ va_P D cls_ w0 U.heap ∧ va_K D cls_ [(cA, .object R_N)] U ∧ NK U)) (va_Qi (fun (r : Int32) (u2 : XS) => r = (F_X_manager u n tt).1 ∧ u2 = (F_X_manager u n tt).2) (atX D h0 (va_A w0 sz)) (va_A w0 sz)) 0 0 (va_A w0 sz) := by
  obtain ⟨arr, f, ad, hI⟩ := hI
  refine Met.ofW (cc := b_X_manager) (maxL := 5) (ret := (some .int)) (by decide) rfl ?_
  intro p e s m args below meth c s₁ B hml hv
  obtain ⟨rfl, hsz, hP, hK, hN⟩ := hv
  have hx := B.exec
  have hb := B.bytes
  have hr := B.returns
  have htB : ∀ w ∈ BIG, w.before _ s = true := fun w h => atoms_spec (ws := cw_X_manager :: BIG) B.pre w (List.mem_cons_of_mem _ h)
  have hown : s.vm.findClass R_X = some m.cls := findClass_of_methodNamed B.named
  have hlocks := B.notSynchronized
  have hD : va_D (va_A w0 sz) w0 := hD0.self
  have hS : va_S (va_A w0 sz) s.heap s.heap [] := va_S.rf
  obtain ⟨kx, hkx⟩ := hI.2.1
  obtain ⟨wx, hwx⟩ : ∃ w, w = w0 := ⟨_, rfl⟩
  have hP : va_P D cls_ wx s.heap := by rw [hwx]; exact hP
  have hI : IXp h0 u wx cA arr f ad := by rw [hwx]; exact hI
  have hD : va_D (va_A w0 sz) wx := by rw [hwx]; exact hD
  have hkx : wx[kx]? = some (h0, .inr (1, [.ref arr, .int (nI u.1), .long u.2.1])) := by rw [hwx]; exact hkx
  have hl := lv_entry ([.ref h0, .int n, .long tt]) (n := 5) (Nat.le_of_ble_eq_true rfl)
  rw [lg_entry_eq]
  generalize (lg_sl ([.ref h0, .int n, .long tt]) ++ List.replicate (5 - (lg_sl ([.ref h0, .int n, .long tt])).length) Slot.unset).toArray = ls at hl ⊢
  have hl : lv_has ls 5 [(0, .ref h0), (1, .int n), (2, .long tt)] := hl
  refine lv_aload_n hx hb d_X_manager_0 rfl (lv_at hl 0 rfl) ?_
  refine lv_iload_n hx hb d_X_manager_1 rfl (lv_at hl 1 rfl) ?_
  refine va_csq (va_Run.run (va_runV (As := [.int n]) (rest := []) ⟨hx, hb, hml, hown, htB⟩ (c_X_find l D h0 u wx cA arr f ad hI n) (cwV 1 htB g_X_24 rfl rfl rfl (by decide +kernel) ⟨Nat.le_of_ble_eq_true rfl, Nat.le_of_ble_eq_true rfl⟩) (preV hP hK hN (va_recv hK hP (ci := 1) (q0 := kx) rfl hkx)) rfl rfl hl.1 rfl (lv_room (Nat.le_of_ble_eq_true rfl)) d_X_manager_2 ⟨Nat.le_of_ble_eq_true rfl, Nat.le_of_ble_eq_true rfl⟩)) (fun r hrr => ?_)
  rcases hj : ix u.1 n with _ | j
  · rw [hj] at hrr
    have hrr : r = none := hrr
    subst hrr
    refine lv_astoreN (lv' := [(4, .null), (0, .ref h0), (1, .int n), (2, .long tt)]) hx hb d_X_manager_5 hl (by decide) rfl (fun ls hl => ?_)
    refine lv_aloadN hx hb d_X_manager_7 (lv_at hl 0 rfl) ?_
    refine lv_ifnonnullN hx hb d_X_manager_9 ?_
    refine lv_iconst (v := (-1)) hx hb d_X_manager_12 (by decide) ?_
    have hF : F_X_manager u n tt = (-1, u) := by unfold F_X_manager; rw [hj]
    exact W.iret hx hb hr (fun t ht hW => ⟨⟨-1, u, rfl, ⟨(congrArg Prod.fst hF).symm, (congrArg Prod.snd hF).symm⟩, wx, cA, ⟨arr, f, ad, hI⟩, by rw [ht]; exact hP, va_K.moved hW.alike hK, hD⟩, hS.F ht⟩) hS.2.2 d_X_manager_13
  · rw [hj] at hrr
    have hrr : r = some (ad j) := hrr
    subst hrr
    obtain ⟨hjl, -⟩ := ix_some hI.1 hj
    obtain ⟨-, kn, hn⟩ := hI.2.2.2.1 j hjl
    have hnx : kn ≠ kx := fun q => by rw [q, hkx] at hn; have := congrArg Prod.snd (Option.some.inj hn); simp at this
    have hzj := hz j hjl
    obtain ⟨z, hu⟩ : ∃ z, u.2.2 j = z := ⟨_, rfl⟩
    rw [hu] at hzj
    rw [hu] at hn
    obtain ⟨a0, a1, a2, a3, a4, a5, a6, a7, a8, a9, a10, a11, a12, a13, a14⟩ := z
    have hb_a13 := hzj
    have hb_a13 : a13 = 0 ∨ a13 = 1 := hb_a13
    have hF : F_X_manager u n tt = ((g_X_manager u.2.1 (a0, a1, a2, a3, a4, a5, a6, a7, a8, a9, a10, a11, a12, a13, a14) tt).1, ((u.1, (g_X_manager u.2.1 (a0, a1, a2, a3, a4, a5, a6, a7, a8, a9, a10, a11, a12, a13, a14) tt).2.1, va_up u.2.2 j (g_X_manager u.2.1 (a0, a1, a2, a3, a4, a5, a6, a7, a8, a9, a10, a11, a12, a13, a14) tt).2.2) : XS)) := by unfold F_X_manager; rw [hj]; show ((g_X_manager u.2.1 (u.2.2 j) tt).1, ((u.1, (g_X_manager u.2.1 (u.2.2 j) tt).2.1, va_up u.2.2 j (g_X_manager u.2.1 (u.2.2 j) tt).2.2) : XS)) = _; rw [hu]
    refine lv_astore (lv' := [(4, .ref (ad j)), (0, .ref h0), (1, .int n), (2, .long tt)]) hx hb d_X_manager_5 hl (by decide) rfl (fun ls hl => ?_)
    refine lv_aload hx hb d_X_manager_7 (lv_at hl 0 rfl) ?_
    refine lv_ifnonnull (tgt := 14) hx hb d_X_manager_9 (by decide) ?_
    have hn : wx[kn]? = some ((ad j), .inr (0, [.int a0, .int a1, .int a2, .int a3, .int a4, .int a5, .int a6, .int a7, .int a8, .int a9, .int a10, .int a11, .long a12, .int a13, .int a14])) := hn
    have hc : g_X_manager u.2.1 (a0, a1, a2, a3, a4, a5, a6, a7, a8, a9, a10, a11, a12, a13, a14) tt = g_X_manager u.2.1 (a0, a1, a2, a3, a4, a5, a6, a7, a8, a9, a10, a11, a12, a13, a14) tt := rfl
    refine lv_lload_n hx hb d_X_manager_14 rfl (lv_at hl 3 rfl) ?_
    refine lv_aload_n hx hb d_X_manager_15 rfl (lv_at hl 1 rfl) ?_
    refine va_get (D := D) (ci := 1) (v := .long u.2.1) (C := R_X) (T := F_X) (N := 3) hx hb htB uw_X hown hK hP kx hkx rfl 2 (by decide) (htB _ fl_X_19) (fun _ h9 => h9) rfl d_X_manager_16 ?_
    refine W.lcmp hx hb d_X_manager_19 ?_
    refine lv_if_ge (tgt := 26) hx hb d_X_manager_20 (by decide) (fun c_1 => ?_) (fun c_1 => ?_)
    · refine lv_aload_n hx hb d_X_manager_26 rfl (lv_at hl 1 rfl) ?_
      refine lv_lload_n hx hb d_X_manager_27 rfl (lv_at hl 3 rfl) ?_
      refine va_put (D := D) (ci := 1) (v := .long tt) (ty := .long) (C := R_X) (T := F_X) (N := 3) hx hb htB uw_X t_X t_X_ok n_X hown hK hP hD hS kx hkx rfl 2 (by decide) (htB _ fl_X_19) (fun _ h9 => h9) rfl (t_X_ok 2 (by decide)) rfl rfl (Nat.le_of_ble_eq_true rfl) d_X_manager_28 (fun H locs hP hD hS => ?_)
      have hI := hI.time hkx tt
      have hn : (wx.set kx (h0, .inr (1, [.ref arr, .int (nI u.1), .long tt])))[kn]? = some ((ad j), .inr (0, [.int a0, .int a1, .int a2, .int a3, .int a4, .int a5, .int a6, .int a7, .int a8, .int a9, .int a10, .int a11, .long a12, .int a13, .int a14])) := sn hnx hn
      have hP : va_P D cls_ (wx.set kx (h0, .inr (1, [.ref arr, .int (nI u.1), .long tt]))) _ := hP
      have hD : va_D (va_A w0 sz) (wx.set kx (h0, .inr (1, [.ref arr, .int (nI u.1), .long tt]))) := hD
      generalize wx.set kx (h0, .inr (1, [.ref arr, .int (nI u.1), .long tt])) = wx at hI hn hP hD
      have hP := psame hP hn
      have hD := dsame hD hn
      refine lv_aload hx hb d_X_manager_31 (lv_at hl 0 rfl) ?_
      refine lv_lload_n hx hb d_X_manager_33 rfl (lv_at hl 3 rfl) ?_
      refine va_calli (va_runV (As := [.long tt]) (rest := []) ⟨hx, hb, hml, hown, htB⟩ (c_N_mayComeBack l D (ad j) (a0, a1, a2, a3, a4, a5, a6, a7, a8, a9, a10, a11, a12, a13, a14) tt hb_a13) (cwV 1 htB g_X_63 rfl rfl rfl (by decide +kernel) ⟨Nat.le_of_ble_eq_true rfl, Nat.le_of_ble_eq_true rfl⟩) (preV (pone hP (sg hn)) (hK.sub (tys' := []) [] rfl) hN (va_recv hK hP (ci := 0) (q0 := kn) rfl (sg hn))) rfl rfl hl.1 rfl (lv_room (Nat.le_of_ble_eq_true rfl)) d_X_manager_34 ⟨Nat.le_of_ble_eq_true rfl, Nat.le_of_ble_eq_true rfl⟩) hS (fun q _ h => by rw [h]; exact hD.2 kn _ (sg hn)) (fun q h => by rw [h]; exact hD.2 kn _ (sg hn)) (fun r_3 u9 t H1 locs ht hvm hw hB hz1 hk1 hS => ?_)
      rw [ht] at hB
      obtain ⟨b2_0, b2_1, b2_2, b2_3, b2_4, b2_5, b2_6, b2_7, b2_8, b2_9, b2_10, b2_11, b2_12, b2_13, b2_14⟩ := u9
      obtain ⟨hP, hD⟩ := pcall (e2 := .inr (0, [.int b2_0, .int b2_1, .int b2_2, .int b2_3, .int b2_4, .int b2_5, .int b2_6, .int b2_7, .int b2_8, .int b2_9, .int b2_10, .int b2_11, .long b2_12, .int b2_13, .int b2_14])) hP hD (sg hn) hk1 hB
      rw [List.set_set] at hP hD
      have hw : (r_3, (b2_0, b2_1, b2_2, b2_3, b2_4, b2_5, b2_6, b2_7, b2_8, b2_9, b2_10, b2_11, b2_12, b2_13, b2_14)) = f_N_mayComeBack (a0, a1, a2, a3, a4, a5, a6, a7, a8, a9, a10, a11, a12, a13, a14) tt := Prod.ext hw.1 hw.2
      have hc : g_X_manager u.2.1 (a0, a1, a2, a3, a4, a5, a6, a7, a8, a9, a10, a11, a12, a13, a14) tt = g_X_manager_k2 (r_3, (b2_0, b2_1, b2_2, b2_3, b2_4, b2_5, b2_6, b2_7, b2_8, b2_9, b2_10, b2_11, b2_12, b2_13, b2_14)) tt := (hc.trans (if_pos c_1)).trans (congrArg (fun z => g_X_manager_k2 z tt) hw.symm)
      refine lv_if_eq (tgt := 44) hx hb d_X_manager_37 (by decide) (fun c_4 => ?_) (fun c_4 => ?_)
      · refine lv_iconst (v := 0) hx hb d_X_manager_44 (by decide) ?_
        have he : g_X_manager u.2.1 (a0, a1, a2, a3, a4, a5, a6, a7, a8, a9, a10, a11, a12, a13, a14) tt = (0, tt, (b2_0, b2_1, b2_2, b2_3, b2_4, b2_5, b2_6, b2_7, b2_8, b2_9, b2_10, b2_11, b2_12, b2_13, b2_14)) := hc.trans (if_pos c_4)
        have he := hF.trans (congrArg (fun z : Int32 × Int64 × NS => (z.1, ((u.1, z.2.1, va_up u.2.2 j z.2.2) : XS))) he)
        exact W.iret hx hb hr (fun t ht hW => ⟨⟨0, (u.1, tt, va_up u.2.2 j (b2_0, b2_1, b2_2, b2_3, b2_4, b2_5, b2_6, b2_7, b2_8, b2_9, b2_10, b2_11, b2_12, b2_13, b2_14)), rfl, ⟨(congrArg Prod.fst he).symm, (congrArg Prod.snd he).symm⟩, wx.set kn (ad j, .inr (0, n_fs (b2_0, b2_1, b2_2, b2_3, b2_4, b2_5, b2_6, b2_7, b2_8, b2_9, b2_10, b2_11, b2_12, b2_13, b2_14))), cA, ⟨arr, f, ad, hI.node hjl hn (b2_0, b2_1, b2_2, b2_3, b2_4, b2_5, b2_6, b2_7, b2_8, b2_9, b2_10, b2_11, b2_12, b2_13, b2_14)⟩, by rw [ht]; exact hP, va_K.moved hW.alike hK, hD⟩, hS.F ht⟩) hS.2.2 d_X_manager_45
      · refine lv_iconst (v := 1) hx hb d_X_manager_40 (by decide) ?_
        refine lv_goto (tgt := 45) hx hb d_X_manager_41 (by decide) ?_
        have he : g_X_manager u.2.1 (a0, a1, a2, a3, a4, a5, a6, a7, a8, a9, a10, a11, a12, a13, a14) tt = (1, tt, (b2_0, b2_1, b2_2, b2_3, b2_4, b2_5, b2_6, b2_7, b2_8, b2_9, b2_10, b2_11, b2_12, b2_13, b2_14)) := hc.trans (if_neg c_4)
        have he := hF.trans (congrArg (fun z : Int32 × Int64 × NS => (z.1, ((u.1, z.2.1, va_up u.2.2 j z.2.2) : XS))) he)
        exact W.iret hx hb hr (fun t ht hW => ⟨⟨1, (u.1, tt, va_up u.2.2 j (b2_0, b2_1, b2_2, b2_3, b2_4, b2_5, b2_6, b2_7, b2_8, b2_9, b2_10, b2_11, b2_12, b2_13, b2_14)), rfl, ⟨(congrArg Prod.fst he).symm, (congrArg Prod.snd he).symm⟩, wx.set kn (ad j, .inr (0, n_fs (b2_0, b2_1, b2_2, b2_3, b2_4, b2_5, b2_6, b2_7, b2_8, b2_9, b2_10, b2_11, b2_12, b2_13, b2_14))), cA, ⟨arr, f, ad, hI.node hjl hn (b2_0, b2_1, b2_2, b2_3, b2_4, b2_5, b2_6, b2_7, b2_8, b2_9, b2_10, b2_11, b2_12, b2_13, b2_14)⟩, by rw [ht]; exact hP, va_K.moved hW.alike hK, hD⟩, hS.F ht⟩) hS.2.2 d_X_manager_45
    · refine lv_bipush (v := (-2)) hx hb d_X_manager_23 (by decide) ?_
      have hP := psame hP hn
      have hD := dsame hD hn
      have he : g_X_manager u.2.1 (a0, a1, a2, a3, a4, a5, a6, a7, a8, a9, a10, a11, a12, a13, a14) tt = ((-2), u.2.1, (a0, a1, a2, a3, a4, a5, a6, a7, a8, a9, a10, a11, a12, a13, a14)) := hc.trans (if_neg c_1)
      have he := hF.trans (congrArg (fun z : Int32 × Int64 × NS => (z.1, ((u.1, z.2.1, va_up u.2.2 j z.2.2) : XS))) he)
      exact W.iret hx hb hr (fun t ht hW => ⟨⟨(-2), (u.1, u.2.1, va_up u.2.2 j (a0, a1, a2, a3, a4, a5, a6, a7, a8, a9, a10, a11, a12, a13, a14)), rfl, ⟨(congrArg Prod.fst he).symm, (congrArg Prod.snd he).symm⟩, wx.set kn (ad j, .inr (0, n_fs (a0, a1, a2, a3, a4, a5, a6, a7, a8, a9, a10, a11, a12, a13, a14))), cA, ⟨arr, f, ad, hI.node hjl hn (a0, a1, a2, a3, a4, a5, a6, a7, a8, a9, a10, a11, a12, a13, a14)⟩, by rw [ht]; exact hP, va_K.moved hW.alike hK, hD⟩, hS.F ht⟩) hS.2.2 d_X_manager_25
def g_X_two_k8 (u : NS) (k : Int32) (q : Int32) : Int32 × NS := let b8_0 := u.1; let b8_1 := u.2.1; let b8_2 := u.2.2.1; let b8_3 := u.2.2.2.1; let b8_4 := u.2.2.2.2.1; let b8_5 := u.2.2.2.2.2.1; let b8_6 := u.2.2.2.2.2.2.1; let b8_7 := u.2.2.2.2.2.2.2.1; let b8_8 := u.2.2.2.2.2.2.2.2.1; let b8_9 := u.2.2.2.2.2.2.2.2.2.1; let b8_10 := u.2.2.2.2.2.2.2.2.2.2.1; let b8_11 := u.2.2.2.2.2.2.2.2.2.2.2.1; let b8_12 := u.2.2.2.2.2.2.2.2.2.2.2.2.1; let b8_13 := u.2.2.2.2.2.2.2.2.2.2.2.2.2.1; let b8_14 := u.2.2.2.2.2.2.2.2.2.2.2.2.2.2; (f_N_condition (b8_0, b8_1, b8_2, b8_3, b8_4, b8_5, b8_6, b8_7, b8_8, b8_9, b8_10, b8_11, b8_12, b8_13, b8_14), (b8_0, b8_1, b8_2, b8_3, b8_4, b8_5, b8_6, b8_7, b8_8, b8_9, b8_10, b8_11, b8_12, b8_13, b8_14))
def g_X_two (u : NS) (k : Int32) (q : Int32) : Int32 × NS := let a0 := u.1; let a1 := u.2.1; let a2 := u.2.2.1; let a3 := u.2.2.2.1; let a4 := u.2.2.2.2.1; let a5 := u.2.2.2.2.2.1; let a6 := u.2.2.2.2.2.2.1; let a7 := u.2.2.2.2.2.2.2.1; let a8 := u.2.2.2.2.2.2.2.2.1; let a9 := u.2.2.2.2.2.2.2.2.2.1; let a10 := u.2.2.2.2.2.2.2.2.2.2.1; let a11 := u.2.2.2.2.2.2.2.2.2.2.2.1; let a12 := u.2.2.2.2.2.2.2.2.2.2.2.2.1; let a13 := u.2.2.2.2.2.2.2.2.2.2.2.2.2.1; let a14 := u.2.2.2.2.2.2.2.2.2.2.2.2.2.2; if (f_X_isKind k) = 0 then ((-2), (a0, a1, a2, a3, a4, a5, a6, a7, a8, a9, a10, a11, a12, a13, a14)) else (if (f_X_isKind q) = 0 then ((-2), (a0, a1, a2, a3, a4, a5, a6, a7, a8, a9, a10, a11, a12, a13, a14)) else (if k = 0 then ((-2), (a0, a1, a2, a3, a4, a5, a6, a7, a8, a9, a10, a11, a12, a13, a14)) else (if q = 0 then ((-2), (a0, a1, a2, a3, a4, a5, a6, a7, a8, a9, a10, a11, a12, a13, a14)) else (if a2 = 0 then (g_X_two_k8 (f_N_undergoBoth (a0, a1, a2, a3, a4, a5, a6, a7, a8, a9, a10, a11, a12, a13, a14) (if q < k then q else k) (if k < q then q else k)) k q) else ((-3), (a0, a1, a2, a3, a4, a5, a6, a7, a8, a9, a10, a11, a12, a13, a14))))))
def F_X_two (u : XS) (n : Int32) (k : Int32) (q : Int32) : Int32 × XS := match ix u.1 n with
  | none => (-1, u)
  | some j => ((g_X_two (u.2.2 j) k q).1, ((u.1, u.2.1, va_up u.2.2 j (g_X_two (u.2.2 j) k q).2) : XS))
set_option maxHeartbeats 4000000 in
set_option maxRecDepth 100000 in
theorem c_X_two (l : Launch) (D : va_G) (h0 sz : Nat) (u : XS) (w0 : va_W) (cA : ClassId) (hI : IX h0 u w0 cA) (hD0 : va_D (fun _ => True) w0) (n : Int32) (k : Int32) (q : Int32) : Met l y_X_two (cw_X_two :: BIG) ((rmk 5 0 0)) (va_Pc [.ref h0, .int n, .int k, .int q] (fun U => U.heap.size = sz ∧ va_P D cls_ w0 U.heap ∧ va_K D cls_ [(cA, .object R_N)] U ∧ NK U)) (va_Qi (fun (r : Int32) (u2 : XS) => r = (F_X_two u n k q).1 ∧ u2 = (F_X_two u n k q).2) (atX D h0 (va_A w0 sz)) (va_A w0 sz)) 0 0 (va_A w0 sz) := by
  obtain ⟨arr, f, ad, hI⟩ := hI
  refine Met.ofW (cc := b_X_two) (maxL := 5) (ret := (some .int)) (by decide) rfl ?_
  intro p e s m args below meth c s₁ B hml hv
  obtain ⟨rfl, hsz, hP, hK, hN⟩ := hv
  have hx := B.exec
  have hb := B.bytes
  have hr := B.returns
  have htB : ∀ w ∈ BIG, w.before _ s = true := fun w h => atoms_spec (ws := cw_X_two :: BIG) B.pre w (List.mem_cons_of_mem _ h)
  have hown : s.vm.findClass R_X = some m.cls := findClass_of_methodNamed B.named
  have hlocks := B.notSynchronized
  have hD : va_D (va_A w0 sz) w0 := hD0.self
  have hS : va_S (va_A w0 sz) s.heap s.heap [] := va_S.rf
  obtain ⟨kx, hkx⟩ := hI.2.1
  obtain ⟨wx, hwx⟩ : ∃ w, w = w0 := ⟨_, rfl⟩
  have hP : va_P D cls_ wx s.heap := by rw [hwx]; exact hP
  have hI : IXp h0 u wx cA arr f ad := by rw [hwx]; exact hI
  have hD : va_D (va_A w0 sz) wx := by rw [hwx]; exact hD
  have hkx : wx[kx]? = some (h0, .inr (1, [.ref arr, .int (nI u.1), .long u.2.1])) := by rw [hwx]; exact hkx
  have hl := lv_entry ([.ref h0, .int n, .int k, .int q]) (n := 5) (Nat.le_of_ble_eq_true rfl)
  rw [lg_entry_eq]
  generalize (lg_sl ([.ref h0, .int n, .int k, .int q]) ++ List.replicate (5 - (lg_sl ([.ref h0, .int n, .int k, .int q])).length) Slot.unset).toArray = ls at hl ⊢
  have hl : lv_has ls 5 [(0, .ref h0), (1, .int n), (2, .int k), (3, .int q)] := hl
  refine lv_aload_n hx hb d_X_two_0 rfl (lv_at hl 0 rfl) ?_
  refine lv_iload_n hx hb d_X_two_1 rfl (lv_at hl 1 rfl) ?_
  refine va_csq (va_Run.run (va_runV (As := [.int n]) (rest := []) ⟨hx, hb, hml, hown, htB⟩ (c_X_find l D h0 u wx cA arr f ad hI n) (cwV 1 htB g_X_24 rfl rfl rfl (by decide +kernel) ⟨Nat.le_of_ble_eq_true rfl, Nat.le_of_ble_eq_true rfl⟩) (preV hP hK hN (va_recv hK hP (ci := 1) (q0 := kx) rfl hkx)) rfl rfl hl.1 rfl (lv_room (Nat.le_of_ble_eq_true rfl)) d_X_two_2 ⟨Nat.le_of_ble_eq_true rfl, Nat.le_of_ble_eq_true rfl⟩)) (fun r hrr => ?_)
  rcases hj : ix u.1 n with _ | j
  · rw [hj] at hrr
    have hrr : r = none := hrr
    subst hrr
    refine lv_astoreN (lv' := [(4, .null), (0, .ref h0), (1, .int n), (2, .int k), (3, .int q)]) hx hb d_X_two_5 hl (by decide) rfl (fun ls hl => ?_)
    refine lv_aloadN hx hb d_X_two_7 (lv_at hl 0 rfl) ?_
    refine lv_ifnonnullN hx hb d_X_two_9 ?_
    refine lv_iconst (v := (-1)) hx hb d_X_two_12 (by decide) ?_
    have hF : F_X_two u n k q = (-1, u) := by unfold F_X_two; rw [hj]
    exact W.iret hx hb hr (fun t ht hW => ⟨⟨-1, u, rfl, ⟨(congrArg Prod.fst hF).symm, (congrArg Prod.snd hF).symm⟩, wx, cA, ⟨arr, f, ad, hI⟩, by rw [ht]; exact hP, va_K.moved hW.alike hK, hD⟩, hS.F ht⟩) hS.2.2 d_X_two_13
  · rw [hj] at hrr
    have hrr : r = some (ad j) := hrr
    subst hrr
    obtain ⟨hjl, -⟩ := ix_some hI.1 hj
    obtain ⟨-, kn, hn⟩ := hI.2.2.2.1 j hjl
    have hnx : kn ≠ kx := fun q => by rw [q, hkx] at hn; have := congrArg Prod.snd (Option.some.inj hn); simp at this
    obtain ⟨z, hu⟩ : ∃ z, u.2.2 j = z := ⟨_, rfl⟩
    rw [hu] at hn
    obtain ⟨a0, a1, a2, a3, a4, a5, a6, a7, a8, a9, a10, a11, a12, a13, a14⟩ := z
    have hF : F_X_two u n k q = ((g_X_two (a0, a1, a2, a3, a4, a5, a6, a7, a8, a9, a10, a11, a12, a13, a14) k q).1, ((u.1, u.2.1, va_up u.2.2 j (g_X_two (a0, a1, a2, a3, a4, a5, a6, a7, a8, a9, a10, a11, a12, a13, a14) k q).2) : XS)) := by unfold F_X_two; rw [hj]; show ((g_X_two (u.2.2 j) k q).1, ((u.1, u.2.1, va_up u.2.2 j (g_X_two (u.2.2 j) k q).2) : XS)) = _; rw [hu]
    refine lv_astore (lv' := [(4, .ref (ad j)), (0, .ref h0), (1, .int n), (2, .int k), (3, .int q)]) hx hb d_X_two_5 hl (by decide) rfl (fun ls hl => ?_)
    refine lv_aload hx hb d_X_two_7 (lv_at hl 0 rfl) ?_
    refine lv_ifnonnull (tgt := 14) hx hb d_X_two_9 (by decide) ?_
    have hn : wx[kn]? = some ((ad j), .inr (0, [.int a0, .int a1, .int a2, .int a3, .int a4, .int a5, .int a6, .int a7, .int a8, .int a9, .int a10, .int a11, .long a12, .int a13, .int a14])) := hn
    have hP := psame hP hn
    have hD := dsame hD hn
    have hc : g_X_two (a0, a1, a2, a3, a4, a5, a6, a7, a8, a9, a10, a11, a12, a13, a14) k q = g_X_two (a0, a1, a2, a3, a4, a5, a6, a7, a8, a9, a10, a11, a12, a13, a14) k q := rfl
    refine lv_iload_n hx hb d_X_two_14 rfl (lv_at hl 3 rfl) ?_
    refine vp_callSi (va_Run.run (va_runS (As := [.int k]) (rest := []) ⟨hx, hb, hml, hown, htB⟩ (c_X_isKind l k) (cwS 1 htB g_X_28 rfl rfl rfl (by decide +kernel) ⟨Nat.le_of_ble_eq_true rfl, Nat.le_of_ble_eq_true rfl⟩) (preN hN) rfl rfl hl.1 rfl (lv_room (Nat.le_of_ble_eq_true rfl)) d_X_two_15 ⟨Nat.le_of_ble_eq_true rfl, Nat.le_of_ble_eq_true rfl⟩)) (fun r_1 hr_1 => ?_)
    subst hr_1
    refine lv_if_eq (tgt := 36) hx hb d_X_two_18 (by decide) (fun c_2 => ?_) (fun c_2 => ?_)
    · refine lv_bipush (v := (-2)) hx hb d_X_two_36 (by decide) ?_
      have he : g_X_two (a0, a1, a2, a3, a4, a5, a6, a7, a8, a9, a10, a11, a12, a13, a14) k q = ((-2), (a0, a1, a2, a3, a4, a5, a6, a7, a8, a9, a10, a11, a12, a13, a14)) := hc.trans (if_pos c_2)
      have he := hF.trans (congrArg (fun z : Int32 × NS => (z.1, ((u.1, u.2.1, va_up u.2.2 j z.2) : XS))) he)
      exact W.iret hx hb hr (fun t ht hW => ⟨⟨(-2), (u.1, u.2.1, va_up u.2.2 j (a0, a1, a2, a3, a4, a5, a6, a7, a8, a9, a10, a11, a12, a13, a14)), rfl, ⟨(congrArg Prod.fst he).symm, (congrArg Prod.snd he).symm⟩, wx.set kn (ad j, .inr (0, n_fs (a0, a1, a2, a3, a4, a5, a6, a7, a8, a9, a10, a11, a12, a13, a14))), cA, ⟨arr, f, ad, hI.node hjl hn (a0, a1, a2, a3, a4, a5, a6, a7, a8, a9, a10, a11, a12, a13, a14)⟩, by rw [ht]; exact hP, va_K.moved hW.alike hK, hD⟩, hS.F ht⟩) hS.2.2 d_X_two_38
    · refine lv_iload_n hx hb d_X_two_21 rfl (lv_at hl 4 rfl) ?_
      refine vp_callSi (va_Run.run (va_runS (As := [.int q]) (rest := []) ⟨hx, hb, hml, hown, htB⟩ (c_X_isKind l q) (cwS 1 htB g_X_28 rfl rfl rfl (by decide +kernel) ⟨Nat.le_of_ble_eq_true rfl, Nat.le_of_ble_eq_true rfl⟩) (preN hN) rfl rfl hl.1 rfl (lv_room (Nat.le_of_ble_eq_true rfl)) d_X_two_22 ⟨Nat.le_of_ble_eq_true rfl, Nat.le_of_ble_eq_true rfl⟩)) (fun r_3 hr_3 => ?_)
      subst hr_3
      refine lv_if_eq (tgt := 36) hx hb d_X_two_25 (by decide) (fun c_4 => ?_) (fun c_4 => ?_)
      · refine lv_bipush (v := (-2)) hx hb d_X_two_36 (by decide) ?_
        have he : g_X_two (a0, a1, a2, a3, a4, a5, a6, a7, a8, a9, a10, a11, a12, a13, a14) k q = ((-2), (a0, a1, a2, a3, a4, a5, a6, a7, a8, a9, a10, a11, a12, a13, a14)) := hc.trans ((if_neg c_2).trans (if_pos c_4))
        have he := hF.trans (congrArg (fun z : Int32 × NS => (z.1, ((u.1, u.2.1, va_up u.2.2 j z.2) : XS))) he)
        exact W.iret hx hb hr (fun t ht hW => ⟨⟨(-2), (u.1, u.2.1, va_up u.2.2 j (a0, a1, a2, a3, a4, a5, a6, a7, a8, a9, a10, a11, a12, a13, a14)), rfl, ⟨(congrArg Prod.fst he).symm, (congrArg Prod.snd he).symm⟩, wx.set kn (ad j, .inr (0, n_fs (a0, a1, a2, a3, a4, a5, a6, a7, a8, a9, a10, a11, a12, a13, a14))), cA, ⟨arr, f, ad, hI.node hjl hn (a0, a1, a2, a3, a4, a5, a6, a7, a8, a9, a10, a11, a12, a13, a14)⟩, by rw [ht]; exact hP, va_K.moved hW.alike hK, hD⟩, hS.F ht⟩) hS.2.2 d_X_two_38
      · refine lv_iload_n hx hb d_X_two_28 rfl (lv_at hl 3 rfl) ?_
        refine lv_if_eq (tgt := 36) hx hb d_X_two_29 (by decide) (fun c_5 => ?_) (fun c_5 => ?_)
        · refine lv_bipush (v := (-2)) hx hb d_X_two_36 (by decide) ?_
          have he : g_X_two (a0, a1, a2, a3, a4, a5, a6, a7, a8, a9, a10, a11, a12, a13, a14) k q = ((-2), (a0, a1, a2, a3, a4, a5, a6, a7, a8, a9, a10, a11, a12, a13, a14)) := hc.trans ((if_neg c_2).trans ((if_neg c_4).trans (if_pos c_5)))
          have he := hF.trans (congrArg (fun z : Int32 × NS => (z.1, ((u.1, u.2.1, va_up u.2.2 j z.2) : XS))) he)
          exact W.iret hx hb hr (fun t ht hW => ⟨⟨(-2), (u.1, u.2.1, va_up u.2.2 j (a0, a1, a2, a3, a4, a5, a6, a7, a8, a9, a10, a11, a12, a13, a14)), rfl, ⟨(congrArg Prod.fst he).symm, (congrArg Prod.snd he).symm⟩, wx.set kn (ad j, .inr (0, n_fs (a0, a1, a2, a3, a4, a5, a6, a7, a8, a9, a10, a11, a12, a13, a14))), cA, ⟨arr, f, ad, hI.node hjl hn (a0, a1, a2, a3, a4, a5, a6, a7, a8, a9, a10, a11, a12, a13, a14)⟩, by rw [ht]; exact hP, va_K.moved hW.alike hK, hD⟩, hS.F ht⟩) hS.2.2 d_X_two_38
        · refine lv_iload_n hx hb d_X_two_32 rfl (lv_at hl 4 rfl) ?_
          refine lv_if_ne (tgt := 39) hx hb d_X_two_33 (by decide) (fun c_6 => ?_) (fun c_6 => ?_)
          · refine lv_aload hx hb d_X_two_39 (lv_at hl 0 rfl) ?_
            refine va_get (D := D) (ci := 0) (v := .int a2) (C := R_N) (T := F_N) (N := 15) hx hb htB uw_N hown hK hP kn (sg hn) rfl 2 (by decide) (htB _ fl_X_32) (fun _ h9 => h9) rfl d_X_two_41 ?_
            refine lv_if_eq (tgt := 50) hx hb d_X_two_44 (by decide) (fun c_7 => ?_) (fun c_7 => ?_)
            · refine lv_aload hx hb d_X_two_50 (lv_at hl 0 rfl) ?_
              refine lv_iload_n hx hb d_X_two_52 rfl (lv_at hl 3 rfl) ?_
              refine lv_iload_n hx hb d_X_two_53 rfl (lv_at hl 4 rfl) ?_
              refine va_mmin hx hb (hml.trans hl.1.symm) hown (htB _ ml_X_73) (htB _ st_math_min) (htB _ in_math) (htB _ co_math_min) (Nat.le_of_ble_eq_true rfl) (Nat.le_of_ble_eq_true rfl) (Nat.le_of_ble_eq_true rfl) (Nat.le_of_ble_eq_true rfl) d_X_two_54 ?_
              refine lv_iload_n hx hb d_X_two_57 rfl (lv_at hl 3 rfl) ?_
              refine lv_iload_n hx hb d_X_two_58 rfl (lv_at hl 4 rfl) ?_
              refine va_mmax hx hb (hml.trans hl.1.symm) hown (htB _ ml_X_79) (htB _ st_math_max) (htB _ in_math) (htB _ co_math_max) (Nat.le_of_ble_eq_true rfl) (Nat.le_of_ble_eq_true rfl) (Nat.le_of_ble_eq_true rfl) (Nat.le_of_ble_eq_true rfl) d_X_two_59 ?_
              refine va_callv (va_runV (As := [.int (if q < k then q else k), .int (if k < q then q else k)]) (rest := []) ⟨hx, hb, hml, hown, htB⟩ (c_N_undergoBoth l D (ad j) (a0, a1, a2, a3, a4, a5, a6, a7, a8, a9, a10, a11, a12, a13, a14) (if q < k then q else k) (if k < q then q else k)) (cwV 2 htB g_X_82 rfl rfl rfl (by decide +kernel) ⟨Nat.le_of_ble_eq_true rfl, Nat.le_of_ble_eq_true rfl⟩) (preV (pone hP (sg hn)) (hK.sub (tys' := []) [] rfl) hN (va_recv hK hP (ci := 0) (q0 := kn) rfl (sg hn))) rfl rfl hl.1 rfl (lv_room (Nat.le_of_ble_eq_true rfl)) d_X_two_62 ⟨Nat.le_of_ble_eq_true rfl, Nat.le_of_ble_eq_true rfl⟩) hS (fun q _ h => by rw [h]; exact hD.2 kn _ (sg hn)) (fun q h => by rw [h]; exact hD.2 kn _ (sg hn)) (fun u9 t H1 locs ht hvm hw hB hz1 hk1 hS => ?_)
              rw [ht] at hB
              obtain ⟨b8_0, b8_1, b8_2, b8_3, b8_4, b8_5, b8_6, b8_7, b8_8, b8_9, b8_10, b8_11, b8_12, b8_13, b8_14⟩ := u9
              obtain ⟨hP, hD⟩ := pcall (e2 := .inr (0, [.int b8_0, .int b8_1, .int b8_2, .int b8_3, .int b8_4, .int b8_5, .int b8_6, .int b8_7, .int b8_8, .int b8_9, .int b8_10, .int b8_11, .long b8_12, .int b8_13, .int b8_14])) hP hD (sg hn) hk1 hB
              rw [List.set_set] at hP hD
              have hc : g_X_two (a0, a1, a2, a3, a4, a5, a6, a7, a8, a9, a10, a11, a12, a13, a14) k q = g_X_two_k8 (b8_0, b8_1, b8_2, b8_3, b8_4, b8_5, b8_6, b8_7, b8_8, b8_9, b8_10, b8_11, b8_12, b8_13, b8_14) k q := (hc.trans ((if_neg c_2).trans ((if_neg c_4).trans ((if_neg c_5).trans ((if_neg c_6).trans (if_pos c_7)))))).trans (congrArg (fun z => g_X_two_k8 z k q) hw.symm)
              refine lv_aload hx hb d_X_two_65 (lv_at hl 0 rfl) ?_
              refine vp_callSi (va_Run.run (va_runV (As := []) (rest := []) ⟨hx, hb, hml, hown, htB⟩ (c_N_condition l D (ad j) (b8_0, b8_1, b8_2, b8_3, b8_4, b8_5, b8_6, b8_7, b8_8, b8_9, b8_10, b8_11, b8_12, b8_13, b8_14)) (cwV 0 htB g_X_43 rfl rfl rfl (by decide +kernel) ⟨Nat.le_of_ble_eq_true rfl, Nat.le_of_ble_eq_true rfl⟩) (preV (pone hP (sg hn)) (hK.sub (tys' := []) [] rfl) hN (va_recv hK hP (ci := 0) (q0 := kn) rfl (sg hn))) rfl rfl hl.1 rfl (lv_room (Nat.le_of_ble_eq_true rfl)) d_X_two_67 ⟨Nat.le_of_ble_eq_true rfl, Nat.le_of_ble_eq_true rfl⟩)) (fun r_9 hr_9 => ?_)
              subst hr_9
              have he : g_X_two (a0, a1, a2, a3, a4, a5, a6, a7, a8, a9, a10, a11, a12, a13, a14) k q = (f_N_condition (b8_0, b8_1, b8_2, b8_3, b8_4, b8_5, b8_6, b8_7, b8_8, b8_9, b8_10, b8_11, b8_12, b8_13, b8_14), (b8_0, b8_1, b8_2, b8_3, b8_4, b8_5, b8_6, b8_7, b8_8, b8_9, b8_10, b8_11, b8_12, b8_13, b8_14)) := hc.trans (rfl)
              have he := hF.trans (congrArg (fun z : Int32 × NS => (z.1, ((u.1, u.2.1, va_up u.2.2 j z.2) : XS))) he)
              exact W.iret hx hb hr (fun t ht hW => ⟨⟨f_N_condition (b8_0, b8_1, b8_2, b8_3, b8_4, b8_5, b8_6, b8_7, b8_8, b8_9, b8_10, b8_11, b8_12, b8_13, b8_14), (u.1, u.2.1, va_up u.2.2 j (b8_0, b8_1, b8_2, b8_3, b8_4, b8_5, b8_6, b8_7, b8_8, b8_9, b8_10, b8_11, b8_12, b8_13, b8_14)), rfl, ⟨(congrArg Prod.fst he).symm, (congrArg Prod.snd he).symm⟩, wx.set kn (ad j, .inr (0, n_fs (b8_0, b8_1, b8_2, b8_3, b8_4, b8_5, b8_6, b8_7, b8_8, b8_9, b8_10, b8_11, b8_12, b8_13, b8_14))), cA, ⟨arr, f, ad, hI.node hjl hn (b8_0, b8_1, b8_2, b8_3, b8_4, b8_5, b8_6, b8_7, b8_8, b8_9, b8_10, b8_11, b8_12, b8_13, b8_14)⟩, by rw [ht]; exact hP, va_K.moved hW.alike hK, hD⟩, hS.F ht⟩) hS.2.2 d_X_two_70
            · refine lv_bipush (v := (-3)) hx hb d_X_two_47 (by decide) ?_
              have he : g_X_two (a0, a1, a2, a3, a4, a5, a6, a7, a8, a9, a10, a11, a12, a13, a14) k q = ((-3), (a0, a1, a2, a3, a4, a5, a6, a7, a8, a9, a10, a11, a12, a13, a14)) := hc.trans ((if_neg c_2).trans ((if_neg c_4).trans ((if_neg c_5).trans ((if_neg c_6).trans (if_neg c_7)))))
              have he := hF.trans (congrArg (fun z : Int32 × NS => (z.1, ((u.1, u.2.1, va_up u.2.2 j z.2) : XS))) he)
              exact W.iret hx hb hr (fun t ht hW => ⟨⟨(-3), (u.1, u.2.1, va_up u.2.2 j (a0, a1, a2, a3, a4, a5, a6, a7, a8, a9, a10, a11, a12, a13, a14)), rfl, ⟨(congrArg Prod.fst he).symm, (congrArg Prod.snd he).symm⟩, wx.set kn (ad j, .inr (0, n_fs (a0, a1, a2, a3, a4, a5, a6, a7, a8, a9, a10, a11, a12, a13, a14))), cA, ⟨arr, f, ad, hI.node hjl hn (a0, a1, a2, a3, a4, a5, a6, a7, a8, a9, a10, a11, a12, a13, a14)⟩, by rw [ht]; exact hP, va_K.moved hW.alike hK, hD⟩, hS.F ht⟩) hS.2.2 d_X_two_49
          · refine lv_bipush (v := (-2)) hx hb d_X_two_36 (by decide) ?_
            have he : g_X_two (a0, a1, a2, a3, a4, a5, a6, a7, a8, a9, a10, a11, a12, a13, a14) k q = ((-2), (a0, a1, a2, a3, a4, a5, a6, a7, a8, a9, a10, a11, a12, a13, a14)) := hc.trans ((if_neg c_2).trans ((if_neg c_4).trans ((if_neg c_5).trans (if_pos c_6))))
            have he := hF.trans (congrArg (fun z : Int32 × NS => (z.1, ((u.1, u.2.1, va_up u.2.2 j z.2) : XS))) he)
            exact W.iret hx hb hr (fun t ht hW => ⟨⟨(-2), (u.1, u.2.1, va_up u.2.2 j (a0, a1, a2, a3, a4, a5, a6, a7, a8, a9, a10, a11, a12, a13, a14)), rfl, ⟨(congrArg Prod.fst he).symm, (congrArg Prod.snd he).symm⟩, wx.set kn (ad j, .inr (0, n_fs (a0, a1, a2, a3, a4, a5, a6, a7, a8, a9, a10, a11, a12, a13, a14))), cA, ⟨arr, f, ad, hI.node hjl hn (a0, a1, a2, a3, a4, a5, a6, a7, a8, a9, a10, a11, a12, a13, a14)⟩, by rw [ht]; exact hP, va_K.moved hW.alike hK, hD⟩, hS.F ht⟩) hS.2.2 d_X_two_38
end
