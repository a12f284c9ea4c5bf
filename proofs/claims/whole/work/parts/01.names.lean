def R_N : String := "CanErrors$Node"
def R_X : String := "CanErrors"
def R_M : String := "CanErrorsModel"
def R_L : String := "CanErrorsLaw"
def F_N : u_T := fun k => match k with
  | 0 => ("CanErrors$Node", "sendingErrors", "I", false)
  | 1 => ("CanErrors$Node", "receivingErrors", "I", false)
  | 2 => ("CanErrors$Node", "off", "Z", false)
  | 3 => ("CanErrors$Node", "flagBits", "I", false)
  | 4 => ("CanErrors$Node", "waitBits", "I", false)
  | 5 => ("CanErrors$Node", "single", "Z", false)
  | 6 => ("CanErrors$Node", "framesGivenUp", "I", false)
  | 7 => ("CanErrors$Node", "listening", "Z", false)
  | 8 => ("CanErrors$Node", "wasSender", "Z", false)
  | 9 => ("CanErrors$Node", "goodFrames", "I", false)
  | 10 => ("CanErrors$Node", "offsInRow", "I", false)
  | 11 => ("CanErrors$Node", "asked", "Z", false)
  | 12 => ("CanErrors$Node", "firstAsked", "J", false)
  | 13 => ("CanErrors$Node", "let", "Z", false)
  | _ => ("CanErrors$Node", "rowsSeen", "I", false)
def t_N : Nat → FieldType := fun k => match k with
  | 0 => .int
  | 1 => .int
  | 2 => .boolean
  | 3 => .int
  | 4 => .int
  | 5 => .boolean
  | 6 => .int
  | 7 => .boolean
  | 8 => .boolean
  | 9 => .int
  | 10 => .int
  | 11 => .boolean
  | 12 => .long
  | 13 => .boolean
  | _ => .int
theorem n_N : ∀ a, a < 15 → ∀ b, b < 15 → a ≠ b → (F_N a).2.1 ≠ (F_N b).2.1 := by decide +kernel
theorem t_N_ok : ∀ k, k < 15 → parseFieldDescriptor (F_N k).2.2.1 = some (t_N k) := by decide +kernel
def F_X : u_T := fun k => match k with
  | 0 => ("CanErrors", "nodes", "[LCanErrors$Node;", true)
  | 1 => ("CanErrors", "nodeCount", "I", false)
  | _ => ("CanErrors", "latestTime", "J", false)
def t_X : Nat → FieldType := fun k => match k with
  | 0 => .array (.object "CanErrors$Node")
  | 1 => .int
  | _ => .long
theorem n_X : ∀ a, a < 3 → ∀ b, b < 3 → a ≠ b → (F_X a).2.1 ≠ (F_X b).2.1 := by decide +kernel
theorem t_X_ok : ∀ k, k < 3 → parseFieldDescriptor (F_X k).2.2.1 = some (t_X k) := by decide +kernel
def F_M : u_T := fun k => match k with
  | 0 => ("CanErrorsModel", "code", "I", false)
  | 1 => ("CanErrorsModel", "nodes", "I", false)
  | 2 => ("CanErrorsModel", "sends", "[I", true)
  | 3 => ("CanErrorsModel", "takes", "[I", true)
  | 4 => ("CanErrorsModel", "off", "[Z", true)
  | 5 => ("CanErrorsModel", "flag", "[I", true)
  | 6 => ("CanErrorsModel", "wait", "[I", true)
  | 7 => ("CanErrorsModel", "sender", "[Z", true)
  | 8 => ("CanErrorsModel", "single", "[Z", true)
  | 9 => ("CanErrorsModel", "given", "[I", true)
  | 10 => ("CanErrorsModel", "alone", "[Z", true)
  | 11 => ("CanErrorsModel", "asked", "[J", true)
  | 12 => ("CanErrorsModel", "let", "[Z", true)
  | 13 => ("CanErrorsModel", "rows", "[I", true)
  | 14 => ("CanErrorsModel", "inRow", "[I", true)
  | 15 => ("CanErrorsModel", "fine", "[I", true)
  | _ => ("CanErrorsModel", "latest", "J", false)
def t_M : Nat → FieldType := fun k => match k with
  | 0 => .int
  | 1 => .int
  | 2 => .array .int
  | 3 => .array .int
  | 4 => .array .boolean
  | 5 => .array .int
  | 6 => .array .int
  | 7 => .array .boolean
  | 8 => .array .boolean
  | 9 => .array .int
  | 10 => .array .boolean
  | 11 => .array .long
  | 12 => .array .boolean
  | 13 => .array .int
  | 14 => .array .int
  | 15 => .array .int
  | _ => .long
theorem n_M : ∀ a, a < 17 → ∀ b, b < 17 → a ≠ b → (F_M a).2.1 ≠ (F_M b).2.1 := by decide +kernel
theorem t_M_ok : ∀ k, k < 17 → parseFieldDescriptor (F_M k).2.2.1 = some (t_M k) := by decide +kernel
abbrev cls_ : List vw_C := [(R_N, F_N, 15), (R_X, F_X, 3), (R_M, F_M, 17)]
abbrev b_X_init : ByteArray := prog_1_method_1_code
def y_X_init : MethodName := ⟨R_X, "<init>", "()V"⟩
def cw_X_init : Cond := .code y_X_init b_X_init 1 none
abbrev b_X_node : ByteArray := prog_1_method_2_code
def y_X_node : MethodName := ⟨R_X, "node", "()I"⟩
def cw_X_node : Cond := .code y_X_node b_X_node 1 (some .int)
abbrev b_N_init : ByteArray := prog_2_method_1_code
def y_N_init : MethodName := ⟨R_N, "<init>", "()V"⟩
def cw_N_init : Cond := .code y_N_init b_N_init 1 none
abbrev b_X_event : ByteArray := prog_1_method_3_code
def y_X_event : MethodName := ⟨R_X, "event", "(IIZ)I"⟩
def cw_X_event : Cond := .code y_X_event b_X_event 5 (some .int)
abbrev b_X_find : ByteArray := prog_1_method_13_code
def y_X_find : MethodName := ⟨R_X, "find", "(I)LCanErrors$Node;"⟩
def cw_X_find : Cond := .code y_X_find b_X_find 2 (some (.object "CanErrors$Node"))
abbrev b_X_isKind : ByteArray := prog_1_method_14_code
def y_X_isKind : MethodName := ⟨R_X, "isKind", "(I)Z"⟩
def cw_X_isKind : Cond := .code y_X_isKind b_X_isKind 1 (some .boolean)
abbrev b_N_undergo : ByteArray := prog_2_method_4_code
def y_N_undergo : MethodName := ⟨R_N, "undergo", "(IZ)V"⟩
def cw_N_undergo : Cond := .code y_N_undergo b_N_undergo 4 none
abbrev b_N_countGoodFrames : ByteArray := prog_2_method_5_code
def y_N_countGoodFrames : MethodName := ⟨R_N, "countGoodFrames", "(I)V"⟩
def cw_N_countGoodFrames : Cond := .code y_N_countGoodFrames b_N_countGoodFrames 2 none
abbrev b_X_isError : ByteArray := prog_1_method_15_code
def y_X_isError : MethodName := ⟨R_X, "isError", "(I)Z"⟩
def cw_X_isError : Cond := .code y_X_isError b_X_isError 1 (some .boolean)
abbrev b_X_isAboutFlag : ByteArray := prog_1_method_16_code
def y_X_isAboutFlag : MethodName := ⟨R_X, "isAboutFlag", "(I)Z"⟩
def cw_X_isAboutFlag : Cond := .code y_X_isAboutFlag b_X_isAboutFlag 1 (some .boolean)
abbrev b_N_countErrors : ByteArray := prog_2_method_6_code
def y_N_countErrors : MethodName := ⟨R_N, "countErrors", "(IZ)V"⟩
def cw_N_countErrors : Cond := .code y_N_countErrors b_N_countErrors 3 none
abbrev b_N_lowerCounter : ByteArray := prog_2_method_7_code
def y_N_lowerCounter : MethodName := ⟨R_N, "lowerCounter", "(Z)V"⟩
def cw_N_lowerCounter : Cond := .code y_N_lowerCounter b_N_lowerCounter 2 none
abbrev b_N_senderPenalty : ByteArray := prog_2_method_8_code
def y_N_senderPenalty : MethodName := ⟨R_N, "senderPenalty", "(I)I"⟩
def cw_N_senderPenalty : Cond := .code y_N_senderPenalty b_N_senderPenalty 2 (some .int)
abbrev b_N_condition : ByteArray := prog_2_method_2_code
def y_N_condition : MethodName := ⟨R_N, "condition", "()I"⟩
def cw_N_condition : Cond := .code y_N_condition b_N_condition 2 (some .int)
abbrev b_N_receiverPenalty : ByteArray := prog_2_method_9_code
def y_N_receiverPenalty : MethodName := ⟨R_N, "receiverPenalty", "(I)I"⟩
def cw_N_receiverPenalty : Cond := .code y_N_receiverPenalty b_N_receiverPenalty 2 (some .int)
abbrev b_N_changeFlag : ByteArray := prog_2_method_10_code
def y_N_changeFlag : MethodName := ⟨R_N, "changeFlag", "(I)V"⟩
def cw_N_changeFlag : Cond := .code y_N_changeFlag b_N_changeFlag 3 none
abbrev b_N_goOff : ByteArray := prog_2_method_11_code
def y_N_goOff : MethodName := ⟨R_N, "goOff", "()V"⟩
def cw_N_goOff : Cond := .code y_N_goOff b_N_goOff 1 none
abbrev b_X_counter : ByteArray := prog_1_method_4_code
def y_X_counter : MethodName := ⟨R_X, "counter", "(IZ)I"⟩
def cw_X_counter : Cond := .code y_X_counter b_X_counter 4 (some .int)
abbrev b_X_state : ByteArray := prog_1_method_5_code
def y_X_state : MethodName := ⟨R_X, "state", "(I)I"⟩
def cw_X_state : Cond := .code y_X_state b_X_state 3 (some .int)
abbrev b_X_recover : ByteArray := prog_1_method_6_code
def y_X_recover : MethodName := ⟨R_X, "recover", "(II)I"⟩
def cw_X_recover : Cond := .code y_X_recover b_X_recover 4 (some .int)
abbrev b_N_countRows : ByteArray := prog_2_method_14_code
def y_N_countRows : MethodName := ⟨R_N, "countRows", "(I)V"⟩
def cw_N_countRows : Cond := .code y_N_countRows b_N_countRows 2 none
abbrev b_N_comeBack : ByteArray := prog_2_method_15_code
def y_N_comeBack : MethodName := ⟨R_N, "comeBack", "()V"⟩
def cw_N_comeBack : Cond := .code y_N_comeBack b_N_comeBack 1 none
abbrev b_X_flag : ByteArray := prog_1_method_7_code
def y_X_flag : MethodName := ⟨R_X, "flag", "(I)I"⟩
def cw_X_flag : Cond := .code y_X_flag b_X_flag 3 (some .int)
abbrev b_X_manager : ByteArray := prog_1_method_8_code
def y_X_manager : MethodName := ⟨R_X, "manager", "(IJ)I"⟩
def cw_X_manager : Cond := .code y_X_manager b_X_manager 5 (some .int)
abbrev b_N_mayComeBack : ByteArray := prog_2_method_12_code
def y_N_mayComeBack : MethodName := ⟨R_N, "mayComeBack", "(J)Z"⟩
def cw_N_mayComeBack : Cond := .code y_N_mayComeBack b_N_mayComeBack 3 (some .boolean)
abbrev b_N_delay : ByteArray := prog_2_method_13_code
def y_N_delay : MethodName := ⟨R_N, "delay", "()J"⟩
def cw_N_delay : Cond := .code y_N_delay b_N_delay 1 (some .long)
abbrev b_X_shot : ByteArray := prog_1_method_9_code
def y_X_shot : MethodName := ⟨R_X, "shot", "(IZ)I"⟩
def cw_X_shot : Cond := .code y_X_shot b_X_shot 4 (some .int)
abbrev b_X_listen : ByteArray := prog_1_method_10_code
def y_X_listen : MethodName := ⟨R_X, "listen", "(IZ)I"⟩
def cw_X_listen : Cond := .code y_X_listen b_X_listen 5 (some .int)
abbrev b_X_two : ByteArray := prog_1_method_11_code
def y_X_two : MethodName := ⟨R_X, "two", "(III)I"⟩
def cw_X_two : Cond := .code y_X_two b_X_two 5 (some .int)
abbrev b_N_undergoBoth : ByteArray := prog_2_method_3_code
def y_N_undergoBoth : MethodName := ⟨R_N, "undergoBoth", "(II)V"⟩
def cw_N_undergoBoth : Cond := .code y_N_undergoBoth b_N_undergoBoth 5 none
abbrev b_X_suspended : ByteArray := prog_1_method_12_code
def y_X_suspended : MethodName := ⟨R_X, "suspended", "(I)I"⟩
def cw_X_suspended : Cond := .code y_X_suspended b_X_suspended 3 (some .int)
abbrev b_M_init : ByteArray := prog_4_method_1_code
def y_M_init : MethodName := ⟨R_M, "<init>", "()V"⟩
def cw_M_init : Cond := .code y_M_init b_M_init 1 none
abbrev b_M_node : ByteArray := prog_4_method_4_code
def y_M_node : MethodName := ⟨R_M, "node", "()I"⟩
def cw_M_node : Cond := .code y_M_node b_M_node 1 (some .int)
abbrev b_M_event : ByteArray := prog_4_method_9_code
def y_M_event : MethodName := ⟨R_M, "event", "(IIZ)I"⟩
def cw_M_event : Cond := .code y_M_event b_M_event 4 (some .int)
abbrev b_M_none : ByteArray := prog_4_method_3_code
def y_M_none : MethodName := ⟨R_M, "none", "(I)Z"⟩
def cw_M_none : Cond := .code y_M_none b_M_none 2 (some .boolean)
abbrev b_M_happens : ByteArray := prog_4_method_8_code
def y_M_happens : MethodName := ⟨R_M, "happens", "(IIZ)V"⟩
def cw_M_happens : Cond := .code y_M_happens b_M_happens 5 none
abbrev b_M_more : ByteArray := prog_4_method_7_code
def y_M_more : MethodName := ⟨R_M, "more", "(IIZ)I"⟩
def cw_M_more : Cond := .code y_M_more b_M_more 4 (some .int)
abbrev b_M_is : ByteArray := prog_4_method_5_code
def y_M_is : MethodName := ⟨R_M, "is", "(I)I"⟩
def cw_M_is : Cond := .code y_M_is b_M_is 2 (some .int)
abbrev b_M_error : ByteArray := prog_4_method_6_code
def y_M_error : MethodName := ⟨R_M, "error", "(I)Z"⟩
def cw_M_error : Cond := .code y_M_error b_M_error 1 (some .boolean)
abbrev b_M_counter : ByteArray := prog_4_method_10_code
def y_M_counter : MethodName := ⟨R_M, "counter", "(IZ)I"⟩
def cw_M_counter : Cond := .code y_M_counter b_M_counter 3 (some .int)
abbrev b_M_state : ByteArray := prog_4_method_11_code
def y_M_state : MethodName := ⟨R_M, "state", "(I)I"⟩
def cw_M_state : Cond := .code y_M_state b_M_state 2 (some .int)
abbrev b_M_recover : ByteArray := prog_4_method_12_code
def y_M_recover : MethodName := ⟨R_M, "recover", "(II)I"⟩
def cw_M_recover : Cond := .code y_M_recover b_M_recover 3 (some .int)
abbrev b_M_flag : ByteArray := prog_4_method_13_code
def y_M_flag : MethodName := ⟨R_M, "flag", "(I)I"⟩
def cw_M_flag : Cond := .code y_M_flag b_M_flag 2 (some .int)
abbrev b_M_manager : ByteArray := prog_4_method_14_code
def y_M_manager : MethodName := ⟨R_M, "manager", "(IJ)I"⟩
def cw_M_manager : Cond := .code y_M_manager b_M_manager 6 (some .int)
abbrev b_M_shot : ByteArray := prog_4_method_15_code
def y_M_shot : MethodName := ⟨R_M, "shot", "(IZ)I"⟩
def cw_M_shot : Cond := .code y_M_shot b_M_shot 3 (some .int)
abbrev b_M_listen : ByteArray := prog_4_method_16_code
def y_M_listen : MethodName := ⟨R_M, "listen", "(IZ)I"⟩
def cw_M_listen : Cond := .code y_M_listen b_M_listen 4 (some .int)
abbrev b_M_two : ByteArray := prog_4_method_17_code
def y_M_two : MethodName := ⟨R_M, "two", "(III)I"⟩
def cw_M_two : Cond := .code y_M_two b_M_two 5 (some .int)
abbrev b_M_suspended : ByteArray := prog_4_method_18_code
def y_M_suspended : MethodName := ⟨R_M, "suspended", "(I)I"⟩
def cw_M_suspended : Cond := .code y_M_suspended b_M_suspended 2 (some .int)
def BIG_0 : List Cond := [.selects R_X y_X_find y_X_find, .selects R_M y_M_none y_M_none, .selects R_M y_M_happens y_M_happens, .selects R_M y_M_more y_M_more, .selects R_M y_M_is y_M_is, .initialized R_L, .initialized R_X, .initialized R_M, .initialized R_N, .initialized "java/lang/Math", .classLink R_L 7 R_X, .instantiable R_X 3, .methodLink R_L 9 y_X_init, .instanceMethod y_X_init, cw_X_init, .methodLink R_X 1 objectInit, .instanceMethod objectInit, .code objectInit ⟨#[0xb1]⟩ 1 none, .classLink R_X 9 R_N, .fieldLink R_X 11 "CanErrors" "nodes" "[LCanErrors$Node;", .fieldLink R_X 15 "CanErrors" "nodeCount" "I", .fieldLink R_X 19 "CanErrors" "latestTime" "J", .laysFinal R_X "CanErrors" "nodes" "[LCanErrors$Node;", .lays R_X "CanErrors" "nodeCount" "I", .lays R_X "CanErrors" "latestTime" "J", .methodLink R_L 13 y_X_node, .instanceMethod y_X_node, .selects R_X y_X_node y_X_node, cw_X_node, .instantiable R_N 15, .methodLink R_X 23 y_N_init, .instanceMethod y_N_init, cw_N_init, .methodLink R_N 3 objectInit, .fieldLink R_N 15 "CanErrors$Node" "sendingErrors" "I", .fieldLink R_X 47 "CanErrors$Node" "sendingErrors" "I", .fieldLink R_N 19 "CanErrors$Node" "receivingErrors" "I", .fieldLink R_X 50 "CanErrors$Node" "receivingErrors" "I", .fieldLink R_N 9 "CanErrors$Node" "off" "Z", .fieldLink R_X 32 "CanErrors$Node" "off" "Z", .fieldLink R_X 60 "CanErrors$Node" "flagBits" "I", .fieldLink R_N 91 "CanErrors$Node" "flagBits" "I", .fieldLink R_N 56 "CanErrors$Node" "waitBits" "I", .fieldLink R_X 86 "CanErrors$Node" "waitBits" "I", .fieldLink R_N 40 "CanErrors$Node" "single" "Z", .fieldLink R_X 67 "CanErrors$Node" "single" "Z", .fieldLink R_N 43 "CanErrors$Node" "framesGivenUp" "I", .fieldLink R_X 70 "CanErrors$Node" "framesGivenUp" "I"]
def BIG_1 : List Cond := [.fieldLink R_N 25 "CanErrors$Node" "listening" "Z", .fieldLink R_X 36 "CanErrors$Node" "listening" "Z", .fieldLink R_N 22 "CanErrors$Node" "wasSender" "Z", .fieldLink R_N 62 "CanErrors$Node" "goodFrames" "I", .fieldLink R_N 71 "CanErrors$Node" "offsInRow" "I", .fieldLink R_N 94 "CanErrors$Node" "asked" "Z", .fieldLink R_N 103 "CanErrors$Node" "firstAsked" "J", .fieldLink R_X 53 "CanErrors$Node" "let" "Z", .fieldLink R_N 97 "CanErrors$Node" "let" "Z", .fieldLink R_N 100 "CanErrors$Node" "rowsSeen" "I", .lays R_N "CanErrors$Node" "sendingErrors" "I", .lays R_N "CanErrors$Node" "receivingErrors" "I", .lays R_N "CanErrors$Node" "off" "Z", .lays R_N "CanErrors$Node" "flagBits" "I", .lays R_N "CanErrors$Node" "waitBits" "I", .lays R_N "CanErrors$Node" "single" "Z", .lays R_N "CanErrors$Node" "framesGivenUp" "I", .lays R_N "CanErrors$Node" "listening" "Z", .lays R_N "CanErrors$Node" "wasSender" "Z", .lays R_N "CanErrors$Node" "goodFrames" "I", .lays R_N "CanErrors$Node" "offsInRow" "I", .lays R_N "CanErrors$Node" "asked" "Z", .lays R_N "CanErrors$Node" "firstAsked" "J", .lays R_N "CanErrors$Node" "let" "Z", .lays R_N "CanErrors$Node" "rowsSeen" "I", .methodLink R_L 18 y_X_event, .instanceMethod y_X_event, .selects R_X y_X_event y_X_event, cw_X_event, .methodLink R_X 24 y_X_find, .instanceMethod y_X_find, cw_X_find, .methodLink R_X 28 y_X_isKind, .static y_X_isKind, cw_X_isKind, .methodLink R_X 39 y_N_undergo, .instanceMethod y_N_undergo, .selects R_N y_N_undergo y_N_undergo, cw_N_undergo, .methodLink R_N 36 y_N_countGoodFrames, .instanceMethod y_N_countGoodFrames, .selects R_N y_N_countGoodFrames y_N_countGoodFrames, cw_N_countGoodFrames, .static y_X_isError, cw_X_isError, .methodLink R_X 89 y_X_isAboutFlag, .static y_X_isAboutFlag, cw_X_isAboutFlag]
def BIG_2 : List Cond := [.methodLink R_N 65 Lib.Math.min.name, .static Lib.Math.min.name, .code Lib.Math.min.name Lib.Math.min.code 2 (some .int), .methodLink R_N 46 y_N_countErrors, .instanceMethod y_N_countErrors, .selects R_N y_N_countErrors y_N_countErrors, cw_N_countErrors, .methodLink R_N 74 y_N_lowerCounter, .instanceMethod y_N_lowerCounter, .selects R_N y_N_lowerCounter y_N_lowerCounter, cw_N_lowerCounter, .methodLink R_N 85 Lib.Math.max.name, .static Lib.Math.max.name, .code Lib.Math.max.name Lib.Math.max.code 2 (some .int), .methodLink R_N 78 y_N_senderPenalty, .instanceMethod y_N_senderPenalty, .selects R_N y_N_senderPenalty y_N_senderPenalty, cw_N_senderPenalty, .methodLink R_N 52 y_N_condition, .instanceMethod y_N_condition, .selects R_N y_N_condition y_N_condition, cw_N_condition, .methodLink R_N 82 y_N_receiverPenalty, .instanceMethod y_N_receiverPenalty, .selects R_N y_N_receiverPenalty y_N_receiverPenalty, cw_N_receiverPenalty, .methodLink R_N 49 y_N_changeFlag, .instanceMethod y_N_changeFlag, .selects R_N y_N_changeFlag y_N_changeFlag, cw_N_changeFlag, .methodLink R_N 59 y_N_goOff, .instanceMethod y_N_goOff, .selects R_N y_N_goOff y_N_goOff, cw_N_goOff, .methodLink R_X 43 y_N_condition, .methodLink R_L 23 y_X_counter, .instanceMethod y_X_counter, .selects R_X y_X_counter y_X_counter, cw_X_counter, .methodLink R_L 28 y_X_state, .instanceMethod y_X_state, .selects R_X y_X_state y_X_state, cw_X_state, .methodLink R_L 33 y_X_recover, .instanceMethod y_X_recover, .selects R_X y_X_recover y_X_recover, cw_X_recover, .methodLink R_X 56 y_N_countRows]
def BIG_3 : List Cond := [.instanceMethod y_N_countRows, .selects R_N y_N_countRows y_N_countRows, cw_N_countRows, .methodLink R_N 115 y_N_comeBack, .instanceMethod y_N_comeBack, .selects R_N y_N_comeBack y_N_comeBack, cw_N_comeBack, .methodLink R_L 38 y_X_flag, .instanceMethod y_X_flag, .selects R_X y_X_flag y_X_flag, cw_X_flag, .methodLink R_L 44 y_X_manager, .instanceMethod y_X_manager, .selects R_X y_X_manager y_X_manager, cw_X_manager, .methodLink R_X 63 y_N_mayComeBack, .instanceMethod y_N_mayComeBack, .selects R_N y_N_mayComeBack y_N_mayComeBack, cw_N_mayComeBack, .methodLink R_N 107 y_N_delay, .instanceMethod y_N_delay, .selects R_N y_N_delay y_N_delay, cw_N_delay, .constantLong R_N 111 100, .constantLong R_N 113 10, .methodLink R_L 49 y_X_shot, .instanceMethod y_X_shot, .selects R_X y_X_shot y_X_shot, cw_X_shot, .methodLink R_L 53 y_X_listen, .instanceMethod y_X_listen, .selects R_X y_X_listen y_X_listen, cw_X_listen, .methodLink R_L 57 y_X_two, .instanceMethod y_X_two, .selects R_X y_X_two y_X_two, cw_X_two, .methodLink R_X 73 Lib.Math.min.name, .methodLink R_X 79 Lib.Math.max.name, .methodLink R_X 82 y_N_undergoBoth, .instanceMethod y_N_undergoBoth, .selects R_N y_N_undergoBoth y_N_undergoBoth, cw_N_undergoBoth, .methodLink R_N 28 y_N_undergo, .methodLink R_L 62 y_X_suspended, .instanceMethod y_X_suspended, .selects R_X y_X_suspended y_X_suspended, cw_X_suspended]
def BIG_4 : List Cond := [.classLink R_L 10 R_M, .instantiable R_M 17, .methodLink R_L 12 y_M_init, .instanceMethod y_M_init, cw_M_init, .methodLink R_M 1 objectInit, .fieldLink R_M 54 "CanErrorsModel" "code" "I", .fieldLink R_M 58 "CanErrorsModel" "nodes" "I", .fieldLink R_M 7 "CanErrorsModel" "sends" "[I", .fieldLink R_M 13 "CanErrorsModel" "takes" "[I", .fieldLink R_M 16 "CanErrorsModel" "off" "[Z", .fieldLink R_M 20 "CanErrorsModel" "flag" "[I", .fieldLink R_M 23 "CanErrorsModel" "wait" "[I", .fieldLink R_M 26 "CanErrorsModel" "sender" "[Z", .fieldLink R_M 29 "CanErrorsModel" "single" "[Z", .fieldLink R_M 32 "CanErrorsModel" "given" "[I", .fieldLink R_M 35 "CanErrorsModel" "alone" "[Z", .fieldLink R_M 38 "CanErrorsModel" "asked" "[J", .fieldLink R_M 42 "CanErrorsModel" "let" "[Z", .fieldLink R_M 45 "CanErrorsModel" "rows" "[I", .fieldLink R_M 48 "CanErrorsModel" "inRow" "[I", .fieldLink R_M 51 "CanErrorsModel" "fine" "[I", .fieldLink R_M 82 "CanErrorsModel" "latest" "J", .lays R_M "CanErrorsModel" "code" "I", .lays R_M "CanErrorsModel" "nodes" "I", .laysFinal R_M "CanErrorsModel" "sends" "[I", .laysFinal R_M "CanErrorsModel" "takes" "[I", .laysFinal R_M "CanErrorsModel" "off" "[Z", .laysFinal R_M "CanErrorsModel" "flag" "[I", .laysFinal R_M "CanErrorsModel" "wait" "[I", .laysFinal R_M "CanErrorsModel" "sender" "[Z", .laysFinal R_M "CanErrorsModel" "single" "[Z", .laysFinal R_M "CanErrorsModel" "given" "[I", .laysFinal R_M "CanErrorsModel" "alone" "[Z", .laysFinal R_M "CanErrorsModel" "asked" "[J", .laysFinal R_M "CanErrorsModel" "let" "[Z", .laysFinal R_M "CanErrorsModel" "rows" "[I", .laysFinal R_M "CanErrorsModel" "inRow" "[I", .laysFinal R_M "CanErrorsModel" "fine" "[I", .lays R_M "CanErrorsModel" "latest" "J", .arrayClass .int, .arrayClass .boolean, .arrayClass .long, .methodLink R_L 17 y_M_node, .instanceMethod y_M_node, .selects R_M y_M_node y_M_node, cw_M_node, .constantLong R_M 61 (-1)]
def BIG_5 : List Cond := [.methodLink R_L 22 y_M_event, .instanceMethod y_M_event, .selects R_M y_M_event y_M_event, cw_M_event, .methodLink R_M 75 y_M_none, .instanceMethod y_M_none, cw_M_none, .methodLink R_M 78 y_M_happens, .instanceMethod y_M_happens, cw_M_happens, .methodLink R_M 67 y_M_more, .instanceMethod y_M_more, cw_M_more, .methodLink R_M 63 y_M_is, .instanceMethod y_M_is, cw_M_is, .methodLink R_M 71 y_M_error, .static y_M_error, cw_M_error, .methodLink R_L 27 y_M_counter, .instanceMethod y_M_counter, .selects R_M y_M_counter y_M_counter, cw_M_counter, .methodLink R_L 32 y_M_state, .instanceMethod y_M_state, .selects R_M y_M_state y_M_state, cw_M_state, .methodLink R_L 37 y_M_recover, .instanceMethod y_M_recover, .selects R_M y_M_recover y_M_recover, cw_M_recover, .methodLink R_L 41 y_M_flag, .instanceMethod y_M_flag, .selects R_M y_M_flag y_M_flag, cw_M_flag, .methodLink R_L 48 y_M_manager, .instanceMethod y_M_manager, .selects R_M y_M_manager y_M_manager, cw_M_manager, .constantLong R_M 86 100, .constantLong R_M 88 10, .methodLink R_L 52 y_M_shot, .instanceMethod y_M_shot, .selects R_M y_M_shot y_M_shot, cw_M_shot, .methodLink R_L 56 y_M_listen, .instanceMethod y_M_listen, .selects R_M y_M_listen y_M_listen]
def BIG_6 : List Cond := [cw_M_listen, .methodLink R_L 61 y_M_two, .instanceMethod y_M_two, .selects R_M y_M_two y_M_two, cw_M_two, .methodLink R_L 65 y_M_suspended, .instanceMethod y_M_suspended, .selects R_M y_M_suspended y_M_suspended, cw_M_suspended, .constantLong R_L 42 4294967295]
def BIG : List Cond := BIG_0 ++ (BIG_1 ++ (BIG_2 ++ (BIG_3 ++ (BIG_4 ++ (BIG_5 ++ (BIG_6))))))
theorem goodr {big : List Cond} (ws : List Cond) (ps : List Nat) (hp : ws = ps.filterMap (fun i => big[i]?)) (h : ws.all goodWord = true) : GoodIn big ws := by
  intro w hw
  have h1 := List.all_eq_true.mp h w hw
  rw [hp] at hw
  obtain ⟨i, -, hi⟩ := List.mem_filterMap.mp hw
  exact ⟨List.mem_of_getElem? hi, good_of_word h1⟩
theorem goodapp {big a b : List Cond} (ha : GoodIn big a) (hb : GoodIn big b) : GoodIn big (a ++ b) := fun w h => (List.mem_append.mp h).elim (ha w) (hb w)
set_option maxRecDepth 20000 in
theorem big_0 : GoodIn lw_tbl BIG_0 := goodr _ [0, 1, 2, 3, 4, 5, 6, 7, 8, 9, 10, 11, 12, 13, 14, 15, 16, 17, 18, 20, 21, 22, 23, 25, 27, 30, 31, 32, 33, 34, 35, 36, 37, 38, 39, 40, 41, 42, 43, 44, 45, 46, 47, 48, 49, 50, 51, 52] (by decide +kernel) (by decide +kernel)
set_option maxRecDepth 20000 in
theorem big_1 : GoodIn lw_tbl BIG_1 := goodr _ [53, 54, 55, 56, 57, 58, 59, 60, 61, 62, 63, 65, 67, 69, 71, 73, 75, 77, 79, 81, 83, 85, 87, 89, 91, 94, 95, 96, 97, 98, 100, 101, 102, 103, 104, 105, 106, 107, 108, 109, 110, 111, 112, 114, 115, 116, 117, 118] (by decide +kernel) (by decide +kernel)
set_option maxRecDepth 20000 in
theorem big_2 : GoodIn lw_tbl BIG_2 := goodr _ [119, 120, 121, 122, 123, 124, 125, 126, 127, 128, 129, 130, 131, 132, 133, 134, 135, 136, 137, 138, 139, 140, 141, 142, 143, 144, 146, 147, 148, 149, 150, 151, 152, 153, 154, 155, 156, 157, 158, 159, 160, 161, 162, 163, 164, 165, 166, 167] (by decide +kernel) (by decide +kernel)
set_option maxRecDepth 20000 in
theorem big_3 : GoodIn lw_tbl BIG_3 := goodr _ [168, 169, 170, 171, 172, 173, 174, 175, 176, 177, 178, 179, 180, 181, 182, 183, 184, 185, 186, 187, 188, 189, 190, 191, 192, 193, 194, 195, 196, 197, 198, 199, 200, 201, 202, 203, 204, 205, 206, 207, 208, 209, 210, 211, 212, 213, 214, 215] (by decide +kernel) (by decide +kernel)
set_option maxRecDepth 20000 in
theorem big_4 : GoodIn lw_tbl BIG_4 := goodr _ [216, 217, 218, 219, 220, 221, 222, 223, 224, 225, 226, 227, 228, 229, 230, 231, 232, 233, 234, 235, 236, 237, 238, 239, 241, 243, 245, 247, 249, 251, 253, 255, 257, 259, 261, 263, 265, 267, 269, 271, 274, 275, 276, 277, 278, 279, 280, 281] (by decide +kernel) (by decide +kernel)
set_option maxRecDepth 20000 in
theorem big_5 : GoodIn lw_tbl BIG_5 := goodr _ [282, 283, 284, 285, 286, 288, 289, 290, 292, 293, 294, 296, 297, 298, 300, 301, 302, 303, 304, 305, 306, 307, 308, 309, 310, 311, 312, 313, 314, 315, 316, 317, 318, 319, 320, 321, 322, 323, 324, 325, 326, 327, 328, 329, 330, 331, 332, 333] (by decide +kernel) (by decide +kernel)
set_option maxRecDepth 20000 in
theorem big_6 : GoodIn lw_tbl BIG_6 := goodr _ [334, 335, 336, 337, 338, 339, 340, 341, 342, 343] (by decide +kernel) (by decide +kernel)
theorem big_tbl : GoodIn lw_tbl BIG := (goodapp big_0 (goodapp big_1 (goodapp big_2 (goodapp big_3 (goodapp big_4 (goodapp big_5 big_6))))))
theorem inb_0 {w : Cond} (h : w ∈ BIG_0) : w ∈ BIG := (List.mem_append_left _ h)
theorem inb_1 {w : Cond} (h : w ∈ BIG_1) : w ∈ BIG := (List.mem_append_right _ (List.mem_append_left _ h))
theorem inb_2 {w : Cond} (h : w ∈ BIG_2) : w ∈ BIG := (List.mem_append_right _ (List.mem_append_right _ (List.mem_append_left _ h)))
theorem inb_3 {w : Cond} (h : w ∈ BIG_3) : w ∈ BIG := (List.mem_append_right _ (List.mem_append_right _ (List.mem_append_right _ (List.mem_append_left _ h))))
theorem inb_4 {w : Cond} (h : w ∈ BIG_4) : w ∈ BIG := (List.mem_append_right _ (List.mem_append_right _ (List.mem_append_right _ (List.mem_append_right _ (List.mem_append_left _ h)))))
theorem inb_5 {w : Cond} (h : w ∈ BIG_5) : w ∈ BIG := (List.mem_append_right _ (List.mem_append_right _ (List.mem_append_right _ (List.mem_append_right _ (List.mem_append_right _ (List.mem_append_left _ h))))))
theorem inb_6 {w : Cond} (h : w ∈ BIG_6) : w ∈ BIG := (List.mem_append_right _ (List.mem_append_right _ (List.mem_append_right _ (List.mem_append_right _ (List.mem_append_right _ (List.mem_append_right _ h))))))
theorem sel_X_find : Cond.selects R_X y_X_find y_X_find ∈ BIG := inb_0 (List.mem_of_getElem? (i := 0) rfl)
theorem sel_M_none : Cond.selects R_M y_M_none y_M_none ∈ BIG := inb_0 (List.mem_of_getElem? (i := 1) rfl)
theorem sel_M_happens : Cond.selects R_M y_M_happens y_M_happens ∈ BIG := inb_0 (List.mem_of_getElem? (i := 2) rfl)
theorem sel_M_more : Cond.selects R_M y_M_more y_M_more ∈ BIG := inb_0 (List.mem_of_getElem? (i := 3) rfl)
theorem sel_M_is : Cond.selects R_M y_M_is y_M_is ∈ BIG := inb_0 (List.mem_of_getElem? (i := 4) rfl)
theorem in_L : Cond.initialized R_L ∈ BIG := inb_0 (List.mem_of_getElem? (i := 5) rfl)
theorem in_X : Cond.initialized R_X ∈ BIG := inb_0 (List.mem_of_getElem? (i := 6) rfl)
theorem in_M : Cond.initialized R_M ∈ BIG := inb_0 (List.mem_of_getElem? (i := 7) rfl)
theorem in_N : Cond.initialized R_N ∈ BIG := inb_0 (List.mem_of_getElem? (i := 8) rfl)
theorem in_math : Cond.initialized "java/lang/Math" ∈ BIG := inb_0 (List.mem_of_getElem? (i := 9) rfl)
theorem cl_L_7 : Cond.classLink R_L 7 R_X ∈ BIG := inb_0 (List.mem_of_getElem? (i := 10) rfl)
theorem inst_X : Cond.instantiable R_X 3 ∈ BIG := inb_0 (List.mem_of_getElem? (i := 11) rfl)
theorem ml_L_9 : Cond.methodLink R_L 9 y_X_init ∈ BIG := inb_0 (List.mem_of_getElem? (i := 12) rfl)
theorem im_X_init : Cond.instanceMethod y_X_init ∈ BIG := inb_0 (List.mem_of_getElem? (i := 13) rfl)
theorem co_X_init : cw_X_init ∈ BIG := inb_0 (List.mem_of_getElem? (i := 14) rfl)
theorem ml_X_1 : Cond.methodLink R_X 1 objectInit ∈ BIG := inb_0 (List.mem_of_getElem? (i := 15) rfl)
theorem im_obj : Cond.instanceMethod objectInit ∈ BIG := inb_0 (List.mem_of_getElem? (i := 16) rfl)
theorem co_obj : Cond.code objectInit ⟨#[0xb1]⟩ 1 none ∈ BIG := inb_0 (List.mem_of_getElem? (i := 17) rfl)
theorem cl_X_9 : Cond.classLink R_X 9 R_N ∈ BIG := inb_0 (List.mem_of_getElem? (i := 18) rfl)
theorem fl_X_11 : Cond.fieldLink R_X 11 "CanErrors" "nodes" "[LCanErrors$Node;" ∈ BIG := inb_0 (List.mem_of_getElem? (i := 19) rfl)
theorem fl_X_15 : Cond.fieldLink R_X 15 "CanErrors" "nodeCount" "I" ∈ BIG := inb_0 (List.mem_of_getElem? (i := 20) rfl)
theorem fl_X_19 : Cond.fieldLink R_X 19 "CanErrors" "latestTime" "J" ∈ BIG := inb_0 (List.mem_of_getElem? (i := 21) rfl)
theorem ml_L_13 : Cond.methodLink R_L 13 y_X_node ∈ BIG := inb_0 (List.mem_of_getElem? (i := 25) rfl)
theorem im_X_node : Cond.instanceMethod y_X_node ∈ BIG := inb_0 (List.mem_of_getElem? (i := 26) rfl)
theorem sel_X_node : Cond.selects R_X y_X_node y_X_node ∈ BIG := inb_0 (List.mem_of_getElem? (i := 27) rfl)
theorem co_X_node : cw_X_node ∈ BIG := inb_0 (List.mem_of_getElem? (i := 28) rfl)
theorem inst_N : Cond.instantiable R_N 15 ∈ BIG := inb_0 (List.mem_of_getElem? (i := 29) rfl)
theorem ml_X_23 : Cond.methodLink R_X 23 y_N_init ∈ BIG := inb_0 (List.mem_of_getElem? (i := 30) rfl)
theorem im_N_init : Cond.instanceMethod y_N_init ∈ BIG := inb_0 (List.mem_of_getElem? (i := 31) rfl)
theorem co_N_init : cw_N_init ∈ BIG := inb_0 (List.mem_of_getElem? (i := 32) rfl)
theorem ml_N_3 : Cond.methodLink R_N 3 objectInit ∈ BIG := inb_0 (List.mem_of_getElem? (i := 33) rfl)
theorem fl_N_15 : Cond.fieldLink R_N 15 "CanErrors$Node" "sendingErrors" "I" ∈ BIG := inb_0 (List.mem_of_getElem? (i := 34) rfl)
theorem fl_X_47 : Cond.fieldLink R_X 47 "CanErrors$Node" "sendingErrors" "I" ∈ BIG := inb_0 (List.mem_of_getElem? (i := 35) rfl)
theorem fl_N_19 : Cond.fieldLink R_N 19 "CanErrors$Node" "receivingErrors" "I" ∈ BIG := inb_0 (List.mem_of_getElem? (i := 36) rfl)
theorem fl_X_50 : Cond.fieldLink R_X 50 "CanErrors$Node" "receivingErrors" "I" ∈ BIG := inb_0 (List.mem_of_getElem? (i := 37) rfl)
theorem fl_N_9 : Cond.fieldLink R_N 9 "CanErrors$Node" "off" "Z" ∈ BIG := inb_0 (List.mem_of_getElem? (i := 38) rfl)
theorem fl_X_32 : Cond.fieldLink R_X 32 "CanErrors$Node" "off" "Z" ∈ BIG := inb_0 (List.mem_of_getElem? (i := 39) rfl)
theorem fl_X_60 : Cond.fieldLink R_X 60 "CanErrors$Node" "flagBits" "I" ∈ BIG := inb_0 (List.mem_of_getElem? (i := 40) rfl)
theorem fl_N_91 : Cond.fieldLink R_N 91 "CanErrors$Node" "flagBits" "I" ∈ BIG := inb_0 (List.mem_of_getElem? (i := 41) rfl)
theorem fl_N_56 : Cond.fieldLink R_N 56 "CanErrors$Node" "waitBits" "I" ∈ BIG := inb_0 (List.mem_of_getElem? (i := 42) rfl)
theorem fl_X_86 : Cond.fieldLink R_X 86 "CanErrors$Node" "waitBits" "I" ∈ BIG := inb_0 (List.mem_of_getElem? (i := 43) rfl)
theorem fl_N_40 : Cond.fieldLink R_N 40 "CanErrors$Node" "single" "Z" ∈ BIG := inb_0 (List.mem_of_getElem? (i := 44) rfl)
theorem fl_X_67 : Cond.fieldLink R_X 67 "CanErrors$Node" "single" "Z" ∈ BIG := inb_0 (List.mem_of_getElem? (i := 45) rfl)
theorem fl_N_43 : Cond.fieldLink R_N 43 "CanErrors$Node" "framesGivenUp" "I" ∈ BIG := inb_0 (List.mem_of_getElem? (i := 46) rfl)
theorem fl_X_70 : Cond.fieldLink R_X 70 "CanErrors$Node" "framesGivenUp" "I" ∈ BIG := inb_0 (List.mem_of_getElem? (i := 47) rfl)
theorem fl_N_25 : Cond.fieldLink R_N 25 "CanErrors$Node" "listening" "Z" ∈ BIG := inb_1 (List.mem_of_getElem? (i := 0) rfl)
theorem fl_X_36 : Cond.fieldLink R_X 36 "CanErrors$Node" "listening" "Z" ∈ BIG := inb_1 (List.mem_of_getElem? (i := 1) rfl)
theorem fl_N_22 : Cond.fieldLink R_N 22 "CanErrors$Node" "wasSender" "Z" ∈ BIG := inb_1 (List.mem_of_getElem? (i := 2) rfl)
theorem fl_N_62 : Cond.fieldLink R_N 62 "CanErrors$Node" "goodFrames" "I" ∈ BIG := inb_1 (List.mem_of_getElem? (i := 3) rfl)
theorem fl_N_71 : Cond.fieldLink R_N 71 "CanErrors$Node" "offsInRow" "I" ∈ BIG := inb_1 (List.mem_of_getElem? (i := 4) rfl)
theorem fl_N_94 : Cond.fieldLink R_N 94 "CanErrors$Node" "asked" "Z" ∈ BIG := inb_1 (List.mem_of_getElem? (i := 5) rfl)
theorem fl_N_103 : Cond.fieldLink R_N 103 "CanErrors$Node" "firstAsked" "J" ∈ BIG := inb_1 (List.mem_of_getElem? (i := 6) rfl)
theorem fl_X_53 : Cond.fieldLink R_X 53 "CanErrors$Node" "let" "Z" ∈ BIG := inb_1 (List.mem_of_getElem? (i := 7) rfl)
theorem fl_N_97 : Cond.fieldLink R_N 97 "CanErrors$Node" "let" "Z" ∈ BIG := inb_1 (List.mem_of_getElem? (i := 8) rfl)
theorem fl_N_100 : Cond.fieldLink R_N 100 "CanErrors$Node" "rowsSeen" "I" ∈ BIG := inb_1 (List.mem_of_getElem? (i := 9) rfl)
theorem ml_L_18 : Cond.methodLink R_L 18 y_X_event ∈ BIG := inb_1 (List.mem_of_getElem? (i := 25) rfl)
theorem im_X_event : Cond.instanceMethod y_X_event ∈ BIG := inb_1 (List.mem_of_getElem? (i := 26) rfl)
theorem sel_X_event : Cond.selects R_X y_X_event y_X_event ∈ BIG := inb_1 (List.mem_of_getElem? (i := 27) rfl)
theorem co_X_event : cw_X_event ∈ BIG := inb_1 (List.mem_of_getElem? (i := 28) rfl)
theorem ml_X_24 : Cond.methodLink R_X 24 y_X_find ∈ BIG := inb_1 (List.mem_of_getElem? (i := 29) rfl)
theorem im_X_find : Cond.instanceMethod y_X_find ∈ BIG := inb_1 (List.mem_of_getElem? (i := 30) rfl)
theorem co_X_find : cw_X_find ∈ BIG := inb_1 (List.mem_of_getElem? (i := 31) rfl)
theorem ml_X_28 : Cond.methodLink R_X 28 y_X_isKind ∈ BIG := inb_1 (List.mem_of_getElem? (i := 32) rfl)
theorem sta_X_isKind : Cond.static y_X_isKind ∈ BIG := inb_1 (List.mem_of_getElem? (i := 33) rfl)
theorem co_X_isKind : cw_X_isKind ∈ BIG := inb_1 (List.mem_of_getElem? (i := 34) rfl)
theorem ml_X_39 : Cond.methodLink R_X 39 y_N_undergo ∈ BIG := inb_1 (List.mem_of_getElem? (i := 35) rfl)
theorem im_N_undergo : Cond.instanceMethod y_N_undergo ∈ BIG := inb_1 (List.mem_of_getElem? (i := 36) rfl)
theorem sel_N_undergo : Cond.selects R_N y_N_undergo y_N_undergo ∈ BIG := inb_1 (List.mem_of_getElem? (i := 37) rfl)
theorem co_N_undergo : cw_N_undergo ∈ BIG := inb_1 (List.mem_of_getElem? (i := 38) rfl)
theorem ml_N_36 : Cond.methodLink R_N 36 y_N_countGoodFrames ∈ BIG := inb_1 (List.mem_of_getElem? (i := 39) rfl)
theorem im_N_countGoodFrames : Cond.instanceMethod y_N_countGoodFrames ∈ BIG := inb_1 (List.mem_of_getElem? (i := 40) rfl)
theorem sel_N_countGoodFrames : Cond.selects R_N y_N_countGoodFrames y_N_countGoodFrames ∈ BIG := inb_1 (List.mem_of_getElem? (i := 41) rfl)
theorem co_N_countGoodFrames : cw_N_countGoodFrames ∈ BIG := inb_1 (List.mem_of_getElem? (i := 42) rfl)
theorem sta_X_isError : Cond.static y_X_isError ∈ BIG := inb_1 (List.mem_of_getElem? (i := 43) rfl)
theorem co_X_isError : cw_X_isError ∈ BIG := inb_1 (List.mem_of_getElem? (i := 44) rfl)
theorem ml_X_89 : Cond.methodLink R_X 89 y_X_isAboutFlag ∈ BIG := inb_1 (List.mem_of_getElem? (i := 45) rfl)
theorem sta_X_isAboutFlag : Cond.static y_X_isAboutFlag ∈ BIG := inb_1 (List.mem_of_getElem? (i := 46) rfl)
theorem co_X_isAboutFlag : cw_X_isAboutFlag ∈ BIG := inb_1 (List.mem_of_getElem? (i := 47) rfl)
theorem ml_N_65 : Cond.methodLink R_N 65 Lib.Math.min.name ∈ BIG := inb_2 (List.mem_of_getElem? (i := 0) rfl)
theorem st_math_min : Cond.static Lib.Math.min.name ∈ BIG := inb_2 (List.mem_of_getElem? (i := 1) rfl)
theorem co_math_min : Cond.code Lib.Math.min.name Lib.Math.min.code 2 (some .int) ∈ BIG := inb_2 (List.mem_of_getElem? (i := 2) rfl)
theorem ml_N_46 : Cond.methodLink R_N 46 y_N_countErrors ∈ BIG := inb_2 (List.mem_of_getElem? (i := 3) rfl)
theorem im_N_countErrors : Cond.instanceMethod y_N_countErrors ∈ BIG := inb_2 (List.mem_of_getElem? (i := 4) rfl)
theorem sel_N_countErrors : Cond.selects R_N y_N_countErrors y_N_countErrors ∈ BIG := inb_2 (List.mem_of_getElem? (i := 5) rfl)
theorem co_N_countErrors : cw_N_countErrors ∈ BIG := inb_2 (List.mem_of_getElem? (i := 6) rfl)
theorem ml_N_74 : Cond.methodLink R_N 74 y_N_lowerCounter ∈ BIG := inb_2 (List.mem_of_getElem? (i := 7) rfl)
theorem im_N_lowerCounter : Cond.instanceMethod y_N_lowerCounter ∈ BIG := inb_2 (List.mem_of_getElem? (i := 8) rfl)
theorem sel_N_lowerCounter : Cond.selects R_N y_N_lowerCounter y_N_lowerCounter ∈ BIG := inb_2 (List.mem_of_getElem? (i := 9) rfl)
theorem co_N_lowerCounter : cw_N_lowerCounter ∈ BIG := inb_2 (List.mem_of_getElem? (i := 10) rfl)
theorem ml_N_85 : Cond.methodLink R_N 85 Lib.Math.max.name ∈ BIG := inb_2 (List.mem_of_getElem? (i := 11) rfl)
theorem st_math_max : Cond.static Lib.Math.max.name ∈ BIG := inb_2 (List.mem_of_getElem? (i := 12) rfl)
theorem co_math_max : Cond.code Lib.Math.max.name Lib.Math.max.code 2 (some .int) ∈ BIG := inb_2 (List.mem_of_getElem? (i := 13) rfl)
theorem ml_N_78 : Cond.methodLink R_N 78 y_N_senderPenalty ∈ BIG := inb_2 (List.mem_of_getElem? (i := 14) rfl)
theorem im_N_senderPenalty : Cond.instanceMethod y_N_senderPenalty ∈ BIG := inb_2 (List.mem_of_getElem? (i := 15) rfl)
theorem sel_N_senderPenalty : Cond.selects R_N y_N_senderPenalty y_N_senderPenalty ∈ BIG := inb_2 (List.mem_of_getElem? (i := 16) rfl)
theorem co_N_senderPenalty : cw_N_senderPenalty ∈ BIG := inb_2 (List.mem_of_getElem? (i := 17) rfl)
theorem ml_N_52 : Cond.methodLink R_N 52 y_N_condition ∈ BIG := inb_2 (List.mem_of_getElem? (i := 18) rfl)
theorem im_N_condition : Cond.instanceMethod y_N_condition ∈ BIG := inb_2 (List.mem_of_getElem? (i := 19) rfl)
theorem sel_N_condition : Cond.selects R_N y_N_condition y_N_condition ∈ BIG := inb_2 (List.mem_of_getElem? (i := 20) rfl)
theorem co_N_condition : cw_N_condition ∈ BIG := inb_2 (List.mem_of_getElem? (i := 21) rfl)
theorem ml_N_82 : Cond.methodLink R_N 82 y_N_receiverPenalty ∈ BIG := inb_2 (List.mem_of_getElem? (i := 22) rfl)
theorem im_N_receiverPenalty : Cond.instanceMethod y_N_receiverPenalty ∈ BIG := inb_2 (List.mem_of_getElem? (i := 23) rfl)
theorem sel_N_receiverPenalty : Cond.selects R_N y_N_receiverPenalty y_N_receiverPenalty ∈ BIG := inb_2 (List.mem_of_getElem? (i := 24) rfl)
theorem co_N_receiverPenalty : cw_N_receiverPenalty ∈ BIG := inb_2 (List.mem_of_getElem? (i := 25) rfl)
theorem ml_N_49 : Cond.methodLink R_N 49 y_N_changeFlag ∈ BIG := inb_2 (List.mem_of_getElem? (i := 26) rfl)
theorem im_N_changeFlag : Cond.instanceMethod y_N_changeFlag ∈ BIG := inb_2 (List.mem_of_getElem? (i := 27) rfl)
theorem sel_N_changeFlag : Cond.selects R_N y_N_changeFlag y_N_changeFlag ∈ BIG := inb_2 (List.mem_of_getElem? (i := 28) rfl)
theorem co_N_changeFlag : cw_N_changeFlag ∈ BIG := inb_2 (List.mem_of_getElem? (i := 29) rfl)
theorem ml_N_59 : Cond.methodLink R_N 59 y_N_goOff ∈ BIG := inb_2 (List.mem_of_getElem? (i := 30) rfl)
theorem im_N_goOff : Cond.instanceMethod y_N_goOff ∈ BIG := inb_2 (List.mem_of_getElem? (i := 31) rfl)
theorem sel_N_goOff : Cond.selects R_N y_N_goOff y_N_goOff ∈ BIG := inb_2 (List.mem_of_getElem? (i := 32) rfl)
theorem co_N_goOff : cw_N_goOff ∈ BIG := inb_2 (List.mem_of_getElem? (i := 33) rfl)
theorem ml_X_43 : Cond.methodLink R_X 43 y_N_condition ∈ BIG := inb_2 (List.mem_of_getElem? (i := 34) rfl)
theorem ml_L_23 : Cond.methodLink R_L 23 y_X_counter ∈ BIG := inb_2 (List.mem_of_getElem? (i := 35) rfl)
theorem im_X_counter : Cond.instanceMethod y_X_counter ∈ BIG := inb_2 (List.mem_of_getElem? (i := 36) rfl)
theorem sel_X_counter : Cond.selects R_X y_X_counter y_X_counter ∈ BIG := inb_2 (List.mem_of_getElem? (i := 37) rfl)
theorem co_X_counter : cw_X_counter ∈ BIG := inb_2 (List.mem_of_getElem? (i := 38) rfl)
theorem ml_L_28 : Cond.methodLink R_L 28 y_X_state ∈ BIG := inb_2 (List.mem_of_getElem? (i := 39) rfl)
theorem im_X_state : Cond.instanceMethod y_X_state ∈ BIG := inb_2 (List.mem_of_getElem? (i := 40) rfl)
theorem sel_X_state : Cond.selects R_X y_X_state y_X_state ∈ BIG := inb_2 (List.mem_of_getElem? (i := 41) rfl)
theorem co_X_state : cw_X_state ∈ BIG := inb_2 (List.mem_of_getElem? (i := 42) rfl)
theorem ml_L_33 : Cond.methodLink R_L 33 y_X_recover ∈ BIG := inb_2 (List.mem_of_getElem? (i := 43) rfl)
theorem im_X_recover : Cond.instanceMethod y_X_recover ∈ BIG := inb_2 (List.mem_of_getElem? (i := 44) rfl)
theorem sel_X_recover : Cond.selects R_X y_X_recover y_X_recover ∈ BIG := inb_2 (List.mem_of_getElem? (i := 45) rfl)
theorem co_X_recover : cw_X_recover ∈ BIG := inb_2 (List.mem_of_getElem? (i := 46) rfl)
theorem ml_X_56 : Cond.methodLink R_X 56 y_N_countRows ∈ BIG := inb_2 (List.mem_of_getElem? (i := 47) rfl)
theorem im_N_countRows : Cond.instanceMethod y_N_countRows ∈ BIG := inb_3 (List.mem_of_getElem? (i := 0) rfl)
theorem sel_N_countRows : Cond.selects R_N y_N_countRows y_N_countRows ∈ BIG := inb_3 (List.mem_of_getElem? (i := 1) rfl)
theorem co_N_countRows : cw_N_countRows ∈ BIG := inb_3 (List.mem_of_getElem? (i := 2) rfl)
theorem ml_N_115 : Cond.methodLink R_N 115 y_N_comeBack ∈ BIG := inb_3 (List.mem_of_getElem? (i := 3) rfl)
theorem im_N_comeBack : Cond.instanceMethod y_N_comeBack ∈ BIG := inb_3 (List.mem_of_getElem? (i := 4) rfl)
theorem sel_N_comeBack : Cond.selects R_N y_N_comeBack y_N_comeBack ∈ BIG := inb_3 (List.mem_of_getElem? (i := 5) rfl)
theorem co_N_comeBack : cw_N_comeBack ∈ BIG := inb_3 (List.mem_of_getElem? (i := 6) rfl)
theorem ml_L_38 : Cond.methodLink R_L 38 y_X_flag ∈ BIG := inb_3 (List.mem_of_getElem? (i := 7) rfl)
theorem im_X_flag : Cond.instanceMethod y_X_flag ∈ BIG := inb_3 (List.mem_of_getElem? (i := 8) rfl)
theorem sel_X_flag : Cond.selects R_X y_X_flag y_X_flag ∈ BIG := inb_3 (List.mem_of_getElem? (i := 9) rfl)
theorem co_X_flag : cw_X_flag ∈ BIG := inb_3 (List.mem_of_getElem? (i := 10) rfl)
theorem ml_L_44 : Cond.methodLink R_L 44 y_X_manager ∈ BIG := inb_3 (List.mem_of_getElem? (i := 11) rfl)
theorem im_X_manager : Cond.instanceMethod y_X_manager ∈ BIG := inb_3 (List.mem_of_getElem? (i := 12) rfl)
theorem sel_X_manager : Cond.selects R_X y_X_manager y_X_manager ∈ BIG := inb_3 (List.mem_of_getElem? (i := 13) rfl)
theorem co_X_manager : cw_X_manager ∈ BIG := inb_3 (List.mem_of_getElem? (i := 14) rfl)
theorem ml_X_63 : Cond.methodLink R_X 63 y_N_mayComeBack ∈ BIG := inb_3 (List.mem_of_getElem? (i := 15) rfl)
theorem im_N_mayComeBack : Cond.instanceMethod y_N_mayComeBack ∈ BIG := inb_3 (List.mem_of_getElem? (i := 16) rfl)
theorem sel_N_mayComeBack : Cond.selects R_N y_N_mayComeBack y_N_mayComeBack ∈ BIG := inb_3 (List.mem_of_getElem? (i := 17) rfl)
theorem co_N_mayComeBack : cw_N_mayComeBack ∈ BIG := inb_3 (List.mem_of_getElem? (i := 18) rfl)
theorem ml_N_107 : Cond.methodLink R_N 107 y_N_delay ∈ BIG := inb_3 (List.mem_of_getElem? (i := 19) rfl)
theorem im_N_delay : Cond.instanceMethod y_N_delay ∈ BIG := inb_3 (List.mem_of_getElem? (i := 20) rfl)
theorem sel_N_delay : Cond.selects R_N y_N_delay y_N_delay ∈ BIG := inb_3 (List.mem_of_getElem? (i := 21) rfl)
theorem co_N_delay : cw_N_delay ∈ BIG := inb_3 (List.mem_of_getElem? (i := 22) rfl)
theorem k_N_111 : Cond.constantLong R_N 111 100 ∈ BIG := inb_3 (List.mem_of_getElem? (i := 23) rfl)
theorem k_N_113 : Cond.constantLong R_N 113 10 ∈ BIG := inb_3 (List.mem_of_getElem? (i := 24) rfl)
theorem ml_L_49 : Cond.methodLink R_L 49 y_X_shot ∈ BIG := inb_3 (List.mem_of_getElem? (i := 25) rfl)
theorem im_X_shot : Cond.instanceMethod y_X_shot ∈ BIG := inb_3 (List.mem_of_getElem? (i := 26) rfl)
theorem sel_X_shot : Cond.selects R_X y_X_shot y_X_shot ∈ BIG := inb_3 (List.mem_of_getElem? (i := 27) rfl)
theorem co_X_shot : cw_X_shot ∈ BIG := inb_3 (List.mem_of_getElem? (i := 28) rfl)
theorem ml_L_53 : Cond.methodLink R_L 53 y_X_listen ∈ BIG := inb_3 (List.mem_of_getElem? (i := 29) rfl)
theorem im_X_listen : Cond.instanceMethod y_X_listen ∈ BIG := inb_3 (List.mem_of_getElem? (i := 30) rfl)
theorem sel_X_listen : Cond.selects R_X y_X_listen y_X_listen ∈ BIG := inb_3 (List.mem_of_getElem? (i := 31) rfl)
theorem co_X_listen : cw_X_listen ∈ BIG := inb_3 (List.mem_of_getElem? (i := 32) rfl)
theorem ml_L_57 : Cond.methodLink R_L 57 y_X_two ∈ BIG := inb_3 (List.mem_of_getElem? (i := 33) rfl)
theorem im_X_two : Cond.instanceMethod y_X_two ∈ BIG := inb_3 (List.mem_of_getElem? (i := 34) rfl)
theorem sel_X_two : Cond.selects R_X y_X_two y_X_two ∈ BIG := inb_3 (List.mem_of_getElem? (i := 35) rfl)
theorem co_X_two : cw_X_two ∈ BIG := inb_3 (List.mem_of_getElem? (i := 36) rfl)
theorem ml_X_73 : Cond.methodLink R_X 73 Lib.Math.min.name ∈ BIG := inb_3 (List.mem_of_getElem? (i := 37) rfl)
theorem ml_X_79 : Cond.methodLink R_X 79 Lib.Math.max.name ∈ BIG := inb_3 (List.mem_of_getElem? (i := 38) rfl)
theorem ml_X_82 : Cond.methodLink R_X 82 y_N_undergoBoth ∈ BIG := inb_3 (List.mem_of_getElem? (i := 39) rfl)
theorem im_N_undergoBoth : Cond.instanceMethod y_N_undergoBoth ∈ BIG := inb_3 (List.mem_of_getElem? (i := 40) rfl)
theorem sel_N_undergoBoth : Cond.selects R_N y_N_undergoBoth y_N_undergoBoth ∈ BIG := inb_3 (List.mem_of_getElem? (i := 41) rfl)
theorem co_N_undergoBoth : cw_N_undergoBoth ∈ BIG := inb_3 (List.mem_of_getElem? (i := 42) rfl)
theorem ml_N_28 : Cond.methodLink R_N 28 y_N_undergo ∈ BIG := inb_3 (List.mem_of_getElem? (i := 43) rfl)
theorem ml_L_62 : Cond.methodLink R_L 62 y_X_suspended ∈ BIG := inb_3 (List.mem_of_getElem? (i := 44) rfl)
theorem im_X_suspended : Cond.instanceMethod y_X_suspended ∈ BIG := inb_3 (List.mem_of_getElem? (i := 45) rfl)
theorem sel_X_suspended : Cond.selects R_X y_X_suspended y_X_suspended ∈ BIG := inb_3 (List.mem_of_getElem? (i := 46) rfl)
theorem co_X_suspended : cw_X_suspended ∈ BIG := inb_3 (List.mem_of_getElem? (i := 47) rfl)
theorem cl_L_10 : Cond.classLink R_L 10 R_M ∈ BIG := inb_4 (List.mem_of_getElem? (i := 0) rfl)
theorem inst_M : Cond.instantiable R_M 17 ∈ BIG := inb_4 (List.mem_of_getElem? (i := 1) rfl)
theorem ml_L_12 : Cond.methodLink R_L 12 y_M_init ∈ BIG := inb_4 (List.mem_of_getElem? (i := 2) rfl)
theorem im_M_init : Cond.instanceMethod y_M_init ∈ BIG := inb_4 (List.mem_of_getElem? (i := 3) rfl)
theorem co_M_init : cw_M_init ∈ BIG := inb_4 (List.mem_of_getElem? (i := 4) rfl)
theorem ml_M_1 : Cond.methodLink R_M 1 objectInit ∈ BIG := inb_4 (List.mem_of_getElem? (i := 5) rfl)
theorem fl_M_54 : Cond.fieldLink R_M 54 "CanErrorsModel" "code" "I" ∈ BIG := inb_4 (List.mem_of_getElem? (i := 6) rfl)
theorem fl_M_58 : Cond.fieldLink R_M 58 "CanErrorsModel" "nodes" "I" ∈ BIG := inb_4 (List.mem_of_getElem? (i := 7) rfl)
theorem fl_M_7 : Cond.fieldLink R_M 7 "CanErrorsModel" "sends" "[I" ∈ BIG := inb_4 (List.mem_of_getElem? (i := 8) rfl)
theorem fl_M_13 : Cond.fieldLink R_M 13 "CanErrorsModel" "takes" "[I" ∈ BIG := inb_4 (List.mem_of_getElem? (i := 9) rfl)
theorem fl_M_16 : Cond.fieldLink R_M 16 "CanErrorsModel" "off" "[Z" ∈ BIG := inb_4 (List.mem_of_getElem? (i := 10) rfl)
theorem fl_M_20 : Cond.fieldLink R_M 20 "CanErrorsModel" "flag" "[I" ∈ BIG := inb_4 (List.mem_of_getElem? (i := 11) rfl)
theorem fl_M_23 : Cond.fieldLink R_M 23 "CanErrorsModel" "wait" "[I" ∈ BIG := inb_4 (List.mem_of_getElem? (i := 12) rfl)
theorem fl_M_26 : Cond.fieldLink R_M 26 "CanErrorsModel" "sender" "[Z" ∈ BIG := inb_4 (List.mem_of_getElem? (i := 13) rfl)
theorem fl_M_29 : Cond.fieldLink R_M 29 "CanErrorsModel" "single" "[Z" ∈ BIG := inb_4 (List.mem_of_getElem? (i := 14) rfl)
theorem fl_M_32 : Cond.fieldLink R_M 32 "CanErrorsModel" "given" "[I" ∈ BIG := inb_4 (List.mem_of_getElem? (i := 15) rfl)
theorem fl_M_35 : Cond.fieldLink R_M 35 "CanErrorsModel" "alone" "[Z" ∈ BIG := inb_4 (List.mem_of_getElem? (i := 16) rfl)
theorem fl_M_38 : Cond.fieldLink R_M 38 "CanErrorsModel" "asked" "[J" ∈ BIG := inb_4 (List.mem_of_getElem? (i := 17) rfl)
theorem fl_M_42 : Cond.fieldLink R_M 42 "CanErrorsModel" "let" "[Z" ∈ BIG := inb_4 (List.mem_of_getElem? (i := 18) rfl)
theorem fl_M_45 : Cond.fieldLink R_M 45 "CanErrorsModel" "rows" "[I" ∈ BIG := inb_4 (List.mem_of_getElem? (i := 19) rfl)
theorem fl_M_48 : Cond.fieldLink R_M 48 "CanErrorsModel" "inRow" "[I" ∈ BIG := inb_4 (List.mem_of_getElem? (i := 20) rfl)
theorem fl_M_51 : Cond.fieldLink R_M 51 "CanErrorsModel" "fine" "[I" ∈ BIG := inb_4 (List.mem_of_getElem? (i := 21) rfl)
theorem fl_M_82 : Cond.fieldLink R_M 82 "CanErrorsModel" "latest" "J" ∈ BIG := inb_4 (List.mem_of_getElem? (i := 22) rfl)
theorem ac_int : Cond.arrayClass .int ∈ BIG := inb_4 (List.mem_of_getElem? (i := 40) rfl)
theorem ac_boolean : Cond.arrayClass .boolean ∈ BIG := inb_4 (List.mem_of_getElem? (i := 41) rfl)
theorem ac_long : Cond.arrayClass .long ∈ BIG := inb_4 (List.mem_of_getElem? (i := 42) rfl)
theorem ml_L_17 : Cond.methodLink R_L 17 y_M_node ∈ BIG := inb_4 (List.mem_of_getElem? (i := 43) rfl)
theorem im_M_node : Cond.instanceMethod y_M_node ∈ BIG := inb_4 (List.mem_of_getElem? (i := 44) rfl)
theorem sel_M_node : Cond.selects R_M y_M_node y_M_node ∈ BIG := inb_4 (List.mem_of_getElem? (i := 45) rfl)
theorem co_M_node : cw_M_node ∈ BIG := inb_4 (List.mem_of_getElem? (i := 46) rfl)
theorem k_M_61 : Cond.constantLong R_M 61 (-1) ∈ BIG := inb_4 (List.mem_of_getElem? (i := 47) rfl)
theorem ml_L_22 : Cond.methodLink R_L 22 y_M_event ∈ BIG := inb_5 (List.mem_of_getElem? (i := 0) rfl)
theorem im_M_event : Cond.instanceMethod y_M_event ∈ BIG := inb_5 (List.mem_of_getElem? (i := 1) rfl)
theorem sel_M_event : Cond.selects R_M y_M_event y_M_event ∈ BIG := inb_5 (List.mem_of_getElem? (i := 2) rfl)
theorem co_M_event : cw_M_event ∈ BIG := inb_5 (List.mem_of_getElem? (i := 3) rfl)
theorem ml_M_75 : Cond.methodLink R_M 75 y_M_none ∈ BIG := inb_5 (List.mem_of_getElem? (i := 4) rfl)
theorem im_M_none : Cond.instanceMethod y_M_none ∈ BIG := inb_5 (List.mem_of_getElem? (i := 5) rfl)
theorem co_M_none : cw_M_none ∈ BIG := inb_5 (List.mem_of_getElem? (i := 6) rfl)
theorem ml_M_78 : Cond.methodLink R_M 78 y_M_happens ∈ BIG := inb_5 (List.mem_of_getElem? (i := 7) rfl)
theorem im_M_happens : Cond.instanceMethod y_M_happens ∈ BIG := inb_5 (List.mem_of_getElem? (i := 8) rfl)
theorem co_M_happens : cw_M_happens ∈ BIG := inb_5 (List.mem_of_getElem? (i := 9) rfl)
theorem ml_M_67 : Cond.methodLink R_M 67 y_M_more ∈ BIG := inb_5 (List.mem_of_getElem? (i := 10) rfl)
theorem im_M_more : Cond.instanceMethod y_M_more ∈ BIG := inb_5 (List.mem_of_getElem? (i := 11) rfl)
theorem co_M_more : cw_M_more ∈ BIG := inb_5 (List.mem_of_getElem? (i := 12) rfl)
theorem ml_M_63 : Cond.methodLink R_M 63 y_M_is ∈ BIG := inb_5 (List.mem_of_getElem? (i := 13) rfl)
theorem im_M_is : Cond.instanceMethod y_M_is ∈ BIG := inb_5 (List.mem_of_getElem? (i := 14) rfl)
theorem co_M_is : cw_M_is ∈ BIG := inb_5 (List.mem_of_getElem? (i := 15) rfl)
theorem ml_M_71 : Cond.methodLink R_M 71 y_M_error ∈ BIG := inb_5 (List.mem_of_getElem? (i := 16) rfl)
theorem sta_M_error : Cond.static y_M_error ∈ BIG := inb_5 (List.mem_of_getElem? (i := 17) rfl)
theorem co_M_error : cw_M_error ∈ BIG := inb_5 (List.mem_of_getElem? (i := 18) rfl)
theorem ml_L_27 : Cond.methodLink R_L 27 y_M_counter ∈ BIG := inb_5 (List.mem_of_getElem? (i := 19) rfl)
theorem im_M_counter : Cond.instanceMethod y_M_counter ∈ BIG := inb_5 (List.mem_of_getElem? (i := 20) rfl)
theorem sel_M_counter : Cond.selects R_M y_M_counter y_M_counter ∈ BIG := inb_5 (List.mem_of_getElem? (i := 21) rfl)
theorem co_M_counter : cw_M_counter ∈ BIG := inb_5 (List.mem_of_getElem? (i := 22) rfl)
theorem ml_L_32 : Cond.methodLink R_L 32 y_M_state ∈ BIG := inb_5 (List.mem_of_getElem? (i := 23) rfl)
theorem im_M_state : Cond.instanceMethod y_M_state ∈ BIG := inb_5 (List.mem_of_getElem? (i := 24) rfl)
theorem sel_M_state : Cond.selects R_M y_M_state y_M_state ∈ BIG := inb_5 (List.mem_of_getElem? (i := 25) rfl)
theorem co_M_state : cw_M_state ∈ BIG := inb_5 (List.mem_of_getElem? (i := 26) rfl)
theorem ml_L_37 : Cond.methodLink R_L 37 y_M_recover ∈ BIG := inb_5 (List.mem_of_getElem? (i := 27) rfl)
theorem im_M_recover : Cond.instanceMethod y_M_recover ∈ BIG := inb_5 (List.mem_of_getElem? (i := 28) rfl)
theorem sel_M_recover : Cond.selects R_M y_M_recover y_M_recover ∈ BIG := inb_5 (List.mem_of_getElem? (i := 29) rfl)
theorem co_M_recover : cw_M_recover ∈ BIG := inb_5 (List.mem_of_getElem? (i := 30) rfl)
theorem ml_L_41 : Cond.methodLink R_L 41 y_M_flag ∈ BIG := inb_5 (List.mem_of_getElem? (i := 31) rfl)
theorem im_M_flag : Cond.instanceMethod y_M_flag ∈ BIG := inb_5 (List.mem_of_getElem? (i := 32) rfl)
theorem sel_M_flag : Cond.selects R_M y_M_flag y_M_flag ∈ BIG := inb_5 (List.mem_of_getElem? (i := 33) rfl)
theorem co_M_flag : cw_M_flag ∈ BIG := inb_5 (List.mem_of_getElem? (i := 34) rfl)
theorem ml_L_48 : Cond.methodLink R_L 48 y_M_manager ∈ BIG := inb_5 (List.mem_of_getElem? (i := 35) rfl)
theorem im_M_manager : Cond.instanceMethod y_M_manager ∈ BIG := inb_5 (List.mem_of_getElem? (i := 36) rfl)
theorem sel_M_manager : Cond.selects R_M y_M_manager y_M_manager ∈ BIG := inb_5 (List.mem_of_getElem? (i := 37) rfl)
theorem co_M_manager : cw_M_manager ∈ BIG := inb_5 (List.mem_of_getElem? (i := 38) rfl)
theorem k_M_86 : Cond.constantLong R_M 86 100 ∈ BIG := inb_5 (List.mem_of_getElem? (i := 39) rfl)
theorem k_M_88 : Cond.constantLong R_M 88 10 ∈ BIG := inb_5 (List.mem_of_getElem? (i := 40) rfl)
theorem ml_L_52 : Cond.methodLink R_L 52 y_M_shot ∈ BIG := inb_5 (List.mem_of_getElem? (i := 41) rfl)
theorem im_M_shot : Cond.instanceMethod y_M_shot ∈ BIG := inb_5 (List.mem_of_getElem? (i := 42) rfl)
theorem sel_M_shot : Cond.selects R_M y_M_shot y_M_shot ∈ BIG := inb_5 (List.mem_of_getElem? (i := 43) rfl)
theorem co_M_shot : cw_M_shot ∈ BIG := inb_5 (List.mem_of_getElem? (i := 44) rfl)
theorem ml_L_56 : Cond.methodLink R_L 56 y_M_listen ∈ BIG := inb_5 (List.mem_of_getElem? (i := 45) rfl)
theorem im_M_listen : Cond.instanceMethod y_M_listen ∈ BIG := inb_5 (List.mem_of_getElem? (i := 46) rfl)
theorem sel_M_listen : Cond.selects R_M y_M_listen y_M_listen ∈ BIG := inb_5 (List.mem_of_getElem? (i := 47) rfl)
theorem co_M_listen : cw_M_listen ∈ BIG := inb_6 (List.mem_of_getElem? (i := 0) rfl)
theorem ml_L_61 : Cond.methodLink R_L 61 y_M_two ∈ BIG := inb_6 (List.mem_of_getElem? (i := 1) rfl)
theorem im_M_two : Cond.instanceMethod y_M_two ∈ BIG := inb_6 (List.mem_of_getElem? (i := 2) rfl)
theorem sel_M_two : Cond.selects R_M y_M_two y_M_two ∈ BIG := inb_6 (List.mem_of_getElem? (i := 3) rfl)
theorem co_M_two : cw_M_two ∈ BIG := inb_6 (List.mem_of_getElem? (i := 4) rfl)
theorem ml_L_65 : Cond.methodLink R_L 65 y_M_suspended ∈ BIG := inb_6 (List.mem_of_getElem? (i := 5) rfl)
theorem im_M_suspended : Cond.instanceMethod y_M_suspended ∈ BIG := inb_6 (List.mem_of_getElem? (i := 6) rfl)
theorem sel_M_suspended : Cond.selects R_M y_M_suspended y_M_suspended ∈ BIG := inb_6 (List.mem_of_getElem? (i := 7) rfl)
theorem co_M_suspended : cw_M_suspended ∈ BIG := inb_6 (List.mem_of_getElem? (i := 8) rfl)
theorem k_L_42 : Cond.constantLong R_L 42 4294967295 ∈ BIG := inb_6 (List.mem_of_getElem? (i := 9) rfl)
theorem uw_N : ∀ w ∈ u_ws R_N F_N 15, w ∈ BIG := by decide +kernel
theorem uw_X : ∀ w ∈ u_ws R_X F_X 3, w ∈ BIG := by decide +kernel
theorem uw_M : ∀ w ∈ u_ws R_M F_M 17, w ∈ BIG := by decide +kernel
abbrev rmk (d mc ms : Nat) : Room := { frames := d, cells := mc, slots := ms, locals := 30 * d }
def NK (U : State) : Prop := va_Nw (.methodLinkNest R_N 32 y_X_isError R_X) U ∧ va_Nw (.methodLinkNest R_N 88 y_X_isAboutFlag R_X) U ∧ va_AO R_N U
theorem NK.n_N_32 {U : State} (h : NK U) : va_Nw (.methodLinkNest R_N 32 y_X_isError R_X) U := h.1
theorem NK.n_N_88 {U : State} (h : NK U) : va_Nw (.methodLinkNest R_N 88 y_X_isAboutFlag R_X) U := h.2.1
theorem NK.ao {U : State} (h : NK U) : va_AO R_N U := h.2.2
theorem NK.warm {s U : State} (h : NK s) (hW : s.WarmedH U.vm) : NK U := ⟨va_Nw.warmM hW h.n_N_32, va_Nw.warmM hW h.n_N_88, va_AO.moved hW.alike h.ao⟩
theorem NK.same {u U : State} (e : u.vm = U.vm) (h : NK u) : NK U := ⟨va_Nw.same rfl e h.n_N_32, va_Nw.same rfl e h.n_N_88, va_AO.moved (by rw [e]; exact Vm.Alike.refl U.vm) h.ao⟩
